theorem dX15_begins_0 : decode cX15_begins 0 = .ok (.iload_n 2, 1) := by decide +kernel
theorem dX15_begins_1 : decode cX15_begins 1 = .ok (.iload_n 1, 1) := by decide +kernel
theorem dX15_begins_2 : decode cX15_begins 2 = .ok (.isub, 1) := by decide +kernel
theorem dX15_begins_3 : decode cX15_begins 3 = .ok (.aload_n 3, 1) := by decide +kernel
theorem dX15_begins_4 : decode cX15_begins 4 = .ok (.invokevirtual 7, 3) := by decide +kernel
theorem dX15_begins_7 : decode cX15_begins 7 = .ok (.if_icmp .lt 22, 3) := by decide +kernel
theorem dX15_begins_10 : decode cX15_begins 10 = .ok (.aload_n 0, 1) := by decide +kernel
theorem dX15_begins_11 : decode cX15_begins 11 = .ok (.iload_n 1, 1) := by decide +kernel
theorem dX15_begins_12 : decode cX15_begins 12 = .ok (.iload_n 1, 1) := by decide +kernel
theorem dX15_begins_13 : decode cX15_begins 13 = .ok (.aload_n 3, 1) := by decide +kernel
theorem dX15_begins_14 : decode cX15_begins 14 = .ok (.invokevirtual 7, 3) := by decide +kernel
theorem dX15_begins_17 : decode cX15_begins 17 = .ok (.iadd, 1) := by decide +kernel
theorem dX15_begins_18 : decode cX15_begins 18 = .ok (.aload_n 3, 1) := by decide +kernel
theorem dX15_begins_19 : decode cX15_begins 19 = .ok (.invokestatic 17, 3) := by decide +kernel
theorem dX15_begins_22 : decode cX15_begins 22 = .ok (.ifCond .eq 7, 3) := by decide +kernel
theorem dX15_begins_25 : decode cX15_begins 25 = .ok (.iconst 1, 1) := by decide +kernel
theorem dX15_begins_26 : decode cX15_begins 26 = .ok (.goto 4, 3) := by decide +kernel
theorem dX15_begins_29 : decode cX15_begins 29 = .ok (.iconst 0, 1) := by decide +kernel
theorem dX15_begins_30 : decode cX15_begins 30 = .ok (.ireturn, 1) := by decide +kernel
theorem dX15_bits_0 : decode cX15_bits 0 = .ok (.iload_n 2, 1) := by decide +kernel
theorem dX15_bits_1 : decode cX15_bits 1 = .ok (.iload_n 1, 1) := by decide +kernel
theorem dX15_bits_2 : decode cX15_bits 2 = .ok (.isub, 1) := by decide +kernel
theorem dX15_bits_3 : decode cX15_bits 3 = .ok (.i2l, 1) := by decide +kernel
theorem dX15_bits_4 : decode cX15_bits 4 = .ok (.lconst 1, 1) := by decide +kernel
theorem dX15_bits_5 : decode cX15_bits 5 = .ok (.ldc2_w 230, 3) := by decide +kernel
theorem dX15_bits_8 : decode cX15_bits 8 = .ok (.invokestatic 170, 3) := by decide +kernel
theorem dX15_bits_11 : decode cX15_bits 11 = .ok (.ifCond .ne 5, 3) := by decide +kernel
theorem dX15_bits_14 : decode cX15_bits 14 = .ok (.iconst (-1), 1) := by decide +kernel
theorem dX15_bits_15 : decode cX15_bits 15 = .ok (.ireturn, 1) := by decide +kernel
theorem dX15_bits_16 : decode cX15_bits 16 = .ok (.iconst 0, 1) := by decide +kernel
theorem dX15_bits_17 : decode cX15_bits 17 = .ok (.istore_n 3, 1) := by decide +kernel
theorem dX15_bits_18 : decode cX15_bits 18 = .ok (.iload_n 1, 1) := by decide +kernel
theorem dX15_bits_19 : decode cX15_bits 19 = .ok (.istore 4, 2) := by decide +kernel
theorem dX15_bits_21 : decode cX15_bits 21 = .ok (.iload 4, 2) := by decide +kernel
theorem dX15_bits_23 : decode cX15_bits 23 = .ok (.iload_n 2, 1) := by decide +kernel
theorem dX15_bits_24 : decode cX15_bits 24 = .ok (.if_icmp .ge 34, 3) := by decide +kernel
theorem dX15_bits_27 : decode cX15_bits 27 = .ok (.aload_n 0, 1) := by decide +kernel
theorem dX15_bits_28 : decode cX15_bits 28 = .ok (.iload 4, 2) := by decide +kernel
theorem dX15_bits_30 : decode cX15_bits 30 = .ok (.baload, 1) := by decide +kernel
theorem dX15_bits_31 : decode cX15_bits 31 = .ok (.invokestatic 202, 3) := by decide +kernel
theorem dX15_bits_34 : decode cX15_bits 34 = .ok (.ifCond .ne 5, 3) := by decide +kernel
theorem dX15_bits_37 : decode cX15_bits 37 = .ok (.iconst (-1), 1) := by decide +kernel
theorem dX15_bits_38 : decode cX15_bits 38 = .ok (.ireturn, 1) := by decide +kernel
theorem dX15_bits_39 : decode cX15_bits 39 = .ok (.bipush 10, 2) := by decide +kernel
theorem dX15_bits_41 : decode cX15_bits 41 = .ok (.iload_n 3, 1) := by decide +kernel
theorem dX15_bits_42 : decode cX15_bits 42 = .ok (.imul, 1) := by decide +kernel
theorem dX15_bits_43 : decode cX15_bits 43 = .ok (.aload_n 0, 1) := by decide +kernel
theorem dX15_bits_44 : decode cX15_bits 44 = .ok (.iload 4, 2) := by decide +kernel
theorem dX15_bits_46 : decode cX15_bits 46 = .ok (.baload, 1) := by decide +kernel
theorem dX15_bits_47 : decode cX15_bits 47 = .ok (.iadd, 1) := by decide +kernel
theorem dX15_bits_48 : decode cX15_bits 48 = .ok (.bipush 48, 2) := by decide +kernel
theorem dX15_bits_50 : decode cX15_bits 50 = .ok (.isub, 1) := by decide +kernel
theorem dX15_bits_51 : decode cX15_bits 51 = .ok (.istore_n 3, 1) := by decide +kernel
theorem dX15_bits_52 : decode cX15_bits 52 = .ok (.iinc 4 1, 3) := by decide +kernel
theorem dX15_bits_55 : decode cX15_bits 55 = .ok (.goto (-34), 3) := by decide +kernel
theorem dX15_bits_58 : decode cX15_bits 58 = .ok (.iload_n 3, 1) := by decide +kernel
theorem dX15_bits_59 : decode cX15_bits 59 = .ok (.bipush 32, 2) := by decide +kernel
theorem dX15_bits_61 : decode cX15_bits 61 = .ok (.if_icmp .gt 7, 3) := by decide +kernel
theorem dX15_bits_64 : decode cX15_bits 64 = .ok (.iload_n 3, 1) := by decide +kernel
theorem dX15_bits_65 : decode cX15_bits 65 = .ok (.goto 4, 3) := by decide +kernel
theorem dX15_bits_68 : decode cX15_bits 68 = .ok (.iconst (-1), 1) := by decide +kernel
theorem dX15_bits_69 : decode cX15_bits 69 = .ok (.ireturn, 1) := by decide +kernel
theorem dX15_blankFrom_0 : decode cX15_blankFrom 0 = .ok (.iload_n 1, 1) := by decide +kernel
theorem dX15_blankFrom_1 : decode cX15_blankFrom 1 = .ok (.istore_n 2, 1) := by decide +kernel
theorem dX15_blankFrom_2 : decode cX15_blankFrom 2 = .ok (.iload_n 2, 1) := by decide +kernel
theorem dX15_blankFrom_3 : decode cX15_blankFrom 3 = .ok (.aload_n 0, 1) := by decide +kernel
theorem dX15_blankFrom_4 : decode cX15_blankFrom 4 = .ok (.getfield 190, 3) := by decide +kernel
theorem dX15_blankFrom_7 : decode cX15_blankFrom 7 = .ok (.if_icmp .ge 20, 3) := by decide +kernel
theorem dX15_blankFrom_10 : decode cX15_blankFrom 10 = .ok (.aload_n 0, 1) := by decide +kernel
theorem dX15_blankFrom_11 : decode cX15_blankFrom 11 = .ok (.getfield 295, 3) := by decide +kernel
theorem dX15_blankFrom_14 : decode cX15_blankFrom 14 = .ok (.iload_n 2, 1) := by decide +kernel
theorem dX15_blankFrom_15 : decode cX15_blankFrom 15 = .ok (.baload, 1) := by decide +kernel
theorem dX15_blankFrom_16 : decode cX15_blankFrom 16 = .ok (.bipush 32, 2) := by decide +kernel
theorem dX15_blankFrom_18 : decode cX15_blankFrom 18 = .ok (.if_icmp .ne 9, 3) := by decide +kernel
theorem dX15_blankFrom_21 : decode cX15_blankFrom 21 = .ok (.iinc 2 1, 3) := by decide +kernel
theorem dX15_blankFrom_24 : decode cX15_blankFrom 24 = .ok (.goto (-22), 3) := by decide +kernel
theorem dX15_blankFrom_27 : decode cX15_blankFrom 27 = .ok (.iload_n 2, 1) := by decide +kernel
theorem dX15_blankFrom_28 : decode cX15_blankFrom 28 = .ok (.ireturn, 1) := by decide +kernel
theorem dX15_digitOf_0 : decode cX15_digitOf 0 = .ok (.iload_n 0, 1) := by decide +kernel
theorem dX15_digitOf_1 : decode cX15_digitOf 1 = .ok (.bipush 65, 2) := by decide +kernel
theorem dX15_digitOf_3 : decode cX15_digitOf 3 = .ok (.if_icmp .lt 14, 3) := by decide +kernel
theorem dX15_digitOf_6 : decode cX15_digitOf 6 = .ok (.iload_n 0, 1) := by decide +kernel
theorem dX15_digitOf_7 : decode cX15_digitOf 7 = .ok (.bipush 90, 2) := by decide +kernel
theorem dX15_digitOf_9 : decode cX15_digitOf 9 = .ok (.if_icmp .gt 8, 3) := by decide +kernel
theorem dX15_digitOf_12 : decode cX15_digitOf 12 = .ok (.iload_n 0, 1) := by decide +kernel
theorem dX15_digitOf_13 : decode cX15_digitOf 13 = .ok (.bipush 65, 2) := by decide +kernel
theorem dX15_digitOf_15 : decode cX15_digitOf 15 = .ok (.isub, 1) := by decide +kernel
theorem dX15_digitOf_16 : decode cX15_digitOf 16 = .ok (.ireturn, 1) := by decide +kernel
theorem dX15_digitOf_17 : decode cX15_digitOf 17 = .ok (.iload_n 0, 1) := by decide +kernel
theorem dX15_digitOf_18 : decode cX15_digitOf 18 = .ok (.invokestatic 3, 3) := by decide +kernel
theorem dX15_digitOf_21 : decode cX15_digitOf 21 = .ok (.ifCond .eq 11, 3) := by decide +kernel
theorem dX15_digitOf_24 : decode cX15_digitOf 24 = .ok (.iload_n 0, 1) := by decide +kernel
theorem dX15_digitOf_25 : decode cX15_digitOf 25 = .ok (.bipush 97, 2) := by decide +kernel
theorem dX15_digitOf_27 : decode cX15_digitOf 27 = .ok (.isub, 1) := by decide +kernel
theorem dX15_digitOf_28 : decode cX15_digitOf 28 = .ok (.bipush 26, 2) := by decide +kernel
theorem dX15_digitOf_30 : decode cX15_digitOf 30 = .ok (.iadd, 1) := by decide +kernel
theorem dX15_digitOf_31 : decode cX15_digitOf 31 = .ok (.ireturn, 1) := by decide +kernel
theorem dX15_digitOf_32 : decode cX15_digitOf 32 = .ok (.iload_n 0, 1) := by decide +kernel
theorem dX15_digitOf_33 : decode cX15_digitOf 33 = .ok (.invokestatic 202, 3) := by decide +kernel
theorem dX15_digitOf_36 : decode cX15_digitOf 36 = .ok (.ifCond .eq 11, 3) := by decide +kernel
theorem dX15_digitOf_39 : decode cX15_digitOf 39 = .ok (.iload_n 0, 1) := by decide +kernel
theorem dX15_digitOf_40 : decode cX15_digitOf 40 = .ok (.bipush 48, 2) := by decide +kernel
theorem dX15_digitOf_42 : decode cX15_digitOf 42 = .ok (.isub, 1) := by decide +kernel
theorem dX15_digitOf_43 : decode cX15_digitOf 43 = .ok (.bipush 52, 2) := by decide +kernel
theorem dX15_digitOf_45 : decode cX15_digitOf 45 = .ok (.iadd, 1) := by decide +kernel
theorem dX15_digitOf_46 : decode cX15_digitOf 46 = .ok (.ireturn, 1) := by decide +kernel
theorem dX15_digitOf_47 : decode cX15_digitOf 47 = .ok (.iload_n 0, 1) := by decide +kernel
theorem dX15_digitOf_48 : decode cX15_digitOf 48 = .ok (.bipush 43, 2) := by decide +kernel
theorem dX15_digitOf_50 : decode cX15_digitOf 50 = .ok (.if_icmp .ne 8, 3) := by decide +kernel
theorem dX15_digitOf_53 : decode cX15_digitOf 53 = .ok (.bipush 62, 2) := by decide +kernel
theorem dX15_digitOf_55 : decode cX15_digitOf 55 = .ok (.goto 15, 3) := by decide +kernel
theorem dX15_digitOf_58 : decode cX15_digitOf 58 = .ok (.iload_n 0, 1) := by decide +kernel
theorem dX15_digitOf_59 : decode cX15_digitOf 59 = .ok (.bipush 47, 2) := by decide +kernel
theorem dX15_digitOf_61 : decode cX15_digitOf 61 = .ok (.if_icmp .ne 8, 3) := by decide +kernel
theorem dX15_digitOf_64 : decode cX15_digitOf 64 = .ok (.bipush 63, 2) := by decide +kernel
theorem dX15_digitOf_66 : decode cX15_digitOf 66 = .ok (.goto 4, 3) := by decide +kernel
theorem dX15_digitOf_69 : decode cX15_digitOf 69 = .ok (.iconst (-1), 1) := by decide +kernel
theorem dX15_digitOf_70 : decode cX15_digitOf 70 = .ok (.ireturn, 1) := by decide +kernel
theorem dX15_is_0 : decode cX15_is 0 = .ok (.iload_n 2, 1) := by decide +kernel
theorem dX15_is_1 : decode cX15_is 1 = .ok (.iload_n 1, 1) := by decide +kernel
theorem dX15_is_2 : decode cX15_is 2 = .ok (.isub, 1) := by decide +kernel
theorem dX15_is_3 : decode cX15_is 3 = .ok (.aload_n 3, 1) := by decide +kernel
theorem dX15_is_4 : decode cX15_is 4 = .ok (.invokevirtual 7, 3) := by decide +kernel
theorem dX15_is_7 : decode cX15_is 7 = .ok (.if_icmp .eq 5, 3) := by decide +kernel
theorem dX15_is_10 : decode cX15_is 10 = .ok (.iconst 0, 1) := by decide +kernel
theorem dX15_is_11 : decode cX15_is 11 = .ok (.ireturn, 1) := by decide +kernel
theorem dX15_is_12 : decode cX15_is 12 = .ok (.iconst 0, 1) := by decide +kernel
theorem dX15_is_13 : decode cX15_is 13 = .ok (.istore 4, 2) := by decide +kernel
theorem dX15_is_15 : decode cX15_is 15 = .ok (.iload 4, 2) := by decide +kernel
theorem dX15_is_17 : decode cX15_is 17 = .ok (.aload_n 3, 1) := by decide +kernel
theorem dX15_is_18 : decode cX15_is 18 = .ok (.invokevirtual 7, 3) := by decide +kernel
theorem dX15_is_21 : decode cX15_is 21 = .ok (.if_icmp .ge 26, 3) := by decide +kernel
theorem dX15_is_24 : decode cX15_is 24 = .ok (.aload_n 0, 1) := by decide +kernel
theorem dX15_is_25 : decode cX15_is 25 = .ok (.iload_n 1, 1) := by decide +kernel
theorem dX15_is_26 : decode cX15_is 26 = .ok (.iload 4, 2) := by decide +kernel
theorem dX15_is_28 : decode cX15_is 28 = .ok (.iadd, 1) := by decide +kernel
theorem dX15_is_29 : decode cX15_is 29 = .ok (.baload, 1) := by decide +kernel
theorem dX15_is_30 : decode cX15_is 30 = .ok (.aload_n 3, 1) := by decide +kernel
theorem dX15_is_31 : decode cX15_is 31 = .ok (.iload 4, 2) := by decide +kernel
theorem dX15_is_33 : decode cX15_is 33 = .ok (.invokevirtual 13, 3) := by decide +kernel
theorem dX15_is_36 : decode cX15_is 36 = .ok (.if_icmp .eq 5, 3) := by decide +kernel
theorem dX15_is_39 : decode cX15_is 39 = .ok (.iconst 0, 1) := by decide +kernel
theorem dX15_is_40 : decode cX15_is 40 = .ok (.ireturn, 1) := by decide +kernel
theorem dX15_is_41 : decode cX15_is 41 = .ok (.iinc 4 1, 3) := by decide +kernel
theorem dX15_is_44 : decode cX15_is 44 = .ok (.goto (-29), 3) := by decide +kernel
theorem dX15_is_47 : decode cX15_is 47 = .ok (.iconst 1, 1) := by decide +kernel
theorem dX15_is_48 : decode cX15_is 48 = .ok (.ireturn, 1) := by decide +kernel
theorem dX15_isAlike_0 : decode cX15_isAlike 0 = .ok (.iload_n 2, 1) := by decide +kernel
theorem dX15_isAlike_1 : decode cX15_isAlike 1 = .ok (.iload_n 1, 1) := by decide +kernel
theorem dX15_isAlike_2 : decode cX15_isAlike 2 = .ok (.isub, 1) := by decide +kernel
theorem dX15_isAlike_3 : decode cX15_isAlike 3 = .ok (.aload_n 3, 1) := by decide +kernel
theorem dX15_isAlike_4 : decode cX15_isAlike 4 = .ok (.invokevirtual 7, 3) := by decide +kernel
theorem dX15_isAlike_7 : decode cX15_isAlike 7 = .ok (.if_icmp .eq 5, 3) := by decide +kernel
theorem dX15_isAlike_10 : decode cX15_isAlike 10 = .ok (.iconst 0, 1) := by decide +kernel
theorem dX15_isAlike_11 : decode cX15_isAlike 11 = .ok (.ireturn, 1) := by decide +kernel
theorem dX15_isAlike_12 : decode cX15_isAlike 12 = .ok (.iconst 0, 1) := by decide +kernel
theorem dX15_isAlike_13 : decode cX15_isAlike 13 = .ok (.istore 4, 2) := by decide +kernel
theorem dX15_isAlike_15 : decode cX15_isAlike 15 = .ok (.iload 4, 2) := by decide +kernel
theorem dX15_isAlike_17 : decode cX15_isAlike 17 = .ok (.aload_n 3, 1) := by decide +kernel
theorem dX15_isAlike_18 : decode cX15_isAlike 18 = .ok (.invokevirtual 7, 3) := by decide +kernel
theorem dX15_isAlike_21 : decode cX15_isAlike 21 = .ok (.if_icmp .ge 29, 3) := by decide +kernel
theorem dX15_isAlike_24 : decode cX15_isAlike 24 = .ok (.aload_n 0, 1) := by decide +kernel
theorem dX15_isAlike_25 : decode cX15_isAlike 25 = .ok (.iload_n 1, 1) := by decide +kernel
theorem dX15_isAlike_26 : decode cX15_isAlike 26 = .ok (.iload 4, 2) := by decide +kernel
theorem dX15_isAlike_28 : decode cX15_isAlike 28 = .ok (.iadd, 1) := by decide +kernel
theorem dX15_isAlike_29 : decode cX15_isAlike 29 = .ok (.baload, 1) := by decide +kernel
theorem dX15_isAlike_30 : decode cX15_isAlike 30 = .ok (.invokestatic 21, 3) := by decide +kernel
theorem dX15_isAlike_33 : decode cX15_isAlike 33 = .ok (.aload_n 3, 1) := by decide +kernel
theorem dX15_isAlike_34 : decode cX15_isAlike 34 = .ok (.iload 4, 2) := by decide +kernel
theorem dX15_isAlike_36 : decode cX15_isAlike 36 = .ok (.invokevirtual 13, 3) := by decide +kernel
theorem dX15_isAlike_39 : decode cX15_isAlike 39 = .ok (.if_icmp .eq 5, 3) := by decide +kernel
theorem dX15_isAlike_42 : decode cX15_isAlike 42 = .ok (.iconst 0, 1) := by decide +kernel
theorem dX15_isAlike_43 : decode cX15_isAlike 43 = .ok (.ireturn, 1) := by decide +kernel
theorem dX15_isAlike_44 : decode cX15_isAlike 44 = .ok (.iinc 4 1, 3) := by decide +kernel
theorem dX15_isAlike_47 : decode cX15_isAlike 47 = .ok (.goto (-32), 3) := by decide +kernel
theorem dX15_isAlike_50 : decode cX15_isAlike 50 = .ok (.iconst 1, 1) := by decide +kernel
theorem dX15_isAlike_51 : decode cX15_isAlike 51 = .ok (.ireturn, 1) := by decide +kernel
theorem dX15_isD_0 : decode cX15_isD 0 = .ok (.iload_n 1, 1) := by decide +kernel
theorem dX15_isD_1 : decode cX15_isD 1 = .ok (.iload_n 2, 1) := by decide +kernel
theorem dX15_isD_2 : decode cX15_isD 2 = .ok (.if_icmp .lt 5, 3) := by decide +kernel
theorem dX15_isD_5 : decode cX15_isD 5 = .ok (.iconst 0, 1) := by decide +kernel
theorem dX15_isD_6 : decode cX15_isD 6 = .ok (.ireturn, 1) := by decide +kernel
theorem dX15_isD_7 : decode cX15_isD 7 = .ok (.iload_n 1, 1) := by decide +kernel
theorem dX15_isD_8 : decode cX15_isD 8 = .ok (.istore 4, 2) := by decide +kernel
theorem dX15_isD_10 : decode cX15_isD 10 = .ok (.iload 4, 2) := by decide +kernel
theorem dX15_isD_12 : decode cX15_isD 12 = .ok (.iload_n 2, 1) := by decide +kernel
theorem dX15_isD_13 : decode cX15_isD 13 = .ok (.if_icmp .ge 78, 3) := by decide +kernel
theorem dX15_isD_16 : decode cX15_isD 16 = .ok (.aload_n 0, 1) := by decide +kernel
theorem dX15_isD_17 : decode cX15_isD 17 = .ok (.iload 4, 2) := by decide +kernel
theorem dX15_isD_19 : decode cX15_isD 19 = .ok (.baload, 1) := by decide +kernel
theorem dX15_isD_20 : decode cX15_isD 20 = .ok (.i2l, 1) := by decide +kernel
theorem dX15_isD_21 : decode cX15_isD 21 = .ok (.ldc2_w 222, 3) := by decide +kernel
theorem dX15_isD_24 : decode cX15_isD 24 = .ok (.ldc2_w 224, 3) := by decide +kernel
theorem dX15_isD_27 : decode cX15_isD 27 = .ok (.invokestatic 170, 3) := by decide +kernel
theorem dX15_isD_30 : decode cX15_isD 30 = .ok (.ifCond .eq 16, 3) := by decide +kernel
theorem dX15_isD_33 : decode cX15_isD 33 = .ok (.iload_n 3, 1) := by decide +kernel
theorem dX15_isD_34 : decode cX15_isD 34 = .ok (.ifCond .ne 14, 3) := by decide +kernel
theorem dX15_isD_37 : decode cX15_isD 37 = .ok (.aload_n 0, 1) := by decide +kernel
theorem dX15_isD_38 : decode cX15_isD 38 = .ok (.iload 4, 2) := by decide +kernel
theorem dX15_isD_40 : decode cX15_isD 40 = .ok (.baload, 1) := by decide +kernel
theorem dX15_isD_41 : decode cX15_isD 41 = .ok (.bipush 47, 2) := by decide +kernel
theorem dX15_isD_43 : decode cX15_isD 43 = .ok (.if_icmp .ne 5, 3) := by decide +kernel
theorem dX15_isD_46 : decode cX15_isD 46 = .ok (.iconst 0, 1) := by decide +kernel
theorem dX15_isD_47 : decode cX15_isD 47 = .ok (.ireturn, 1) := by decide +kernel
theorem dX15_isD_48 : decode cX15_isD 48 = .ok (.aload_n 0, 1) := by decide +kernel
theorem dX15_isD_49 : decode cX15_isD 49 = .ok (.iload 4, 2) := by decide +kernel
theorem dX15_isD_51 : decode cX15_isD 51 = .ok (.baload, 1) := by decide +kernel
theorem dX15_isD_52 : decode cX15_isD 52 = .ok (.bipush 37, 2) := by decide +kernel
theorem dX15_isD_54 : decode cX15_isD 54 = .ok (.if_icmp .eq 6, 3) := by decide +kernel
theorem dX15_isD_57 : decode cX15_isD 57 = .ok (.goto 28, 3) := by decide +kernel
theorem dX15_isD_60 : decode cX15_isD 60 = .ok (.aload_n 0, 1) := by decide +kernel
theorem dX15_isD_61 : decode cX15_isD 61 = .ok (.iload 4, 2) := by decide +kernel
theorem dX15_isD_63 : decode cX15_isD 63 = .ok (.iload_n 2, 1) := by decide +kernel
theorem dX15_isD_64 : decode cX15_isD 64 = .ok (.invokestatic 226, 3) := by decide +kernel
theorem dX15_isD_67 : decode cX15_isD 67 = .ok (.istore 5, 2) := by decide +kernel
theorem dX15_isD_69 : decode cX15_isD 69 = .ok (.iload 5, 2) := by decide +kernel
theorem dX15_isD_71 : decode cX15_isD 71 = .ok (.ifCond .ne 5, 3) := by decide +kernel
theorem dX15_isD_74 : decode cX15_isD 74 = .ok (.iconst 0, 1) := by decide +kernel
theorem dX15_isD_75 : decode cX15_isD 75 = .ok (.ireturn, 1) := by decide +kernel
theorem dX15_isD_76 : decode cX15_isD 76 = .ok (.iload 4, 2) := by decide +kernel
theorem dX15_isD_78 : decode cX15_isD 78 = .ok (.iload 5, 2) := by decide +kernel
theorem dX15_isD_80 : decode cX15_isD 80 = .ok (.iconst 1, 1) := by decide +kernel
theorem dX15_isD_81 : decode cX15_isD 81 = .ok (.isub, 1) := by decide +kernel
theorem dX15_isD_82 : decode cX15_isD 82 = .ok (.iadd, 1) := by decide +kernel
theorem dX15_isD_83 : decode cX15_isD 83 = .ok (.istore 4, 2) := by decide +kernel
theorem dX15_isD_85 : decode cX15_isD 85 = .ok (.iinc 4 1, 3) := by decide +kernel
theorem dX15_isD_88 : decode cX15_isD 88 = .ok (.goto (-78), 3) := by decide +kernel
theorem dX15_isD_91 : decode cX15_isD 91 = .ok (.iconst 1, 1) := by decide +kernel
theorem dX15_isD_92 : decode cX15_isD 92 = .ok (.ireturn, 1) := by decide +kernel
theorem dX15_lineEnd_0 : decode cX15_lineEnd 0 = .ok (.iload_n 1, 1) := by decide +kernel
theorem dX15_lineEnd_1 : decode cX15_lineEnd 1 = .ok (.istore_n 3, 1) := by decide +kernel
theorem dX15_lineEnd_2 : decode cX15_lineEnd 2 = .ok (.iload_n 3, 1) := by decide +kernel
theorem dX15_lineEnd_3 : decode cX15_lineEnd 3 = .ok (.iload_n 2, 1) := by decide +kernel
theorem dX15_lineEnd_4 : decode cX15_lineEnd 4 = .ok (.if_icmp .ge 17, 3) := by decide +kernel
theorem dX15_lineEnd_7 : decode cX15_lineEnd 7 = .ok (.aload_n 0, 1) := by decide +kernel
theorem dX15_lineEnd_8 : decode cX15_lineEnd 8 = .ok (.iload_n 3, 1) := by decide +kernel
theorem dX15_lineEnd_9 : decode cX15_lineEnd 9 = .ok (.baload, 1) := by decide +kernel
theorem dX15_lineEnd_10 : decode cX15_lineEnd 10 = .ok (.bipush 10, 2) := by decide +kernel
theorem dX15_lineEnd_12 : decode cX15_lineEnd 12 = .ok (.if_icmp .eq 9, 3) := by decide +kernel
theorem dX15_lineEnd_15 : decode cX15_lineEnd 15 = .ok (.iinc 3 1, 3) := by decide +kernel
theorem dX15_lineEnd_18 : decode cX15_lineEnd 18 = .ok (.goto (-16), 3) := by decide +kernel
theorem dX15_lineEnd_21 : decode cX15_lineEnd 21 = .ok (.iload_n 2, 1) := by decide +kernel
theorem dX15_lineEnd_22 : decode cX15_lineEnd 22 = .ok (.iload_n 3, 1) := by decide +kernel
theorem dX15_lineEnd_23 : decode cX15_lineEnd 23 = .ok (.iconst 1, 1) := by decide +kernel
theorem dX15_lineEnd_24 : decode cX15_lineEnd 24 = .ok (.iadd, 1) := by decide +kernel
theorem dX15_lineEnd_25 : decode cX15_lineEnd 25 = .ok (.invokestatic 338, 3) := by decide +kernel
theorem dX15_lineEnd_28 : decode cX15_lineEnd 28 = .ok (.ireturn, 1) := by decide +kernel
theorem dX15_macro_0 : decode cX15_macro 0 = .ok (.iload_n 1, 1) := by decide +kernel
theorem dX15_macro_1 : decode cX15_macro 1 = .ok (.iconst 1, 1) := by decide +kernel
theorem dX15_macro_2 : decode cX15_macro 2 = .ok (.iadd, 1) := by decide +kernel
theorem dX15_macro_3 : decode cX15_macro 3 = .ok (.iload_n 2, 1) := by decide +kernel
theorem dX15_macro_4 : decode cX15_macro 4 = .ok (.if_icmp .lt 5, 3) := by decide +kernel
theorem dX15_macro_7 : decode cX15_macro 7 = .ok (.iconst 0, 1) := by decide +kernel
theorem dX15_macro_8 : decode cX15_macro 8 = .ok (.ireturn, 1) := by decide +kernel
theorem dX15_macro_9 : decode cX15_macro 9 = .ok (.aload_n 0, 1) := by decide +kernel
theorem dX15_macro_10 : decode cX15_macro 10 = .ok (.iload_n 1, 1) := by decide +kernel
theorem dX15_macro_11 : decode cX15_macro 11 = .ok (.iconst 1, 1) := by decide +kernel
theorem dX15_macro_12 : decode cX15_macro 12 = .ok (.iadd, 1) := by decide +kernel
theorem dX15_macro_13 : decode cX15_macro 13 = .ok (.baload, 1) := by decide +kernel
theorem dX15_macro_14 : decode cX15_macro 14 = .ok (.istore_n 3, 1) := by decide +kernel
theorem dX15_macro_15 : decode cX15_macro 15 = .ok (.iload_n 3, 1) := by decide +kernel
theorem dX15_macro_16 : decode cX15_macro 16 = .ok (.bipush 37, 2) := by decide +kernel
theorem dX15_macro_18 : decode cX15_macro 18 = .ok (.if_icmp .eq 15, 3) := by decide +kernel
theorem dX15_macro_21 : decode cX15_macro 21 = .ok (.iload_n 3, 1) := by decide +kernel
theorem dX15_macro_22 : decode cX15_macro 22 = .ok (.bipush 95, 2) := by decide +kernel
theorem dX15_macro_24 : decode cX15_macro 24 = .ok (.if_icmp .eq 9, 3) := by decide +kernel
theorem dX15_macro_27 : decode cX15_macro 27 = .ok (.iload_n 3, 1) := by decide +kernel
theorem dX15_macro_28 : decode cX15_macro 28 = .ok (.bipush 45, 2) := by decide +kernel
theorem dX15_macro_30 : decode cX15_macro 30 = .ok (.if_icmp .ne 5, 3) := by decide +kernel
theorem dX15_macro_33 : decode cX15_macro 33 = .ok (.iconst 2, 1) := by decide +kernel
theorem dX15_macro_34 : decode cX15_macro 34 = .ok (.ireturn, 1) := by decide +kernel
theorem dX15_macro_35 : decode cX15_macro 35 = .ok (.iload_n 3, 1) := by decide +kernel
theorem dX15_macro_36 : decode cX15_macro 36 = .ok (.bipush 123, 2) := by decide +kernel
theorem dX15_macro_38 : decode cX15_macro 38 = .ok (.if_icmp .ne 10, 3) := by decide +kernel
theorem dX15_macro_41 : decode cX15_macro 41 = .ok (.iload_n 1, 1) := by decide +kernel
theorem dX15_macro_42 : decode cX15_macro 42 = .ok (.iconst 2, 1) := by decide +kernel
theorem dX15_macro_43 : decode cX15_macro 43 = .ok (.iadd, 1) := by decide +kernel
theorem dX15_macro_44 : decode cX15_macro 44 = .ok (.iload_n 2, 1) := by decide +kernel
theorem dX15_macro_45 : decode cX15_macro 45 = .ok (.if_icmp .lt 5, 3) := by decide +kernel
theorem dX15_macro_48 : decode cX15_macro 48 = .ok (.iconst 0, 1) := by decide +kernel
theorem dX15_macro_49 : decode cX15_macro 49 = .ok (.ireturn, 1) := by decide +kernel
theorem dX15_macro_50 : decode cX15_macro 50 = .ok (.aload_n 0, 1) := by decide +kernel
theorem dX15_macro_51 : decode cX15_macro 51 = .ok (.iload_n 1, 1) := by decide +kernel
theorem dX15_macro_52 : decode cX15_macro 52 = .ok (.iconst 2, 1) := by decide +kernel
theorem dX15_macro_53 : decode cX15_macro 53 = .ok (.iadd, 1) := by decide +kernel
theorem dX15_macro_54 : decode cX15_macro 54 = .ok (.baload, 1) := by decide +kernel
theorem dX15_macro_55 : decode cX15_macro 55 = .ok (.istore 4, 2) := by decide +kernel
theorem dX15_macro_57 : decode cX15_macro 57 = .ok (.iload_n 1, 1) := by decide +kernel
theorem dX15_macro_58 : decode cX15_macro 58 = .ok (.iconst 3, 1) := by decide +kernel
theorem dX15_macro_59 : decode cX15_macro 59 = .ok (.iadd, 1) := by decide +kernel
theorem dX15_macro_60 : decode cX15_macro 60 = .ok (.istore 5, 2) := by decide +kernel
theorem dX15_macro_62 : decode cX15_macro 62 = .ok (.iload 4, 2) := by decide +kernel
theorem dX15_macro_64 : decode cX15_macro 64 = .ok (.bipush 115, 2) := by decide +kernel
theorem dX15_macro_66 : decode cX15_macro 66 = .ok (.if_icmp .eq 33, 3) := by decide +kernel
theorem dX15_macro_69 : decode cX15_macro 69 = .ok (.iload 4, 2) := by decide +kernel
theorem dX15_macro_71 : decode cX15_macro 71 = .ok (.bipush 108, 2) := by decide +kernel
theorem dX15_macro_73 : decode cX15_macro 73 = .ok (.if_icmp .eq 26, 3) := by decide +kernel
theorem dX15_macro_76 : decode cX15_macro 76 = .ok (.iload 4, 2) := by decide +kernel
theorem dX15_macro_78 : decode cX15_macro 78 = .ok (.bipush 111, 2) := by decide +kernel
theorem dX15_macro_80 : decode cX15_macro 80 = .ok (.if_icmp .eq 19, 3) := by decide +kernel
theorem dX15_macro_83 : decode cX15_macro 83 = .ok (.iload 4, 2) := by decide +kernel
theorem dX15_macro_85 : decode cX15_macro 85 = .ok (.bipush 100, 2) := by decide +kernel
theorem dX15_macro_87 : decode cX15_macro 87 = .ok (.if_icmp .eq 12, 3) := by decide +kernel
theorem dX15_macro_90 : decode cX15_macro 90 = .ok (.iload 4, 2) := by decide +kernel
theorem dX15_macro_92 : decode cX15_macro 92 = .ok (.bipush 105, 2) := by decide +kernel
theorem dX15_macro_94 : decode cX15_macro 94 = .ok (.if_icmp .eq 5, 3) := by decide +kernel
theorem dX15_macro_97 : decode cX15_macro 97 = .ok (.iconst 0, 1) := by decide +kernel
theorem dX15_macro_98 : decode cX15_macro 98 = .ok (.ireturn, 1) := by decide +kernel
theorem dX15_macro_99 : decode cX15_macro 99 = .ok (.iload 5, 2) := by decide +kernel
theorem dX15_macro_101 : decode cX15_macro 101 = .ok (.iload_n 2, 1) := by decide +kernel
theorem dX15_macro_102 : decode cX15_macro 102 = .ok (.if_icmp .ge 24, 3) := by decide +kernel
theorem dX15_macro_105 : decode cX15_macro 105 = .ok (.aload_n 0, 1) := by decide +kernel
theorem dX15_macro_106 : decode cX15_macro 106 = .ok (.iload 5, 2) := by decide +kernel
theorem dX15_macro_108 : decode cX15_macro 108 = .ok (.baload, 1) := by decide +kernel
theorem dX15_macro_109 : decode cX15_macro 109 = .ok (.bipush 49, 2) := by decide +kernel
theorem dX15_macro_111 : decode cX15_macro 111 = .ok (.if_icmp .lt 15, 3) := by decide +kernel
theorem dX15_macro_114 : decode cX15_macro 114 = .ok (.aload_n 0, 1) := by decide +kernel
theorem dX15_macro_115 : decode cX15_macro 115 = .ok (.iload 5, 2) := by decide +kernel
theorem dX15_macro_117 : decode cX15_macro 117 = .ok (.baload, 1) := by decide +kernel
theorem dX15_macro_118 : decode cX15_macro 118 = .ok (.bipush 57, 2) := by decide +kernel
theorem dX15_macro_120 : decode cX15_macro 120 = .ok (.if_icmp .gt 6, 3) := by decide +kernel
theorem dX15_macro_123 : decode cX15_macro 123 = .ok (.iinc 5 1, 3) := by decide +kernel
theorem dX15_macro_126 : decode cX15_macro 126 = .ok (.iload 5, 2) := by decide +kernel
theorem dX15_macro_128 : decode cX15_macro 128 = .ok (.iload_n 2, 1) := by decide +kernel
theorem dX15_macro_129 : decode cX15_macro 129 = .ok (.if_icmp .ge 15, 3) := by decide +kernel
theorem dX15_macro_132 : decode cX15_macro 132 = .ok (.aload_n 0, 1) := by decide +kernel
theorem dX15_macro_133 : decode cX15_macro 133 = .ok (.iload 5, 2) := by decide +kernel
theorem dX15_macro_135 : decode cX15_macro 135 = .ok (.baload, 1) := by decide +kernel
theorem dX15_macro_136 : decode cX15_macro 136 = .ok (.bipush 114, 2) := by decide +kernel
theorem dX15_macro_138 : decode cX15_macro 138 = .ok (.if_icmp .ne 6, 3) := by decide +kernel
theorem dX15_macro_141 : decode cX15_macro 141 = .ok (.iinc 5 1, 3) := by decide +kernel
theorem dX15_macro_144 : decode cX15_macro 144 = .ok (.iload 5, 2) := by decide +kernel
theorem dX15_macro_146 : decode cX15_macro 146 = .ok (.iload_n 2, 1) := by decide +kernel
theorem dX15_macro_147 : decode cX15_macro 147 = .ok (.if_icmp .ge 21, 3) := by decide +kernel
theorem dX15_macro_150 : decode cX15_macro 150 = .ok (.aload_n 0, 1) := by decide +kernel
theorem dX15_macro_151 : decode cX15_macro 151 = .ok (.iload 5, 2) := by decide +kernel
theorem dX15_macro_153 : decode cX15_macro 153 = .ok (.baload, 1) := by decide +kernel
theorem dX15_macro_154 : decode cX15_macro 154 = .ok (.bipush 125, 2) := by decide +kernel
theorem dX15_macro_156 : decode cX15_macro 156 = .ok (.if_icmp .ne 12, 3) := by decide +kernel
theorem dX15_macro_159 : decode cX15_macro 159 = .ok (.iload 5, 2) := by decide +kernel
theorem dX15_macro_161 : decode cX15_macro 161 = .ok (.iconst 1, 1) := by decide +kernel
theorem dX15_macro_162 : decode cX15_macro 162 = .ok (.iadd, 1) := by decide +kernel
theorem dX15_macro_163 : decode cX15_macro 163 = .ok (.iload_n 1, 1) := by decide +kernel
theorem dX15_macro_164 : decode cX15_macro 164 = .ok (.isub, 1) := by decide +kernel
theorem dX15_macro_165 : decode cX15_macro 165 = .ok (.goto 4, 3) := by decide +kernel
theorem dX15_macro_168 : decode cX15_macro 168 = .ok (.iconst 0, 1) := by decide +kernel
theorem dX15_macro_169 : decode cX15_macro 169 = .ok (.ireturn, 1) := by decide +kernel
theorem dX15_put_0 : decode cX15_put 0 = .ok (.aload_n 0, 1) := by decide +kernel
theorem dX15_put_1 : decode cX15_put 1 = .ok (.getfield 190, 3) := by decide +kernel
theorem dX15_put_4 : decode cX15_put 4 = .ok (.bipush 60, 2) := by decide +kernel
theorem dX15_put_6 : decode cX15_put 6 = .ok (.if_icmp .gt 8, 3) := by decide +kernel
theorem dX15_put_9 : decode cX15_put 9 = .ok (.aload_n 0, 1) := by decide +kernel
theorem dX15_put_10 : decode cX15_put 10 = .ok (.iload_n 1, 1) := by decide +kernel
theorem dX15_put_11 : decode cX15_put 11 = .ok (.invokevirtual 292, 3) := by decide +kernel
theorem dX15_put_14 : decode cX15_put 14 = .ok (.return_, 1) := by decide +kernel
theorem dX15_slashOf_0 : decode cX15_slashOf 0 = .ok (.iload_n 1, 1) := by decide +kernel
theorem dX15_slashOf_1 : decode cX15_slashOf 1 = .ok (.istore_n 3, 1) := by decide +kernel
theorem dX15_slashOf_2 : decode cX15_slashOf 2 = .ok (.iload_n 3, 1) := by decide +kernel
theorem dX15_slashOf_3 : decode cX15_slashOf 3 = .ok (.iload_n 2, 1) := by decide +kernel
theorem dX15_slashOf_4 : decode cX15_slashOf 4 = .ok (.if_icmp .ge 17, 3) := by decide +kernel
theorem dX15_slashOf_7 : decode cX15_slashOf 7 = .ok (.aload_n 0, 1) := by decide +kernel
theorem dX15_slashOf_8 : decode cX15_slashOf 8 = .ok (.iload_n 3, 1) := by decide +kernel
theorem dX15_slashOf_9 : decode cX15_slashOf 9 = .ok (.baload, 1) := by decide +kernel
theorem dX15_slashOf_10 : decode cX15_slashOf 10 = .ok (.bipush 47, 2) := by decide +kernel
theorem dX15_slashOf_12 : decode cX15_slashOf 12 = .ok (.if_icmp .eq 9, 3) := by decide +kernel
theorem dX15_slashOf_15 : decode cX15_slashOf 15 = .ok (.iinc 3 1, 3) := by decide +kernel
theorem dX15_slashOf_18 : decode cX15_slashOf 18 = .ok (.goto (-16), 3) := by decide +kernel
theorem dX15_slashOf_21 : decode cX15_slashOf 21 = .ok (.iload_n 3, 1) := by decide +kernel
theorem dX15_slashOf_22 : decode cX15_slashOf 22 = .ok (.ireturn, 1) := by decide +kernel
theorem dX15_withoutWhite_0 : decode cX15_withoutWhite 0 = .ok (.aload_n 3, 1) := by decide +kernel
theorem dX15_withoutWhite_1 : decode cX15_withoutWhite 1 = .ok (.iconst 0, 1) := by decide +kernel
theorem dX15_withoutWhite_2 : decode cX15_withoutWhite 2 = .ok (.putfield 190, 3) := by decide +kernel
theorem dX15_withoutWhite_5 : decode cX15_withoutWhite 5 = .ok (.iload_n 1, 1) := by decide +kernel
theorem dX15_withoutWhite_6 : decode cX15_withoutWhite 6 = .ok (.istore 4, 2) := by decide +kernel
theorem dX15_withoutWhite_8 : decode cX15_withoutWhite 8 = .ok (.iload 4, 2) := by decide +kernel
theorem dX15_withoutWhite_10 : decode cX15_withoutWhite 10 = .ok (.iload_n 2, 1) := by decide +kernel
theorem dX15_withoutWhite_11 : decode cX15_withoutWhite 11 = .ok (.if_icmp .ge 36, 3) := by decide +kernel
theorem dX15_withoutWhite_14 : decode cX15_withoutWhite 14 = .ok (.aload_n 0, 1) := by decide +kernel
theorem dX15_withoutWhite_15 : decode cX15_withoutWhite 15 = .ok (.iload 4, 2) := by decide +kernel
theorem dX15_withoutWhite_17 : decode cX15_withoutWhite 17 = .ok (.baload, 1) := by decide +kernel
theorem dX15_withoutWhite_18 : decode cX15_withoutWhite 18 = .ok (.invokestatic 347, 3) := by decide +kernel
theorem dX15_withoutWhite_21 : decode cX15_withoutWhite 21 = .ok (.ifCond .ne 20, 3) := by decide +kernel
theorem dX15_withoutWhite_24 : decode cX15_withoutWhite 24 = .ok (.aload_n 0, 1) := by decide +kernel
theorem dX15_withoutWhite_25 : decode cX15_withoutWhite 25 = .ok (.iload 4, 2) := by decide +kernel
theorem dX15_withoutWhite_27 : decode cX15_withoutWhite 27 = .ok (.baload, 1) := by decide +kernel
theorem dX15_withoutWhite_28 : decode cX15_withoutWhite 28 = .ok (.bipush 10, 2) := by decide +kernel
theorem dX15_withoutWhite_30 : decode cX15_withoutWhite 30 = .ok (.if_icmp .eq 11, 3) := by decide +kernel
theorem dX15_withoutWhite_33 : decode cX15_withoutWhite 33 = .ok (.aload_n 3, 1) := by decide +kernel
theorem dX15_withoutWhite_34 : decode cX15_withoutWhite 34 = .ok (.aload_n 0, 1) := by decide +kernel
theorem dX15_withoutWhite_35 : decode cX15_withoutWhite 35 = .ok (.iload 4, 2) := by decide +kernel
theorem dX15_withoutWhite_37 : decode cX15_withoutWhite 37 = .ok (.baload, 1) := by decide +kernel
theorem dX15_withoutWhite_38 : decode cX15_withoutWhite 38 = .ok (.invokevirtual 292, 3) := by decide +kernel
theorem dX15_withoutWhite_41 : decode cX15_withoutWhite 41 = .ok (.iinc 4 1, 3) := by decide +kernel
theorem dX15_withoutWhite_44 : decode cX15_withoutWhite 44 = .ok (.goto (-36), 3) := by decide +kernel
theorem dX15_withoutWhite_47 : decode cX15_withoutWhite 47 = .ok (.return_, 1) := by decide +kernel
theorem dX15_wordEnd_0 : decode cX15_wordEnd 0 = .ok (.iload_n 1, 1) := by decide +kernel
theorem dX15_wordEnd_1 : decode cX15_wordEnd 1 = .ok (.istore_n 2, 1) := by decide +kernel
theorem dX15_wordEnd_2 : decode cX15_wordEnd 2 = .ok (.iload_n 2, 1) := by decide +kernel
theorem dX15_wordEnd_3 : decode cX15_wordEnd 3 = .ok (.aload_n 0, 1) := by decide +kernel
theorem dX15_wordEnd_4 : decode cX15_wordEnd 4 = .ok (.getfield 190, 3) := by decide +kernel
theorem dX15_wordEnd_7 : decode cX15_wordEnd 7 = .ok (.if_icmp .ge 20, 3) := by decide +kernel
theorem dX15_wordEnd_10 : decode cX15_wordEnd 10 = .ok (.aload_n 0, 1) := by decide +kernel
theorem dX15_wordEnd_11 : decode cX15_wordEnd 11 = .ok (.getfield 295, 3) := by decide +kernel
theorem dX15_wordEnd_14 : decode cX15_wordEnd 14 = .ok (.iload_n 2, 1) := by decide +kernel
theorem dX15_wordEnd_15 : decode cX15_wordEnd 15 = .ok (.baload, 1) := by decide +kernel
theorem dX15_wordEnd_16 : decode cX15_wordEnd 16 = .ok (.bipush 32, 2) := by decide +kernel
theorem dX15_wordEnd_18 : decode cX15_wordEnd 18 = .ok (.if_icmp .eq 9, 3) := by decide +kernel
theorem dX15_wordEnd_21 : decode cX15_wordEnd 21 = .ok (.iinc 2 1, 3) := by decide +kernel
theorem dX15_wordEnd_24 : decode cX15_wordEnd 24 = .ok (.goto (-22), 3) := by decide +kernel
theorem dX15_wordEnd_27 : decode cX15_wordEnd 27 = .ok (.iload_n 2, 1) := by decide +kernel
theorem dX15_wordEnd_28 : decode cX15_wordEnd 28 = .ok (.ireturn, 1) := by decide +kernel
theorem kt_692 : Cond.methodLink RX15 7 yJ0_length_8abf5 ∈ tb := tb_at (i := 1550) (by decide +kernel) (by decide +kernel)
theorem kt_693 : Cond.methodLink RX15 13 yJ0_charAt_5068e ∈ tb := tb_at (i := 1551) (by decide +kernel) (by decide +kernel)
theorem kt_694 : Cond.code yX15_is cX15_is 5 (some .boolean) ∈ tb := tb_at (i := 1549) (by decide +kernel) (by decide +kernel)
theorem kt_695 : Cond.methodLink RX15 17 yX15_is ∈ tb := tb_at (i := 1547) (by decide +kernel) (by decide +kernel)
theorem kt_696 : Cond.static yX15_is ∈ tb := tb_at (i := 1548) (by decide +kernel) (by decide +kernel)
theorem kt_697 : Cond.code yX15_small cX15_small 1 (some .int) ∈ tb := tb_at (i := 1662) (by decide +kernel) (by decide +kernel)
theorem kt_698 : Cond.methodLink RX15 21 yX15_small ∈ tb := tb_at (i := 1660) (by decide +kernel) (by decide +kernel)
theorem kt_699 : Cond.static yX15_small ∈ tb := tb_at (i := 1661) (by decide +kernel) (by decide +kernel)
theorem kt_700 : Cond.code yX15_macro cX15_macro 6 (some .int) ∈ tb := tb_at (i := 1575) (by decide +kernel) (by decide +kernel)
theorem kt_701 : Cond.methodLink RX15 226 yX15_macro ∈ tb := tb_at (i := 1573) (by decide +kernel) (by decide +kernel)
theorem kt_702 : Cond.static yX15_macro ∈ tb := tb_at (i := 1574) (by decide +kernel) (by decide +kernel)
theorem kt_703 : Cond.constantLong RX15 222 33 ∈ tb := tb_at (i := 1571) (by decide +kernel) (by decide +kernel)
theorem kt_704 : Cond.constantLong RX15 224 126 ∈ tb := tb_at (i := 1572) (by decide +kernel) (by decide +kernel)
theorem kt_705 : Cond.methodLink RX15 170 yX15_in ∈ tb := tb_at (i := 1475) (by decide +kernel) (by decide +kernel)
theorem kt_706 : Cond.constantLong RX15 230 2 ∈ tb := tb_at (i := 1584) (by decide +kernel) (by decide +kernel)
theorem kt_707 : Cond.methodLink RX15 202 yX15_isDigit ∈ tb := tb_at (i := 1517) (by decide +kernel) (by decide +kernel)
theorem kt_708 : Cond.methodLink RX15 338 Lib.Math.min.name ∈ tb := tb_at (i := 1639) (by decide +kernel) (by decide +kernel)
theorem kt_709 : Cond.fieldLink RX15 190 "PostGateModel$Text" "n" "I" ∈ tb := tb_at (i := 1213) (by decide +kernel) (by decide +kernel)
theorem kt_710 : Cond.fieldLink RX15 295 "PostGateModel$Text" "b" "[B" ∈ tb := tb_at (i := 1210) (by decide +kernel) (by decide +kernel)
theorem kt_711 : Cond.code yX14_add cX14_add 2 none ∈ tb := tb_at (i := 1614) (by decide +kernel) (by decide +kernel)
theorem kt_712 : Cond.methodLink RX15 292 yX14_add ∈ tb := tb_at (i := 1611) (by decide +kernel) (by decide +kernel)
theorem kt_713 : Cond.instanceMethod yX14_add ∈ tb := tb_at (i := 1612) (by decide +kernel) (by decide +kernel)
theorem kt_714 : Cond.selects RX14 yX14_add yX14_add ∈ tb := tb_at (i := 1613) (by decide +kernel) (by decide +kernel)
theorem kt_715 : Cond.code yX15_isWhite cX15_isWhite 1 (some .boolean) ∈ tb := tb_at (i := 1642) (by decide +kernel) (by decide +kernel)
theorem kt_716 : Cond.methodLink RX15 347 yX15_isWhite ∈ tb := tb_at (i := 1640) (by decide +kernel) (by decide +kernel)
theorem kt_717 : Cond.static yX15_isWhite ∈ tb := tb_at (i := 1641) (by decide +kernel) (by decide +kernel)
theorem gA_fun {F : Nat → va_E} {y n : Nat} {c : ClassId} {f : Nat → Int32} (hF : F y = .inl (c, n, .inl f)) : gA (F y) = f := by
  funext j
  rw [hF]
  rfl
def isP (f : Nat → Int32) (a tt : Nat) (C : Nat → Int32) (n : Nat) : Prop := tt = a + n ∧ ∀ i, i < n → f (a + i) = chv (C i)
def bgP (f : Nat → Int32) (a tt : Nat) (C : Nat → Int32) (n : Nat) : Prop := a + n ≤ tt ∧ ∀ i, i < n → f (a + i) = chv (C i)
theorem bg_is {f : Nat → Int32} {a tt : Nat} {C : Nat → Int32} {n : Nat} (h : a + n ≤ tt) : isP f a (a + n) C n ↔ bgP f a tt C n := ⟨fun q => ⟨h, q.2⟩, fun q => ⟨rfl, q.2⟩⟩
def mac1 (f : Nat → Int32) (tt k : Nat) : Nat := if k < tt ∧ ¬ f k < 49 ∧ ¬ 57 < f k then k + 1 else k
def mac2 (f : Nat → Int32) (tt k : Nat) : Nat := if k < tt ∧ f k = 114 then k + 1 else k
def mac3 (f : Nat → Int32) (tt k a : Nat) : Nat := if k < tt ∧ f k = 125 then k + 1 - a else 0
def mac (f : Nat → Int32) (a tt : Nat) : Nat := if tt ≤ a + 1 then 0 else if f (a + 1) = 37 ∨ f (a + 1) = 95 ∨ f (a + 1) = 45 then 2 else if ¬ f (a + 1) = 123 ∨ tt ≤ a + 2 then 0 else if f (a + 2) = 115 ∨ f (a + 2) = 108 ∨ f (a + 2) = 111 ∨ f (a + 2) = 100 ∨ f (a + 2) = 105 then mac3 f tt (mac2 f tt (mac1 f tt (a + 3))) a else 0
theorem mac1_b (f : Nat → Int32) (tt k : Nat) : k ≤ mac1 f tt k ∧ mac1 f tt k ≤ k + 1 := by
  unfold mac1
  split <;> omega
theorem mac2_b (f : Nat → Int32) (tt k : Nat) : k ≤ mac2 f tt k ∧ mac2 f tt k ≤ k + 1 := by
  unfold mac2
  split <;> omega
theorem mac_b {f : Nat → Int32} {a tt : Nat} (h : mac f a tt ≠ 0) : 2 ≤ mac f a tt ∧ a + mac f a tt ≤ tt ∧ mac f a tt ≤ 6 ∧ ((f (a + 1) = 37 ∨ f (a + 1) = 95 ∨ f (a + 1) = 45) ∨ 4 ≤ mac f a tt) := by
  unfold mac at h ⊢
  split at h
  · exact absurd rfl h
  rename_i h1
  rw [if_neg h1]
  split at h
  · rename_i h2
    rw [if_pos h2]
    exact ⟨by omega, by omega, by omega, Or.inl h2⟩
  rename_i h2
  rw [if_neg h2]
  split at h
  · exact absurd rfl h
  rename_i h3
  rw [if_neg h3]
  split at h
  · rename_i h4
    rw [if_pos h4]
    have b1 := mac1_b f tt (a + 3)
    have b2 := mac2_b f tt (mac1 f tt (a + 3))
    generalize mac2 f tt (mac1 f tt (a + 3)) = k at b2 h ⊢
    unfold mac3 at h ⊢
    split at h
    · rename_i h5
      rw [if_pos h5]
      exact ⟨by omega, by omega, by omega, Or.inr (by omega)⟩
    · exact absurd rfl h
  · exact absurd rfl h
theorem mac_u (f : Nat → Int32) (a tt : Nat) : mac f a tt ≤ 6 := by
  rcases Nat.eq_zero_or_pos (mac f a tt) with h | h
  · omega
  · exact (mac_b (by omega)).2.2.1
def isd (f : Nat → Int32) (tt : Nat) : Nat → Nat → Prop
  | 0, _ => True
  | m + 1, k => tt ≤ k ∨ (f k ≠ 37 ∧ isd f tt m (k + 1)) ∨ (f k = 37 ∧ mac f k tt ≠ 0 ∧ isd f tt m (k + mac f k tt))
def ISD (f : Nat → Int32) (tt k : Nat) : Prop := ∀ m, isd f tt m k
theorem ISD.fin {f : Nat → Int32} {tt k : Nat} (h : tt ≤ k) : ISD f tt k := by
  intro m
  cases m with
  | zero => trivial
  | succ m => exact Or.inl h
theorem ISD.one {f : Nat → Int32} {tt k : Nat} (h : f k ≠ 37) (q : ISD f tt (k + 1)) : ISD f tt k := by
  intro m
  cases m with
  | zero => trivial
  | succ m => exact Or.inr (Or.inl ⟨h, q m⟩)
theorem ISD.mcr {f : Nat → Int32} {tt k : Nat} (h : f k = 37) (hm : mac f k tt ≠ 0) (q : ISD f tt (k + mac f k tt)) : ISD f tt k := by
  intro m
  cases m with
  | zero => trivial
  | succ m => exact Or.inr (Or.inr ⟨h, hm, q m⟩)
theorem ISD.next {f : Nat → Int32} {tt k : Nat} (q : ISD f tt k) (hk : k < tt) (h : f k ≠ 37) : ISD f tt (k + 1) := by
  intro m
  rcases q (m + 1) with w | w | w
  · omega
  · exact w.2
  · exact absurd w.1 h
theorem ISD.step {f : Nat → Int32} {tt k : Nat} (q : ISD f tt k) (hk : k < tt) (h : f k = 37) : mac f k tt ≠ 0 ∧ ISD f tt (k + mac f k tt) := by
  refine ⟨?_, fun m => ?_⟩
  · rcases q 1 with w | w | w
    · omega
    · exact absurd h w.1
    · exact w.2.1
  · rcases q (m + 1) with w | w | w
    · omega
    · exact absurd h w.1
    · exact w.2.2
def WE (f : Nat → Int32) (z a k : Nat) : Prop := (∀ i, a ≤ i → i < k → f i ≠ 32) ∧ (k < z → f k = 32)
theorem WE.uniq {f : Nat → Int32} {z a k1 k2 : Nat} (h1 : WE f z a k1) (h2 : WE f z a k2) (a1 : a ≤ k1) (a2 : a ≤ k2) (b1 : k1 ≤ max a z) (b2 : k2 ≤ max a z) : k1 = k2 := by
  rcases Nat.lt_trichotomy k1 k2 with q | q | q
  · exact absurd (h1.2 (by omega)) (h2.1 k1 a1 q)
  · exact q
  · exact absurd (h2.2 (by omega)) (h1.1 k2 a2 q)
theorem WE.lt {f : Nat → Int32} {z a k : Nat} (h : WE f z a k) (ha : a ≤ k) (hz : a < z) (hf : f a ≠ 32) : a < k := by
  rcases Nat.lt_or_ge a k with q | q
  · exact q
  · have e : k = a := by omega
    subst e
    exact absurd (h.2 hz) hf
theorem minL {tt j : Nat} (h : j < 2 ^ 31) (ht : tt < 2 ^ 31) : (if nI j < nI tt then nI j else nI tt) = nI (min tt j) := minN tt j ht h
set_option maxHeartbeats 4000000 in
set_option maxRecDepth 100000 in
theorem s_X15_is (l : Launch) (dC : Nat → ClassId) (dI : Nat → Nat → Nat) (cs : Nat → ClassId) (ty : TyM) (gm : Nat → Nat → Nat) (L : List Nat) (sz : Nat) (F : Nat → va_E) (g1 : Nat) (σ : Nat) (n1 : Nat) (q : Nat) (v : Nat) (k0 : Nat) (C : Nat → Int32) (a : Nat) (tt : Nat) (hW : WTm ty gm L) (hL_g1 : g1 ∈ L) (hT_g1 : ty g1 = (17, σ, [n1])) (ha : a ≤ 20000) (htn : tt ≤ n1) : Met l yX15_is (.code yX15_is cX15_is 5 (some .boolean) :: tb) ({ frames := 4, cells := 0, slots := 0, locals := 85 }) (va_Pc [.ref g1, .int (nI a), .int (nI tt), .ref q] (PTEm (dC, dI) cs ty gm L F sz [(q, v, k0, C)])) (va_Qi (fun (r : Int32) (_ : Unit) => ((r = 1 ∧ isP (gA (F g1)) a tt C k0) ∨ (r = 0 ∧ ¬ isP (gA (F g1)) a tt C k0))) (fun _ T9 => ∃ F2 : Nat → va_E, QTm (dC, dI) cs ty gm L [] F F2 (va_A (va_pl L F) sz) T9) (va_A (va_pl L F) sz)) 0 0 (va_A (va_pl L F) sz) := by
  refine Met.ofW (cc := cX15_is) (maxL := 5) (ret := (some .boolean)) (by decide) rfl ?_
  intro p e s m args below meth c s₁ B hml hv
  obtain ⟨rfl, ⟨hsz, hP, hK, hD0, hE, hO⟩, hG, hX⟩ := hv
  have hx := B.exec
  have hb := B.bytes
  have hr := B.returns
  have hts : ∀ w ∈ tb, w.before _ s = true := fun w h => atoms_spec (ws := .code yX15_is cX15_is 5 (some .boolean) :: tb) B.pre w (List.mem_cons_of_mem _ h)
  have hown : s.vm.findClass RX15 = some m.cls := findClass_of_methodNamed B.named
  have hlocks := B.notSynchronized
  subst hsz
  have hD := hD0.self (sz := s.heap.size)
  generalize hAe : va_A (va_pl L F) s.heap.size = A at hD hG hX ⊢
  have hX_q : SXc q v k0 C A s s.heap := hX (q, v, k0, C) (by simp)
  obtain ⟨xo_q, xc_q, xv_q, xt_q, xn_q⟩ := id hX_q
  have hA : ∀ q : Nat, s.heap.size ≤ q → A q := fun q h => by rw [← hAe]; exact Or.inr h
  have hS : va_S A s.heap s.heap [] := va_S.rf
  have hR : FR ty [] F F := FR.refl
  have hl := lv_entry ([.ref g1, .int (nI a), .int (nI tt), .ref q]) (n := 5) (Nat.le_of_ble_eq_true rfl)
  rw [lg_entry_eq]
  generalize (lg_sl ([.ref g1, .int (nI a), .int (nI tt), .ref q]) ++ List.replicate (5 - (lg_sl ([.ref g1, .int (nI a), .int (nI tt), .ref q])).length) Slot.unset).toArray = ls at hl ⊢
  have hl : lv_has ls 5 [(0, .ref g1), (1, .int (nI a)), (2, .int (nI tt)), (3, .ref q)] := hl
  obtain ⟨hq_1, hq_2⟩ := hW.octs hL_g1 hT_g1
  obtain ⟨f_3, hF_4, hq_5⟩ := hO.octs hL_g1 hT_g1
  have hgf := gA_fun hF_4
  refine lv_iload_n hx hb dX15_is_0 rfl (lv_at hl 2 rfl) ?_
  refine lv_iload_n hx hb dX15_is_1 rfl (lv_at hl 1 rfl) ?_
  refine lv_isub hx hb dX15_is_2 ?_
  refine lv_topi (fun x_6 ex_6 => ?_)
  obtain rfl : x_6 = ((nI tt) - (nI a)) := ex_6.trans (rfl)
  refine lv_aload_n hx hb dX15_is_3 rfl (lv_at hl 3 rfl) ?_
  have hFc := pg_free hD hS hA
  refine va_calli (va_runV (As := []) (rest := [.int ((nI tt) - (nI a))]) ⟨hx, hb, hml, hown, hts⟩ (m_J0_length_8abf5 l dC dI cs ty gm L s.heap.size F q v k0 C hW ) ⟨callB_of 0 hts (gi kt_71) rfl rfl rfl (hts _ kt_51) (hts _ kt_692) (by decide +kernel) ⟨Nat.le_of_ble_eq_true rfl, Nat.le_of_ble_eq_true rfl⟩, (hts _ kt_73), (hts _ kt_74)⟩ ⟨fun a U g mk q => ⟨q.1, PTEm.calling q.2⟩, sx_recv hX_q.sx hS, fun U hU hWm => ⟨rfl, PTEm.mk hU hWm hP hK hD hE hO hG (fun x hx => by rw [List.mem_singleton] at hx; subst hx; exact hX_q) hS hFc⟩⟩ rfl rfl hl.1 rfl (lv_room (Nat.le_of_ble_eq_true rfl)) dX15_is_4 ⟨by show _ + 0 ≤ 0; omega, by show _ + 0 ≤ 0; omega⟩) hS (fun q _ h => hFc q h) hFc (fun r_7 u t H1 locs ht hvm hw hB hz1 hk1 hS => ?_)
  obtain ⟨F_8, hB1⟩ := hB
  obtain rfl : F = F_8 := (funext (fun a => hB1.2.2.2 a List.not_mem_nil)).symm
  obtain ⟨hP, hD, hO, hR⟩ := QTm.back hB1 ht hFc hR (fun q h => absurd h List.not_mem_nil)
  generalize H1 = H at hP hS ⊢
  have hw : r_7 = nI k0 := hw
  subst hw
  refine lv_icmp_eq (tgt := 12) hx hb dX15_is_7 (by decide) (fun c_9 => ?_) (fun c_9 => ?_)
  ·
    have htz := sub_eqN c_9 (by omega) (by omega) (by omega)
    refine lv_iconst (v := 0) hx hb dX15_is_12 (by decide) ?_
    refine lv_istore (lv' := [(4, .int 0), (0, .ref g1), (1, .int (nI a)), (2, .int (nI tt)), (3, .ref q)]) hx hb dX15_is_13 hl (by decide) rfl (fun ls hl => ?_)
    refine W.widen (k := 0) (n := 0) (by omega) (by omega) ?_
    refine pl_loopm (σ := Nat) A (dC, dI) cs ty gm L [] F 15 5 (fun j => [(4, .int (nI j)), (0, .ref g1), (1, .int (nI a)), (2, .int (nI tt)), (3, .ref q)]) (fun j => []) (fun j _ => j ≤ k0 ∧ ∀ i, i < j → gA (F g1) (a + i) = chv (C i)) (fun j => k0 - j) ?_ 0 F (⟨Nat.zero_le _, fun i hi => absurd hi (Nat.not_lt_zero _)⟩) hO hR _ _ hP hD hS ls (lv_sub hl [0, 1, 2, 3, 4] rfl)
    rintro j F_10 hv_11 hO hR ih_12 H locs hP hD hS ls hl
    have hl : lv_has ls 5 [(4, .int (nI j)), (0, .ref g1), (1, .int (nI a)), (2, .int (nI tt)), (3, .ref q)] := hl
    have hv_11 : j ≤ k0 ∧ ∀ i, i < j → gA (F g1) (a + i) = chv (C i) := hv_11
    refine W.eq (g2 := F0 m 15 ls []) rfl ?_
    obtain rfl : F = F_10 := (funext (fun a => hR a List.not_mem_nil)).symm
    obtain ⟨hv1, hv2⟩ := hv_11
    refine lv_iload hx hb dX15_is_15 (lv_at hl 0 rfl) ?_
    refine lv_aload_n hx hb dX15_is_17 rfl (lv_at hl 4 rfl) ?_
    have hFc := pg_free hD hS hA
    refine va_calli (va_runV (As := []) (rest := [.int (nI j)]) ⟨hx, hb, hml, hown, hts⟩ (m_J0_length_8abf5 l dC dI cs ty gm L H.size F q v k0 C hW ) ⟨callB_of 0 hts (gi kt_71) rfl rfl rfl (hts _ kt_51) (hts _ kt_692) (by decide +kernel) ⟨Nat.le_of_ble_eq_true rfl, Nat.le_of_ble_eq_true rfl⟩, (hts _ kt_73), (hts _ kt_74)⟩ ⟨fun a U g mk q => ⟨q.1, PTEm.calling q.2⟩, sx_recv hX_q.sx hS, fun U hU hWm => ⟨rfl, PTEm.mk hU hWm hP hK hD hE hO hG (fun x hx => by rw [List.mem_singleton] at hx; subst hx; exact hX_q) hS hFc⟩⟩ rfl rfl hl.1 rfl (lv_room (Nat.le_of_ble_eq_true rfl)) dX15_is_18 ⟨by show _ + 0 ≤ 0; omega, by show _ + 0 ≤ 0; omega⟩) hS (fun q _ h => hFc q h) hFc (fun r_13 u t H1 locs ht hvm hw hB hz1 hk1 hS => ?_)
    obtain ⟨F_14, hB1⟩ := hB
    obtain rfl : F = F_14 := (funext (fun a => hB1.2.2.2 a List.not_mem_nil)).symm
    obtain ⟨hP, hD, hO, hR⟩ := QTm.back hB1 ht hFc hR (fun q h => absurd h List.not_mem_nil)
    generalize H1 = H at hP hS ⊢
    have hw : r_13 = nI k0 := hw
    subst hw
    refine lv_icmp_ge (tgt := 47) hx hb dX15_is_21 (by decide) (fun c_15 => ?_) (fun c_15 => ?_)
    ·
      have hi_16 : k0 ≤ j := leN (N := k0) c_15
      refine lv_iconst (v := 1) hx hb dX15_is_47 (by decide) ?_
      refine W.widen (k := 0) (n := 0) (by omega) (by omega) ?_
      exact W.zret (v := 1) (ty := .boolean) hx hb hr (by decide) (fun t ht hWm => ⟨⟨1, (), rfl, (Or.inl ⟨rfl, htz, fun i hi => hv2 i (by omega)⟩), ⟨F, QTm.mk ht hP hD hO hR⟩⟩, hS.F ht⟩) hS.2.2 dX15_is_48
    ·
      have hi_17 : j < k0 := ltN (N := k0) c_15
      refine lv_aload_n hx hb dX15_is_24 rfl (lv_at hl 1 rfl) ?_
      refine lv_iload_n hx hb dX15_is_25 rfl (lv_at hl 2 rfl) ?_
      refine lv_iload hx hb dX15_is_26 (lv_at hl 0 rfl) ?_
      refine lv_iadd hx hb dX15_is_28 ?_
      refine lv_topi (fun x_18 ex_18 => ?_)
      obtain rfl : x_18 = (nI (a + j)) := ex_18.trans (nI_add a j)
      refine pg_bald hx hb hK hP hL_g1 1 hF_4 rfl (vp_in_nI (by omega) (by omega)) dX15_is_29 ?_
      refine lv_topi (fun x_19 ex_19 => ?_)
      obtain rfl : x_19 = f_3 (a + j) := ex_19.trans (congrArg f_3 (show ((nI (a + j)) : Int32).toNatClampNeg = (a + j) from nI_clamp (by omega)))
      refine lv_aload_n hx hb dX15_is_30 rfl (lv_at hl 4 rfl) ?_
      refine lv_iload hx hb dX15_is_31 (lv_at hl 0 rfl) ?_
      have hFc := pg_free hD hS hA
      refine va_calli (va_runV (As := [.int (nI j)]) (rest := [.int (f_3 (a + j))]) ⟨hx, hb, hml, hown, hts⟩ (m_J0_charAt_5068e l dC dI cs ty gm L H.size F q v k0 C j hW (by first | omega | assumption | exact Or.inl rfl)) ⟨callB_of 1 hts (gi kt_75) rfl rfl rfl (hts _ kt_51) (hts _ kt_693) (by decide +kernel) ⟨Nat.le_of_ble_eq_true rfl, Nat.le_of_ble_eq_true rfl⟩, (hts _ kt_77), (hts _ kt_78)⟩ ⟨fun a U g mk q => ⟨q.1, PTEm.calling q.2⟩, sx_recv hX_q.sx hS, fun U hU hWm => ⟨rfl, PTEm.mk hU hWm hP hK hD hE hO hG (fun x hx => by rw [List.mem_singleton] at hx; subst hx; exact hX_q) hS hFc⟩⟩ rfl rfl hl.1 rfl (lv_room (Nat.le_of_ble_eq_true rfl)) dX15_is_33 ⟨by show _ + 0 ≤ 0; omega, by show _ + 0 ≤ 0; omega⟩) hS (fun q _ h => hFc q h) hFc (fun r_20 u t H1 locs ht hvm hw hB hz1 hk1 hS => ?_)
      obtain ⟨F_21, hB1⟩ := hB
      obtain rfl : F = F_21 := (funext (fun a => hB1.2.2.2 a List.not_mem_nil)).symm
      obtain ⟨hP, hD, hO, hR⟩ := QTm.back hB1 ht hFc hR (fun q h => absurd h List.not_mem_nil)
      generalize H1 = H at hP hS ⊢
      have hw : r_20 = chv (C j) := hw
      subst hw
      refine lv_icmp_eq (tgt := 41) hx hb dX15_is_36 (by decide) (fun c_22 => ?_) (fun c_22 => ?_)
      ·
        refine lv_iinc (v := (nI (j + 1))) (lv' := [(4, .int (nI (j + 1))), (0, .ref g1), (1, .int (nI a)), (2, .int (nI tt)), (3, .ref q)]) hx hb dX15_is_41 hl (k := 0) rfl (nI_1 _) (by decide) rfl (fun ls hl => ?_)
        refine lv_goto (tgt := 15) hx hb dX15_is_44 (by decide) ?_
        refine W.widen (k := 0) (n := 0) (by omega) (by omega) ?_
        exact ih_12 (j + 1) F (⟨by omega, all_step hv2 (by rw [hgf]; exact c_22)⟩) (by show k0 - (j + 1) < k0 - j; omega) hO hR _ _ hP hD hS ls (lv_sub hl [0, 1, 2, 3, 4] rfl)
      ·
        refine lv_iconst (v := 0) hx hb dX15_is_39 (by decide) ?_
        refine W.widen (k := 0) (n := 0) (by omega) (by omega) ?_
        exact W.zret (v := 0) (ty := .boolean) hx hb hr (by decide) (fun t ht hWm => ⟨⟨0, (), rfl, (Or.inr ⟨rfl, fun h => c_22 (by have h9 := h.2 j (by omega); rw [hgf] at h9; exact h9)⟩), ⟨F, QTm.mk ht hP hD hO hR⟩⟩, hS.F ht⟩) hS.2.2 dX15_is_40
  ·
    refine lv_iconst (v := 0) hx hb dX15_is_10 (by decide) ?_
    refine W.widen (k := 0) (n := 0) (by omega) (by omega) ?_
    exact W.zret (v := 0) (ty := .boolean) hx hb hr (by decide) (fun t ht hWm => ⟨⟨0, (), rfl, (Or.inr ⟨rfl, fun h => c_9 (by rw [h.1]; rw [pk_sub (by omega)]; congr 1; omega)⟩), ⟨F, QTm.mk ht hP hD hO hR⟩⟩, hS.F ht⟩) hS.2.2 dX15_is_11
set_option maxHeartbeats 4000000 in
set_option maxRecDepth 100000 in
theorem s_X15_begins (l : Launch) (dC : Nat → ClassId) (dI : Nat → Nat → Nat) (cs : Nat → ClassId) (ty : TyM) (gm : Nat → Nat → Nat) (L : List Nat) (sz : Nat) (F : Nat → va_E) (g1 : Nat) (σ : Nat) (n1 : Nat) (q : Nat) (v : Nat) (k0 : Nat) (C : Nat → Int32) (a : Nat) (tt : Nat) (hW : WTm ty gm L) (hL_g1 : g1 ∈ L) (hT_g1 : ty g1 = (17, σ, [n1])) (ha : a ≤ 10000) (htn : tt ≤ n1) : Met l yX15_begins (.code yX15_begins cX15_begins 4 (some .boolean) :: tb) ({ frames := 5, cells := 0, slots := 0, locals := 109 }) (va_Pc [.ref g1, .int (nI a), .int (nI tt), .ref q] (PTEm (dC, dI) cs ty gm L F sz [(q, v, k0, C)])) (va_Qi (fun (r : Int32) (_ : Unit) => ((r = 1 ∧ bgP (gA (F g1)) a tt C k0) ∨ (r = 0 ∧ ¬ bgP (gA (F g1)) a tt C k0))) (fun _ T9 => ∃ F2 : Nat → va_E, QTm (dC, dI) cs ty gm L [] F F2 (va_A (va_pl L F) sz) T9) (va_A (va_pl L F) sz)) 0 0 (va_A (va_pl L F) sz) := by
  refine Met.ofW (cc := cX15_begins) (maxL := 4) (ret := (some .boolean)) (by decide) rfl ?_
  intro p e s m args below meth c s₁ B hml hv
  obtain ⟨rfl, ⟨hsz, hP, hK, hD0, hE, hO⟩, hG, hX⟩ := hv
  have hx := B.exec
  have hb := B.bytes
  have hr := B.returns
  have hts : ∀ w ∈ tb, w.before _ s = true := fun w h => atoms_spec (ws := .code yX15_begins cX15_begins 4 (some .boolean) :: tb) B.pre w (List.mem_cons_of_mem _ h)
  have hown : s.vm.findClass RX15 = some m.cls := findClass_of_methodNamed B.named
  have hlocks := B.notSynchronized
  subst hsz
  have hD := hD0.self (sz := s.heap.size)
  generalize hAe : va_A (va_pl L F) s.heap.size = A at hD hG hX ⊢
  have hX_q : SXc q v k0 C A s s.heap := hX (q, v, k0, C) (by simp)
  obtain ⟨xo_q, xc_q, xv_q, xt_q, xn_q⟩ := id hX_q
  have hA : ∀ q : Nat, s.heap.size ≤ q → A q := fun q h => by rw [← hAe]; exact Or.inr h
  have hS : va_S A s.heap s.heap [] := va_S.rf
  have hR : FR ty [] F F := FR.refl
  have hl := lv_entry ([.ref g1, .int (nI a), .int (nI tt), .ref q]) (n := 4) (Nat.le_of_ble_eq_true rfl)
  rw [lg_entry_eq]
  generalize (lg_sl ([.ref g1, .int (nI a), .int (nI tt), .ref q]) ++ List.replicate (4 - (lg_sl ([.ref g1, .int (nI a), .int (nI tt), .ref q])).length) Slot.unset).toArray = ls at hl ⊢
  have hl : lv_has ls 4 [(0, .ref g1), (1, .int (nI a)), (2, .int (nI tt)), (3, .ref q)] := hl
  obtain ⟨hq_1, hq_2⟩ := hW.octs hL_g1 hT_g1
  refine lv_iload_n hx hb dX15_begins_0 rfl (lv_at hl 2 rfl) ?_
  refine lv_iload_n hx hb dX15_begins_1 rfl (lv_at hl 1 rfl) ?_
  refine lv_isub hx hb dX15_begins_2 ?_
  refine lv_topi (fun x_3 ex_3 => ?_)
  obtain rfl : x_3 = ((nI tt) - (nI a)) := ex_3.trans (rfl)
  refine lv_aload_n hx hb dX15_begins_3 rfl (lv_at hl 3 rfl) ?_
  have hFc := pg_free hD hS hA
  refine va_calli (va_runV (As := []) (rest := [.int ((nI tt) - (nI a))]) ⟨hx, hb, hml, hown, hts⟩ (m_J0_length_8abf5 l dC dI cs ty gm L s.heap.size F q v k0 C hW ) ⟨callB_of 0 hts (gi kt_71) rfl rfl rfl (hts _ kt_51) (hts _ kt_692) (by decide +kernel) ⟨Nat.le_of_ble_eq_true rfl, Nat.le_of_ble_eq_true rfl⟩, (hts _ kt_73), (hts _ kt_74)⟩ ⟨fun a U g mk q => ⟨q.1, PTEm.calling q.2⟩, sx_recv hX_q.sx hS, fun U hU hWm => ⟨rfl, PTEm.mk hU hWm hP hK hD hE hO hG (fun x hx => by rw [List.mem_singleton] at hx; subst hx; exact hX_q) hS hFc⟩⟩ rfl rfl hl.1 rfl (lv_room (Nat.le_of_ble_eq_true rfl)) dX15_begins_4 ⟨by show _ + 0 ≤ 0; omega, by show _ + 0 ≤ 0; omega⟩) hS (fun q _ h => hFc q h) hFc (fun r_4 u t H1 locs ht hvm hw hB hz1 hk1 hS => ?_)
  obtain ⟨F_5, hB1⟩ := hB
  obtain rfl : F = F_5 := (funext (fun a => hB1.2.2.2 a List.not_mem_nil)).symm
  obtain ⟨hP, hD, hO, hR⟩ := QTm.back hB1 ht hFc hR (fun q h => absurd h List.not_mem_nil)
  generalize H1 = H at hP hS ⊢
  have hw : r_4 = nI k0 := hw
  subst hw
  refine lv_icmp_lt (tgt := 29) hx hb dX15_begins_7 (by decide) (fun c_6 => ?_) (fun c_6 => ?_)
  ·
    have hat := sub_ltN c_6 (by omega) (by omega) (by omega)
    refine lv_iconst (v := 0) hx hb dX15_begins_29 (by decide) ?_
    refine W.widen (k := 0) (n := 0) (by omega) (by omega) ?_
    exact W.zret (v := 0) (ty := .boolean) hx hb hr (by decide) (fun t ht hWm => ⟨⟨0, (), rfl, (Or.inr ⟨rfl, fun h => hat h.1⟩), ⟨F, QTm.mk ht hP hD hO hR⟩⟩, hS.F ht⟩) hS.2.2 dX15_begins_30
  ·
    have hat := sub_geN c_6 (by omega) (by omega) (by omega)
    refine lv_aload_n hx hb dX15_begins_10 rfl (lv_at hl 0 rfl) ?_
    refine lv_iload_n hx hb dX15_begins_11 rfl (lv_at hl 1 rfl) ?_
    refine lv_iload_n hx hb dX15_begins_12 rfl (lv_at hl 1 rfl) ?_
    refine lv_aload_n hx hb dX15_begins_13 rfl (lv_at hl 3 rfl) ?_
    have hFc := pg_free hD hS hA
    refine va_calli (va_runV (As := []) (rest := [.int (nI a), .int (nI a), .ref g1]) ⟨hx, hb, hml, hown, hts⟩ (m_J0_length_8abf5 l dC dI cs ty gm L H.size F q v k0 C hW ) ⟨callB_of 0 hts (gi kt_71) rfl rfl rfl (hts _ kt_51) (hts _ kt_692) (by decide +kernel) ⟨Nat.le_of_ble_eq_true rfl, Nat.le_of_ble_eq_true rfl⟩, (hts _ kt_73), (hts _ kt_74)⟩ ⟨fun a U g mk q => ⟨q.1, PTEm.calling q.2⟩, sx_recv hX_q.sx hS, fun U hU hWm => ⟨rfl, PTEm.mk hU hWm hP hK hD hE hO hG (fun x hx => by rw [List.mem_singleton] at hx; subst hx; exact hX_q) hS hFc⟩⟩ rfl rfl hl.1 rfl (lv_room (Nat.le_of_ble_eq_true rfl)) dX15_begins_14 ⟨by show _ + 0 ≤ 0; omega, by show _ + 0 ≤ 0; omega⟩) hS (fun q _ h => hFc q h) hFc (fun r_7 u t H1 locs ht hvm hw hB hz1 hk1 hS => ?_)
    obtain ⟨F_8, hB1⟩ := hB
    obtain rfl : F = F_8 := (funext (fun a => hB1.2.2.2 a List.not_mem_nil)).symm
    obtain ⟨hP, hD, hO, hR⟩ := QTm.back hB1 ht hFc hR (fun q h => absurd h List.not_mem_nil)
    generalize H1 = H at hP hS ⊢
    have hw : r_7 = nI k0 := hw
    subst hw
    refine lv_iadd hx hb dX15_begins_17 ?_
    refine lv_topi (fun x_9 ex_9 => ?_)
    obtain rfl : x_9 = (nI (a + k0)) := ex_9.trans (nI_add a k0)
    refine lv_aload_n hx hb dX15_begins_18 rfl (lv_at hl 3 rfl) ?_
    have hFc := pg_free hD hS hA
    refine va_calli (va_runS (As := [.ref g1, .int (nI a), .int (nI (a + k0)), .ref q]) (rest := []) ⟨hx, hb, hml, hown, hts⟩ (s_X15_is l dC dI cs ty gm L H.size F g1 σ n1 q v k0 C a (a + k0) hW hL_g1 hT_g1 (by first | omega | assumption | exact Or.inl rfl) (by first | omega | assumption | exact Or.inl rfl)) ⟨callB_of 4 hts (gi kt_694) rfl rfl rfl (hts _ kt_669) (hts _ kt_695) (by decide +kernel) ⟨Nat.le_of_ble_eq_true rfl, Nat.le_of_ble_eq_true rfl⟩, (hts _ kt_696)⟩ ⟨fun a U g mk q => ⟨q.1, PTEm.calling q.2⟩, fun U hU hWm => ⟨rfl, PTEm.mk hU hWm hP hK hD hE hO hG (fun x hx => by rw [List.mem_singleton] at hx; subst hx; exact hX_q) hS hFc⟩⟩ rfl rfl hl.1 rfl (lv_room (Nat.le_of_ble_eq_true rfl)) dX15_begins_19 ⟨by show _ + 0 ≤ 0; omega, by show _ + 0 ≤ 0; omega⟩) hS (fun q _ h => hFc q h) hFc (fun r_10 u t H1 locs ht hvm hw hB hz1 hk1 hS => ?_)
    obtain ⟨F_11, hB1⟩ := hB
    obtain rfl : F = F_11 := (funext (fun a => hB1.2.2.2 a List.not_mem_nil)).symm
    obtain ⟨hP, hD, hO, hR⟩ := QTm.back hB1 ht hFc hR (fun q h => absurd h List.not_mem_nil)
    generalize H1 = H at hP hS ⊢
    have hw : ((r_10 = 1 ∧ isP (gA (F g1)) a (a + k0) C k0) ∨ (r_10 = 0 ∧ ¬ isP (gA (F g1)) a (a + k0) C k0)) := hw
    have hw_12 := hw
    refine lv_if_eq (tgt := 29) hx hb dX15_begins_22 (by decide) (fun c_13 => ?_) (fun c_13 => ?_)
    ·
      refine lv_iconst (v := 0) hx hb dX15_begins_29 (by decide) ?_
      refine W.widen (k := 0) (n := 0) (by omega) (by omega) ?_
      exact W.zret (v := 0) (ty := .boolean) hx hb hr (by decide) (fun t ht hWm => ⟨⟨0, (), rfl, (Or.inr ⟨rfl, fun h => nm0 hw_12 c_13 ((bg_is hat).mpr h)⟩), ⟨F, QTm.mk ht hP hD hO hR⟩⟩, hS.F ht⟩) hS.2.2 dX15_begins_30
    ·
      refine lv_iconst (v := 1) hx hb dX15_begins_25 (by decide) ?_
      refine lv_goto (tgt := 30) hx hb dX15_begins_26 (by decide) ?_
      refine W.widen (k := 0) (n := 0) (by omega) (by omega) ?_
      exact W.zret (v := 1) (ty := .boolean) hx hb hr (by decide) (fun t ht hWm => ⟨⟨1, (), rfl, (Or.inl ⟨rfl, (bg_is hat).mp (nm1 hw_12 c_13)⟩), ⟨F, QTm.mk ht hP hD hO hR⟩⟩, hS.F ht⟩) hS.2.2 dX15_begins_30
set_option maxHeartbeats 4000000 in
set_option maxRecDepth 100000 in
theorem s_X15_isAlike (l : Launch) (dC : Nat → ClassId) (dI : Nat → Nat → Nat) (cs : Nat → ClassId) (ty : TyM) (gm : Nat → Nat → Nat) (L : List Nat) (sz : Nat) (F : Nat → va_E) (g1 : Nat) (σ : Nat) (n1 : Nat) (q : Nat) (v : Nat) (k0 : Nat) (C : Nat → Int32) (a : Nat) (tt : Nat) (hW : WTm ty gm L) (hL_g1 : g1 ∈ L) (hT_g1 : ty g1 = (17, σ, [n1])) (ha : a ≤ 20000) (htn : tt ≤ n1) : Met l yX15_isAlike (.code yX15_isAlike cX15_isAlike 5 (some .boolean) :: tb) ({ frames := 4, cells := 0, slots := 0, locals := 85 }) (va_Pc [.ref g1, .int (nI a), .int (nI tt), .ref q] (PTEm (dC, dI) cs ty gm L F sz [(q, v, k0, C)])) (va_Qi (fun (r : Int32) (_ : Unit) => (r = 0 ∨ r = 1)) (fun _ T9 => ∃ F2 : Nat → va_E, QTm (dC, dI) cs ty gm L [] F F2 (va_A (va_pl L F) sz) T9) (va_A (va_pl L F) sz)) 0 0 (va_A (va_pl L F) sz) := by
  refine Met.ofW (cc := cX15_isAlike) (maxL := 5) (ret := (some .boolean)) (by decide) rfl ?_
  intro p e s m args below meth c s₁ B hml hv
  obtain ⟨rfl, ⟨hsz, hP, hK, hD0, hE, hO⟩, hG, hX⟩ := hv
  have hx := B.exec
  have hb := B.bytes
  have hr := B.returns
  have hts : ∀ w ∈ tb, w.before _ s = true := fun w h => atoms_spec (ws := .code yX15_isAlike cX15_isAlike 5 (some .boolean) :: tb) B.pre w (List.mem_cons_of_mem _ h)
  have hown : s.vm.findClass RX15 = some m.cls := findClass_of_methodNamed B.named
  have hlocks := B.notSynchronized
  subst hsz
  have hD := hD0.self (sz := s.heap.size)
  generalize hAe : va_A (va_pl L F) s.heap.size = A at hD hG hX ⊢
  have hX_q : SXc q v k0 C A s s.heap := hX (q, v, k0, C) (by simp)
  obtain ⟨xo_q, xc_q, xv_q, xt_q, xn_q⟩ := id hX_q
  have hA : ∀ q : Nat, s.heap.size ≤ q → A q := fun q h => by rw [← hAe]; exact Or.inr h
  have hS : va_S A s.heap s.heap [] := va_S.rf
  have hR : FR ty [] F F := FR.refl
  have hl := lv_entry ([.ref g1, .int (nI a), .int (nI tt), .ref q]) (n := 5) (Nat.le_of_ble_eq_true rfl)
  rw [lg_entry_eq]
  generalize (lg_sl ([.ref g1, .int (nI a), .int (nI tt), .ref q]) ++ List.replicate (5 - (lg_sl ([.ref g1, .int (nI a), .int (nI tt), .ref q])).length) Slot.unset).toArray = ls at hl ⊢
  have hl : lv_has ls 5 [(0, .ref g1), (1, .int (nI a)), (2, .int (nI tt)), (3, .ref q)] := hl
  obtain ⟨hq_1, hq_2⟩ := hW.octs hL_g1 hT_g1
  refine lv_iload_n hx hb dX15_isAlike_0 rfl (lv_at hl 2 rfl) ?_
  refine lv_iload_n hx hb dX15_isAlike_1 rfl (lv_at hl 1 rfl) ?_
  refine lv_isub hx hb dX15_isAlike_2 ?_
  refine lv_topi (fun x_3 ex_3 => ?_)
  obtain rfl : x_3 = ((nI tt) - (nI a)) := ex_3.trans (rfl)
  refine lv_aload_n hx hb dX15_isAlike_3 rfl (lv_at hl 3 rfl) ?_
  have hFc := pg_free hD hS hA
  refine va_calli (va_runV (As := []) (rest := [.int ((nI tt) - (nI a))]) ⟨hx, hb, hml, hown, hts⟩ (m_J0_length_8abf5 l dC dI cs ty gm L s.heap.size F q v k0 C hW ) ⟨callB_of 0 hts (gi kt_71) rfl rfl rfl (hts _ kt_51) (hts _ kt_692) (by decide +kernel) ⟨Nat.le_of_ble_eq_true rfl, Nat.le_of_ble_eq_true rfl⟩, (hts _ kt_73), (hts _ kt_74)⟩ ⟨fun a U g mk q => ⟨q.1, PTEm.calling q.2⟩, sx_recv hX_q.sx hS, fun U hU hWm => ⟨rfl, PTEm.mk hU hWm hP hK hD hE hO hG (fun x hx => by rw [List.mem_singleton] at hx; subst hx; exact hX_q) hS hFc⟩⟩ rfl rfl hl.1 rfl (lv_room (Nat.le_of_ble_eq_true rfl)) dX15_isAlike_4 ⟨by show _ + 0 ≤ 0; omega, by show _ + 0 ≤ 0; omega⟩) hS (fun q _ h => hFc q h) hFc (fun r_4 u t H1 locs ht hvm hw hB hz1 hk1 hS => ?_)
  obtain ⟨F_5, hB1⟩ := hB
  obtain rfl : F = F_5 := (funext (fun a => hB1.2.2.2 a List.not_mem_nil)).symm
  obtain ⟨hP, hD, hO, hR⟩ := QTm.back hB1 ht hFc hR (fun q h => absurd h List.not_mem_nil)
  generalize H1 = H at hP hS ⊢
  have hw : r_4 = nI k0 := hw
  subst hw
  refine lv_icmp_eq (tgt := 12) hx hb dX15_isAlike_7 (by decide) (fun c_6 => ?_) (fun c_6 => ?_)
  ·
    have htz := sub_eqN c_6 (by omega) (by omega) (by omega)
    refine lv_iconst (v := 0) hx hb dX15_isAlike_12 (by decide) ?_
    refine lv_istore (lv' := [(4, .int 0), (0, .ref g1), (1, .int (nI a)), (2, .int (nI tt)), (3, .ref q)]) hx hb dX15_isAlike_13 hl (by decide) rfl (fun ls hl => ?_)
    refine W.widen (k := 0) (n := 0) (by omega) (by omega) ?_
    refine pl_loopm (σ := Nat) A (dC, dI) cs ty gm L [] F 15 5 (fun j => [(4, .int (nI j)), (0, .ref g1), (1, .int (nI a)), (2, .int (nI tt)), (3, .ref q)]) (fun j => []) (fun j _ => j ≤ 10000) (fun j => 10000 - j) ?_ 0 F (by omega) hO hR _ _ hP hD hS ls (lv_sub hl [0, 1, 2, 3, 4] rfl)
    rintro j F_7 hv_8 hO hR ih_9 H locs hP hD hS ls hl
    have hl : lv_has ls 5 [(4, .int (nI j)), (0, .ref g1), (1, .int (nI a)), (2, .int (nI tt)), (3, .ref q)] := hl
    have hv_8 : j ≤ 10000 := hv_8
    refine W.eq (g2 := F0 m 15 ls []) rfl ?_
    obtain rfl : F = F_7 := (funext (fun a => hR a List.not_mem_nil)).symm
    refine lv_iload hx hb dX15_isAlike_15 (lv_at hl 0 rfl) ?_
    refine lv_aload_n hx hb dX15_isAlike_17 rfl (lv_at hl 4 rfl) ?_
    have hFc := pg_free hD hS hA
    refine va_calli (va_runV (As := []) (rest := [.int (nI j)]) ⟨hx, hb, hml, hown, hts⟩ (m_J0_length_8abf5 l dC dI cs ty gm L H.size F q v k0 C hW ) ⟨callB_of 0 hts (gi kt_71) rfl rfl rfl (hts _ kt_51) (hts _ kt_692) (by decide +kernel) ⟨Nat.le_of_ble_eq_true rfl, Nat.le_of_ble_eq_true rfl⟩, (hts _ kt_73), (hts _ kt_74)⟩ ⟨fun a U g mk q => ⟨q.1, PTEm.calling q.2⟩, sx_recv hX_q.sx hS, fun U hU hWm => ⟨rfl, PTEm.mk hU hWm hP hK hD hE hO hG (fun x hx => by rw [List.mem_singleton] at hx; subst hx; exact hX_q) hS hFc⟩⟩ rfl rfl hl.1 rfl (lv_room (Nat.le_of_ble_eq_true rfl)) dX15_isAlike_18 ⟨by show _ + 0 ≤ 0; omega, by show _ + 0 ≤ 0; omega⟩) hS (fun q _ h => hFc q h) hFc (fun r_10 u t H1 locs ht hvm hw hB hz1 hk1 hS => ?_)
    obtain ⟨F_11, hB1⟩ := hB
    obtain rfl : F = F_11 := (funext (fun a => hB1.2.2.2 a List.not_mem_nil)).symm
    obtain ⟨hP, hD, hO, hR⟩ := QTm.back hB1 ht hFc hR (fun q h => absurd h List.not_mem_nil)
    generalize H1 = H at hP hS ⊢
    have hw : r_10 = nI k0 := hw
    subst hw
    refine lv_icmp_ge (tgt := 50) hx hb dX15_isAlike_21 (by decide) (fun c_12 => ?_) (fun c_12 => ?_)
    ·
      have hi_13 : k0 ≤ j := leN (N := k0) c_12
      refine lv_iconst (v := 1) hx hb dX15_isAlike_50 (by decide) ?_
      refine W.widen (k := 0) (n := 0) (by omega) (by omega) ?_
      exact W.zret (v := 1) (ty := .boolean) hx hb hr (by decide) (fun t ht hWm => ⟨⟨1, (), rfl, (by first | exact Or.inl rfl | exact Or.inr rfl), ⟨F, QTm.mk ht hP hD hO hR⟩⟩, hS.F ht⟩) hS.2.2 dX15_isAlike_51
    ·
      have hi_14 : j < k0 := ltN (N := k0) c_12
      refine lv_aload_n hx hb dX15_isAlike_24 rfl (lv_at hl 1 rfl) ?_
      refine lv_iload_n hx hb dX15_isAlike_25 rfl (lv_at hl 2 rfl) ?_
      refine lv_iload hx hb dX15_isAlike_26 (lv_at hl 0 rfl) ?_
      refine lv_iadd hx hb dX15_isAlike_28 ?_
      refine lv_topi (fun x_15 ex_15 => ?_)
      obtain rfl : x_15 = (nI (a + j)) := ex_15.trans (nI_add a j)
      obtain ⟨f_16, hF_17, hq_18⟩ := hO.octs hL_g1 hT_g1
      refine pg_bald hx hb hK hP hL_g1 1 hF_17 rfl (vp_in_nI (by omega) (by omega)) dX15_isAlike_29 ?_
      refine lv_topi (fun x_19 ex_19 => ?_)
      obtain rfl : x_19 = f_16 (a + j) := ex_19.trans (congrArg f_16 (show ((nI (a + j)) : Int32).toNatClampNeg = (a + j) from nI_clamp (by omega)))
      have hFc := pg_free hD hS hA
      refine va_calli (va_runS (As := [.int (f_16 (a + j))]) (rest := []) ⟨hx, hb, hml, hown, hts⟩ (s_X15_small l dC dI cs ty gm L H.size F (f_16 (a + j)) hW ) ⟨callB_of 1 hts (gi kt_697) rfl rfl rfl (hts _ kt_669) (hts _ kt_698) (by decide +kernel) ⟨Nat.le_of_ble_eq_true rfl, Nat.le_of_ble_eq_true rfl⟩, (hts _ kt_699)⟩ ⟨fun a U g mk q => ⟨q.1, PTm.calling q.2⟩, fun U hU hWm => ⟨rfl, PTm.mk hU hWm hP hK hD hE hO⟩⟩ rfl rfl hl.1 rfl (lv_room (Nat.le_of_ble_eq_true rfl)) dX15_isAlike_30 ⟨by show _ + 0 ≤ 0; omega, by show _ + 0 ≤ 0; omega⟩) hS (fun q _ h => hFc q h) hFc (fun r_20 u t H1 locs ht hvm hw hB hz1 hk1 hS => ?_)
      obtain ⟨F_21, hB1⟩ := hB
      obtain rfl : F = F_21 := (funext (fun a => hB1.2.2.2 a List.not_mem_nil)).symm
      obtain ⟨hP, hD, hO, hR⟩ := QTm.back hB1 ht hFc hR (fun q h => absurd h List.not_mem_nil)
      generalize H1 = H at hP hS ⊢
      have hw : True := hw
      have hw_22 := hw
      refine lv_aload_n hx hb dX15_isAlike_33 rfl (lv_at hl 4 rfl) ?_
      refine lv_iload hx hb dX15_isAlike_34 (lv_at hl 0 rfl) ?_
      have hFc := pg_free hD hS hA
      refine va_calli (va_runV (As := [.int (nI j)]) (rest := [.int r_20]) ⟨hx, hb, hml, hown, hts⟩ (m_J0_charAt_5068e l dC dI cs ty gm L H.size F q v k0 C j hW (by first | omega | assumption | exact Or.inl rfl)) ⟨callB_of 1 hts (gi kt_75) rfl rfl rfl (hts _ kt_51) (hts _ kt_693) (by decide +kernel) ⟨Nat.le_of_ble_eq_true rfl, Nat.le_of_ble_eq_true rfl⟩, (hts _ kt_77), (hts _ kt_78)⟩ ⟨fun a U g mk q => ⟨q.1, PTEm.calling q.2⟩, sx_recv hX_q.sx hS, fun U hU hWm => ⟨rfl, PTEm.mk hU hWm hP hK hD hE hO hG (fun x hx => by rw [List.mem_singleton] at hx; subst hx; exact hX_q) hS hFc⟩⟩ rfl rfl hl.1 rfl (lv_room (Nat.le_of_ble_eq_true rfl)) dX15_isAlike_36 ⟨by show _ + 0 ≤ 0; omega, by show _ + 0 ≤ 0; omega⟩) hS (fun q _ h => hFc q h) hFc (fun r_23 u t H1 locs ht hvm hw hB hz1 hk1 hS => ?_)
      obtain ⟨F_24, hB1⟩ := hB
      obtain rfl : F = F_24 := (funext (fun a => hB1.2.2.2 a List.not_mem_nil)).symm
      obtain ⟨hP, hD, hO, hR⟩ := QTm.back hB1 ht hFc hR (fun q h => absurd h List.not_mem_nil)
      generalize H1 = H at hP hS ⊢
      have hw : r_23 = chv (C j) := hw
      subst hw
      refine lv_icmp_eq (tgt := 44) hx hb dX15_isAlike_39 (by decide) (fun c_25 => ?_) (fun c_25 => ?_)
      ·
        refine lv_iinc (v := (nI (j + 1))) (lv' := [(4, .int (nI (j + 1))), (0, .ref g1), (1, .int (nI a)), (2, .int (nI tt)), (3, .ref q)]) hx hb dX15_isAlike_44 hl (k := 0) rfl (nI_1 _) (by decide) rfl (fun ls hl => ?_)
        refine lv_goto (tgt := 15) hx hb dX15_isAlike_47 (by decide) ?_
        refine W.widen (k := 0) (n := 0) (by omega) (by omega) ?_
        exact ih_9 (j + 1) F (by first | omega | exact ⟨by omega, by omega⟩ | trivial) (by show 10000 - (j + 1) < 10000 - j; omega) hO hR _ _ hP hD hS ls (lv_sub hl [0, 1, 2, 3, 4] rfl)
      ·
        refine lv_iconst (v := 0) hx hb dX15_isAlike_42 (by decide) ?_
        refine W.widen (k := 0) (n := 0) (by omega) (by omega) ?_
        exact W.zret (v := 0) (ty := .boolean) hx hb hr (by decide) (fun t ht hWm => ⟨⟨0, (), rfl, (by first | exact Or.inl rfl | exact Or.inr rfl), ⟨F, QTm.mk ht hP hD hO hR⟩⟩, hS.F ht⟩) hS.2.2 dX15_isAlike_43
  ·
    refine lv_iconst (v := 0) hx hb dX15_isAlike_10 (by decide) ?_
    refine W.widen (k := 0) (n := 0) (by omega) (by omega) ?_
    exact W.zret (v := 0) (ty := .boolean) hx hb hr (by decide) (fun t ht hWm => ⟨⟨0, (), rfl, (by first | exact Or.inl rfl | exact Or.inr rfl), ⟨F, QTm.mk ht hP hD hO hR⟩⟩, hS.F ht⟩) hS.2.2 dX15_isAlike_11
set_option maxHeartbeats 4000000 in
set_option maxRecDepth 100000 in
theorem s_X15_macro (l : Launch) (dC : Nat → ClassId) (dI : Nat → Nat → Nat) (cs : Nat → ClassId) (ty : TyM) (gm : Nat → Nat → Nat) (L : List Nat) (sz : Nat) (F : Nat → va_E) (g1 : Nat) (σ : Nat) (n1 : Nat) (a : Nat) (tt : Nat) (hW : WTm ty gm L) (hL_g1 : g1 ∈ L) (hT_g1 : ty g1 = (17, σ, [n1])) (htn : tt ≤ n1) (hat : a ≤ tt) : Met l yX15_macro (.code yX15_macro cX15_macro 6 (some .int) :: tb) ({ frames := 0, cells := 0, slots := 0, locals := 0 }) (va_Pc [.ref g1, .int (nI a), .int (nI tt)] (PTm (dC, dI) cs ty gm L F sz)) (va_Qi (fun (r : Int32) (_ : Unit) => r = nI (mac (gA (F g1)) a tt)) (fun _ T9 => ∃ F2 : Nat → va_E, QTm (dC, dI) cs ty gm L [] F F2 (va_A (va_pl L F) sz) T9) (va_A (va_pl L F) sz)) 0 0 (va_A (va_pl L F) sz) := by
  refine Met.ofW (cc := cX15_macro) (maxL := 6) (ret := (some .int)) (by decide) rfl ?_
  intro p e s m args below meth c s₁ B hml hv
  obtain ⟨rfl, hsz, hP, hK, hD0, hE, hO⟩ := hv
  have hx := B.exec
  have hb := B.bytes
  have hr := B.returns
  have hts : ∀ w ∈ tb, w.before _ s = true := fun w h => atoms_spec (ws := .code yX15_macro cX15_macro 6 (some .int) :: tb) B.pre w (List.mem_cons_of_mem _ h)
  have hown : s.vm.findClass RX15 = some m.cls := findClass_of_methodNamed B.named
  have hlocks := B.notSynchronized
  subst hsz
  have hD := hD0.self (sz := s.heap.size)
  generalize hAe : va_A (va_pl L F) s.heap.size = A at hD ⊢
  have hA : ∀ q : Nat, s.heap.size ≤ q → A q := fun q h => by rw [← hAe]; exact Or.inr h
  have hS : va_S A s.heap s.heap [] := va_S.rf
  have hR : FR ty [] F F := FR.refl
  have hl := lv_entry ([.ref g1, .int (nI a), .int (nI tt)]) (n := 6) (Nat.le_of_ble_eq_true rfl)
  rw [lg_entry_eq]
  generalize (lg_sl ([.ref g1, .int (nI a), .int (nI tt)]) ++ List.replicate (6 - (lg_sl ([.ref g1, .int (nI a), .int (nI tt)])).length) Slot.unset).toArray = ls at hl ⊢
  have hl : lv_has ls 6 [(0, .ref g1), (1, .int (nI a)), (2, .int (nI tt))] := hl
  obtain ⟨hq_1, hq_2⟩ := hW.octs hL_g1 hT_g1
  obtain ⟨f_3, hF_4, hq_5⟩ := hO.octs hL_g1 hT_g1
  have hgf := gA_fun hF_4
  refine lv_iload_n hx hb dX15_macro_0 rfl (lv_at hl 1 rfl) ?_
  refine lv_iconst (v := 1) hx hb dX15_macro_1 (by decide) ?_
  refine lv_iadd hx hb dX15_macro_2 ?_
  refine lv_topi (fun x_6 ex_6 => ?_)
  obtain rfl : x_6 = (nI (a + 1)) := ex_6.trans (nI_add a 1)
  refine lv_iload_n hx hb dX15_macro_3 rfl (lv_at hl 2 rfl) ?_
  refine lv_icmp_lt (tgt := 9) hx hb dX15_macro_4 (by decide) (fun c_7 => ?_) (fun c_7 => ?_)
  ·
    have hi_8 : (a + 1) < tt := ltN (N := tt) (Int32.not_le.mpr c_7)
    refine lv_aload_n hx hb dX15_macro_9 rfl (lv_at hl 0 rfl) ?_
    refine lv_iload_n hx hb dX15_macro_10 rfl (lv_at hl 1 rfl) ?_
    refine lv_iconst (v := 1) hx hb dX15_macro_11 (by decide) ?_
    refine lv_iadd hx hb dX15_macro_12 ?_
    refine lv_topi (fun x_9 ex_9 => ?_)
    obtain rfl : x_9 = (nI (a + 1)) := ex_9.trans (nI_add a 1)
    refine pg_bald hx hb hK hP hL_g1 1 hF_4 rfl (vp_in_nI (by omega) (by omega)) dX15_macro_13 ?_
    refine lv_topi (fun x_10 ex_10 => ?_)
    obtain rfl : x_10 = f_3 (a + 1) := ex_10.trans (congrArg f_3 (show ((nI (a + 1)) : Int32).toNatClampNeg = (a + 1) from nI_clamp (by omega)))
    refine lv_istore_n (lv' := [(3, .int (f_3 (a + 1))), (0, .ref g1), (1, .int (nI a)), (2, .int (nI tt))]) hx hb dX15_macro_14 rfl hl (by decide) rfl (fun ls hl => ?_)
    refine lv_iload_n hx hb dX15_macro_15 rfl (lv_at hl 0 rfl) ?_
    refine lv_bipush (v := 37) hx hb dX15_macro_16 (by decide) ?_
    refine lv_icmp_eq (tgt := 33) hx hb dX15_macro_18 (by decide) (fun c_11 => ?_) (fun c_11 => ?_)
    ·
      refine lv_iconst (v := 2) hx hb dX15_macro_33 (by decide) ?_
      refine W.widen (k := 0) (n := 0) (by omega) (by omega) ?_
      exact W.iret (v := 2) hx hb hr (fun t ht hWm => ⟨⟨2, (), rfl, (by rw [hgf]; unfold mac; rw [if_neg (by omega)]; rw [if_pos (Or.inl c_11)]; rfl), ⟨F, QTm.mk ht hP hD hO hR⟩⟩, hS.F ht⟩) hS.2.2 dX15_macro_34
    ·
      refine lv_iload_n hx hb dX15_macro_21 rfl (lv_at hl 0 rfl) ?_
      refine lv_bipush (v := 95) hx hb dX15_macro_22 (by decide) ?_
      refine lv_icmp_eq (tgt := 33) hx hb dX15_macro_24 (by decide) (fun c_12 => ?_) (fun c_12 => ?_)
      ·
        refine lv_iconst (v := 2) hx hb dX15_macro_33 (by decide) ?_
        refine W.widen (k := 0) (n := 0) (by omega) (by omega) ?_
        exact W.iret (v := 2) hx hb hr (fun t ht hWm => ⟨⟨2, (), rfl, (by rw [hgf]; unfold mac; rw [if_neg (by omega)]; rw [if_pos (Or.inr (Or.inl c_12))]; rfl), ⟨F, QTm.mk ht hP hD hO hR⟩⟩, hS.F ht⟩) hS.2.2 dX15_macro_34
      ·
        refine lv_iload_n hx hb dX15_macro_27 rfl (lv_at hl 0 rfl) ?_
        refine lv_bipush (v := 45) hx hb dX15_macro_28 (by decide) ?_
        refine lv_icmp_ne (tgt := 35) hx hb dX15_macro_30 (by decide) (fun c_13 => ?_) (fun c_13 => ?_)
        ·
          refine lv_iload_n hx hb dX15_macro_35 rfl (lv_at hl 0 rfl) ?_
          refine lv_bipush (v := 123) hx hb dX15_macro_36 (by decide) ?_
          refine lv_icmp_ne (tgt := 48) hx hb dX15_macro_38 (by decide) (fun c_14 => ?_) (fun c_14 => ?_)
          ·
            refine lv_iconst (v := 0) hx hb dX15_macro_48 (by decide) ?_
            refine W.widen (k := 0) (n := 0) (by omega) (by omega) ?_
            exact W.iret (v := 0) hx hb hr (fun t ht hWm => ⟨⟨0, (), rfl, (by rw [hgf]; unfold mac; rw [if_neg (by omega)]; rw [if_neg (fun q => q.elim c_11 (fun q => q.elim c_12 c_13))]; rw [if_pos (Or.inl c_14)]; rfl), ⟨F, QTm.mk ht hP hD hO hR⟩⟩, hS.F ht⟩) hS.2.2 dX15_macro_49
          ·
            refine lv_iload_n hx hb dX15_macro_41 rfl (lv_at hl 2 rfl) ?_
            refine lv_iconst (v := 2) hx hb dX15_macro_42 (by decide) ?_
            refine lv_iadd hx hb dX15_macro_43 ?_
            refine lv_topi (fun x_15 ex_15 => ?_)
            obtain rfl : x_15 = (nI (a + 2)) := ex_15.trans (nI_add a 2)
            refine lv_iload_n hx hb dX15_macro_44 rfl (lv_at hl 3 rfl) ?_
            refine lv_icmp_lt (tgt := 50) hx hb dX15_macro_45 (by decide) (fun c_16 => ?_) (fun c_16 => ?_)
            ·
              have hi_17 : (a + 2) < tt := ltN (N := tt) (Int32.not_le.mpr c_16)
              refine lv_aload_n hx hb dX15_macro_50 rfl (lv_at hl 1 rfl) ?_
              refine lv_iload_n hx hb dX15_macro_51 rfl (lv_at hl 2 rfl) ?_
              refine lv_iconst (v := 2) hx hb dX15_macro_52 (by decide) ?_
              refine lv_iadd hx hb dX15_macro_53 ?_
              refine lv_topi (fun x_18 ex_18 => ?_)
              obtain rfl : x_18 = (nI (a + 2)) := ex_18.trans (nI_add a 2)
              refine pg_bald hx hb hK hP hL_g1 1 hF_4 rfl (vp_in_nI (by omega) (by omega)) dX15_macro_54 ?_
              refine lv_topi (fun x_19 ex_19 => ?_)
              obtain rfl : x_19 = f_3 (a + 2) := ex_19.trans (congrArg f_3 (show ((nI (a + 2)) : Int32).toNatClampNeg = (a + 2) from nI_clamp (by omega)))
              refine lv_istore (lv' := [(4, .int (f_3 (a + 2))), (3, .int (f_3 (a + 1))), (0, .ref g1), (1, .int (nI a)), (2, .int (nI tt))]) hx hb dX15_macro_55 hl (by decide) rfl (fun ls hl => ?_)
              refine lv_iload_n hx hb dX15_macro_57 rfl (lv_at hl 3 rfl) ?_
              refine lv_iconst (v := 3) hx hb dX15_macro_58 (by decide) ?_
              refine lv_iadd hx hb dX15_macro_59 ?_
              refine lv_topi (fun x_20 ex_20 => ?_)
              obtain rfl : x_20 = (nI (a + 3)) := ex_20.trans (nI_add a 3)
              refine lv_istore (lv' := [(5, .int (nI (a + 3))), (4, .int (f_3 (a + 2))), (3, .int (f_3 (a + 1))), (0, .ref g1), (1, .int (nI a)), (2, .int (nI tt))]) hx hb dX15_macro_60 hl (by decide) rfl (fun ls hl => ?_)
              refine W.widen (k := 0) (n := 0) (by omega) (by omega) ?_
              refine pl_cutm (σ := Unit) A (dC, dI) cs ty gm L [] F 99 6 (fun u0 => [(5, .int (nI (a + 3))), (4, .int (f_3 (a + 2))), (3, .int (f_3 (a + 1))), (0, .ref g1), (1, .int (nI a)), (2, .int (nI tt))]) (fun u0 => []) (fun u0 _ => (f_3 (a + 2) = 115 ∨ f_3 (a + 2) = 108 ∨ f_3 (a + 2) = 111 ∨ f_3 (a + 2) = 100 ∨ f_3 (a + 2) = 105)) ?_ (fun jn_21 => ?_)
              ·
                rintro u0 F_22 hv_23 hO hR H locs hP hD hS ls hl
                have hl : lv_has ls 6 [(5, .int (nI (a + 3))), (4, .int (f_3 (a + 2))), (3, .int (f_3 (a + 1))), (0, .ref g1), (1, .int (nI a)), (2, .int (nI tt))] := hl
                have hv_23 : (f_3 (a + 2) = 115 ∨ f_3 (a + 2) = 108 ∨ f_3 (a + 2) = 111 ∨ f_3 (a + 2) = 100 ∨ f_3 (a + 2) = 105) := hv_23
                refine W.eq (g2 := F0 m 99 ls []) rfl ?_
                obtain rfl : F = F_22 := (funext (fun a => hR a List.not_mem_nil)).symm
                refine W.widen (k := 0) (n := 0) (by omega) (by omega) ?_
                refine pl_cutm (σ := Int32) A (dC, dI) cs ty gm L [] F 126 6 (fun k5 => [(5, .int k5), (4, .int (f_3 (a + 2))), (3, .int (f_3 (a + 1))), (0, .ref g1), (1, .int (nI a)), (2, .int (nI tt))]) (fun k5 => []) (fun k5 _ => k5 = nI (mac1 f_3 tt (a + 3))) ?_ (fun jn_24 => ?_)
                ·
                  rintro k5 F_25 hv_26 hO hR H locs hP hD hS ls hl
                  have hl : lv_has ls 6 [(5, .int k5), (4, .int (f_3 (a + 2))), (3, .int (f_3 (a + 1))), (0, .ref g1), (1, .int (nI a)), (2, .int (nI tt))] := hl
                  have hv_26 : k5 = nI (mac1 f_3 tt (a + 3)) := hv_26
                  refine W.eq (g2 := F0 m 126 ls []) rfl ?_
                  obtain rfl : F = F_25 := (funext (fun a => hR a List.not_mem_nil)).symm
                  subst hv_26
                  have b1 := mac1_b f_3 tt (a + 3)
                  refine W.widen (k := 0) (n := 0) (by omega) (by omega) ?_
                  refine pl_cutm (σ := Int32) A (dC, dI) cs ty gm L [] F 144 6 (fun k6 => [(5, .int k6), (4, .int (f_3 (a + 2))), (3, .int (f_3 (a + 1))), (0, .ref g1), (1, .int (nI a)), (2, .int (nI tt))]) (fun k6 => []) (fun k6 _ => k6 = nI (mac2 f_3 tt (mac1 f_3 tt (a + 3)))) ?_ (fun jn_27 => ?_)
                  ·
                    rintro k6 F_28 hv_29 hO hR H locs hP hD hS ls hl
                    have hl : lv_has ls 6 [(5, .int k6), (4, .int (f_3 (a + 2))), (3, .int (f_3 (a + 1))), (0, .ref g1), (1, .int (nI a)), (2, .int (nI tt))] := hl
                    have hv_29 : k6 = nI (mac2 f_3 tt (mac1 f_3 tt (a + 3))) := hv_29
                    refine W.eq (g2 := F0 m 144 ls []) rfl ?_
                    obtain rfl : F = F_28 := (funext (fun a => hR a List.not_mem_nil)).symm
                    subst hv_29
                    have b2 := mac2_b f_3 tt (mac1 f_3 tt (a + 3))
                    refine lv_iload hx hb dX15_macro_144 (lv_at hl 0 rfl) ?_
                    refine lv_iload_n hx hb dX15_macro_146 rfl (lv_at hl 5 rfl) ?_
                    refine lv_icmp_ge (tgt := 168) hx hb dX15_macro_147 (by decide) (fun c_30 => ?_) (fun c_30 => ?_)
                    ·
                      have hi_31 : tt ≤ (mac2 f_3 tt (mac1 f_3 tt (a + 3))) := leN (N := tt) c_30
                      refine lv_iconst (v := 0) hx hb dX15_macro_168 (by decide) ?_
                      refine W.widen (k := 0) (n := 0) (by omega) (by omega) ?_
                      exact W.iret (v := 0) hx hb hr (fun t ht hWm => ⟨⟨0, (), rfl, (by rw [hgf]; unfold mac; rw [if_neg (by omega)]; rw [if_neg (fun q => q.elim c_11 (fun q => q.elim c_12 c_13))]; rw [if_neg (fun q => q.elim (fun q => q c_14) (fun q => absurd q (by omega)))]; rw [if_pos hv_23]; unfold mac3; rw [if_neg (fun q => absurd q.1 (by omega))]; rfl), ⟨F, QTm.mk ht hP hD hO hR⟩⟩, hS.F ht⟩) hS.2.2 dX15_macro_169
                    ·
                      have hi_32 : (mac2 f_3 tt (mac1 f_3 tt (a + 3))) < tt := ltN (N := tt) c_30
                      refine lv_aload_n hx hb dX15_macro_150 rfl (lv_at hl 3 rfl) ?_
                      refine lv_iload hx hb dX15_macro_151 (lv_at hl 0 rfl) ?_
                      refine pg_bald hx hb hK hP hL_g1 1 hF_4 rfl (vp_in_nI (by omega) (by omega)) dX15_macro_153 ?_
                      refine lv_topi (fun x_33 ex_33 => ?_)
                      obtain rfl : x_33 = f_3 (mac2 f_3 tt (mac1 f_3 tt (a + 3))) := ex_33.trans (congrArg f_3 (show ((nI (mac2 f_3 tt (mac1 f_3 tt (a + 3)))) : Int32).toNatClampNeg = (mac2 f_3 tt (mac1 f_3 tt (a + 3))) from nI_clamp (by omega)))
                      refine lv_bipush (v := 125) hx hb dX15_macro_154 (by decide) ?_
                      refine lv_icmp_ne (tgt := 168) hx hb dX15_macro_156 (by decide) (fun c_34 => ?_) (fun c_34 => ?_)
                      ·
                        refine lv_iconst (v := 0) hx hb dX15_macro_168 (by decide) ?_
                        refine W.widen (k := 0) (n := 0) (by omega) (by omega) ?_
                        exact W.iret (v := 0) hx hb hr (fun t ht hWm => ⟨⟨0, (), rfl, (by rw [hgf]; unfold mac; rw [if_neg (by omega)]; rw [if_neg (fun q => q.elim c_11 (fun q => q.elim c_12 c_13))]; rw [if_neg (fun q => q.elim (fun q => q c_14) (fun q => absurd q (by omega)))]; rw [if_pos hv_23]; unfold mac3; rw [if_neg (fun q => c_34 q.2)]; rfl), ⟨F, QTm.mk ht hP hD hO hR⟩⟩, hS.F ht⟩) hS.2.2 dX15_macro_169
                      ·
                        refine lv_iload hx hb dX15_macro_159 (lv_at hl 0 rfl) ?_
                        refine lv_iconst (v := 1) hx hb dX15_macro_161 (by decide) ?_
                        refine lv_iadd hx hb dX15_macro_162 ?_
                        refine lv_topi (fun x_35 ex_35 => ?_)
                        obtain rfl : x_35 = (nI ((mac2 f_3 tt (mac1 f_3 tt (a + 3))) + 1)) := ex_35.trans (nI_add (mac2 f_3 tt (mac1 f_3 tt (a + 3))) 1)
                        refine lv_iload_n hx hb dX15_macro_163 rfl (lv_at hl 4 rfl) ?_
                        refine lv_isub hx hb dX15_macro_164 ?_
                        refine lv_topi (fun x_36 ex_36 => ?_)
                        obtain rfl : x_36 = (nI (((mac2 f_3 tt (mac1 f_3 tt (a + 3))) + 1) - a)) := ex_36.trans (pk_sub (a := ((mac2 f_3 tt (mac1 f_3 tt (a + 3))) + 1)) (b := a) (by omega))
                        refine lv_goto (tgt := 169) hx hb dX15_macro_165 (by decide) ?_
                        refine W.widen (k := 0) (n := 0) (by omega) (by omega) ?_
                        exact W.iret (v := (nI (((mac2 f_3 tt (mac1 f_3 tt (a + 3))) + 1) - a))) hx hb hr (fun t ht hWm => ⟨⟨(nI (((mac2 f_3 tt (mac1 f_3 tt (a + 3))) + 1) - a)), (), rfl, (by rw [hgf]; unfold mac; rw [if_neg (by omega)]; rw [if_neg (fun q => q.elim c_11 (fun q => q.elim c_12 c_13))]; rw [if_neg (fun q => q.elim (fun q => q c_14) (fun q => absurd q (by omega)))]; rw [if_pos hv_23]; unfold mac3; rw [if_pos ⟨by omega, c_34⟩]), ⟨F, QTm.mk ht hP hD hO hR⟩⟩, hS.F ht⟩) hS.2.2 dX15_macro_169
                  ·
                    refine lv_iload hx hb dX15_macro_126 (lv_at hl 0 rfl) ?_
                    refine lv_iload_n hx hb dX15_macro_128 rfl (lv_at hl 5 rfl) ?_
                    refine lv_icmp_ge (tgt := 144) hx hb dX15_macro_129 (by decide) (fun c_37 => ?_) (fun c_37 => ?_)
                    ·
                      have hi_38 : tt ≤ (mac1 f_3 tt (a + 3)) := leN (N := tt) c_37
                      refine W.widen (k := 0) (n := 0) (by omega) (by omega) ?_
                      exact jn_27 (nI (mac1 f_3 tt (a + 3))) F (congrArg nI (if_neg (fun h => absurd h.1 (by omega))).symm) hO hR _ _ hP hD hS ls (lv_sub hl [0, 1, 2, 3, 4, 5] rfl)
                    ·
                      have hi_39 : (mac1 f_3 tt (a + 3)) < tt := ltN (N := tt) c_37
                      refine lv_aload_n hx hb dX15_macro_132 rfl (lv_at hl 3 rfl) ?_
                      refine lv_iload hx hb dX15_macro_133 (lv_at hl 0 rfl) ?_
                      refine pg_bald hx hb hK hP hL_g1 1 hF_4 rfl (vp_in_nI (by omega) (by omega)) dX15_macro_135 ?_
                      refine lv_topi (fun x_40 ex_40 => ?_)
                      obtain rfl : x_40 = f_3 (mac1 f_3 tt (a + 3)) := ex_40.trans (congrArg f_3 (show ((nI (mac1 f_3 tt (a + 3))) : Int32).toNatClampNeg = (mac1 f_3 tt (a + 3)) from nI_clamp (by omega)))
                      refine lv_bipush (v := 114) hx hb dX15_macro_136 (by decide) ?_
                      refine lv_icmp_ne (tgt := 144) hx hb dX15_macro_138 (by decide) (fun c_41 => ?_) (fun c_41 => ?_)
                      ·
                        refine W.widen (k := 0) (n := 0) (by omega) (by omega) ?_
                        exact jn_27 (nI (mac1 f_3 tt (a + 3))) F (congrArg nI (if_neg (fun h => c_41 h.2)).symm) hO hR _ _ hP hD hS ls (lv_sub hl [0, 1, 2, 3, 4, 5] rfl)
                      ·
                        refine lv_iinc (v := (nI ((mac1 f_3 tt (a + 3)) + 1))) (lv' := [(5, .int (nI ((mac1 f_3 tt (a + 3)) + 1))), (4, .int (f_3 (a + 2))), (3, .int (f_3 (a + 1))), (0, .ref g1), (1, .int (nI a)), (2, .int (nI tt))]) hx hb dX15_macro_141 hl (k := 0) rfl (nI_1 _) (by decide) rfl (fun ls hl => ?_)
                        refine W.widen (k := 0) (n := 0) (by omega) (by omega) ?_
                        exact jn_27 (nI ((mac1 f_3 tt (a + 3)) + 1)) F (congrArg nI (if_pos ⟨by omega, c_41⟩).symm) hO hR _ _ hP hD hS ls (lv_sub hl [0, 1, 2, 3, 4, 5] rfl)
                ·
                  refine lv_iload hx hb dX15_macro_99 (lv_at hl 0 rfl) ?_
                  refine lv_iload_n hx hb dX15_macro_101 rfl (lv_at hl 5 rfl) ?_
                  refine lv_icmp_ge (tgt := 126) hx hb dX15_macro_102 (by decide) (fun c_42 => ?_) (fun c_42 => ?_)
                  ·
                    have hi_43 : tt ≤ (a + 3) := leN (N := tt) c_42
                    refine W.widen (k := 0) (n := 0) (by omega) (by omega) ?_
                    exact jn_24 (nI (a + 3)) F (congrArg nI (if_neg (fun h => absurd h.1 (by omega))).symm) hO hR _ _ hP hD hS ls (lv_sub hl [0, 1, 2, 3, 4, 5] rfl)
                  ·
                    have hi_44 : (a + 3) < tt := ltN (N := tt) c_42
                    refine lv_aload_n hx hb dX15_macro_105 rfl (lv_at hl 3 rfl) ?_
                    refine lv_iload hx hb dX15_macro_106 (lv_at hl 0 rfl) ?_
                    refine pg_bald hx hb hK hP hL_g1 1 hF_4 rfl (vp_in_nI (by omega) (by omega)) dX15_macro_108 ?_
                    refine lv_topi (fun x_45 ex_45 => ?_)
                    obtain rfl : x_45 = f_3 (a + 3) := ex_45.trans (congrArg f_3 (show ((nI (a + 3)) : Int32).toNatClampNeg = (a + 3) from nI_clamp (by omega)))
                    refine lv_bipush (v := 49) hx hb dX15_macro_109 (by decide) ?_
                    refine lv_icmp_lt (tgt := 126) hx hb dX15_macro_111 (by decide) (fun c_46 => ?_) (fun c_46 => ?_)
                    ·
                      refine W.widen (k := 0) (n := 0) (by omega) (by omega) ?_
                      exact jn_24 (nI (a + 3)) F (congrArg nI (if_neg (fun h => h.2.1 c_46)).symm) hO hR _ _ hP hD hS ls (lv_sub hl [0, 1, 2, 3, 4, 5] rfl)
                    ·
                      refine lv_aload_n hx hb dX15_macro_114 rfl (lv_at hl 3 rfl) ?_
                      refine lv_iload hx hb dX15_macro_115 (lv_at hl 0 rfl) ?_
                      refine pg_bald hx hb hK hP hL_g1 1 hF_4 rfl (vp_in_nI (by omega) (by omega)) dX15_macro_117 ?_
                      refine lv_topi (fun x_47 ex_47 => ?_)
                      obtain rfl : x_47 = f_3 (a + 3) := ex_47.trans (congrArg f_3 (show ((nI (a + 3)) : Int32).toNatClampNeg = (a + 3) from nI_clamp (by omega)))
                      refine lv_bipush (v := 57) hx hb dX15_macro_118 (by decide) ?_
                      refine lv_icmp_gt (tgt := 126) hx hb dX15_macro_120 (by decide) (fun c_48 => ?_) (fun c_48 => ?_)
                      ·
                        refine W.widen (k := 0) (n := 0) (by omega) (by omega) ?_
                        exact jn_24 (nI (a + 3)) F (congrArg nI (if_neg (fun h => h.2.2 c_48)).symm) hO hR _ _ hP hD hS ls (lv_sub hl [0, 1, 2, 3, 4, 5] rfl)
                      ·
                        refine lv_iinc (v := (nI (a + 4))) (lv' := [(5, .int (nI (a + 4))), (4, .int (f_3 (a + 2))), (3, .int (f_3 (a + 1))), (0, .ref g1), (1, .int (nI a)), (2, .int (nI tt))]) hx hb dX15_macro_123 hl (k := 0) rfl (nI_1 _) (by decide) rfl (fun ls hl => ?_)
                        refine W.widen (k := 0) (n := 0) (by omega) (by omega) ?_
                        exact jn_24 (nI (a + 4)) F (congrArg nI (if_pos ⟨by omega, c_46, c_48⟩).symm) hO hR _ _ hP hD hS ls (lv_sub hl [0, 1, 2, 3, 4, 5] rfl)
              ·
                refine lv_iload hx hb dX15_macro_62 (lv_at hl 1 rfl) ?_
                refine lv_bipush (v := 115) hx hb dX15_macro_64 (by decide) ?_
                refine lv_icmp_eq (tgt := 99) hx hb dX15_macro_66 (by decide) (fun c_49 => ?_) (fun c_49 => ?_)
                ·
                  refine W.widen (k := 0) (n := 0) (by omega) (by omega) ?_
                  exact jn_21 () F ((Or.inl c_49)) hO hR _ _ hP hD hS ls (lv_sub hl [0, 1, 2, 3, 4, 5] rfl)
                ·
                  refine lv_iload hx hb dX15_macro_69 (lv_at hl 1 rfl) ?_
                  refine lv_bipush (v := 108) hx hb dX15_macro_71 (by decide) ?_
                  refine lv_icmp_eq (tgt := 99) hx hb dX15_macro_73 (by decide) (fun c_50 => ?_) (fun c_50 => ?_)
                  ·
                    refine W.widen (k := 0) (n := 0) (by omega) (by omega) ?_
                    exact jn_21 () F ((Or.inr (Or.inl c_50))) hO hR _ _ hP hD hS ls (lv_sub hl [0, 1, 2, 3, 4, 5] rfl)
                  ·
                    refine lv_iload hx hb dX15_macro_76 (lv_at hl 1 rfl) ?_
                    refine lv_bipush (v := 111) hx hb dX15_macro_78 (by decide) ?_
                    refine lv_icmp_eq (tgt := 99) hx hb dX15_macro_80 (by decide) (fun c_51 => ?_) (fun c_51 => ?_)
                    ·
                      refine W.widen (k := 0) (n := 0) (by omega) (by omega) ?_
                      exact jn_21 () F ((Or.inr (Or.inr (Or.inl c_51)))) hO hR _ _ hP hD hS ls (lv_sub hl [0, 1, 2, 3, 4, 5] rfl)
                    ·
                      refine lv_iload hx hb dX15_macro_83 (lv_at hl 1 rfl) ?_
                      refine lv_bipush (v := 100) hx hb dX15_macro_85 (by decide) ?_
                      refine lv_icmp_eq (tgt := 99) hx hb dX15_macro_87 (by decide) (fun c_52 => ?_) (fun c_52 => ?_)
                      ·
                        refine W.widen (k := 0) (n := 0) (by omega) (by omega) ?_
                        exact jn_21 () F ((Or.inr (Or.inr (Or.inr (Or.inl c_52))))) hO hR _ _ hP hD hS ls (lv_sub hl [0, 1, 2, 3, 4, 5] rfl)
                      ·
                        refine lv_iload hx hb dX15_macro_90 (lv_at hl 1 rfl) ?_
                        refine lv_bipush (v := 105) hx hb dX15_macro_92 (by decide) ?_
                        refine lv_icmp_eq (tgt := 99) hx hb dX15_macro_94 (by decide) (fun c_53 => ?_) (fun c_53 => ?_)
                        ·
                          refine W.widen (k := 0) (n := 0) (by omega) (by omega) ?_
                          exact jn_21 () F ((Or.inr (Or.inr (Or.inr (Or.inr c_53))))) hO hR _ _ hP hD hS ls (lv_sub hl [0, 1, 2, 3, 4, 5] rfl)
                        ·
                          refine lv_iconst (v := 0) hx hb dX15_macro_97 (by decide) ?_
                          refine W.widen (k := 0) (n := 0) (by omega) (by omega) ?_
                          exact W.iret (v := 0) hx hb hr (fun t ht hWm => ⟨⟨0, (), rfl, (by rw [hgf]; unfold mac; rw [if_neg (by omega)]; rw [if_neg (fun q => q.elim c_11 (fun q => q.elim c_12 c_13))]; rw [if_neg (fun q => q.elim (fun q => q c_14) (fun q => absurd q (by omega)))]; rw [if_neg (fun q => q.elim c_49 (fun q => q.elim c_50 (fun q => q.elim c_51 (fun q => q.elim c_52 c_53))))]; rfl), ⟨F, QTm.mk ht hP hD hO hR⟩⟩, hS.F ht⟩) hS.2.2 dX15_macro_98
            ·
              have hi_54 : tt ≤ (a + 2) := leN (N := tt) (Int32.not_lt.mp c_16)
              refine lv_iconst (v := 0) hx hb dX15_macro_48 (by decide) ?_
              refine W.widen (k := 0) (n := 0) (by omega) (by omega) ?_
              exact W.iret (v := 0) hx hb hr (fun t ht hWm => ⟨⟨0, (), rfl, (by rw [hgf]; unfold mac; rw [if_neg (by omega)]; rw [if_neg (fun q => q.elim c_11 (fun q => q.elim c_12 c_13))]; rw [if_pos (Or.inr (by omega))]; rfl), ⟨F, QTm.mk ht hP hD hO hR⟩⟩, hS.F ht⟩) hS.2.2 dX15_macro_49
        ·
          refine lv_iconst (v := 2) hx hb dX15_macro_33 (by decide) ?_
          refine W.widen (k := 0) (n := 0) (by omega) (by omega) ?_
          exact W.iret (v := 2) hx hb hr (fun t ht hWm => ⟨⟨2, (), rfl, (by rw [hgf]; unfold mac; rw [if_neg (by omega)]; rw [if_pos (Or.inr (Or.inr c_13))]; rfl), ⟨F, QTm.mk ht hP hD hO hR⟩⟩, hS.F ht⟩) hS.2.2 dX15_macro_34
  ·
    have hi_55 : tt ≤ (a + 1) := leN (N := tt) (Int32.not_lt.mp c_7)
    refine lv_iconst (v := 0) hx hb dX15_macro_7 (by decide) ?_
    refine W.widen (k := 0) (n := 0) (by omega) (by omega) ?_
    exact W.iret (v := 0) hx hb hr (fun t ht hWm => ⟨⟨0, (), rfl, (by rw [hgf]; unfold mac; rw [if_pos (by omega)]; rfl), ⟨F, QTm.mk ht hP hD hO hR⟩⟩, hS.F ht⟩) hS.2.2 dX15_macro_8
set_option maxHeartbeats 4000000 in
set_option maxRecDepth 100000 in
theorem s_X15_isD (l : Launch) (dC : Nat → ClassId) (dI : Nat → Nat → Nat) (cs : Nat → ClassId) (ty : TyM) (gm : Nat → Nat → Nat) (L : List Nat) (sz : Nat) (F : Nat → va_E) (g1 : Nat) (σ : Nat) (n1 : Nat) (a : Nat) (tt : Nat) (x3 : Int32) (hW : WTm ty gm L) (hL_g1 : g1 ∈ L) (hT_g1 : ty g1 = (17, σ, [n1])) (htn : tt ≤ n1) (ha : a ≤ 20000) : Met l yX15_isD (.code yX15_isD cX15_isD 6 (some .boolean) :: tb) ({ frames := 1, cells := 0, slots := 0, locals := 25 }) (va_Pc [.ref g1, .int (nI a), .int (nI tt), .int x3] (PTm (dC, dI) cs ty gm L F sz)) (va_Qi (fun (r : Int32) (_ : Unit) => (r = 0 ∨ (r = 1 ∧ a < tt ∧ ISD (gA (F g1)) tt a))) (fun _ T9 => ∃ F2 : Nat → va_E, QTm (dC, dI) cs ty gm L [] F F2 (va_A (va_pl L F) sz) T9) (va_A (va_pl L F) sz)) 0 0 (va_A (va_pl L F) sz) := by
  refine Met.ofW (cc := cX15_isD) (maxL := 6) (ret := (some .boolean)) (by decide) rfl ?_
  intro p e s m args below meth c s₁ B hml hv
  obtain ⟨rfl, hsz, hP, hK, hD0, hE, hO⟩ := hv
  have hx := B.exec
  have hb := B.bytes
  have hr := B.returns
  have hts : ∀ w ∈ tb, w.before _ s = true := fun w h => atoms_spec (ws := .code yX15_isD cX15_isD 6 (some .boolean) :: tb) B.pre w (List.mem_cons_of_mem _ h)
  have hown : s.vm.findClass RX15 = some m.cls := findClass_of_methodNamed B.named
  have hlocks := B.notSynchronized
  subst hsz
  have hD := hD0.self (sz := s.heap.size)
  generalize hAe : va_A (va_pl L F) s.heap.size = A at hD ⊢
  have hA : ∀ q : Nat, s.heap.size ≤ q → A q := fun q h => by rw [← hAe]; exact Or.inr h
  have hS : va_S A s.heap s.heap [] := va_S.rf
  have hR : FR ty [] F F := FR.refl
  have hl := lv_entry ([.ref g1, .int (nI a), .int (nI tt), .int x3]) (n := 6) (Nat.le_of_ble_eq_true rfl)
  rw [lg_entry_eq]
  generalize (lg_sl ([.ref g1, .int (nI a), .int (nI tt), .int x3]) ++ List.replicate (6 - (lg_sl ([.ref g1, .int (nI a), .int (nI tt), .int x3])).length) Slot.unset).toArray = ls at hl ⊢
  have hl : lv_has ls 6 [(0, .ref g1), (1, .int (nI a)), (2, .int (nI tt)), (3, .int x3)] := hl
  obtain ⟨hq_1, hq_2⟩ := hW.octs hL_g1 hT_g1
  obtain ⟨f_3, hF_4, hq_5⟩ := hO.octs hL_g1 hT_g1
  have hgf := gA_fun hF_4
  refine lv_iload_n hx hb dX15_isD_0 rfl (lv_at hl 1 rfl) ?_
  refine lv_iload_n hx hb dX15_isD_1 rfl (lv_at hl 2 rfl) ?_
  refine lv_icmp_lt (tgt := 7) hx hb dX15_isD_2 (by decide) (fun c_6 => ?_) (fun c_6 => ?_)
  ·
    have hi_7 : a < tt := ltN (N := tt) (Int32.not_le.mpr c_6)
    refine lv_iload_n hx hb dX15_isD_7 rfl (lv_at hl 1 rfl) ?_
    refine lv_istore (lv' := [(4, .int (nI a)), (0, .ref g1), (1, .int (nI a)), (2, .int (nI tt)), (3, .int x3)]) hx hb dX15_isD_8 hl (by decide) rfl (fun ls hl => ?_)
    refine W.widen (k := 0) (n := 0) (by omega) (by omega) ?_
    refine pl_loopm (σ := Nat) A (dC, dI) cs ty gm L [] F 10 6 (fun j => [(4, .int (nI j)), (0, .ref g1), (1, .int (nI a)), (2, .int (nI tt)), (3, .int x3)]) (fun j => []) (fun j _ => a ≤ j ∧ j ≤ tt ∧ (ISD (gA (F g1)) tt j → ISD (gA (F g1)) tt a)) (fun j => tt - j) ?_ a F (⟨by omega, by omega, id⟩) hO hR _ _ hP hD hS ls (lv_sub hl [0, 1, 2, 3, 4] rfl)
    rintro j F_8 hv_9 hO hR ih_10 H locs hP hD hS ls hl
    have hl : lv_has ls 6 [(4, .int (nI j)), (0, .ref g1), (1, .int (nI a)), (2, .int (nI tt)), (3, .int x3)] := hl
    have hv_9 : a ≤ j ∧ j ≤ tt ∧ (ISD (gA (F g1)) tt j → ISD (gA (F g1)) tt a) := hv_9
    refine W.eq (g2 := F0 m 10 ls []) rfl ?_
    obtain rfl : F = F_8 := (funext (fun a => hR a List.not_mem_nil)).symm
    obtain ⟨hv1, hv2, hv3⟩ := hv_9
    refine lv_iload hx hb dX15_isD_10 (lv_at hl 0 rfl) ?_
    refine lv_iload_n hx hb dX15_isD_12 rfl (lv_at hl 3 rfl) ?_
    refine lv_icmp_ge (tgt := 91) hx hb dX15_isD_13 (by decide) (fun c_11 => ?_) (fun c_11 => ?_)
    ·
      have hi_12 : tt ≤ j := leN (N := tt) c_11
      refine lv_iconst (v := 1) hx hb dX15_isD_91 (by decide) ?_
      refine W.widen (k := 0) (n := 0) (by omega) (by omega) ?_
      exact W.zret (v := 1) (ty := .boolean) hx hb hr (by decide) (fun t ht hWm => ⟨⟨1, (), rfl, (Or.inr ⟨rfl, by omega, hv3 (ISD.fin (by omega))⟩), ⟨F, QTm.mk ht hP hD hO hR⟩⟩, hS.F ht⟩) hS.2.2 dX15_isD_92
    ·
      have hi_13 : j < tt := ltN (N := tt) c_11
      refine W.widen (k := 0) (n := 0) (by omega) (by omega) ?_
      refine pl_cutm (σ := Unit) A (dC, dI) cs ty gm L [] F 48 6 (fun u0 => [(4, .int (nI j)), (0, .ref g1), (1, .int (nI a)), (2, .int (nI tt)), (3, .int x3)]) (fun u0 => []) (fun u0 _ => True) ?_ (fun jn_14 => ?_)
      ·
        rintro u0 F_15 hv_16 hO hR H locs hP hD hS ls hl
        have hl : lv_has ls 6 [(4, .int (nI j)), (0, .ref g1), (1, .int (nI a)), (2, .int (nI tt)), (3, .int x3)] := hl
        have hv_16 : True := hv_16
        refine W.eq (g2 := F0 m 48 ls []) rfl ?_
        obtain rfl : F = F_15 := (funext (fun a => hR a List.not_mem_nil)).symm
        refine lv_aload_n hx hb dX15_isD_48 rfl (lv_at hl 1 rfl) ?_
        refine lv_iload hx hb dX15_isD_49 (lv_at hl 0 rfl) ?_
        refine pg_bald hx hb hK hP hL_g1 1 hF_4 rfl (vp_in_nI (by omega) (by omega)) dX15_isD_51 ?_
        refine lv_topi (fun x_17 ex_17 => ?_)
        obtain rfl : x_17 = f_3 j := ex_17.trans (congrArg f_3 (show ((nI j) : Int32).toNatClampNeg = j from nI_clamp (by omega)))
        refine lv_bipush (v := 37) hx hb dX15_isD_52 (by decide) ?_
        refine lv_icmp_eq (tgt := 60) hx hb dX15_isD_54 (by decide) (fun c_18 => ?_) (fun c_18 => ?_)
        ·
          refine lv_aload_n hx hb dX15_isD_60 rfl (lv_at hl 1 rfl) ?_
          refine lv_iload hx hb dX15_isD_61 (lv_at hl 0 rfl) ?_
          refine lv_iload_n hx hb dX15_isD_63 rfl (lv_at hl 3 rfl) ?_
          have hFc := pg_free hD hS hA
          refine va_calli (va_runS (As := [.ref g1, .int (nI j), .int (nI tt)]) (rest := []) ⟨hx, hb, hml, hown, hts⟩ (s_X15_macro l dC dI cs ty gm L H.size F g1 σ n1 j tt hW hL_g1 hT_g1 (by first | omega | assumption | exact Or.inl rfl) (by first | omega | assumption | exact Or.inl rfl)) ⟨callB_of 3 hts (gi kt_700) rfl rfl rfl (hts _ kt_669) (hts _ kt_701) (by decide +kernel) ⟨Nat.le_of_ble_eq_true rfl, Nat.le_of_ble_eq_true rfl⟩, (hts _ kt_702)⟩ ⟨fun a U g mk q => ⟨q.1, PTm.calling q.2⟩, fun U hU hWm => ⟨rfl, PTm.mk hU hWm hP hK hD hE hO⟩⟩ rfl rfl hl.1 rfl (lv_room (Nat.le_of_ble_eq_true rfl)) dX15_isD_64 ⟨by show _ + 0 ≤ 0; omega, by show _ + 0 ≤ 0; omega⟩) hS (fun q _ h => hFc q h) hFc (fun r_19 u t H1 locs ht hvm hw hB hz1 hk1 hS => ?_)
          obtain ⟨F_20, hB1⟩ := hB
          obtain rfl : F = F_20 := (funext (fun a => hB1.2.2.2 a List.not_mem_nil)).symm
          obtain ⟨hP, hD, hO, hR⟩ := QTm.back hB1 ht hFc hR (fun q h => absurd h List.not_mem_nil)
          generalize H1 = H at hP hS ⊢
          have hw : r_19 = nI (mac (gA (F g1)) j tt) := hw
          subst hw
          refine lv_istore (lv' := [(5, .int (nI (mac (gA (F g1)) j tt))), (4, .int (nI j)), (0, .ref g1), (1, .int (nI a)), (2, .int (nI tt)), (3, .int x3)]) hx hb dX15_isD_67 hl (by decide) rfl (fun ls hl => ?_)
          have hmu := mac_u (gA (F g1)) j tt
          refine lv_iload hx hb dX15_isD_69 (lv_at hl 0 rfl) ?_
          refine lv_if_ne (tgt := 76) hx hb dX15_isD_71 (by decide) (fun c_21 => ?_) (fun c_21 => ?_)
          ·
            have hi_22 : (mac (gA (F g1)) j tt) ≠ 0 := fun q => c_21 (by rw [q]; rfl)
            have hm0 : mac (gA (F g1)) j tt ≠ 0 := fun q => c_21 (by rw [q]; rfl)
            have hmb := mac_b hm0
            refine lv_iload hx hb dX15_isD_76 (lv_at hl 1 rfl) ?_
            refine lv_iload hx hb dX15_isD_78 (lv_at hl 0 rfl) ?_
            refine lv_iconst (v := 1) hx hb dX15_isD_80 (by decide) ?_
            refine lv_isub hx hb dX15_isD_81 ?_
            refine lv_topi (fun x_23 ex_23 => ?_)
            obtain rfl : x_23 = (nI ((mac (gA (F g1)) j tt) - 1)) := ex_23.trans (pk_sub (a := (mac (gA (F g1)) j tt)) (b := 1) (by omega))
            refine lv_iadd hx hb dX15_isD_82 ?_
            refine lv_topi (fun x_24 ex_24 => ?_)
            obtain rfl : x_24 = (nI (j + ((mac (gA (F g1)) j tt) - 1))) := ex_24.trans (nI_add j ((mac (gA (F g1)) j tt) - 1))
            refine lv_istore (lv' := [(4, .int (nI (j + ((mac (gA (F g1)) j tt) - 1)))), (5, .int (nI (mac (gA (F g1)) j tt))), (0, .ref g1), (1, .int (nI a)), (2, .int (nI tt)), (3, .int x3)]) hx hb dX15_isD_83 hl (by decide) rfl (fun ls hl => ?_)
            refine lv_iinc (v := (nI ((j + ((mac (gA (F g1)) j tt) - 1)) + 1))) (lv' := [(4, .int (nI ((j + ((mac (gA (F g1)) j tt) - 1)) + 1))), (5, .int (nI (mac (gA (F g1)) j tt))), (0, .ref g1), (1, .int (nI a)), (2, .int (nI tt)), (3, .int x3)]) hx hb dX15_isD_85 hl (k := 0) rfl (nI_1 _) (by decide) rfl (fun ls hl => ?_)
            refine lv_goto (tgt := 10) hx hb dX15_isD_88 (by decide) ?_
            refine W.widen (k := 0) (n := 0) (by omega) (by omega) ?_
            exact ih_10 ((j + ((mac (gA (F g1)) j tt) - 1)) + 1) F (⟨by omega, by omega, fun h => hv3 (ISD.mcr (by rw [hgf]; exact c_18) hm0 (by rw [show j + mac (gA (F g1)) j tt = j + (mac (gA (F g1)) j tt - 1) + 1 from by omega]; exact h))⟩) (by show tt - ((j + ((mac (gA (F g1)) j tt) - 1)) + 1) < tt - j; omega) hO hR _ _ hP hD hS ls (lv_sub hl [0, 2, 3, 4, 5] rfl)
          ·
            have hi_25 : (mac (gA (F g1)) j tt) = 0 := (nI_eq (a := (mac (gA (F g1)) j tt)) (b := 0) (by omega) (by omega)).mp c_21
            refine lv_iconst (v := 0) hx hb dX15_isD_74 (by decide) ?_
            refine W.widen (k := 0) (n := 0) (by omega) (by omega) ?_
            exact W.zret (v := 0) (ty := .boolean) hx hb hr (by decide) (fun t ht hWm => ⟨⟨0, (), rfl, Or.inl rfl, ⟨F, QTm.mk ht hP hD hO hR⟩⟩, hS.F ht⟩) hS.2.2 dX15_isD_75
        ·
          refine lv_goto (tgt := 85) hx hb dX15_isD_57 (by decide) ?_
          refine lv_iinc (v := (nI (j + 1))) (lv' := [(4, .int (nI (j + 1))), (0, .ref g1), (1, .int (nI a)), (2, .int (nI tt)), (3, .int x3)]) hx hb dX15_isD_85 hl (k := 0) rfl (nI_1 _) (by decide) rfl (fun ls hl => ?_)
          refine lv_goto (tgt := 10) hx hb dX15_isD_88 (by decide) ?_
          refine W.widen (k := 0) (n := 0) (by omega) (by omega) ?_
          exact ih_10 (j + 1) F (⟨by omega, by omega, fun h => hv3 (ISD.one (by rw [hgf]; exact c_18) h)⟩) (by show tt - (j + 1) < tt - j; omega) hO hR _ _ hP hD hS ls (lv_sub hl [0, 1, 2, 3, 4] rfl)
      ·
        refine lv_aload_n hx hb dX15_isD_16 rfl (lv_at hl 1 rfl) ?_
        refine lv_iload hx hb dX15_isD_17 (lv_at hl 0 rfl) ?_
        refine pg_bald hx hb hK hP hL_g1 1 hF_4 rfl (vp_in_nI (by omega) (by omega)) dX15_isD_19 ?_
        refine lv_topi (fun x_26 ex_26 => ?_)
        obtain rfl : x_26 = f_3 j := ex_26.trans (congrArg f_3 (show ((nI j) : Int32).toNatClampNeg = j from nI_clamp (by omega)))
        refine lv_i2l (v := (f_3 j).toInt64) hx hb dX15_isD_20 rfl ?_
        refine lv_ldc2 (v := 33) hx hb hown (hts _ kt_703) dX15_isD_21 ?_
        refine lv_ldc2 (v := 126) hx hb hown (hts _ kt_704) dX15_isD_24 ?_
        have hFc := pg_free hD hS hA
        refine va_calli (va_runS (As := [.long ((f_3 j).toInt64), .long 33, .long 126]) (rest := []) ⟨hx, hb, hml, hown, hts⟩ (s_X15_in l dC dI cs ty gm L H.size F ((f_3 j).toInt64) 33 126 hW ) ⟨callB_of 3 hts (gi kt_685) rfl rfl rfl (hts _ kt_669) (hts _ kt_705) (by decide +kernel) ⟨Nat.le_of_ble_eq_true rfl, Nat.le_of_ble_eq_true rfl⟩, (hts _ kt_686)⟩ ⟨fun a U g mk q => ⟨q.1, PTm.calling q.2⟩, fun U hU hWm => ⟨rfl, PTm.mk hU hWm hP hK hD hE hO⟩⟩ rfl rfl hl.1 rfl (lv_room (Nat.le_of_ble_eq_true rfl)) dX15_isD_27 ⟨by show _ + 0 ≤ 0; omega, by show _ + 0 ≤ 0; omega⟩) hS (fun q _ h => hFc q h) hFc (fun r_27 u t H1 locs ht hvm hw hB hz1 hk1 hS => ?_)
        obtain ⟨F_28, hB1⟩ := hB
        obtain rfl : F = F_28 := (funext (fun a => hB1.2.2.2 a List.not_mem_nil)).symm
        obtain ⟨hP, hD, hO, hR⟩ := QTm.back hB1 ht hFc hR (fun q h => absurd h List.not_mem_nil)
        generalize H1 = H at hP hS ⊢
        have hw : r_27 = (if 33 ≤ (f_3 j).toInt64 ∧ (f_3 j).toInt64 ≤ 126 then 1 else 0) := hw
        have hw_29 := hw
        refine lv_if_eq (tgt := 46) hx hb dX15_isD_30 (by decide) (fun c_30 => ?_) (fun c_30 => ?_)
        ·
          refine lv_iconst (v := 0) hx hb dX15_isD_46 (by decide) ?_
          refine W.widen (k := 0) (n := 0) (by omega) (by omega) ?_
          exact W.zret (v := 0) (ty := .boolean) hx hb hr (by decide) (fun t ht hWm => ⟨⟨0, (), rfl, Or.inl rfl, ⟨F, QTm.mk ht hP hD hO hR⟩⟩, hS.F ht⟩) hS.2.2 dX15_isD_47
        ·
          refine lv_iload_n hx hb dX15_isD_33 rfl (lv_at hl 4 rfl) ?_
          refine lv_if_ne (tgt := 48) hx hb dX15_isD_34 (by decide) (fun c_31 => ?_) (fun c_31 => ?_)
          ·
            refine W.widen (k := 0) (n := 0) (by omega) (by omega) ?_
            exact jn_14 () F (trivial) hO hR _ _ hP hD hS ls (lv_sub hl [0, 1, 2, 3, 4] rfl)
          ·
            refine lv_aload_n hx hb dX15_isD_37 rfl (lv_at hl 1 rfl) ?_
            refine lv_iload hx hb dX15_isD_38 (lv_at hl 0 rfl) ?_
            refine pg_bald hx hb hK hP hL_g1 1 hF_4 rfl (vp_in_nI (by omega) (by omega)) dX15_isD_40 ?_
            refine lv_topi (fun x_32 ex_32 => ?_)
            obtain rfl : x_32 = f_3 j := ex_32.trans (congrArg f_3 (show ((nI j) : Int32).toNatClampNeg = j from nI_clamp (by omega)))
            refine lv_bipush (v := 47) hx hb dX15_isD_41 (by decide) ?_
            refine lv_icmp_ne (tgt := 48) hx hb dX15_isD_43 (by decide) (fun c_33 => ?_) (fun c_33 => ?_)
            ·
              refine W.widen (k := 0) (n := 0) (by omega) (by omega) ?_
              exact jn_14 () F (trivial) hO hR _ _ hP hD hS ls (lv_sub hl [0, 1, 2, 3, 4] rfl)
            ·
              refine lv_iconst (v := 0) hx hb dX15_isD_46 (by decide) ?_
              refine W.widen (k := 0) (n := 0) (by omega) (by omega) ?_
              exact W.zret (v := 0) (ty := .boolean) hx hb hr (by decide) (fun t ht hWm => ⟨⟨0, (), rfl, Or.inl rfl, ⟨F, QTm.mk ht hP hD hO hR⟩⟩, hS.F ht⟩) hS.2.2 dX15_isD_47
  ·
    have hi_34 : tt ≤ a := leN (N := tt) (Int32.not_lt.mp c_6)
    refine lv_iconst (v := 0) hx hb dX15_isD_5 (by decide) ?_
    refine W.widen (k := 0) (n := 0) (by omega) (by omega) ?_
    exact W.zret (v := 0) (ty := .boolean) hx hb hr (by decide) (fun t ht hWm => ⟨⟨0, (), rfl, Or.inl rfl, ⟨F, QTm.mk ht hP hD hO hR⟩⟩, hS.F ht⟩) hS.2.2 dX15_isD_6
set_option maxHeartbeats 4000000 in
set_option maxRecDepth 100000 in
theorem s_X15_bits (l : Launch) (dC : Nat → ClassId) (dI : Nat → Nat → Nat) (cs : Nat → ClassId) (ty : TyM) (gm : Nat → Nat → Nat) (L : List Nat) (sz : Nat) (F : Nat → va_E) (g1 : Nat) (σ : Nat) (n1 : Nat) (a : Nat) (tt : Nat) (hW : WTm ty gm L) (hL_g1 : g1 ∈ L) (hT_g1 : ty g1 = (17, σ, [n1])) (htn : tt ≤ n1) (ha : a ≤ tt) : Met l yX15_bits (.code yX15_bits cX15_bits 5 (some .int) :: tb) ({ frames := 1, cells := 0, slots := 0, locals := 25 }) (va_Pc [.ref g1, .int (nI a), .int (nI tt)] (PTm (dC, dI) cs ty gm L F sz)) (va_Qi (fun (r : Int32) (_ : Unit) => True) (fun _ T9 => ∃ F2 : Nat → va_E, QTm (dC, dI) cs ty gm L [] F F2 (va_A (va_pl L F) sz) T9) (va_A (va_pl L F) sz)) 0 0 (va_A (va_pl L F) sz) := by
  refine Met.ofW (cc := cX15_bits) (maxL := 5) (ret := (some .int)) (by decide) rfl ?_
  intro p e s m args below meth c s₁ B hml hv
  obtain ⟨rfl, hsz, hP, hK, hD0, hE, hO⟩ := hv
  have hx := B.exec
  have hb := B.bytes
  have hr := B.returns
  have hts : ∀ w ∈ tb, w.before _ s = true := fun w h => atoms_spec (ws := .code yX15_bits cX15_bits 5 (some .int) :: tb) B.pre w (List.mem_cons_of_mem _ h)
  have hown : s.vm.findClass RX15 = some m.cls := findClass_of_methodNamed B.named
  have hlocks := B.notSynchronized
  subst hsz
  have hD := hD0.self (sz := s.heap.size)
  generalize hAe : va_A (va_pl L F) s.heap.size = A at hD ⊢
  have hA : ∀ q : Nat, s.heap.size ≤ q → A q := fun q h => by rw [← hAe]; exact Or.inr h
  have hS : va_S A s.heap s.heap [] := va_S.rf
  have hR : FR ty [] F F := FR.refl
  have hl := lv_entry ([.ref g1, .int (nI a), .int (nI tt)]) (n := 5) (Nat.le_of_ble_eq_true rfl)
  rw [lg_entry_eq]
  generalize (lg_sl ([.ref g1, .int (nI a), .int (nI tt)]) ++ List.replicate (5 - (lg_sl ([.ref g1, .int (nI a), .int (nI tt)])).length) Slot.unset).toArray = ls at hl ⊢
  have hl : lv_has ls 5 [(0, .ref g1), (1, .int (nI a)), (2, .int (nI tt))] := hl
  obtain ⟨hq_1, hq_2⟩ := hW.octs hL_g1 hT_g1
  refine lv_iload_n hx hb dX15_bits_0 rfl (lv_at hl 2 rfl) ?_
  refine lv_iload_n hx hb dX15_bits_1 rfl (lv_at hl 1 rfl) ?_
  refine lv_isub hx hb dX15_bits_2 ?_
  refine lv_topi (fun x_3 ex_3 => ?_)
  obtain rfl : x_3 = (nI (tt - a)) := ex_3.trans (pk_sub (a := tt) (b := a) (by omega))
  refine lv_i2l (v := (nI (tt - a)).toInt64) hx hb dX15_bits_3 rfl ?_
  refine lv_lconst (v := 1) hx hb dX15_bits_4 (by decide) ?_
  refine lv_ldc2 (v := 2) hx hb hown (hts _ kt_706) dX15_bits_5 ?_
  have hFc := pg_free hD hS hA
  refine va_calli (va_runS (As := [.long ((nI (tt - a)).toInt64), .long 1, .long 2]) (rest := []) ⟨hx, hb, hml, hown, hts⟩ (s_X15_in l dC dI cs ty gm L s.heap.size F ((nI (tt - a)).toInt64) 1 2 hW ) ⟨callB_of 3 hts (gi kt_685) rfl rfl rfl (hts _ kt_669) (hts _ kt_705) (by decide +kernel) ⟨Nat.le_of_ble_eq_true rfl, Nat.le_of_ble_eq_true rfl⟩, (hts _ kt_686)⟩ ⟨fun a U g mk q => ⟨q.1, PTm.calling q.2⟩, fun U hU hWm => ⟨rfl, PTm.mk hU hWm hP hK hD hE hO⟩⟩ rfl rfl hl.1 rfl (lv_room (Nat.le_of_ble_eq_true rfl)) dX15_bits_8 ⟨by show _ + 0 ≤ 0; omega, by show _ + 0 ≤ 0; omega⟩) hS (fun q _ h => hFc q h) hFc (fun r_4 u t H1 locs ht hvm hw hB hz1 hk1 hS => ?_)
  obtain ⟨F_5, hB1⟩ := hB
  obtain rfl : F = F_5 := (funext (fun a => hB1.2.2.2 a List.not_mem_nil)).symm
  obtain ⟨hP, hD, hO, hR⟩ := QTm.back hB1 ht hFc hR (fun q h => absurd h List.not_mem_nil)
  generalize H1 = H at hP hS ⊢
  have hw : r_4 = (if 1 ≤ (nI (tt - a)).toInt64 ∧ (nI (tt - a)).toInt64 ≤ 2 then 1 else 0) := hw
  have hw_6 := hw
  refine lv_if_ne (tgt := 16) hx hb dX15_bits_11 (by decide) (fun c_7 => ?_) (fun c_7 => ?_)
  ·
    refine lv_iconst (v := 0) hx hb dX15_bits_16 (by decide) ?_
    refine lv_istore_n (lv' := [(3, .int 0), (0, .ref g1), (1, .int (nI a)), (2, .int (nI tt))]) hx hb dX15_bits_17 rfl hl (by decide) rfl (fun ls hl => ?_)
    refine lv_iload_n hx hb dX15_bits_18 rfl (lv_at hl 2 rfl) ?_
    refine lv_istore (lv' := [(4, .int (nI a)), (3, .int 0), (0, .ref g1), (1, .int (nI a)), (2, .int (nI tt))]) hx hb dX15_bits_19 hl (by decide) rfl (fun ls hl => ?_)
    refine W.widen (k := 0) (n := 0) (by omega) (by omega) ?_
    refine pl_loopm (σ := Nat × Int32) A (dC, dI) cs ty gm L [] F 21 5 (fun (j, w3) => [(4, .int (nI j)), (3, .int w3), (0, .ref g1), (1, .int (nI a)), (2, .int (nI tt))]) (fun (j, w3) => []) (fun (j, w3) _ => j ≤ tt) (fun (j, w3) => tt - j) ?_ (a, 0) F (by omega) hO hR _ _ hP hD hS ls (lv_sub hl [0, 1, 2, 3, 4] rfl)
    rintro ⟨j, w3⟩ F_8 hv_9 hO hR ih_10 H locs hP hD hS ls hl
    have hl : lv_has ls 5 [(4, .int (nI j)), (3, .int w3), (0, .ref g1), (1, .int (nI a)), (2, .int (nI tt))] := hl
    have hv_9 : j ≤ tt := hv_9
    refine W.eq (g2 := F0 m 21 ls []) rfl ?_
    obtain rfl : F = F_8 := (funext (fun a => hR a List.not_mem_nil)).symm
    refine lv_iload hx hb dX15_bits_21 (lv_at hl 0 rfl) ?_
    refine lv_iload_n hx hb dX15_bits_23 rfl (lv_at hl 4 rfl) ?_
    refine lv_icmp_ge (tgt := 58) hx hb dX15_bits_24 (by decide) (fun c_11 => ?_) (fun c_11 => ?_)
    ·
      have hi_12 : tt ≤ j := leN (N := tt) c_11
      refine lv_iload_n hx hb dX15_bits_58 rfl (lv_at hl 1 rfl) ?_
      refine lv_bipush (v := 32) hx hb dX15_bits_59 (by decide) ?_
      refine lv_icmp_gt (tgt := 68) hx hb dX15_bits_61 (by decide) (fun c_13 => ?_) (fun c_13 => ?_)
      ·
        refine lv_iconst (v := (-1)) hx hb dX15_bits_68 (by decide) ?_
        refine W.widen (k := 0) (n := 0) (by omega) (by omega) ?_
        exact W.iret (v := (-1)) hx hb hr (fun t ht hWm => ⟨⟨(-1), (), rfl, trivial, ⟨F, QTm.mk ht hP hD hO hR⟩⟩, hS.F ht⟩) hS.2.2 dX15_bits_69
      ·
        refine lv_iload_n hx hb dX15_bits_64 rfl (lv_at hl 1 rfl) ?_
        refine lv_goto (tgt := 69) hx hb dX15_bits_65 (by decide) ?_
        refine W.widen (k := 0) (n := 0) (by omega) (by omega) ?_
        exact W.iret (v := w3) hx hb hr (fun t ht hWm => ⟨⟨w3, (), rfl, trivial, ⟨F, QTm.mk ht hP hD hO hR⟩⟩, hS.F ht⟩) hS.2.2 dX15_bits_69
    ·
      have hi_14 : j < tt := ltN (N := tt) c_11
      refine lv_aload_n hx hb dX15_bits_27 rfl (lv_at hl 2 rfl) ?_
      refine lv_iload hx hb dX15_bits_28 (lv_at hl 0 rfl) ?_
      obtain ⟨f_15, hF_16, hq_17⟩ := hO.octs hL_g1 hT_g1
      refine pg_bald hx hb hK hP hL_g1 1 hF_16 rfl (vp_in_nI (by omega) (by omega)) dX15_bits_30 ?_
      refine lv_topi (fun x_18 ex_18 => ?_)
      obtain rfl : x_18 = f_15 j := ex_18.trans (congrArg f_15 (show ((nI j) : Int32).toNatClampNeg = j from nI_clamp (by omega)))
      have hFc := pg_free hD hS hA
      refine va_calli (va_runS (As := [.int (f_15 j)]) (rest := []) ⟨hx, hb, hml, hown, hts⟩ (s_X15_isDigit l dC dI cs ty gm L H.size F (f_15 j) hW ) ⟨callB_of 1 hts (gi kt_687) rfl rfl rfl (hts _ kt_669) (hts _ kt_707) (by decide +kernel) ⟨Nat.le_of_ble_eq_true rfl, Nat.le_of_ble_eq_true rfl⟩, (hts _ kt_688)⟩ ⟨fun a U g mk q => ⟨q.1, PTm.calling q.2⟩, fun U hU hWm => ⟨rfl, PTm.mk hU hWm hP hK hD hE hO⟩⟩ rfl rfl hl.1 rfl (lv_room (Nat.le_of_ble_eq_true rfl)) dX15_bits_31 ⟨by show _ + 0 ≤ 0; omega, by show _ + 0 ≤ 0; omega⟩) hS (fun q _ h => hFc q h) hFc (fun r_19 u t H1 locs ht hvm hw hB hz1 hk1 hS => ?_)
      obtain ⟨F_20, hB1⟩ := hB
      obtain rfl : F = F_20 := (funext (fun a => hB1.2.2.2 a List.not_mem_nil)).symm
      obtain ⟨hP, hD, hO, hR⟩ := QTm.back hB1 ht hFc hR (fun q h => absurd h List.not_mem_nil)
      generalize H1 = H at hP hS ⊢
      have hw : (r_19 = 0 ∨ r_19 = 1) := hw
      have hw_21 := hw
      refine lv_if_ne (tgt := 39) hx hb dX15_bits_34 (by decide) (fun c_22 => ?_) (fun c_22 => ?_)
      ·
        refine lv_bipush (v := 10) hx hb dX15_bits_39 (by decide) ?_
        refine lv_iload_n hx hb dX15_bits_41 rfl (lv_at hl 1 rfl) ?_
        refine lv_imul hx hb dX15_bits_42 ?_
        refine lv_topi (fun x_23 ex_23 => ?_)
        refine lv_aload_n hx hb dX15_bits_43 rfl (lv_at hl 2 rfl) ?_
        refine lv_iload hx hb dX15_bits_44 (lv_at hl 0 rfl) ?_
        refine pg_bald hx hb hK hP hL_g1 1 hF_16 rfl (vp_in_nI (by omega) (by omega)) dX15_bits_46 ?_
        refine lv_topi (fun x_24 ex_24 => ?_)
        obtain rfl : x_24 = f_15 j := ex_24.trans (congrArg f_15 (show ((nI j) : Int32).toNatClampNeg = j from nI_clamp (by omega)))
        refine lv_iadd hx hb dX15_bits_47 ?_
        refine lv_topi (fun x_25 ex_25 => ?_)
        refine lv_bipush (v := 48) hx hb dX15_bits_48 (by decide) ?_
        refine lv_isub hx hb dX15_bits_50 ?_
        refine lv_topi (fun x_26 ex_26 => ?_)
        refine lv_istore_n (lv' := [(3, .int x_26), (4, .int (nI j)), (0, .ref g1), (1, .int (nI a)), (2, .int (nI tt))]) hx hb dX15_bits_51 rfl hl (by decide) rfl (fun ls hl => ?_)
        refine lv_iinc (v := (nI (j + 1))) (lv' := [(4, .int (nI (j + 1))), (3, .int x_26), (0, .ref g1), (1, .int (nI a)), (2, .int (nI tt))]) hx hb dX15_bits_52 hl (k := 1) rfl (nI_1 _) (by decide) rfl (fun ls hl => ?_)
        refine lv_goto (tgt := 21) hx hb dX15_bits_55 (by decide) ?_
        refine W.widen (k := 0) (n := 0) (by omega) (by omega) ?_
        exact ih_10 ((j + 1), x_26) F (by first | omega | exact ⟨by omega, by omega⟩ | trivial) (by show tt - (j + 1) < tt - j; omega) hO hR _ _ hP hD hS ls (lv_sub hl [0, 1, 2, 3, 4] rfl)
      ·
        refine lv_iconst (v := (-1)) hx hb dX15_bits_37 (by decide) ?_
        refine W.widen (k := 0) (n := 0) (by omega) (by omega) ?_
        exact W.iret (v := (-1)) hx hb hr (fun t ht hWm => ⟨⟨(-1), (), rfl, trivial, ⟨F, QTm.mk ht hP hD hO hR⟩⟩, hS.F ht⟩) hS.2.2 dX15_bits_38
  ·
    refine lv_iconst (v := (-1)) hx hb dX15_bits_14 (by decide) ?_
    refine W.widen (k := 0) (n := 0) (by omega) (by omega) ?_
    exact W.iret (v := (-1)) hx hb hr (fun t ht hWm => ⟨⟨(-1), (), rfl, trivial, ⟨F, QTm.mk ht hP hD hO hR⟩⟩, hS.F ht⟩) hS.2.2 dX15_bits_15
set_option maxHeartbeats 4000000 in
set_option maxRecDepth 100000 in
theorem s_X15_slashOf (l : Launch) (dC : Nat → ClassId) (dI : Nat → Nat → Nat) (cs : Nat → ClassId) (ty : TyM) (gm : Nat → Nat → Nat) (L : List Nat) (sz : Nat) (F : Nat → va_E) (g1 : Nat) (σ : Nat) (n1 : Nat) (a : Nat) (tt : Nat) (hW : WTm ty gm L) (hL_g1 : g1 ∈ L) (hT_g1 : ty g1 = (17, σ, [n1])) (htn : tt ≤ n1) (ha : a ≤ 20000) : Met l yX15_slashOf (.code yX15_slashOf cX15_slashOf 4 (some .int) :: tb) ({ frames := 0, cells := 0, slots := 0, locals := 0 }) (va_Pc [.ref g1, .int (nI a), .int (nI tt)] (PTm (dC, dI) cs ty gm L F sz)) (va_Qi (fun (r : Int32) (_ : Unit) => (∃ k : Nat, a ≤ k ∧ k ≤ max a tt ∧ r = nI k)) (fun _ T9 => ∃ F2 : Nat → va_E, QTm (dC, dI) cs ty gm L [] F F2 (va_A (va_pl L F) sz) T9) (va_A (va_pl L F) sz)) 0 0 (va_A (va_pl L F) sz) := by
  refine Met.ofW (cc := cX15_slashOf) (maxL := 4) (ret := (some .int)) (by decide) rfl ?_
  intro p e s m args below meth c s₁ B hml hv
  obtain ⟨rfl, hsz, hP, hK, hD0, hE, hO⟩ := hv
  have hx := B.exec
  have hb := B.bytes
  have hr := B.returns
  have hts : ∀ w ∈ tb, w.before _ s = true := fun w h => atoms_spec (ws := .code yX15_slashOf cX15_slashOf 4 (some .int) :: tb) B.pre w (List.mem_cons_of_mem _ h)
  have hown : s.vm.findClass RX15 = some m.cls := findClass_of_methodNamed B.named
  have hlocks := B.notSynchronized
  subst hsz
  have hD := hD0.self (sz := s.heap.size)
  generalize hAe : va_A (va_pl L F) s.heap.size = A at hD ⊢
  have hA : ∀ q : Nat, s.heap.size ≤ q → A q := fun q h => by rw [← hAe]; exact Or.inr h
  have hS : va_S A s.heap s.heap [] := va_S.rf
  have hR : FR ty [] F F := FR.refl
  have hl := lv_entry ([.ref g1, .int (nI a), .int (nI tt)]) (n := 4) (Nat.le_of_ble_eq_true rfl)
  rw [lg_entry_eq]
  generalize (lg_sl ([.ref g1, .int (nI a), .int (nI tt)]) ++ List.replicate (4 - (lg_sl ([.ref g1, .int (nI a), .int (nI tt)])).length) Slot.unset).toArray = ls at hl ⊢
  have hl : lv_has ls 4 [(0, .ref g1), (1, .int (nI a)), (2, .int (nI tt))] := hl
  obtain ⟨hq_1, hq_2⟩ := hW.octs hL_g1 hT_g1
  refine lv_iload_n hx hb dX15_slashOf_0 rfl (lv_at hl 1 rfl) ?_
  refine lv_istore_n (lv' := [(3, .int (nI a)), (0, .ref g1), (1, .int (nI a)), (2, .int (nI tt))]) hx hb dX15_slashOf_1 rfl hl (by decide) rfl (fun ls hl => ?_)
  refine W.widen (k := 0) (n := 0) (by omega) (by omega) ?_
  refine pl_loopm (σ := Nat) A (dC, dI) cs ty gm L [] F 2 4 (fun j => [(3, .int (nI j)), (0, .ref g1), (1, .int (nI a)), (2, .int (nI tt))]) (fun j => []) (fun j _ => a ≤ j ∧ j ≤ max a tt) (fun j => tt - j) ?_ a F (⟨by omega, by omega⟩) hO hR _ _ hP hD hS ls (lv_sub hl [0, 1, 2, 3] rfl)
  rintro j F_3 hv_4 hO hR ih_5 H locs hP hD hS ls hl
  have hl : lv_has ls 4 [(3, .int (nI j)), (0, .ref g1), (1, .int (nI a)), (2, .int (nI tt))] := hl
  have hv_4 : a ≤ j ∧ j ≤ max a tt := hv_4
  refine W.eq (g2 := F0 m 2 ls []) rfl ?_
  obtain rfl : F = F_3 := (funext (fun a => hR a List.not_mem_nil)).symm
  obtain ⟨hv1, hv2⟩ := hv_4
  refine lv_iload_n hx hb dX15_slashOf_2 rfl (lv_at hl 0 rfl) ?_
  refine lv_iload_n hx hb dX15_slashOf_3 rfl (lv_at hl 3 rfl) ?_
  refine lv_icmp_ge (tgt := 21) hx hb dX15_slashOf_4 (by decide) (fun c_6 => ?_) (fun c_6 => ?_)
  ·
    have hi_7 : tt ≤ j := leN (N := tt) c_6
    refine lv_iload_n hx hb dX15_slashOf_21 rfl (lv_at hl 0 rfl) ?_
    refine W.widen (k := 0) (n := 0) (by omega) (by omega) ?_
    exact W.iret (v := (nI j)) hx hb hr (fun t ht hWm => ⟨⟨(nI j), (), rfl, ⟨j, by omega, by omega, rfl⟩, ⟨F, QTm.mk ht hP hD hO hR⟩⟩, hS.F ht⟩) hS.2.2 dX15_slashOf_22
  ·
    have hi_8 : j < tt := ltN (N := tt) c_6
    refine lv_aload_n hx hb dX15_slashOf_7 rfl (lv_at hl 1 rfl) ?_
    refine lv_iload_n hx hb dX15_slashOf_8 rfl (lv_at hl 0 rfl) ?_
    obtain ⟨f_9, hF_10, hq_11⟩ := hO.octs hL_g1 hT_g1
    refine pg_bald hx hb hK hP hL_g1 1 hF_10 rfl (vp_in_nI (by omega) (by omega)) dX15_slashOf_9 ?_
    refine lv_topi (fun x_12 ex_12 => ?_)
    obtain rfl : x_12 = f_9 j := ex_12.trans (congrArg f_9 (show ((nI j) : Int32).toNatClampNeg = j from nI_clamp (by omega)))
    refine lv_bipush (v := 47) hx hb dX15_slashOf_10 (by decide) ?_
    refine lv_icmp_eq (tgt := 21) hx hb dX15_slashOf_12 (by decide) (fun c_13 => ?_) (fun c_13 => ?_)
    ·
      refine lv_iload_n hx hb dX15_slashOf_21 rfl (lv_at hl 0 rfl) ?_
      refine W.widen (k := 0) (n := 0) (by omega) (by omega) ?_
      exact W.iret (v := (nI j)) hx hb hr (fun t ht hWm => ⟨⟨(nI j), (), rfl, ⟨j, by omega, by omega, rfl⟩, ⟨F, QTm.mk ht hP hD hO hR⟩⟩, hS.F ht⟩) hS.2.2 dX15_slashOf_22
    ·
      refine lv_iinc (v := (nI (j + 1))) (lv' := [(3, .int (nI (j + 1))), (0, .ref g1), (1, .int (nI a)), (2, .int (nI tt))]) hx hb dX15_slashOf_15 hl (k := 0) rfl (nI_1 _) (by decide) rfl (fun ls hl => ?_)
      refine lv_goto (tgt := 2) hx hb dX15_slashOf_18 (by decide) ?_
      refine W.widen (k := 0) (n := 0) (by omega) (by omega) ?_
      exact ih_5 (j + 1) F (⟨by omega, by omega⟩) (by show tt - (j + 1) < tt - j; omega) hO hR _ _ hP hD hS ls (lv_sub hl [0, 1, 2, 3] rfl)
set_option maxHeartbeats 4000000 in
set_option maxRecDepth 100000 in
theorem s_X15_lineEnd (l : Launch) (dC : Nat → ClassId) (dI : Nat → Nat → Nat) (cs : Nat → ClassId) (ty : TyM) (gm : Nat → Nat → Nat) (L : List Nat) (sz : Nat) (F : Nat → va_E) (g1 : Nat) (σ : Nat) (n1 : Nat) (a : Nat) (tt : Nat) (hW : WTm ty gm L) (hL_g1 : g1 ∈ L) (hT_g1 : ty g1 = (17, σ, [n1])) (htn : tt ≤ n1) (ha : a < tt) : Met l yX15_lineEnd (.code yX15_lineEnd cX15_lineEnd 4 (some .int) :: tb) ({ frames := 1, cells := 0, slots := 0, locals := 21 }) (va_Pc [.ref g1, .int (nI a), .int (nI tt)] (PTm (dC, dI) cs ty gm L F sz)) (va_Qi (fun (r : Int32) (_ : Unit) => (∃ k : Nat, a < k ∧ k ≤ tt ∧ r = nI k)) (fun _ T9 => ∃ F2 : Nat → va_E, QTm (dC, dI) cs ty gm L [] F F2 (va_A (va_pl L F) sz) T9) (va_A (va_pl L F) sz)) 0 0 (va_A (va_pl L F) sz) := by
  refine Met.ofW (cc := cX15_lineEnd) (maxL := 4) (ret := (some .int)) (by decide) rfl ?_
  intro p e s m args below meth c s₁ B hml hv
  obtain ⟨rfl, hsz, hP, hK, hD0, hE, hO⟩ := hv
  have hx := B.exec
  have hb := B.bytes
  have hr := B.returns
  have hts : ∀ w ∈ tb, w.before _ s = true := fun w h => atoms_spec (ws := .code yX15_lineEnd cX15_lineEnd 4 (some .int) :: tb) B.pre w (List.mem_cons_of_mem _ h)
  have hown : s.vm.findClass RX15 = some m.cls := findClass_of_methodNamed B.named
  have hlocks := B.notSynchronized
  subst hsz
  have hD := hD0.self (sz := s.heap.size)
  generalize hAe : va_A (va_pl L F) s.heap.size = A at hD ⊢
  have hA : ∀ q : Nat, s.heap.size ≤ q → A q := fun q h => by rw [← hAe]; exact Or.inr h
  have hS : va_S A s.heap s.heap [] := va_S.rf
  have hR : FR ty [] F F := FR.refl
  have hl := lv_entry ([.ref g1, .int (nI a), .int (nI tt)]) (n := 4) (Nat.le_of_ble_eq_true rfl)
  rw [lg_entry_eq]
  generalize (lg_sl ([.ref g1, .int (nI a), .int (nI tt)]) ++ List.replicate (4 - (lg_sl ([.ref g1, .int (nI a), .int (nI tt)])).length) Slot.unset).toArray = ls at hl ⊢
  have hl : lv_has ls 4 [(0, .ref g1), (1, .int (nI a)), (2, .int (nI tt))] := hl
  obtain ⟨hq_1, hq_2⟩ := hW.octs hL_g1 hT_g1
  refine lv_iload_n hx hb dX15_lineEnd_0 rfl (lv_at hl 1 rfl) ?_
  refine lv_istore_n (lv' := [(3, .int (nI a)), (0, .ref g1), (1, .int (nI a)), (2, .int (nI tt))]) hx hb dX15_lineEnd_1 rfl hl (by decide) rfl (fun ls hl => ?_)
  refine W.widen (k := 0) (n := 0) (by omega) (by omega) ?_
  refine pl_loopm (σ := Nat) A (dC, dI) cs ty gm L [] F 2 4 (fun j => [(3, .int (nI j)), (0, .ref g1), (1, .int (nI a)), (2, .int (nI tt))]) (fun j => []) (fun j _ => a ≤ j ∧ j ≤ tt) (fun j => tt - j) ?_ a F (⟨by omega, by omega⟩) hO hR _ _ hP hD hS ls (lv_sub hl [0, 1, 2, 3] rfl)
  rintro j F_3 hv_4 hO hR ih_5 H locs hP hD hS ls hl
  have hl : lv_has ls 4 [(3, .int (nI j)), (0, .ref g1), (1, .int (nI a)), (2, .int (nI tt))] := hl
  have hv_4 : a ≤ j ∧ j ≤ tt := hv_4
  refine W.eq (g2 := F0 m 2 ls []) rfl ?_
  obtain rfl : F = F_3 := (funext (fun a => hR a List.not_mem_nil)).symm
  obtain ⟨hv1, hv2⟩ := hv_4
  refine lv_iload_n hx hb dX15_lineEnd_2 rfl (lv_at hl 0 rfl) ?_
  refine lv_iload_n hx hb dX15_lineEnd_3 rfl (lv_at hl 3 rfl) ?_
  refine lv_icmp_ge (tgt := 21) hx hb dX15_lineEnd_4 (by decide) (fun c_6 => ?_) (fun c_6 => ?_)
  ·
    have hi_7 : tt ≤ j := leN (N := tt) c_6
    refine lv_iload_n hx hb dX15_lineEnd_21 rfl (lv_at hl 3 rfl) ?_
    refine lv_iload_n hx hb dX15_lineEnd_22 rfl (lv_at hl 0 rfl) ?_
    refine lv_iconst (v := 1) hx hb dX15_lineEnd_23 (by decide) ?_
    refine lv_iadd hx hb dX15_lineEnd_24 ?_
    refine lv_topi (fun x_8 ex_8 => ?_)
    obtain rfl : x_8 = (nI (j + 1)) := ex_8.trans (nI_add j 1)
    refine va_mmin hx hb (by rw [hml]; exact hl.1.symm) hown (hts _ kt_708) (hts _ kt_26) (hts _ kt_19) (hts _ kt_27) (Nat.le_of_ble_eq_true rfl) (Nat.le_of_ble_eq_true rfl) (by show _ ≤ 0; omega) (by show _ ≤ 0; omega) dX15_lineEnd_25 ?_
    refine lv_topi (fun x_9 ex_9 => ?_)
    obtain rfl : x_9 = (nI (min tt (j + 1))) := ex_9.trans (minN tt (j + 1) (by omega) (by omega))
    refine W.widen (k := 0) (n := 0) (by omega) (by omega) ?_
    exact W.iret (v := (nI (min tt (j + 1)))) hx hb hr (fun t ht hWm => ⟨⟨(nI (min tt (j + 1))), (), rfl, ⟨min tt (j + 1), by omega, by omega, rfl⟩, ⟨F, QTm.mk ht hP hD hO hR⟩⟩, hS.F ht⟩) hS.2.2 dX15_lineEnd_28
  ·
    have hi_10 : j < tt := ltN (N := tt) c_6
    refine lv_aload_n hx hb dX15_lineEnd_7 rfl (lv_at hl 1 rfl) ?_
    refine lv_iload_n hx hb dX15_lineEnd_8 rfl (lv_at hl 0 rfl) ?_
    obtain ⟨f_11, hF_12, hq_13⟩ := hO.octs hL_g1 hT_g1
    refine pg_bald hx hb hK hP hL_g1 1 hF_12 rfl (vp_in_nI (by omega) (by omega)) dX15_lineEnd_9 ?_
    refine lv_topi (fun x_14 ex_14 => ?_)
    obtain rfl : x_14 = f_11 j := ex_14.trans (congrArg f_11 (show ((nI j) : Int32).toNatClampNeg = j from nI_clamp (by omega)))
    refine lv_bipush (v := 10) hx hb dX15_lineEnd_10 (by decide) ?_
    refine lv_icmp_eq (tgt := 21) hx hb dX15_lineEnd_12 (by decide) (fun c_15 => ?_) (fun c_15 => ?_)
    ·
      refine lv_iload_n hx hb dX15_lineEnd_21 rfl (lv_at hl 3 rfl) ?_
      refine lv_iload_n hx hb dX15_lineEnd_22 rfl (lv_at hl 0 rfl) ?_
      refine lv_iconst (v := 1) hx hb dX15_lineEnd_23 (by decide) ?_
      refine lv_iadd hx hb dX15_lineEnd_24 ?_
      refine lv_topi (fun x_16 ex_16 => ?_)
      obtain rfl : x_16 = (nI (j + 1)) := ex_16.trans (nI_add j 1)
      refine va_mmin hx hb (by rw [hml]; exact hl.1.symm) hown (hts _ kt_708) (hts _ kt_26) (hts _ kt_19) (hts _ kt_27) (Nat.le_of_ble_eq_true rfl) (Nat.le_of_ble_eq_true rfl) (by show _ ≤ 0; omega) (by show _ ≤ 0; omega) dX15_lineEnd_25 ?_
      refine lv_topi (fun x_17 ex_17 => ?_)
      obtain rfl : x_17 = (nI (min tt (j + 1))) := ex_17.trans (minN tt (j + 1) (by omega) (by omega))
      refine W.widen (k := 0) (n := 0) (by omega) (by omega) ?_
      exact W.iret (v := (nI (min tt (j + 1)))) hx hb hr (fun t ht hWm => ⟨⟨(nI (min tt (j + 1))), (), rfl, ⟨min tt (j + 1), by omega, by omega, rfl⟩, ⟨F, QTm.mk ht hP hD hO hR⟩⟩, hS.F ht⟩) hS.2.2 dX15_lineEnd_28
    ·
      refine lv_iinc (v := (nI (j + 1))) (lv' := [(3, .int (nI (j + 1))), (0, .ref g1), (1, .int (nI a)), (2, .int (nI tt))]) hx hb dX15_lineEnd_15 hl (k := 0) rfl (nI_1 _) (by decide) rfl (fun ls hl => ?_)
      refine lv_goto (tgt := 2) hx hb dX15_lineEnd_18 (by decide) ?_
      refine W.widen (k := 0) (n := 0) (by omega) (by omega) ?_
      exact ih_5 (j + 1) F (⟨by omega, by omega⟩) (by show tt - (j + 1) < tt - j; omega) hO hR _ _ hP hD hS ls (lv_sub hl [0, 1, 2, 3] rfl)
set_option maxHeartbeats 4000000 in
set_option maxRecDepth 100000 in
theorem s_X15_blankFrom (l : Launch) (dC : Nat → ClassId) (dI : Nat → Nat → Nat) (cs : Nat → ClassId) (ty : TyM) (gm : Nat → Nat → Nat) (L : List Nat) (sz : Nat) (F : Nat → va_E) (h0 : Nat) (ρ : Nat) (r0 : Nat) (n : Nat) (z : Nat) (a : Nat) (hW : WTm ty gm L) (hL_h0 : h0 ∈ L) (hT_h0 : ty h0 = (14, ρ, [r0, n])) (hF0 : F h0 = .inr (14, [.ref r0, .int (nI z)])) (hzn : z ≤ n) (ha : a ≤ 20000) : Met l yX15_blankFrom (.code yX15_blankFrom cX15_blankFrom 3 (some .int) :: tb) ({ frames := 0, cells := 0, slots := 0, locals := 0 }) (va_Pc [.ref h0, .int (nI a)] (PTm (dC, dI) cs ty gm L F sz)) (va_Qi (fun (r : Int32) (_ : Unit) => (∃ k : Nat, a ≤ k ∧ k ≤ max a z ∧ r = nI k ∧ (k < z → gA (F r0) k ≠ 32))) (fun _ T9 => ∃ F2 : Nat → va_E, QTm (dC, dI) cs ty gm L [] F F2 (va_A (va_pl L F) sz) T9) (va_A (va_pl L F) sz)) 0 0 (va_A (va_pl L F) sz) := by
  refine Met.ofW (cc := cX15_blankFrom) (maxL := 3) (ret := (some .int)) (by decide) rfl ?_
  intro p e s m args below meth c s₁ B hml hv
  obtain ⟨rfl, hsz, hP, hK, hD0, hE, hO⟩ := hv
  have hx := B.exec
  have hb := B.bytes
  have hr := B.returns
  have hts : ∀ w ∈ tb, w.before _ s = true := fun w h => atoms_spec (ws := .code yX15_blankFrom cX15_blankFrom 3 (some .int) :: tb) B.pre w (List.mem_cons_of_mem _ h)
  have hown : s.vm.findClass RX15 = some m.cls := findClass_of_methodNamed B.named
  have hlocks := B.notSynchronized
  subst hsz
  have hD := hD0.self (sz := s.heap.size)
  generalize hAe : va_A (va_pl L F) s.heap.size = A at hD ⊢
  have hA : ∀ q : Nat, s.heap.size ≤ q → A q := fun q h => by rw [← hAe]; exact Or.inr h
  have hS : va_S A s.heap s.heap [] := va_S.rf
  have hR : FR ty [] F F := FR.refl
  have hl := lv_entry ([.ref h0, .int (nI a)]) (n := 3) (Nat.le_of_ble_eq_true rfl)
  rw [lg_entry_eq]
  generalize (lg_sl ([.ref h0, .int (nI a)]) ++ List.replicate (3 - (lg_sl ([.ref h0, .int (nI a)])).length) Slot.unset).toArray = ls at hl ⊢
  have hl : lv_has ls 3 [(0, .ref h0), (1, .int (nI a))] := hl
  obtain ⟨hi_1, ht_2, hq_3⟩ := hW.txt hL_h0 hT_h0
  obtain ⟨hq_4, hq_5⟩ := hW.octs hi_1 ht_2
  obtain ⟨f_6, hF_7, hq_8⟩ := hO.octs hi_1 ht_2
  have hgf := gA_fun hF_7
  refine lv_iload_n hx hb dX15_blankFrom_0 rfl (lv_at hl 1 rfl) ?_
  refine lv_istore_n (lv' := [(2, .int (nI a)), (0, .ref h0), (1, .int (nI a))]) hx hb dX15_blankFrom_1 rfl hl (by decide) rfl (fun ls hl => ?_)
  refine W.widen (k := 0) (n := 0) (by omega) (by omega) ?_
  refine pl_loopm (σ := Nat) A (dC, dI) cs ty gm L [] F 2 3 (fun j => [(2, .int (nI j)), (0, .ref h0), (1, .int (nI a))]) (fun j => []) (fun j _ => a ≤ j ∧ j ≤ max a z) (fun j => max a z - j) ?_ a F (⟨by omega, by omega⟩) hO hR _ _ hP hD hS ls (lv_sub hl [0, 1, 2] rfl)
  rintro j F_9 hv_10 hO hR ih_11 H locs hP hD hS ls hl
  have hl : lv_has ls 3 [(2, .int (nI j)), (0, .ref h0), (1, .int (nI a))] := hl
  have hv_10 : a ≤ j ∧ j ≤ max a z := hv_10
  refine W.eq (g2 := F0 m 2 ls []) rfl ?_
  obtain rfl : F = F_9 := (funext (fun a => hR a List.not_mem_nil)).symm
  obtain ⟨hv1, hv2⟩ := hv_10
  refine lv_iload_n hx hb dX15_blankFrom_2 rfl (lv_at hl 0 rfl) ?_
  refine lv_aload_n hx hb dX15_blankFrom_3 rfl (lv_at hl 1 rfl) ?_
  refine pg_get (ci := 14) (v := .int (nI z)) (C := RX14) (T := TX14) (N := 2) hx hb hts it_14 hown hK hP hL_h0 hF0 rfl 1 (by decide) (hts _ kt_709) (fun _ h9 => h9) rfl dX15_blankFrom_4 ?_
  refine lv_icmp_ge (tgt := 27) hx hb dX15_blankFrom_7 (by decide) (fun c_12 => ?_) (fun c_12 => ?_)
  ·
    have hi_13 : z ≤ j := leN (N := z) c_12
    refine lv_iload_n hx hb dX15_blankFrom_27 rfl (lv_at hl 0 rfl) ?_
    refine W.widen (k := 0) (n := 0) (by omega) (by omega) ?_
    exact W.iret (v := (nI j)) hx hb hr (fun t ht hWm => ⟨⟨(nI j), (), rfl, ⟨j, by omega, by omega, rfl, fun h => by omega⟩, ⟨F, QTm.mk ht hP hD hO hR⟩⟩, hS.F ht⟩) hS.2.2 dX15_blankFrom_28
  ·
    have hi_14 : j < z := ltN (N := z) c_12
    refine lv_aload_n hx hb dX15_blankFrom_10 rfl (lv_at hl 1 rfl) ?_
    refine pg_get (ci := 14) (v := .ref r0) (C := RX14) (T := TX14) (N := 2) hx hb hts it_14 hown hK hP hL_h0 hF0 rfl 0 (by decide) (hts _ kt_710) (fun _ h9 => h9) rfl dX15_blankFrom_11 ?_
    refine lv_iload_n hx hb dX15_blankFrom_14 rfl (lv_at hl 0 rfl) ?_
    refine pg_bald hx hb hK hP hi_1 1 hF_7 rfl (vp_in_nI (by omega) (by omega)) dX15_blankFrom_15 ?_
    refine lv_topi (fun x_15 ex_15 => ?_)
    obtain rfl : x_15 = f_6 j := ex_15.trans (congrArg f_6 (show ((nI j) : Int32).toNatClampNeg = j from nI_clamp (by omega)))
    refine lv_bipush (v := 32) hx hb dX15_blankFrom_16 (by decide) ?_
    refine lv_icmp_ne (tgt := 27) hx hb dX15_blankFrom_18 (by decide) (fun c_16 => ?_) (fun c_16 => ?_)
    ·
      refine lv_iload_n hx hb dX15_blankFrom_27 rfl (lv_at hl 0 rfl) ?_
      refine W.widen (k := 0) (n := 0) (by omega) (by omega) ?_
      exact W.iret (v := (nI j)) hx hb hr (fun t ht hWm => ⟨⟨(nI j), (), rfl, ⟨j, by omega, by omega, rfl, fun _ => by rw [hgf]; exact c_16⟩, ⟨F, QTm.mk ht hP hD hO hR⟩⟩, hS.F ht⟩) hS.2.2 dX15_blankFrom_28
    ·
      refine lv_iinc (v := (nI (j + 1))) (lv' := [(2, .int (nI (j + 1))), (0, .ref h0), (1, .int (nI a))]) hx hb dX15_blankFrom_21 hl (k := 0) rfl (nI_1 _) (by decide) rfl (fun ls hl => ?_)
      refine lv_goto (tgt := 2) hx hb dX15_blankFrom_24 (by decide) ?_
      refine W.widen (k := 0) (n := 0) (by omega) (by omega) ?_
      exact ih_11 (j + 1) F (⟨by omega, by omega⟩) (by show max a z - (j + 1) < max a z - j; omega) hO hR _ _ hP hD hS ls (lv_sub hl [0, 1, 2] rfl)
set_option maxHeartbeats 4000000 in
set_option maxRecDepth 100000 in
theorem s_X15_wordEnd (l : Launch) (dC : Nat → ClassId) (dI : Nat → Nat → Nat) (cs : Nat → ClassId) (ty : TyM) (gm : Nat → Nat → Nat) (L : List Nat) (sz : Nat) (F : Nat → va_E) (h0 : Nat) (ρ : Nat) (r0 : Nat) (n : Nat) (z : Nat) (a : Nat) (hW : WTm ty gm L) (hL_h0 : h0 ∈ L) (hT_h0 : ty h0 = (14, ρ, [r0, n])) (hF0 : F h0 = .inr (14, [.ref r0, .int (nI z)])) (hzn : z ≤ n) (ha : a ≤ 20000) : Met l yX15_wordEnd (.code yX15_wordEnd cX15_wordEnd 3 (some .int) :: tb) ({ frames := 0, cells := 0, slots := 0, locals := 0 }) (va_Pc [.ref h0, .int (nI a)] (PTm (dC, dI) cs ty gm L F sz)) (va_Qi (fun (r : Int32) (_ : Unit) => (∃ k : Nat, a ≤ k ∧ k ≤ max a z ∧ r = nI k ∧ WE (gA (F r0)) z a k)) (fun _ T9 => ∃ F2 : Nat → va_E, QTm (dC, dI) cs ty gm L [] F F2 (va_A (va_pl L F) sz) T9) (va_A (va_pl L F) sz)) 0 0 (va_A (va_pl L F) sz) := by
  refine Met.ofW (cc := cX15_wordEnd) (maxL := 3) (ret := (some .int)) (by decide) rfl ?_
  intro p e s m args below meth c s₁ B hml hv
  obtain ⟨rfl, hsz, hP, hK, hD0, hE, hO⟩ := hv
  have hx := B.exec
  have hb := B.bytes
  have hr := B.returns
  have hts : ∀ w ∈ tb, w.before _ s = true := fun w h => atoms_spec (ws := .code yX15_wordEnd cX15_wordEnd 3 (some .int) :: tb) B.pre w (List.mem_cons_of_mem _ h)
  have hown : s.vm.findClass RX15 = some m.cls := findClass_of_methodNamed B.named
  have hlocks := B.notSynchronized
  subst hsz
  have hD := hD0.self (sz := s.heap.size)
  generalize hAe : va_A (va_pl L F) s.heap.size = A at hD ⊢
  have hA : ∀ q : Nat, s.heap.size ≤ q → A q := fun q h => by rw [← hAe]; exact Or.inr h
  have hS : va_S A s.heap s.heap [] := va_S.rf
  have hR : FR ty [] F F := FR.refl
  have hl := lv_entry ([.ref h0, .int (nI a)]) (n := 3) (Nat.le_of_ble_eq_true rfl)
  rw [lg_entry_eq]
  generalize (lg_sl ([.ref h0, .int (nI a)]) ++ List.replicate (3 - (lg_sl ([.ref h0, .int (nI a)])).length) Slot.unset).toArray = ls at hl ⊢
  have hl : lv_has ls 3 [(0, .ref h0), (1, .int (nI a))] := hl
  obtain ⟨hi_1, ht_2, hq_3⟩ := hW.txt hL_h0 hT_h0
  obtain ⟨hq_4, hq_5⟩ := hW.octs hi_1 ht_2
  obtain ⟨f_6, hF_7, hq_8⟩ := hO.octs hi_1 ht_2
  have hgf := gA_fun hF_7
  refine lv_iload_n hx hb dX15_wordEnd_0 rfl (lv_at hl 1 rfl) ?_
  refine lv_istore_n (lv' := [(2, .int (nI a)), (0, .ref h0), (1, .int (nI a))]) hx hb dX15_wordEnd_1 rfl hl (by decide) rfl (fun ls hl => ?_)
  refine W.widen (k := 0) (n := 0) (by omega) (by omega) ?_
  refine pl_loopm (σ := Nat) A (dC, dI) cs ty gm L [] F 2 3 (fun j => [(2, .int (nI j)), (0, .ref h0), (1, .int (nI a))]) (fun j => []) (fun j _ => a ≤ j ∧ j ≤ max a z ∧ ∀ i, a ≤ i → i < j → gA (F r0) i ≠ 32) (fun j => max a z - j) ?_ a F (⟨by omega, by omega, fun i h1 h2 => by omega⟩) hO hR _ _ hP hD hS ls (lv_sub hl [0, 1, 2] rfl)
  rintro j F_9 hv_10 hO hR ih_11 H locs hP hD hS ls hl
  have hl : lv_has ls 3 [(2, .int (nI j)), (0, .ref h0), (1, .int (nI a))] := hl
  have hv_10 : a ≤ j ∧ j ≤ max a z ∧ ∀ i, a ≤ i → i < j → gA (F r0) i ≠ 32 := hv_10
  refine W.eq (g2 := F0 m 2 ls []) rfl ?_
  obtain rfl : F = F_9 := (funext (fun a => hR a List.not_mem_nil)).symm
  obtain ⟨hv1, hv2, hv3⟩ := hv_10
  refine lv_iload_n hx hb dX15_wordEnd_2 rfl (lv_at hl 0 rfl) ?_
  refine lv_aload_n hx hb dX15_wordEnd_3 rfl (lv_at hl 1 rfl) ?_
  refine pg_get (ci := 14) (v := .int (nI z)) (C := RX14) (T := TX14) (N := 2) hx hb hts it_14 hown hK hP hL_h0 hF0 rfl 1 (by decide) (hts _ kt_709) (fun _ h9 => h9) rfl dX15_wordEnd_4 ?_
  refine lv_icmp_ge (tgt := 27) hx hb dX15_wordEnd_7 (by decide) (fun c_12 => ?_) (fun c_12 => ?_)
  ·
    have hi_13 : z ≤ j := leN (N := z) c_12
    refine lv_iload_n hx hb dX15_wordEnd_27 rfl (lv_at hl 0 rfl) ?_
    refine W.widen (k := 0) (n := 0) (by omega) (by omega) ?_
    exact W.iret (v := (nI j)) hx hb hr (fun t ht hWm => ⟨⟨(nI j), (), rfl, ⟨j, by omega, by omega, rfl, hv3, fun h => by omega⟩, ⟨F, QTm.mk ht hP hD hO hR⟩⟩, hS.F ht⟩) hS.2.2 dX15_wordEnd_28
  ·
    have hi_14 : j < z := ltN (N := z) c_12
    refine lv_aload_n hx hb dX15_wordEnd_10 rfl (lv_at hl 1 rfl) ?_
    refine pg_get (ci := 14) (v := .ref r0) (C := RX14) (T := TX14) (N := 2) hx hb hts it_14 hown hK hP hL_h0 hF0 rfl 0 (by decide) (hts _ kt_710) (fun _ h9 => h9) rfl dX15_wordEnd_11 ?_
    refine lv_iload_n hx hb dX15_wordEnd_14 rfl (lv_at hl 0 rfl) ?_
    refine pg_bald hx hb hK hP hi_1 1 hF_7 rfl (vp_in_nI (by omega) (by omega)) dX15_wordEnd_15 ?_
    refine lv_topi (fun x_15 ex_15 => ?_)
    obtain rfl : x_15 = f_6 j := ex_15.trans (congrArg f_6 (show ((nI j) : Int32).toNatClampNeg = j from nI_clamp (by omega)))
    refine lv_bipush (v := 32) hx hb dX15_wordEnd_16 (by decide) ?_
    refine lv_icmp_eq (tgt := 27) hx hb dX15_wordEnd_18 (by decide) (fun c_16 => ?_) (fun c_16 => ?_)
    ·
      refine lv_iload_n hx hb dX15_wordEnd_27 rfl (lv_at hl 0 rfl) ?_
      refine W.widen (k := 0) (n := 0) (by omega) (by omega) ?_
      exact W.iret (v := (nI j)) hx hb hr (fun t ht hWm => ⟨⟨(nI j), (), rfl, ⟨j, by omega, by omega, rfl, hv3, fun _ => by rw [hgf]; exact c_16⟩, ⟨F, QTm.mk ht hP hD hO hR⟩⟩, hS.F ht⟩) hS.2.2 dX15_wordEnd_28
    ·
      refine lv_iinc (v := (nI (j + 1))) (lv' := [(2, .int (nI (j + 1))), (0, .ref h0), (1, .int (nI a))]) hx hb dX15_wordEnd_21 hl (k := 0) rfl (nI_1 _) (by decide) rfl (fun ls hl => ?_)
      refine lv_goto (tgt := 2) hx hb dX15_wordEnd_24 (by decide) ?_
      refine W.widen (k := 0) (n := 0) (by omega) (by omega) ?_
      exact ih_11 (j + 1) F (⟨by omega, by omega, fun i h1 h2 => by
          rcases Nat.lt_or_ge i j with q | q
          · exact hv3 i h1 q
          · rw [show i = j from by omega, hgf]; exact c_16⟩) (by show max a z - (j + 1) < max a z - j; omega) hO hR _ _ hP hD hS ls (lv_sub hl [0, 1, 2] rfl)
set_option maxHeartbeats 4000000 in
set_option maxRecDepth 100000 in
theorem s_X15_put (l : Launch) (dC : Nat → ClassId) (dI : Nat → Nat → Nat) (cs : Nat → ClassId) (ty : TyM) (gm : Nat → Nat → Nat) (L : List Nat) (sz : Nat) (F : Nat → va_E) (h0 : Nat) (ρ : Nat) (r0 : Nat) (n : Nat) (z : Nat) (x1 : Int32) (hW : WTm ty gm L) (hL_h0 : h0 ∈ L) (hT_h0 : ty h0 = (14, ρ, [r0, n])) (hF0 : F h0 = .inr (14, [.ref r0, .int (nI z)])) (hz : z ≤ 61) (hn61 : 61 ≤ n) : Met l yX15_put (.code yX15_put cX15_put 2 none :: tb) ({ frames := 1, cells := 0, slots := 0, locals := 21 }) (va_Pc [.ref h0, .int x1] (PTm (dC, dI) cs ty gm L F sz)) (va_Qv (fun _ : Unit => True) (fun _ T9 => ∃ F2 : Nat → va_E, ∃ z2 : Nat, QTm (dC, dI) cs ty gm L [ρ] F F2 (va_A (va_pl L F) sz) T9 ∧ F2 h0 = .inr (14, [.ref r0, .int (nI z2)]) ∧ z2 ≤ 61) (va_A (va_pl L F) sz)) 0 0 (va_A (va_pl L F) sz) := by
  refine Met.ofW (cc := cX15_put) (maxL := 2) (ret := none) (by decide) rfl ?_
  intro p e s m args below meth c s₁ B hml hv
  obtain ⟨rfl, hsz, hP, hK, hD0, hE, hO⟩ := hv
  have hx := B.exec
  have hb := B.bytes
  have hr := B.returns
  have hts : ∀ w ∈ tb, w.before _ s = true := fun w h => atoms_spec (ws := .code yX15_put cX15_put 2 none :: tb) B.pre w (List.mem_cons_of_mem _ h)
  have hown : s.vm.findClass RX15 = some m.cls := findClass_of_methodNamed B.named
  have hlocks := B.notSynchronized
  subst hsz
  have hD := hD0.self (sz := s.heap.size)
  generalize hAe : va_A (va_pl L F) s.heap.size = A at hD ⊢
  have hA : ∀ q : Nat, s.heap.size ≤ q → A q := fun q h => by rw [← hAe]; exact Or.inr h
  have hS : va_S A s.heap s.heap [] := va_S.rf
  have hR : FR ty [ρ] F F := FR.refl
  have hl := lv_entry ([.ref h0, .int x1]) (n := 2) (Nat.le_of_ble_eq_true rfl)
  rw [lg_entry_eq]
  generalize (lg_sl ([.ref h0, .int x1]) ++ List.replicate (2 - (lg_sl ([.ref h0, .int x1])).length) Slot.unset).toArray = ls at hl ⊢
  have hl : lv_has ls 2 [(0, .ref h0), (1, .int x1)] := hl
  refine lv_aload_n hx hb dX15_put_0 rfl (lv_at hl 0 rfl) ?_
  obtain ⟨hi_1, ht_2, hq_3⟩ := hW.txt hL_h0 hT_h0
  refine pg_get (ci := 14) (v := .int (nI z)) (C := RX14) (T := TX14) (N := 2) hx hb hts it_14 hown hK hP hL_h0 hF0 rfl 1 (by decide) (hts _ kt_709) (fun _ h9 => h9) rfl dX15_put_1 ?_
  refine lv_bipush (v := 60) hx hb dX15_put_4 (by decide) ?_
  refine lv_icmp_gt (tgt := 14) hx hb dX15_put_6 (by decide) (fun c_4 => ?_) (fun c_4 => ?_)
  ·
    have hi_5 : 60 < z := (nI_ltI (a := 60) (b := z) (by omega) (by omega)).mp c_4
    refine W.widen (k := 0) (n := 0) (by omega) (by omega) ?_
    exact W.vret hx hb hr (fun t ht hWm => ⟨⟨(), rfl, trivial, ⟨F, z, QTm.mk ht hP hD hO hR, hF0, by omega⟩⟩, hS.F ht⟩) hS.2.2 dX15_put_14
  ·
    have hi_6 : z ≤ 60 := Nat.not_lt.mp (fun q => c_4 ((nI_ltI (a := 60) (b := z) (by omega) (by omega)).mpr q))
    refine lv_aload_n hx hb dX15_put_9 rfl (lv_at hl 0 rfl) ?_
    refine lv_iload_n hx hb dX15_put_10 rfl (lv_at hl 1 rfl) ?_
    have hFc := pg_free hD hS hA
    refine va_callv (va_runV (As := [.int x1]) (rest := []) ⟨hx, hb, hml, hown, hts⟩ (s_X14_add l dC dI cs ty gm L s.heap.size F h0 ρ r0 n z x1 hW hL_h0 hT_h0 hF0 (by first | omega | assumption | exact Or.inl rfl)) ⟨callB_of 1 hts (gi kt_711) rfl rfl rfl (hts _ kt_676) (hts _ kt_712) (by decide +kernel) ⟨Nat.le_of_ble_eq_true rfl, Nat.le_of_ble_eq_true rfl⟩, (hts _ kt_713), (hts _ kt_714)⟩ ⟨fun a U g mk q => ⟨q.1, PTm.calling q.2⟩, pg_recv hK hP hL_h0 hF0 (q := (RX14, TX14, 2)) rfl, fun U hU hWm => ⟨rfl, PTm.mk hU hWm hP hK hD hE hO⟩⟩ rfl rfl hl.1 rfl (lv_room (Nat.le_of_ble_eq_true rfl)) dX15_put_11 ⟨by show _ + 0 ≤ 0; omega, by show _ + 0 ≤ 0; omega⟩) hS (fun q _ h => hFc q h) hFc (fun u t H1 locs ht hvm hw hB hz1 hk1 hS => ?_)
    obtain ⟨F_8, hB1, hq_9⟩ := hB
    obtain ⟨hP, hD, hO, hR⟩ := QTm.back hB1 ht hFc hR (fun q h => by simp only [List.mem_cons, List.not_mem_nil, or_false] at h ⊢; omega)
    generalize H1 = H at hP hS ⊢
    refine W.widen (k := 0) (n := 0) (by omega) (by omega) ?_
    exact W.vret hx hb hr (fun t ht hWm => ⟨⟨(), rfl, trivial, ⟨F_8, (z + 1), QTm.mk ht hP hD hO hR, hq_9, by omega⟩⟩, hS.F ht⟩) hS.2.2 dX15_put_14
set_option maxHeartbeats 4000000 in
set_option maxRecDepth 100000 in
theorem s_X15_digitOf (l : Launch) (dC : Nat → ClassId) (dI : Nat → Nat → Nat) (cs : Nat → ClassId) (ty : TyM) (gm : Nat → Nat → Nat) (L : List Nat) (sz : Nat) (F : Nat → va_E) (x1 : Int32) (hW : WTm ty gm L) : Met l yX15_digitOf (.code yX15_digitOf cX15_digitOf 1 (some .int) :: tb) ({ frames := 1, cells := 0, slots := 0, locals := 20 }) (va_Pc [.int x1] (PTm (dC, dI) cs ty gm L F sz)) (va_Qi (fun (r : Int32) (_ : Unit) => True) (fun _ T9 => ∃ F2 : Nat → va_E, QTm (dC, dI) cs ty gm L [] F F2 (va_A (va_pl L F) sz) T9) (va_A (va_pl L F) sz)) 0 0 (va_A (va_pl L F) sz) := by
  refine Met.ofW (cc := cX15_digitOf) (maxL := 1) (ret := (some .int)) (by decide) rfl ?_
  intro p e s m args below meth c s₁ B hml hv
  obtain ⟨rfl, hsz, hP, hK, hD0, hE, hO⟩ := hv
  have hx := B.exec
  have hb := B.bytes
  have hr := B.returns
  have hts : ∀ w ∈ tb, w.before _ s = true := fun w h => atoms_spec (ws := .code yX15_digitOf cX15_digitOf 1 (some .int) :: tb) B.pre w (List.mem_cons_of_mem _ h)
  have hown : s.vm.findClass RX15 = some m.cls := findClass_of_methodNamed B.named
  have hlocks := B.notSynchronized
  subst hsz
  have hD := hD0.self (sz := s.heap.size)
  generalize hAe : va_A (va_pl L F) s.heap.size = A at hD ⊢
  have hA : ∀ q : Nat, s.heap.size ≤ q → A q := fun q h => by rw [← hAe]; exact Or.inr h
  have hS : va_S A s.heap s.heap [] := va_S.rf
  have hR : FR ty [] F F := FR.refl
  have hl := lv_entry ([.int x1]) (n := 1) (Nat.le_of_ble_eq_true rfl)
  rw [lg_entry_eq]
  generalize (lg_sl ([.int x1]) ++ List.replicate (1 - (lg_sl ([.int x1])).length) Slot.unset).toArray = ls at hl ⊢
  have hl : lv_has ls 1 [(0, .int x1)] := hl
  refine lv_iload_n hx hb dX15_digitOf_0 rfl (lv_at hl 0 rfl) ?_
  refine lv_bipush (v := 65) hx hb dX15_digitOf_1 (by decide) ?_
  refine lv_icmp_lt (tgt := 17) hx hb dX15_digitOf_3 (by decide) (fun c_1 => ?_) (fun c_1 => ?_)
  ·
    refine lv_iload_n hx hb dX15_digitOf_17 rfl (lv_at hl 0 rfl) ?_
    have hFc := pg_free hD hS hA
    refine va_calli (va_runS (As := [.int x1]) (rest := []) ⟨hx, hb, hml, hown, hts⟩ (s_X15_isSmall l dC dI cs ty gm L s.heap.size F x1 hW ) ⟨callB_of 1 hts (gi kt_668) rfl rfl rfl (hts _ kt_669) (hts _ kt_670) (by decide +kernel) ⟨Nat.le_of_ble_eq_true rfl, Nat.le_of_ble_eq_true rfl⟩, (hts _ kt_671)⟩ ⟨fun a U g mk q => ⟨q.1, PTm.calling q.2⟩, fun U hU hWm => ⟨rfl, PTm.mk hU hWm hP hK hD hE hO⟩⟩ rfl rfl hl.1 rfl (lv_room (Nat.le_of_ble_eq_true rfl)) dX15_digitOf_18 ⟨by show _ + 0 ≤ 0; omega, by show _ + 0 ≤ 0; omega⟩) hS (fun q _ h => hFc q h) hFc (fun r_2 u t H1 locs ht hvm hw hB hz1 hk1 hS => ?_)
    obtain ⟨F_3, hB1⟩ := hB
    obtain rfl : F = F_3 := (funext (fun a => hB1.2.2.2 a List.not_mem_nil)).symm
    obtain ⟨hP, hD, hO, hR⟩ := QTm.back hB1 ht hFc hR (fun q h => absurd h List.not_mem_nil)
    generalize H1 = H at hP hS ⊢
    have hw : (r_2 = 0 ∨ r_2 = 1) := hw
    have hw_4 := hw
    refine lv_if_eq (tgt := 32) hx hb dX15_digitOf_21 (by decide) (fun c_5 => ?_) (fun c_5 => ?_)
    ·
      refine lv_iload_n hx hb dX15_digitOf_32 rfl (lv_at hl 0 rfl) ?_
      have hFc := pg_free hD hS hA
      refine va_calli (va_runS (As := [.int x1]) (rest := []) ⟨hx, hb, hml, hown, hts⟩ (s_X15_isDigit l dC dI cs ty gm L H.size F x1 hW ) ⟨callB_of 1 hts (gi kt_687) rfl rfl rfl (hts _ kt_669) (hts _ kt_707) (by decide +kernel) ⟨Nat.le_of_ble_eq_true rfl, Nat.le_of_ble_eq_true rfl⟩, (hts _ kt_688)⟩ ⟨fun a U g mk q => ⟨q.1, PTm.calling q.2⟩, fun U hU hWm => ⟨rfl, PTm.mk hU hWm hP hK hD hE hO⟩⟩ rfl rfl hl.1 rfl (lv_room (Nat.le_of_ble_eq_true rfl)) dX15_digitOf_33 ⟨by show _ + 0 ≤ 0; omega, by show _ + 0 ≤ 0; omega⟩) hS (fun q _ h => hFc q h) hFc (fun r_6 u t H1 locs ht hvm hw hB hz1 hk1 hS => ?_)
      obtain ⟨F_7, hB1⟩ := hB
      obtain rfl : F = F_7 := (funext (fun a => hB1.2.2.2 a List.not_mem_nil)).symm
      obtain ⟨hP, hD, hO, hR⟩ := QTm.back hB1 ht hFc hR (fun q h => absurd h List.not_mem_nil)
      generalize H1 = H at hP hS ⊢
      have hw : (r_6 = 0 ∨ r_6 = 1) := hw
      have hw_8 := hw
      refine lv_if_eq (tgt := 47) hx hb dX15_digitOf_36 (by decide) (fun c_9 => ?_) (fun c_9 => ?_)
      ·
        refine lv_iload_n hx hb dX15_digitOf_47 rfl (lv_at hl 0 rfl) ?_
        refine lv_bipush (v := 43) hx hb dX15_digitOf_48 (by decide) ?_
        refine lv_icmp_ne (tgt := 58) hx hb dX15_digitOf_50 (by decide) (fun c_10 => ?_) (fun c_10 => ?_)
        ·
          refine lv_iload_n hx hb dX15_digitOf_58 rfl (lv_at hl 0 rfl) ?_
          refine lv_bipush (v := 47) hx hb dX15_digitOf_59 (by decide) ?_
          refine lv_icmp_ne (tgt := 69) hx hb dX15_digitOf_61 (by decide) (fun c_11 => ?_) (fun c_11 => ?_)
          ·
            refine lv_iconst (v := (-1)) hx hb dX15_digitOf_69 (by decide) ?_
            refine W.widen (k := 0) (n := 0) (by omega) (by omega) ?_
            exact W.iret (v := (-1)) hx hb hr (fun t ht hWm => ⟨⟨(-1), (), rfl, trivial, ⟨F, QTm.mk ht hP hD hO hR⟩⟩, hS.F ht⟩) hS.2.2 dX15_digitOf_70
          ·
            refine lv_bipush (v := 63) hx hb dX15_digitOf_64 (by decide) ?_
            refine lv_goto (tgt := 70) hx hb dX15_digitOf_66 (by decide) ?_
            refine W.widen (k := 0) (n := 0) (by omega) (by omega) ?_
            exact W.iret (v := 63) hx hb hr (fun t ht hWm => ⟨⟨63, (), rfl, trivial, ⟨F, QTm.mk ht hP hD hO hR⟩⟩, hS.F ht⟩) hS.2.2 dX15_digitOf_70
        ·
          refine lv_bipush (v := 62) hx hb dX15_digitOf_53 (by decide) ?_
          refine lv_goto (tgt := 70) hx hb dX15_digitOf_55 (by decide) ?_
          refine W.widen (k := 0) (n := 0) (by omega) (by omega) ?_
          exact W.iret (v := 62) hx hb hr (fun t ht hWm => ⟨⟨62, (), rfl, trivial, ⟨F, QTm.mk ht hP hD hO hR⟩⟩, hS.F ht⟩) hS.2.2 dX15_digitOf_70
      ·
        refine lv_iload_n hx hb dX15_digitOf_39 rfl (lv_at hl 0 rfl) ?_
        refine lv_bipush (v := 48) hx hb dX15_digitOf_40 (by decide) ?_
        refine lv_isub hx hb dX15_digitOf_42 ?_
        refine lv_topi (fun x_12 ex_12 => ?_)
        obtain rfl : x_12 = (x1 - 48) := ex_12.trans (rfl)
        refine lv_bipush (v := 52) hx hb dX15_digitOf_43 (by decide) ?_
        refine lv_iadd hx hb dX15_digitOf_45 ?_
        refine lv_topi (fun x_13 _ => ?_)
        refine W.widen (k := 0) (n := 0) (by omega) (by omega) ?_
        exact W.iret (v := x_13) hx hb hr (fun t ht hWm => ⟨⟨x_13, (), rfl, trivial, ⟨F, QTm.mk ht hP hD hO hR⟩⟩, hS.F ht⟩) hS.2.2 dX15_digitOf_46
    ·
      refine lv_iload_n hx hb dX15_digitOf_24 rfl (lv_at hl 0 rfl) ?_
      refine lv_bipush (v := 97) hx hb dX15_digitOf_25 (by decide) ?_
      refine lv_isub hx hb dX15_digitOf_27 ?_
      refine lv_topi (fun x_14 ex_14 => ?_)
      obtain rfl : x_14 = (x1 - 97) := ex_14.trans (rfl)
      refine lv_bipush (v := 26) hx hb dX15_digitOf_28 (by decide) ?_
      refine lv_iadd hx hb dX15_digitOf_30 ?_
      refine lv_topi (fun x_15 _ => ?_)
      refine W.widen (k := 0) (n := 0) (by omega) (by omega) ?_
      exact W.iret (v := x_15) hx hb hr (fun t ht hWm => ⟨⟨x_15, (), rfl, trivial, ⟨F, QTm.mk ht hP hD hO hR⟩⟩, hS.F ht⟩) hS.2.2 dX15_digitOf_31
  ·
    refine lv_iload_n hx hb dX15_digitOf_6 rfl (lv_at hl 0 rfl) ?_
    refine lv_bipush (v := 90) hx hb dX15_digitOf_7 (by decide) ?_
    refine lv_icmp_gt (tgt := 17) hx hb dX15_digitOf_9 (by decide) (fun c_16 => ?_) (fun c_16 => ?_)
    ·
      refine lv_iload_n hx hb dX15_digitOf_17 rfl (lv_at hl 0 rfl) ?_
      have hFc := pg_free hD hS hA
      refine va_calli (va_runS (As := [.int x1]) (rest := []) ⟨hx, hb, hml, hown, hts⟩ (s_X15_isSmall l dC dI cs ty gm L s.heap.size F x1 hW ) ⟨callB_of 1 hts (gi kt_668) rfl rfl rfl (hts _ kt_669) (hts _ kt_670) (by decide +kernel) ⟨Nat.le_of_ble_eq_true rfl, Nat.le_of_ble_eq_true rfl⟩, (hts _ kt_671)⟩ ⟨fun a U g mk q => ⟨q.1, PTm.calling q.2⟩, fun U hU hWm => ⟨rfl, PTm.mk hU hWm hP hK hD hE hO⟩⟩ rfl rfl hl.1 rfl (lv_room (Nat.le_of_ble_eq_true rfl)) dX15_digitOf_18 ⟨by show _ + 0 ≤ 0; omega, by show _ + 0 ≤ 0; omega⟩) hS (fun q _ h => hFc q h) hFc (fun r_17 u t H1 locs ht hvm hw hB hz1 hk1 hS => ?_)
      obtain ⟨F_18, hB1⟩ := hB
      obtain rfl : F = F_18 := (funext (fun a => hB1.2.2.2 a List.not_mem_nil)).symm
      obtain ⟨hP, hD, hO, hR⟩ := QTm.back hB1 ht hFc hR (fun q h => absurd h List.not_mem_nil)
      generalize H1 = H at hP hS ⊢
      have hw : (r_17 = 0 ∨ r_17 = 1) := hw
      have hw_19 := hw
      refine lv_if_eq (tgt := 32) hx hb dX15_digitOf_21 (by decide) (fun c_20 => ?_) (fun c_20 => ?_)
      ·
        refine lv_iload_n hx hb dX15_digitOf_32 rfl (lv_at hl 0 rfl) ?_
        have hFc := pg_free hD hS hA
        refine va_calli (va_runS (As := [.int x1]) (rest := []) ⟨hx, hb, hml, hown, hts⟩ (s_X15_isDigit l dC dI cs ty gm L H.size F x1 hW ) ⟨callB_of 1 hts (gi kt_687) rfl rfl rfl (hts _ kt_669) (hts _ kt_707) (by decide +kernel) ⟨Nat.le_of_ble_eq_true rfl, Nat.le_of_ble_eq_true rfl⟩, (hts _ kt_688)⟩ ⟨fun a U g mk q => ⟨q.1, PTm.calling q.2⟩, fun U hU hWm => ⟨rfl, PTm.mk hU hWm hP hK hD hE hO⟩⟩ rfl rfl hl.1 rfl (lv_room (Nat.le_of_ble_eq_true rfl)) dX15_digitOf_33 ⟨by show _ + 0 ≤ 0; omega, by show _ + 0 ≤ 0; omega⟩) hS (fun q _ h => hFc q h) hFc (fun r_21 u t H1 locs ht hvm hw hB hz1 hk1 hS => ?_)
        obtain ⟨F_22, hB1⟩ := hB
        obtain rfl : F = F_22 := (funext (fun a => hB1.2.2.2 a List.not_mem_nil)).symm
        obtain ⟨hP, hD, hO, hR⟩ := QTm.back hB1 ht hFc hR (fun q h => absurd h List.not_mem_nil)
        generalize H1 = H at hP hS ⊢
        have hw : (r_21 = 0 ∨ r_21 = 1) := hw
        have hw_23 := hw
        refine lv_if_eq (tgt := 47) hx hb dX15_digitOf_36 (by decide) (fun c_24 => ?_) (fun c_24 => ?_)
        ·
          refine lv_iload_n hx hb dX15_digitOf_47 rfl (lv_at hl 0 rfl) ?_
          refine lv_bipush (v := 43) hx hb dX15_digitOf_48 (by decide) ?_
          refine lv_icmp_ne (tgt := 58) hx hb dX15_digitOf_50 (by decide) (fun c_25 => ?_) (fun c_25 => ?_)
          ·
            refine lv_iload_n hx hb dX15_digitOf_58 rfl (lv_at hl 0 rfl) ?_
            refine lv_bipush (v := 47) hx hb dX15_digitOf_59 (by decide) ?_
            refine lv_icmp_ne (tgt := 69) hx hb dX15_digitOf_61 (by decide) (fun c_26 => ?_) (fun c_26 => ?_)
            ·
              refine lv_iconst (v := (-1)) hx hb dX15_digitOf_69 (by decide) ?_
              refine W.widen (k := 0) (n := 0) (by omega) (by omega) ?_
              exact W.iret (v := (-1)) hx hb hr (fun t ht hWm => ⟨⟨(-1), (), rfl, trivial, ⟨F, QTm.mk ht hP hD hO hR⟩⟩, hS.F ht⟩) hS.2.2 dX15_digitOf_70
            ·
              refine lv_bipush (v := 63) hx hb dX15_digitOf_64 (by decide) ?_
              refine lv_goto (tgt := 70) hx hb dX15_digitOf_66 (by decide) ?_
              refine W.widen (k := 0) (n := 0) (by omega) (by omega) ?_
              exact W.iret (v := 63) hx hb hr (fun t ht hWm => ⟨⟨63, (), rfl, trivial, ⟨F, QTm.mk ht hP hD hO hR⟩⟩, hS.F ht⟩) hS.2.2 dX15_digitOf_70
          ·
            refine lv_bipush (v := 62) hx hb dX15_digitOf_53 (by decide) ?_
            refine lv_goto (tgt := 70) hx hb dX15_digitOf_55 (by decide) ?_
            refine W.widen (k := 0) (n := 0) (by omega) (by omega) ?_
            exact W.iret (v := 62) hx hb hr (fun t ht hWm => ⟨⟨62, (), rfl, trivial, ⟨F, QTm.mk ht hP hD hO hR⟩⟩, hS.F ht⟩) hS.2.2 dX15_digitOf_70
        ·
          refine lv_iload_n hx hb dX15_digitOf_39 rfl (lv_at hl 0 rfl) ?_
          refine lv_bipush (v := 48) hx hb dX15_digitOf_40 (by decide) ?_
          refine lv_isub hx hb dX15_digitOf_42 ?_
          refine lv_topi (fun x_27 ex_27 => ?_)
          obtain rfl : x_27 = (x1 - 48) := ex_27.trans (rfl)
          refine lv_bipush (v := 52) hx hb dX15_digitOf_43 (by decide) ?_
          refine lv_iadd hx hb dX15_digitOf_45 ?_
          refine lv_topi (fun x_28 _ => ?_)
          refine W.widen (k := 0) (n := 0) (by omega) (by omega) ?_
          exact W.iret (v := x_28) hx hb hr (fun t ht hWm => ⟨⟨x_28, (), rfl, trivial, ⟨F, QTm.mk ht hP hD hO hR⟩⟩, hS.F ht⟩) hS.2.2 dX15_digitOf_46
      ·
        refine lv_iload_n hx hb dX15_digitOf_24 rfl (lv_at hl 0 rfl) ?_
        refine lv_bipush (v := 97) hx hb dX15_digitOf_25 (by decide) ?_
        refine lv_isub hx hb dX15_digitOf_27 ?_
        refine lv_topi (fun x_29 ex_29 => ?_)
        obtain rfl : x_29 = (x1 - 97) := ex_29.trans (rfl)
        refine lv_bipush (v := 26) hx hb dX15_digitOf_28 (by decide) ?_
        refine lv_iadd hx hb dX15_digitOf_30 ?_
        refine lv_topi (fun x_30 _ => ?_)
        refine W.widen (k := 0) (n := 0) (by omega) (by omega) ?_
        exact W.iret (v := x_30) hx hb hr (fun t ht hWm => ⟨⟨x_30, (), rfl, trivial, ⟨F, QTm.mk ht hP hD hO hR⟩⟩, hS.F ht⟩) hS.2.2 dX15_digitOf_31
    ·
      refine lv_iload_n hx hb dX15_digitOf_12 rfl (lv_at hl 0 rfl) ?_
      refine lv_bipush (v := 65) hx hb dX15_digitOf_13 (by decide) ?_
      refine lv_isub hx hb dX15_digitOf_15 ?_
      refine lv_topi (fun x_31 ex_31 => ?_)
      obtain rfl : x_31 = (x1 - 65) := ex_31.trans (rfl)
      refine W.widen (k := 0) (n := 0) (by omega) (by omega) ?_
      exact W.iret (v := (x1 - 65)) hx hb hr (fun t ht hWm => ⟨⟨(x1 - 65), (), rfl, trivial, ⟨F, QTm.mk ht hP hD hO hR⟩⟩, hS.F ht⟩) hS.2.2 dX15_digitOf_16
set_option maxHeartbeats 4000000 in
set_option maxRecDepth 100000 in
theorem s_X15_withoutWhite (l : Launch) (dC : Nat → ClassId) (dI : Nat → Nat → Nat) (cs : Nat → ClassId) (ty : TyM) (gm : Nat → Nat → Nat) (L : List Nat) (sz : Nat) (F : Nat → va_E) (g1 : Nat) (σ : Nat) (n1 : Nat) (h0 : Nat) (ρ : Nat) (r0 : Nat) (n : Nat) (a : Nat) (tt : Nat) (hW : WTm ty gm L) (hL_g1 : g1 ∈ L) (hT_g1 : ty g1 = (17, σ, [n1])) (hL_h0 : h0 ∈ L) (hT_h0 : ty h0 = (14, ρ, [r0, n])) (htn : tt ≤ n1) (ha : a ≤ 20000) (hfit : tt - a ≤ n) : Met l yX15_withoutWhite (.code yX15_withoutWhite cX15_withoutWhite 5 none :: tb) ({ frames := 1, cells := 0, slots := 0, locals := 21 }) (va_Pc [.ref g1, .int (nI a), .int (nI tt), .ref h0] (PTm (dC, dI) cs ty gm L F sz)) (va_Qv (fun _ : Unit => True) (fun _ T9 => ∃ F2 : Nat → va_E, ∃ z2 : Nat, QTm (dC, dI) cs ty gm L [ρ] F F2 (va_A (va_pl L F) sz) T9 ∧ F2 h0 = .inr (14, [.ref r0, .int (nI z2)]) ∧ z2 ≤ tt - a) (va_A (va_pl L F) sz)) 0 0 (va_A (va_pl L F) sz) := by
  refine Met.ofW (cc := cX15_withoutWhite) (maxL := 5) (ret := none) (by decide) rfl ?_
  intro p e s m args below meth c s₁ B hml hv
  obtain ⟨rfl, hsz, hP, hK, hD0, hE, hO⟩ := hv
  have hx := B.exec
  have hb := B.bytes
  have hr := B.returns
  have hts : ∀ w ∈ tb, w.before _ s = true := fun w h => atoms_spec (ws := .code yX15_withoutWhite cX15_withoutWhite 5 none :: tb) B.pre w (List.mem_cons_of_mem _ h)
  have hown : s.vm.findClass RX15 = some m.cls := findClass_of_methodNamed B.named
  have hlocks := B.notSynchronized
  subst hsz
  have hD := hD0.self (sz := s.heap.size)
  generalize hAe : va_A (va_pl L F) s.heap.size = A at hD ⊢
  have hA : ∀ q : Nat, s.heap.size ≤ q → A q := fun q h => by rw [← hAe]; exact Or.inr h
  have hS : va_S A s.heap s.heap [] := va_S.rf
  have hR : FR ty [ρ] F F := FR.refl
  have hl := lv_entry ([.ref g1, .int (nI a), .int (nI tt), .ref h0]) (n := 5) (Nat.le_of_ble_eq_true rfl)
  rw [lg_entry_eq]
  generalize (lg_sl ([.ref g1, .int (nI a), .int (nI tt), .ref h0]) ++ List.replicate (5 - (lg_sl ([.ref g1, .int (nI a), .int (nI tt), .ref h0])).length) Slot.unset).toArray = ls at hl ⊢
  have hl : lv_has ls 5 [(0, .ref g1), (1, .int (nI a)), (2, .int (nI tt)), (3, .ref h0)] := hl
  refine lv_aload_n hx hb dX15_withoutWhite_0 rfl (lv_at hl 3 rfl) ?_
  refine lv_iconst (v := 0) hx hb dX15_withoutWhite_1 (by decide) ?_
  obtain ⟨hi_1, ht_2, hq_3⟩ := hW.txt hL_h0 hT_h0
  obtain ⟨z_4, hF_5, hq_6⟩ := hO.txt hL_h0 hT_h0
  refine pg_put (ci := 14) (v := .int 0) (ty := .int) (C := RX14) (T := TX14) (N := 2) hx hb hts it_14 tyX14 tyX14_ok nmX14 hown hK hP hD hS hL_h0 hF_5 rfl 1 (by decide) (hts _ kt_709) (fun _ h9 => h9) rfl (by decide +kernel) (rfl) (rfl) (Nat.le_of_ble_eq_true rfl) dX15_withoutWhite_2 (fun H locs hP hD hS => ?_)
  obtain ⟨F_7, he_8, hP, hD, hO, hR⟩ : ∃ G, G = va_up F h0 (.inr (14, [.ref r0, .int 0])) ∧ va_P (dC, dI) vwCl (va_pl L G) H ∧ va_D A (va_pl L G) ∧ OKm cs ty gm L G ∧ FR ty [ρ] F G := ⟨_, rfl, hP, hD, hO.up (shm.txt hT_h0 ⟨0, rfl, (by first | omega | assumption | exact Or.inl rfl | exact Or.inr rfl)⟩), hR.up hT_h0 (by simp)⟩
  have hF_9 : F_7 h0 = .inr (14, [.ref r0, .int 0]) := by rw [he_8]; exact up_self
  refine lv_iload_n hx hb dX15_withoutWhite_5 rfl (lv_at hl 1 rfl) ?_
  refine lv_istore (lv' := [(4, .int (nI a)), (0, .ref g1), (1, .int (nI a)), (2, .int (nI tt)), (3, .ref h0)]) hx hb dX15_withoutWhite_6 hl (by decide) rfl (fun ls hl => ?_)
  refine W.widen (k := 0) (n := 0) (by omega) (by omega) ?_
  refine pl_loopm (σ := Nat × Nat) A (dC, dI) cs ty gm L [ρ] F 8 5 (fun (j, zz) => [(4, .int (nI j)), (0, .ref g1), (1, .int (nI a)), (2, .int (nI tt)), (3, .ref h0)]) (fun (j, zz) => []) (fun (j, zz) FF => (a ≤ j ∧ (j ≤ tt ∨ j = a)) ∧ zz ≤ j - a ∧ FF h0 = .inr (14, [.ref r0, .int (nI zz)])) (fun (j, zz) => tt - j) ?_ (a, 0) F_7 (⟨⟨by omega, Or.inr rfl⟩, by omega, hF_9⟩) hO hR _ _ hP hD hS ls (lv_sub hl [0, 1, 2, 3, 4] rfl)
  rintro ⟨j, zz⟩ F_10 hv_11 hO hR ih_12 H locs hP hD hS ls hl
  have hl : lv_has ls 5 [(4, .int (nI j)), (0, .ref g1), (1, .int (nI a)), (2, .int (nI tt)), (3, .ref h0)] := hl
  have hv_11 : (a ≤ j ∧ (j ≤ tt ∨ j = a)) ∧ zz ≤ j - a ∧ F_10 h0 = .inr (14, [.ref r0, .int (nI zz)]) := hv_11
  refine W.eq (g2 := F0 m 8 ls []) rfl ?_
  obtain ⟨hv1, hv2, hv3⟩ := hv_11
  refine lv_iload hx hb dX15_withoutWhite_8 (lv_at hl 0 rfl) ?_
  refine lv_iload_n hx hb dX15_withoutWhite_10 rfl (lv_at hl 3 rfl) ?_
  refine lv_icmp_ge (tgt := 47) hx hb dX15_withoutWhite_11 (by decide) (fun c_13 => ?_) (fun c_13 => ?_)
  ·
    have hi_14 : tt ≤ j := leN (N := tt) c_13
    refine W.widen (k := 0) (n := 0) (by omega) (by omega) ?_
    exact W.vret hx hb hr (fun t ht hWm => ⟨⟨(), rfl, trivial, ⟨F_10, zz, QTm.mk ht hP hD hO hR, hv3, by omega⟩⟩, hS.F ht⟩) hS.2.2 dX15_withoutWhite_47
  ·
    have hi_15 : j < tt := ltN (N := tt) c_13
    refine lv_aload_n hx hb dX15_withoutWhite_14 rfl (lv_at hl 1 rfl) ?_
    refine lv_iload hx hb dX15_withoutWhite_15 (lv_at hl 0 rfl) ?_
    obtain ⟨hq_16, hq_17⟩ := hW.octs hL_g1 hT_g1
    obtain ⟨f_18, hF_19, hq_20⟩ := hO.octs hL_g1 hT_g1
    refine pg_bald hx hb hK hP hL_g1 1 hF_19 rfl (vp_in_nI (by omega) (by omega)) dX15_withoutWhite_17 ?_
    refine lv_topi (fun x_21 ex_21 => ?_)
    obtain rfl : x_21 = f_18 j := ex_21.trans (congrArg f_18 (show ((nI j) : Int32).toNatClampNeg = j from nI_clamp (by omega)))
    have hFc := pg_free hD hS hA
    refine va_calli (va_runS (As := [.int (f_18 j)]) (rest := []) ⟨hx, hb, hml, hown, hts⟩ (s_X15_isWhite l dC dI cs ty gm L H.size F_10 (f_18 j) hW ) ⟨callB_of 1 hts (gi kt_715) rfl rfl rfl (hts _ kt_669) (hts _ kt_716) (by decide +kernel) ⟨Nat.le_of_ble_eq_true rfl, Nat.le_of_ble_eq_true rfl⟩, (hts _ kt_717)⟩ ⟨fun a U g mk q => ⟨q.1, PTm.calling q.2⟩, fun U hU hWm => ⟨rfl, PTm.mk hU hWm hP hK hD hE hO⟩⟩ rfl rfl hl.1 rfl (lv_room (Nat.le_of_ble_eq_true rfl)) dX15_withoutWhite_18 ⟨by show _ + 0 ≤ 0; omega, by show _ + 0 ≤ 0; omega⟩) hS (fun q _ h => hFc q h) hFc (fun r_22 u t H1 locs ht hvm hw hB hz1 hk1 hS => ?_)
    obtain ⟨F_23, hB1⟩ := hB
    obtain rfl : F_10 = F_23 := (funext (fun a => hB1.2.2.2 a List.not_mem_nil)).symm
    obtain ⟨hP, hD, hO, hR⟩ := QTm.back hB1 ht hFc hR (fun q h => absurd h List.not_mem_nil)
    generalize H1 = H at hP hS ⊢
    have hw : (r_22 = 0 ∨ r_22 = 1) := hw
    have hw_24 := hw
    refine lv_if_ne (tgt := 41) hx hb dX15_withoutWhite_21 (by decide) (fun c_25 => ?_) (fun c_25 => ?_)
    ·
      refine lv_iinc (v := (nI (j + 1))) (lv' := [(4, .int (nI (j + 1))), (0, .ref g1), (1, .int (nI a)), (2, .int (nI tt)), (3, .ref h0)]) hx hb dX15_withoutWhite_41 hl (k := 0) rfl (nI_1 _) (by decide) rfl (fun ls hl => ?_)
      refine lv_goto (tgt := 8) hx hb dX15_withoutWhite_44 (by decide) ?_
      refine W.widen (k := 0) (n := 0) (by omega) (by omega) ?_
      exact ih_12 ((j + 1), zz) F_10 (⟨⟨by omega, Or.inl (by omega)⟩, by omega, hv3⟩) (by show tt - (j + 1) < tt - j; omega) hO hR _ _ hP hD hS ls (lv_sub hl [0, 1, 2, 3, 4] rfl)
    ·
      refine lv_aload_n hx hb dX15_withoutWhite_24 rfl (lv_at hl 1 rfl) ?_
      refine lv_iload hx hb dX15_withoutWhite_25 (lv_at hl 0 rfl) ?_
      refine pg_bald hx hb hK hP hL_g1 1 hF_19 rfl (vp_in_nI (by omega) (by omega)) dX15_withoutWhite_27 ?_
      refine lv_topi (fun x_26 ex_26 => ?_)
      obtain rfl : x_26 = f_18 j := ex_26.trans (congrArg f_18 (show ((nI j) : Int32).toNatClampNeg = j from nI_clamp (by omega)))
      refine lv_bipush (v := 10) hx hb dX15_withoutWhite_28 (by decide) ?_
      refine lv_icmp_eq (tgt := 41) hx hb dX15_withoutWhite_30 (by decide) (fun c_27 => ?_) (fun c_27 => ?_)
      ·
        refine lv_iinc (v := (nI (j + 1))) (lv' := [(4, .int (nI (j + 1))), (0, .ref g1), (1, .int (nI a)), (2, .int (nI tt)), (3, .ref h0)]) hx hb dX15_withoutWhite_41 hl (k := 0) rfl (nI_1 _) (by decide) rfl (fun ls hl => ?_)
        refine lv_goto (tgt := 8) hx hb dX15_withoutWhite_44 (by decide) ?_
        refine W.widen (k := 0) (n := 0) (by omega) (by omega) ?_
        exact ih_12 ((j + 1), zz) F_10 (⟨⟨by omega, Or.inl (by omega)⟩, by omega, hv3⟩) (by show tt - (j + 1) < tt - j; omega) hO hR _ _ hP hD hS ls (lv_sub hl [0, 1, 2, 3, 4] rfl)
      ·
        refine lv_aload_n hx hb dX15_withoutWhite_33 rfl (lv_at hl 4 rfl) ?_
        refine lv_aload_n hx hb dX15_withoutWhite_34 rfl (lv_at hl 1 rfl) ?_
        refine lv_iload hx hb dX15_withoutWhite_35 (lv_at hl 0 rfl) ?_
        refine pg_bald hx hb hK hP hL_g1 1 hF_19 rfl (vp_in_nI (by omega) (by omega)) dX15_withoutWhite_37 ?_
        refine lv_topi (fun x_28 ex_28 => ?_)
        obtain rfl : x_28 = f_18 j := ex_28.trans (congrArg f_18 (show ((nI j) : Int32).toNatClampNeg = j from nI_clamp (by omega)))
        have hFc := pg_free hD hS hA
        refine va_callv (va_runV (As := [.int (f_18 j)]) (rest := []) ⟨hx, hb, hml, hown, hts⟩ (s_X14_add l dC dI cs ty gm L H.size F_10 h0 ρ r0 n zz (f_18 j) hW hL_h0 hT_h0 hv3 (by first | omega | assumption | exact Or.inl rfl)) ⟨callB_of 1 hts (gi kt_711) rfl rfl rfl (hts _ kt_676) (hts _ kt_712) (by decide +kernel) ⟨Nat.le_of_ble_eq_true rfl, Nat.le_of_ble_eq_true rfl⟩, (hts _ kt_713), (hts _ kt_714)⟩ ⟨fun a U g mk q => ⟨q.1, PTm.calling q.2⟩, pg_recv hK hP hL_h0 hv3 (q := (RX14, TX14, 2)) rfl, fun U hU hWm => ⟨rfl, PTm.mk hU hWm hP hK hD hE hO⟩⟩ rfl rfl hl.1 rfl (lv_room (Nat.le_of_ble_eq_true rfl)) dX15_withoutWhite_38 ⟨by show _ + 0 ≤ 0; omega, by show _ + 0 ≤ 0; omega⟩) hS (fun q _ h => hFc q h) hFc (fun u t H1 locs ht hvm hw hB hz1 hk1 hS => ?_)
        obtain ⟨F_30, hB1, hq_31⟩ := hB
        obtain ⟨hP, hD, hO, hR⟩ := QTm.back hB1 ht hFc hR (fun q h => by simp only [List.mem_cons, List.not_mem_nil, or_false] at h ⊢; omega)
        generalize H1 = H at hP hS ⊢
        refine lv_iinc (v := (nI (j + 1))) (lv' := [(4, .int (nI (j + 1))), (0, .ref g1), (1, .int (nI a)), (2, .int (nI tt)), (3, .ref h0)]) hx hb dX15_withoutWhite_41 hl (k := 0) rfl (nI_1 _) (by decide) rfl (fun ls hl => ?_)
        refine lv_goto (tgt := 8) hx hb dX15_withoutWhite_44 (by decide) ?_
        refine W.widen (k := 0) (n := 0) (by omega) (by omega) ?_
        exact ih_12 ((j + 1), (zz + 1)) F_30 (⟨⟨by omega, Or.inl (by omega)⟩, by omega, hq_31⟩) (by show tt - (j + 1) < tt - j; omega) hO hR _ _ hP hD hS ls (lv_sub hl [0, 1, 2, 3, 4] rfl)
