theorem dX4_countOf_0 : decode cX4_countOf 0 = .ok (.iconst 0, 1) := by decide +kernel
theorem dX4_countOf_1 : decode cX4_countOf 1 = .ok (.istore_n 2, 1) := by decide +kernel
theorem dX4_countOf_2 : decode cX4_countOf 2 = .ok (.iconst 0, 1) := by decide +kernel
theorem dX4_countOf_3 : decode cX4_countOf 3 = .ok (.istore_n 3, 1) := by decide +kernel
theorem dX4_countOf_4 : decode cX4_countOf 4 = .ok (.iload_n 3, 1) := by decide +kernel
theorem dX4_countOf_5 : decode cX4_countOf 5 = .ok (.aload_n 0, 1) := by decide +kernel
theorem dX4_countOf_6 : decode cX4_countOf 6 = .ok (.getfield 30, 3) := by decide +kernel
theorem dX4_countOf_9 : decode cX4_countOf 9 = .ok (.if_icmp .ge 26, 3) := by decide +kernel
theorem dX4_countOf_12 : decode cX4_countOf 12 = .ok (.iload_n 2, 1) := by decide +kernel
theorem dX4_countOf_13 : decode cX4_countOf 13 = .ok (.aload_n 0, 1) := by decide +kernel
theorem dX4_countOf_14 : decode cX4_countOf 14 = .ok (.iload_n 3, 1) := by decide +kernel
theorem dX4_countOf_15 : decode cX4_countOf 15 = .ok (.aload_n 1, 1) := by decide +kernel
theorem dX4_countOf_16 : decode cX4_countOf 16 = .ok (.invokevirtual 80, 3) := by decide +kernel
theorem dX4_countOf_19 : decode cX4_countOf 19 = .ok (.ifCond .eq 7, 3) := by decide +kernel
theorem dX4_countOf_22 : decode cX4_countOf 22 = .ok (.iconst 1, 1) := by decide +kernel
theorem dX4_countOf_23 : decode cX4_countOf 23 = .ok (.goto 4, 3) := by decide +kernel
theorem dX4_countOf_26 : decode cX4_countOf 26 = .ok (.iconst 0, 1) := by decide +kernel
theorem dX4_countOf_27 : decode cX4_countOf 27 = .ok (.iadd, 1) := by decide +kernel
theorem dX4_countOf_28 : decode cX4_countOf 28 = .ok (.istore_n 2, 1) := by decide +kernel
theorem dX4_countOf_29 : decode cX4_countOf 29 = .ok (.iinc 3 1, 3) := by decide +kernel
theorem dX4_countOf_32 : decode cX4_countOf 32 = .ok (.goto (-28), 3) := by decide +kernel
theorem dX4_countOf_35 : decode cX4_countOf 35 = .ok (.iload_n 2, 1) := by decide +kernel
theorem dX4_countOf_36 : decode cX4_countOf 36 = .ok (.ireturn, 1) := by decide +kernel
theorem dX4_fieldOf_0 : decode cX4_fieldOf 0 = .ok (.iload_n 2, 1) := by decide +kernel
theorem dX4_fieldOf_1 : decode cX4_fieldOf 1 = .ok (.istore_n 3, 1) := by decide +kernel
theorem dX4_fieldOf_2 : decode cX4_fieldOf 2 = .ok (.iconst 0, 1) := by decide +kernel
theorem dX4_fieldOf_3 : decode cX4_fieldOf 3 = .ok (.istore 4, 2) := by decide +kernel
theorem dX4_fieldOf_5 : decode cX4_fieldOf 5 = .ok (.iload 4, 2) := by decide +kernel
theorem dX4_fieldOf_7 : decode cX4_fieldOf 7 = .ok (.aload_n 0, 1) := by decide +kernel
theorem dX4_fieldOf_8 : decode cX4_fieldOf 8 = .ok (.getfield 30, 3) := by decide +kernel
theorem dX4_fieldOf_11 : decode cX4_fieldOf 11 = .ok (.if_icmp .ge 32, 3) := by decide +kernel
theorem dX4_fieldOf_14 : decode cX4_fieldOf 14 = .ok (.aload_n 0, 1) := by decide +kernel
theorem dX4_fieldOf_15 : decode cX4_fieldOf 15 = .ok (.iload 4, 2) := by decide +kernel
theorem dX4_fieldOf_17 : decode cX4_fieldOf 17 = .ok (.aload_n 1, 1) := by decide +kernel
theorem dX4_fieldOf_18 : decode cX4_fieldOf 18 = .ok (.invokevirtual 80, 3) := by decide +kernel
theorem dX4_fieldOf_21 : decode cX4_fieldOf 21 = .ok (.ifCond .ne 6, 3) := by decide +kernel
theorem dX4_fieldOf_24 : decode cX4_fieldOf 24 = .ok (.goto 13, 3) := by decide +kernel
theorem dX4_fieldOf_27 : decode cX4_fieldOf 27 = .ok (.iload_n 3, 1) := by decide +kernel
theorem dX4_fieldOf_28 : decode cX4_fieldOf 28 = .ok (.ifCond .ne 6, 3) := by decide +kernel
theorem dX4_fieldOf_31 : decode cX4_fieldOf 31 = .ok (.iload 4, 2) := by decide +kernel
theorem dX4_fieldOf_33 : decode cX4_fieldOf 33 = .ok (.ireturn, 1) := by decide +kernel
theorem dX4_fieldOf_34 : decode cX4_fieldOf 34 = .ok (.iinc 3 (-1), 3) := by decide +kernel
theorem dX4_fieldOf_37 : decode cX4_fieldOf 37 = .ok (.iinc 4 1, 3) := by decide +kernel
theorem dX4_fieldOf_40 : decode cX4_fieldOf 40 = .ok (.goto (-35), 3) := by decide +kernel
theorem dX4_fieldOf_43 : decode cX4_fieldOf 43 = .ok (.iconst (-1), 1) := by decide +kernel
theorem dX4_fieldOf_44 : decode cX4_fieldOf 44 = .ok (.ireturn, 1) := by decide +kernel
theorem dX4_isFieldName_0 : decode cX4_isFieldName 0 = .ok (.iload_n 1, 1) := by decide +kernel
theorem dX4_isFieldName_1 : decode cX4_isFieldName 1 = .ok (.istore_n 3, 1) := by decide +kernel
theorem dX4_isFieldName_2 : decode cX4_isFieldName 2 = .ok (.iload_n 3, 1) := by decide +kernel
theorem dX4_isFieldName_3 : decode cX4_isFieldName 3 = .ok (.iload_n 2, 1) := by decide +kernel
theorem dX4_isFieldName_4 : decode cX4_isFieldName 4 = .ok (.if_icmp .ge 22, 3) := by decide +kernel
theorem dX4_isFieldName_7 : decode cX4_isFieldName 7 = .ok (.aload_n 0, 1) := by decide +kernel
theorem dX4_isFieldName_8 : decode cX4_isFieldName 8 = .ok (.iload_n 3, 1) := by decide +kernel
theorem dX4_isFieldName_9 : decode cX4_isFieldName 9 = .ok (.invokevirtual 44, 3) := by decide +kernel
theorem dX4_isFieldName_12 : decode cX4_isFieldName 12 = .ok (.invokestatic 64, 3) := by decide +kernel
theorem dX4_isFieldName_15 : decode cX4_isFieldName 15 = .ok (.ifCond .ne 5, 3) := by decide +kernel
theorem dX4_isFieldName_18 : decode cX4_isFieldName 18 = .ok (.iconst 0, 1) := by decide +kernel
theorem dX4_isFieldName_19 : decode cX4_isFieldName 19 = .ok (.ireturn, 1) := by decide +kernel
theorem dX4_isFieldName_20 : decode cX4_isFieldName 20 = .ok (.iinc 3 1, 3) := by decide +kernel
theorem dX4_isFieldName_23 : decode cX4_isFieldName 23 = .ok (.goto (-21), 3) := by decide +kernel
theorem dX4_isFieldName_26 : decode cX4_isFieldName 26 = .ok (.iload_n 2, 1) := by decide +kernel
theorem dX4_isFieldName_27 : decode cX4_isFieldName 27 = .ok (.iload_n 1, 1) := by decide +kernel
theorem dX4_isFieldName_28 : decode cX4_isFieldName 28 = .ok (.isub, 1) := by decide +kernel
theorem dX4_isFieldName_29 : decode cX4_isFieldName 29 = .ok (.iconst 1, 1) := by decide +kernel
theorem dX4_isFieldName_30 : decode cX4_isFieldName 30 = .ok (.if_icmp .lt 15, 3) := by decide +kernel
theorem dX4_isFieldName_33 : decode cX4_isFieldName 33 = .ok (.iload_n 2, 1) := by decide +kernel
theorem dX4_isFieldName_34 : decode cX4_isFieldName 34 = .ok (.iload_n 1, 1) := by decide +kernel
theorem dX4_isFieldName_35 : decode cX4_isFieldName 35 = .ok (.isub, 1) := by decide +kernel
theorem dX4_isFieldName_36 : decode cX4_isFieldName 36 = .ok (.bipush 20, 2) := by decide +kernel
theorem dX4_isFieldName_38 : decode cX4_isFieldName 38 = .ok (.if_icmp .gt 7, 3) := by decide +kernel
theorem dX4_isFieldName_41 : decode cX4_isFieldName 41 = .ok (.iconst 1, 1) := by decide +kernel
theorem dX4_isFieldName_42 : decode cX4_isFieldName 42 = .ok (.goto 4, 3) := by decide +kernel
theorem dX4_isFieldName_45 : decode cX4_isFieldName 45 = .ok (.iconst 0, 1) := by decide +kernel
theorem dX4_isFieldName_46 : decode cX4_isFieldName 46 = .ok (.ireturn, 1) := by decide +kernel
theorem dX4_isNamed_0 : decode cX4_isNamed 0 = .ok (.iload_n 1, 1) := by decide +kernel
theorem dX4_isNamed_1 : decode cX4_isNamed 1 = .ok (.ifCond .lt 31, 3) := by decide +kernel
theorem dX4_isNamed_4 : decode cX4_isNamed 4 = .ok (.iload_n 1, 1) := by decide +kernel
theorem dX4_isNamed_5 : decode cX4_isNamed 5 = .ok (.aload_n 0, 1) := by decide +kernel
theorem dX4_isNamed_6 : decode cX4_isNamed 6 = .ok (.getfield 30, 3) := by decide +kernel
theorem dX4_isNamed_9 : decode cX4_isNamed 9 = .ok (.if_icmp .ge 23, 3) := by decide +kernel
theorem dX4_isNamed_12 : decode cX4_isNamed 12 = .ok (.aload_n 0, 1) := by decide +kernel
theorem dX4_isNamed_13 : decode cX4_isNamed 13 = .ok (.getfield 24, 3) := by decide +kernel
theorem dX4_isNamed_16 : decode cX4_isNamed 16 = .ok (.iload_n 1, 1) := by decide +kernel
theorem dX4_isNamed_17 : decode cX4_isNamed 17 = .ok (.iaload, 1) := by decide +kernel
theorem dX4_isNamed_18 : decode cX4_isNamed 18 = .ok (.aload_n 0, 1) := by decide +kernel
theorem dX4_isNamed_19 : decode cX4_isNamed 19 = .ok (.getfield 20, 3) := by decide +kernel
theorem dX4_isNamed_22 : decode cX4_isNamed 22 = .ok (.iload_n 1, 1) := by decide +kernel
theorem dX4_isNamed_23 : decode cX4_isNamed 23 = .ok (.iaload, 1) := by decide +kernel
theorem dX4_isNamed_24 : decode cX4_isNamed 24 = .ok (.isub, 1) := by decide +kernel
theorem dX4_isNamed_25 : decode cX4_isNamed 25 = .ok (.aload_n 2, 1) := by decide +kernel
theorem dX4_isNamed_26 : decode cX4_isNamed 26 = .ok (.invokevirtual 67, 3) := by decide +kernel
theorem dX4_isNamed_29 : decode cX4_isNamed 29 = .ok (.if_icmp .eq 5, 3) := by decide +kernel
theorem dX4_isNamed_32 : decode cX4_isNamed 32 = .ok (.iconst 0, 1) := by decide +kernel
theorem dX4_isNamed_33 : decode cX4_isNamed 33 = .ok (.ireturn, 1) := by decide +kernel
theorem dX4_isNamed_34 : decode cX4_isNamed 34 = .ok (.iconst 0, 1) := by decide +kernel
theorem dX4_isNamed_35 : decode cX4_isNamed 35 = .ok (.istore_n 3, 1) := by decide +kernel
theorem dX4_isNamed_36 : decode cX4_isNamed 36 = .ok (.iload_n 3, 1) := by decide +kernel
theorem dX4_isNamed_37 : decode cX4_isNamed 37 = .ok (.aload_n 2, 1) := by decide +kernel
theorem dX4_isNamed_38 : decode cX4_isNamed 38 = .ok (.invokevirtual 67, 3) := by decide +kernel
theorem dX4_isNamed_41 : decode cX4_isNamed 41 = .ok (.if_icmp .ge 37, 3) := by decide +kernel
theorem dX4_isNamed_44 : decode cX4_isNamed 44 = .ok (.aload_n 0, 1) := by decide +kernel
theorem dX4_isNamed_45 : decode cX4_isNamed 45 = .ok (.getfield 14, 3) := by decide +kernel
theorem dX4_isNamed_48 : decode cX4_isNamed 48 = .ok (.aload_n 0, 1) := by decide +kernel
theorem dX4_isNamed_49 : decode cX4_isNamed 49 = .ok (.getfield 20, 3) := by decide +kernel
theorem dX4_isNamed_52 : decode cX4_isNamed 52 = .ok (.iload_n 1, 1) := by decide +kernel
theorem dX4_isNamed_53 : decode cX4_isNamed 53 = .ok (.iaload, 1) := by decide +kernel
theorem dX4_isNamed_54 : decode cX4_isNamed 54 = .ok (.iload_n 3, 1) := by decide +kernel
theorem dX4_isNamed_55 : decode cX4_isNamed 55 = .ok (.iadd, 1) := by decide +kernel
theorem dX4_isNamed_56 : decode cX4_isNamed 56 = .ok (.invokevirtual 44, 3) := by decide +kernel
theorem dX4_isNamed_59 : decode cX4_isNamed 59 = .ok (.invokestatic 73, 3) := by decide +kernel
theorem dX4_isNamed_62 : decode cX4_isNamed 62 = .ok (.aload_n 2, 1) := by decide +kernel
theorem dX4_isNamed_63 : decode cX4_isNamed 63 = .ok (.iload_n 3, 1) := by decide +kernel
theorem dX4_isNamed_64 : decode cX4_isNamed 64 = .ok (.invokevirtual 76, 3) := by decide +kernel
theorem dX4_isNamed_67 : decode cX4_isNamed 67 = .ok (.if_icmp .eq 5, 3) := by decide +kernel
theorem dX4_isNamed_70 : decode cX4_isNamed 70 = .ok (.iconst 0, 1) := by decide +kernel
theorem dX4_isNamed_71 : decode cX4_isNamed 71 = .ok (.ireturn, 1) := by decide +kernel
theorem dX4_isNamed_72 : decode cX4_isNamed 72 = .ok (.iinc 3 1, 3) := by decide +kernel
theorem dX4_isNamed_75 : decode cX4_isNamed 75 = .ok (.goto (-39), 3) := by decide +kernel
theorem dX4_isNamed_78 : decode cX4_isNamed 78 = .ok (.iconst 1, 1) := by decide +kernel
theorem dX4_isNamed_79 : decode cX4_isNamed 79 = .ok (.ireturn, 1) := by decide +kernel
theorem dX4_isNamedLike_0 : decode cX4_isNamedLike 0 = .ok (.iload_n 1, 1) := by decide +kernel
theorem dX4_isNamedLike_1 : decode cX4_isNamedLike 1 = .ok (.ifCond .lt 31, 3) := by decide +kernel
theorem dX4_isNamedLike_4 : decode cX4_isNamedLike 4 = .ok (.iload_n 1, 1) := by decide +kernel
theorem dX4_isNamedLike_5 : decode cX4_isNamedLike 5 = .ok (.aload_n 0, 1) := by decide +kernel
theorem dX4_isNamedLike_6 : decode cX4_isNamedLike 6 = .ok (.getfield 30, 3) := by decide +kernel
theorem dX4_isNamedLike_9 : decode cX4_isNamedLike 9 = .ok (.if_icmp .ge 23, 3) := by decide +kernel
theorem dX4_isNamedLike_12 : decode cX4_isNamedLike 12 = .ok (.aload_n 0, 1) := by decide +kernel
theorem dX4_isNamedLike_13 : decode cX4_isNamedLike 13 = .ok (.getfield 24, 3) := by decide +kernel
theorem dX4_isNamedLike_16 : decode cX4_isNamedLike 16 = .ok (.iload_n 1, 1) := by decide +kernel
theorem dX4_isNamedLike_17 : decode cX4_isNamedLike 17 = .ok (.iaload, 1) := by decide +kernel
theorem dX4_isNamedLike_18 : decode cX4_isNamedLike 18 = .ok (.aload_n 0, 1) := by decide +kernel
theorem dX4_isNamedLike_19 : decode cX4_isNamedLike 19 = .ok (.getfield 20, 3) := by decide +kernel
theorem dX4_isNamedLike_22 : decode cX4_isNamedLike 22 = .ok (.iload_n 1, 1) := by decide +kernel
theorem dX4_isNamedLike_23 : decode cX4_isNamedLike 23 = .ok (.iaload, 1) := by decide +kernel
theorem dX4_isNamedLike_24 : decode cX4_isNamedLike 24 = .ok (.isub, 1) := by decide +kernel
theorem dX4_isNamedLike_25 : decode cX4_isNamedLike 25 = .ok (.iload 4, 2) := by decide +kernel
theorem dX4_isNamedLike_27 : decode cX4_isNamedLike 27 = .ok (.iload_n 3, 1) := by decide +kernel
theorem dX4_isNamedLike_28 : decode cX4_isNamedLike 28 = .ok (.isub, 1) := by decide +kernel
theorem dX4_isNamedLike_29 : decode cX4_isNamedLike 29 = .ok (.if_icmp .eq 5, 3) := by decide +kernel
theorem dX4_isNamedLike_32 : decode cX4_isNamedLike 32 = .ok (.iconst 0, 1) := by decide +kernel
theorem dX4_isNamedLike_33 : decode cX4_isNamedLike 33 = .ok (.ireturn, 1) := by decide +kernel
theorem dX4_isNamedLike_34 : decode cX4_isNamedLike 34 = .ok (.iconst 0, 1) := by decide +kernel
theorem dX4_isNamedLike_35 : decode cX4_isNamedLike 35 = .ok (.istore 5, 2) := by decide +kernel
theorem dX4_isNamedLike_37 : decode cX4_isNamedLike 37 = .ok (.iload 5, 2) := by decide +kernel
theorem dX4_isNamedLike_39 : decode cX4_isNamedLike 39 = .ok (.iload 4, 2) := by decide +kernel
theorem dX4_isNamedLike_41 : decode cX4_isNamedLike 41 = .ok (.iload_n 3, 1) := by decide +kernel
theorem dX4_isNamedLike_42 : decode cX4_isNamedLike 42 = .ok (.isub, 1) := by decide +kernel
theorem dX4_isNamedLike_43 : decode cX4_isNamedLike 43 = .ok (.if_icmp .ge 44, 3) := by decide +kernel
theorem dX4_isNamedLike_46 : decode cX4_isNamedLike 46 = .ok (.aload_n 0, 1) := by decide +kernel
theorem dX4_isNamedLike_47 : decode cX4_isNamedLike 47 = .ok (.getfield 14, 3) := by decide +kernel
theorem dX4_isNamedLike_50 : decode cX4_isNamedLike 50 = .ok (.aload_n 0, 1) := by decide +kernel
theorem dX4_isNamedLike_51 : decode cX4_isNamedLike 51 = .ok (.getfield 20, 3) := by decide +kernel
theorem dX4_isNamedLike_54 : decode cX4_isNamedLike 54 = .ok (.iload_n 1, 1) := by decide +kernel
theorem dX4_isNamedLike_55 : decode cX4_isNamedLike 55 = .ok (.iaload, 1) := by decide +kernel
theorem dX4_isNamedLike_56 : decode cX4_isNamedLike 56 = .ok (.iload 5, 2) := by decide +kernel
theorem dX4_isNamedLike_58 : decode cX4_isNamedLike 58 = .ok (.iadd, 1) := by decide +kernel
theorem dX4_isNamedLike_59 : decode cX4_isNamedLike 59 = .ok (.invokevirtual 44, 3) := by decide +kernel
theorem dX4_isNamedLike_62 : decode cX4_isNamedLike 62 = .ok (.invokestatic 73, 3) := by decide +kernel
theorem dX4_isNamedLike_65 : decode cX4_isNamedLike 65 = .ok (.aload_n 2, 1) := by decide +kernel
theorem dX4_isNamedLike_66 : decode cX4_isNamedLike 66 = .ok (.iload_n 3, 1) := by decide +kernel
theorem dX4_isNamedLike_67 : decode cX4_isNamedLike 67 = .ok (.iload 5, 2) := by decide +kernel
theorem dX4_isNamedLike_69 : decode cX4_isNamedLike 69 = .ok (.iadd, 1) := by decide +kernel
theorem dX4_isNamedLike_70 : decode cX4_isNamedLike 70 = .ok (.invokevirtual 44, 3) := by decide +kernel
theorem dX4_isNamedLike_73 : decode cX4_isNamedLike 73 = .ok (.invokestatic 73, 3) := by decide +kernel
theorem dX4_isNamedLike_76 : decode cX4_isNamedLike 76 = .ok (.if_icmp .eq 5, 3) := by decide +kernel
theorem dX4_isNamedLike_79 : decode cX4_isNamedLike 79 = .ok (.iconst 0, 1) := by decide +kernel
theorem dX4_isNamedLike_80 : decode cX4_isNamedLike 80 = .ok (.ireturn, 1) := by decide +kernel
theorem dX4_isNamedLike_81 : decode cX4_isNamedLike 81 = .ok (.iinc 5 1, 3) := by decide +kernel
theorem dX4_isNamedLike_84 : decode cX4_isNamedLike 84 = .ok (.goto (-47), 3) := by decide +kernel
theorem dX4_isNamedLike_87 : decode cX4_isNamedLike 87 = .ok (.iconst 1, 1) := by decide +kernel
theorem dX4_isNamedLike_88 : decode cX4_isNamedLike 88 = .ok (.ireturn, 1) := by decide +kernel
theorem dX4_read_0 : decode cX4_read 0 = .ok (.aload_n 0, 1) := by decide +kernel
theorem dX4_read_1 : decode cX4_read 1 = .ok (.getfield 14, 3) := by decide +kernel
theorem dX4_read_4 : decode cX4_read 4 = .ok (.aload_n 1, 1) := by decide +kernel
theorem dX4_read_5 : decode cX4_read 5 = .ok (.invokevirtual 37, 3) := by decide +kernel
theorem dX4_read_8 : decode cX4_read 8 = .ok (.aload_n 0, 1) := by decide +kernel
theorem dX4_read_9 : decode cX4_read 9 = .ok (.iconst 0, 1) := by decide +kernel
theorem dX4_read_10 : decode cX4_read 10 = .ok (.putfield 30, 3) := by decide +kernel
theorem dX4_read_13 : decode cX4_read 13 = .ok (.aload_n 0, 1) := by decide +kernel
theorem dX4_read_14 : decode cX4_read 14 = .ok (.aload_n 0, 1) := by decide +kernel
theorem dX4_read_15 : decode cX4_read 15 = .ok (.getfield 14, 3) := by decide +kernel
theorem dX4_read_18 : decode cX4_read 18 = .ok (.getfield 41, 3) := by decide +kernel
theorem dX4_read_21 : decode cX4_read 21 = .ok (.putfield 34, 3) := by decide +kernel
theorem dX4_read_24 : decode cX4_read 24 = .ok (.iconst 0, 1) := by decide +kernel
theorem dX4_read_25 : decode cX4_read 25 = .ok (.istore_n 2, 1) := by decide +kernel
theorem dX4_read_26 : decode cX4_read 26 = .ok (.iconst 0, 1) := by decide +kernel
theorem dX4_read_27 : decode cX4_read 27 = .ok (.istore_n 3, 1) := by decide +kernel
theorem dX4_read_28 : decode cX4_read 28 = .ok (.iload_n 3, 1) := by decide +kernel
theorem dX4_read_29 : decode cX4_read 29 = .ok (.aload_n 0, 1) := by decide +kernel
theorem dX4_read_30 : decode cX4_read 30 = .ok (.getfield 14, 3) := by decide +kernel
theorem dX4_read_33 : decode cX4_read 33 = .ok (.getfield 41, 3) := by decide +kernel
theorem dX4_read_36 : decode cX4_read 36 = .ok (.if_icmp .gt 88, 3) := by decide +kernel
theorem dX4_read_39 : decode cX4_read 39 = .ok (.iload_n 3, 1) := by decide +kernel
theorem dX4_read_40 : decode cX4_read 40 = .ok (.aload_n 0, 1) := by decide +kernel
theorem dX4_read_41 : decode cX4_read 41 = .ok (.getfield 14, 3) := by decide +kernel
theorem dX4_read_44 : decode cX4_read 44 = .ok (.getfield 41, 3) := by decide +kernel
theorem dX4_read_47 : decode cX4_read 47 = .ok (.if_icmp .ne 7, 3) := by decide +kernel
theorem dX4_read_50 : decode cX4_read 50 = .ok (.iconst 1, 1) := by decide +kernel
theorem dX4_read_51 : decode cX4_read 51 = .ok (.goto 4, 3) := by decide +kernel
theorem dX4_read_54 : decode cX4_read 54 = .ok (.iconst 0, 1) := by decide +kernel
theorem dX4_read_55 : decode cX4_read 55 = .ok (.istore 4, 2) := by decide +kernel
theorem dX4_read_57 : decode cX4_read 57 = .ok (.iload 4, 2) := by decide +kernel
theorem dX4_read_59 : decode cX4_read 59 = .ok (.ifCond .ne 16, 3) := by decide +kernel
theorem dX4_read_62 : decode cX4_read 62 = .ok (.aload_n 0, 1) := by decide +kernel
theorem dX4_read_63 : decode cX4_read 63 = .ok (.getfield 14, 3) := by decide +kernel
theorem dX4_read_66 : decode cX4_read 66 = .ok (.iload_n 3, 1) := by decide +kernel
theorem dX4_read_67 : decode cX4_read 67 = .ok (.invokevirtual 44, 3) := by decide +kernel
theorem dX4_read_70 : decode cX4_read 70 = .ok (.bipush 10, 2) := by decide +kernel
theorem dX4_read_72 : decode cX4_read 72 = .ok (.if_icmp .ne 46, 3) := by decide +kernel
theorem dX4_read_75 : decode cX4_read 75 = .ok (.iload 4, 2) := by decide +kernel
theorem dX4_read_77 : decode cX4_read 77 = .ok (.ifCond .eq 11, 3) := by decide +kernel
theorem dX4_read_80 : decode cX4_read 80 = .ok (.iload_n 2, 1) := by decide +kernel
theorem dX4_read_81 : decode cX4_read 81 = .ok (.iload_n 3, 1) := by decide +kernel
theorem dX4_read_82 : decode cX4_read 82 = .ok (.if_icmp .ne 6, 3) := by decide +kernel
theorem dX4_read_85 : decode cX4_read 85 = .ok (.goto 33, 3) := by decide +kernel
theorem dX4_read_88 : decode cX4_read 88 = .ok (.iload_n 2, 1) := by decide +kernel
theorem dX4_read_89 : decode cX4_read 89 = .ok (.iload_n 3, 1) := by decide +kernel
theorem dX4_read_90 : decode cX4_read 90 = .ok (.if_icmp .ne 13, 3) := by decide +kernel
theorem dX4_read_93 : decode cX4_read 93 = .ok (.aload_n 0, 1) := by decide +kernel
theorem dX4_read_94 : decode cX4_read 94 = .ok (.iload_n 3, 1) := by decide +kernel
theorem dX4_read_95 : decode cX4_read 95 = .ok (.iconst 1, 1) := by decide +kernel
theorem dX4_read_96 : decode cX4_read 96 = .ok (.iadd, 1) := by decide +kernel
theorem dX4_read_97 : decode cX4_read 97 = .ok (.putfield 34, 3) := by decide +kernel
theorem dX4_read_100 : decode cX4_read 100 = .ok (.goto 24, 3) := by decide +kernel
theorem dX4_read_103 : decode cX4_read 103 = .ok (.aload_n 0, 1) := by decide +kernel
theorem dX4_read_104 : decode cX4_read 104 = .ok (.iload_n 2, 1) := by decide +kernel
theorem dX4_read_105 : decode cX4_read 105 = .ok (.iload_n 3, 1) := by decide +kernel
theorem dX4_read_106 : decode cX4_read 106 = .ok (.invokevirtual 48, 3) := by decide +kernel
theorem dX4_read_109 : decode cX4_read 109 = .ok (.ifCond .ne 5, 3) := by decide +kernel
theorem dX4_read_112 : decode cX4_read 112 = .ok (.iconst 0, 1) := by decide +kernel
theorem dX4_read_113 : decode cX4_read 113 = .ok (.ireturn, 1) := by decide +kernel
theorem dX4_read_114 : decode cX4_read 114 = .ok (.iload_n 3, 1) := by decide +kernel
theorem dX4_read_115 : decode cX4_read 115 = .ok (.iconst 1, 1) := by decide +kernel
theorem dX4_read_116 : decode cX4_read 116 = .ok (.iadd, 1) := by decide +kernel
theorem dX4_read_117 : decode cX4_read 117 = .ok (.istore_n 2, 1) := by decide +kernel
theorem dX4_read_118 : decode cX4_read 118 = .ok (.iinc 3 1, 3) := by decide +kernel
theorem dX4_read_121 : decode cX4_read 121 = .ok (.goto (-93), 3) := by decide +kernel
theorem dX4_read_124 : decode cX4_read 124 = .ok (.aload_n 0, 1) := by decide +kernel
theorem dX4_read_125 : decode cX4_read 125 = .ok (.getfield 30, 3) := by decide +kernel
theorem dX4_read_128 : decode cX4_read 128 = .ok (.ifCond .le 7, 3) := by decide +kernel
theorem dX4_read_131 : decode cX4_read 131 = .ok (.iconst 1, 1) := by decide +kernel
theorem dX4_read_132 : decode cX4_read 132 = .ok (.goto 4, 3) := by decide +kernel
theorem dX4_read_135 : decode cX4_read 135 = .ok (.iconst 0, 1) := by decide +kernel
theorem dX4_read_136 : decode cX4_read 136 = .ok (.ireturn, 1) := by decide +kernel
theorem dX4_takeLine_0 : decode cX4_takeLine 0 = .ok (.aload_n 0, 1) := by decide +kernel
theorem dX4_takeLine_1 : decode cX4_takeLine 1 = .ok (.getfield 14, 3) := by decide +kernel
theorem dX4_takeLine_4 : decode cX4_takeLine 4 = .ok (.iload_n 1, 1) := by decide +kernel
theorem dX4_takeLine_5 : decode cX4_takeLine 5 = .ok (.invokevirtual 44, 3) := by decide +kernel
theorem dX4_takeLine_8 : decode cX4_takeLine 8 = .ok (.invokestatic 52, 3) := by decide +kernel
theorem dX4_takeLine_11 : decode cX4_takeLine 11 = .ok (.ifCond .eq 35, 3) := by decide +kernel
theorem dX4_takeLine_14 : decode cX4_takeLine 14 = .ok (.aload_n 0, 1) := by decide +kernel
theorem dX4_takeLine_15 : decode cX4_takeLine 15 = .ok (.getfield 30, 3) := by decide +kernel
theorem dX4_takeLine_18 : decode cX4_takeLine 18 = .ok (.ifCond .le 15, 3) := by decide +kernel
theorem dX4_takeLine_21 : decode cX4_takeLine 21 = .ok (.aload_n 0, 1) := by decide +kernel
theorem dX4_takeLine_22 : decode cX4_takeLine 22 = .ok (.getfield 27, 3) := by decide +kernel
theorem dX4_takeLine_25 : decode cX4_takeLine 25 = .ok (.aload_n 0, 1) := by decide +kernel
theorem dX4_takeLine_26 : decode cX4_takeLine 26 = .ok (.getfield 30, 3) := by decide +kernel
theorem dX4_takeLine_29 : decode cX4_takeLine 29 = .ok (.iconst 1, 1) := by decide +kernel
theorem dX4_takeLine_30 : decode cX4_takeLine 30 = .ok (.isub, 1) := by decide +kernel
theorem dX4_takeLine_31 : decode cX4_takeLine 31 = .ok (.iload_n 2, 1) := by decide +kernel
theorem dX4_takeLine_32 : decode cX4_takeLine 32 = .ok (.iastore, 1) := by decide +kernel
theorem dX4_takeLine_33 : decode cX4_takeLine 33 = .ok (.aload_n 0, 1) := by decide +kernel
theorem dX4_takeLine_34 : decode cX4_takeLine 34 = .ok (.getfield 30, 3) := by decide +kernel
theorem dX4_takeLine_37 : decode cX4_takeLine 37 = .ok (.ifCond .le 7, 3) := by decide +kernel
theorem dX4_takeLine_40 : decode cX4_takeLine 40 = .ok (.iconst 1, 1) := by decide +kernel
theorem dX4_takeLine_41 : decode cX4_takeLine 41 = .ok (.goto 4, 3) := by decide +kernel
theorem dX4_takeLine_44 : decode cX4_takeLine 44 = .ok (.iconst 0, 1) := by decide +kernel
theorem dX4_takeLine_45 : decode cX4_takeLine 45 = .ok (.ireturn, 1) := by decide +kernel
theorem dX4_takeLine_46 : decode cX4_takeLine 46 = .ok (.aload_n 0, 1) := by decide +kernel
theorem dX4_takeLine_47 : decode cX4_takeLine 47 = .ok (.getfield 14, 3) := by decide +kernel
theorem dX4_takeLine_50 : decode cX4_takeLine 50 = .ok (.bipush 58, 2) := by decide +kernel
theorem dX4_takeLine_52 : decode cX4_takeLine 52 = .ok (.iload_n 1, 1) := by decide +kernel
theorem dX4_takeLine_53 : decode cX4_takeLine 53 = .ok (.iload_n 2, 1) := by decide +kernel
theorem dX4_takeLine_54 : decode cX4_takeLine 54 = .ok (.invokevirtual 56, 3) := by decide +kernel
theorem dX4_takeLine_57 : decode cX4_takeLine 57 = .ok (.istore_n 3, 1) := by decide +kernel
theorem dX4_takeLine_58 : decode cX4_takeLine 58 = .ok (.aload_n 0, 1) := by decide +kernel
theorem dX4_takeLine_59 : decode cX4_takeLine 59 = .ok (.getfield 30, 3) := by decide +kernel
theorem dX4_takeLine_62 : decode cX4_takeLine 62 = .ok (.bipush 20, 2) := by decide +kernel
theorem dX4_takeLine_64 : decode cX4_takeLine 64 = .ok (.if_icmp .eq 20, 3) := by decide +kernel
theorem dX4_takeLine_67 : decode cX4_takeLine 67 = .ok (.iload_n 3, 1) := by decide +kernel
theorem dX4_takeLine_68 : decode cX4_takeLine 68 = .ok (.iload_n 2, 1) := by decide +kernel
theorem dX4_takeLine_69 : decode cX4_takeLine 69 = .ok (.if_icmp .eq 15, 3) := by decide +kernel
theorem dX4_takeLine_72 : decode cX4_takeLine 72 = .ok (.aload_n 0, 1) := by decide +kernel
theorem dX4_takeLine_73 : decode cX4_takeLine 73 = .ok (.getfield 14, 3) := by decide +kernel
theorem dX4_takeLine_76 : decode cX4_takeLine 76 = .ok (.iload_n 1, 1) := by decide +kernel
theorem dX4_takeLine_77 : decode cX4_takeLine 77 = .ok (.iload_n 3, 1) := by decide +kernel
theorem dX4_takeLine_78 : decode cX4_takeLine 78 = .ok (.invokestatic 60, 3) := by decide +kernel
theorem dX4_takeLine_81 : decode cX4_takeLine 81 = .ok (.ifCond .ne 5, 3) := by decide +kernel
theorem dX4_takeLine_84 : decode cX4_takeLine 84 = .ok (.iconst 0, 1) := by decide +kernel
theorem dX4_takeLine_85 : decode cX4_takeLine 85 = .ok (.ireturn, 1) := by decide +kernel
theorem dX4_takeLine_86 : decode cX4_takeLine 86 = .ok (.aload_n 0, 1) := by decide +kernel
theorem dX4_takeLine_87 : decode cX4_takeLine 87 = .ok (.getfield 20, 3) := by decide +kernel
theorem dX4_takeLine_90 : decode cX4_takeLine 90 = .ok (.aload_n 0, 1) := by decide +kernel
theorem dX4_takeLine_91 : decode cX4_takeLine 91 = .ok (.getfield 30, 3) := by decide +kernel
theorem dX4_takeLine_94 : decode cX4_takeLine 94 = .ok (.iload_n 1, 1) := by decide +kernel
theorem dX4_takeLine_95 : decode cX4_takeLine 95 = .ok (.iastore, 1) := by decide +kernel
theorem dX4_takeLine_96 : decode cX4_takeLine 96 = .ok (.aload_n 0, 1) := by decide +kernel
theorem dX4_takeLine_97 : decode cX4_takeLine 97 = .ok (.getfield 24, 3) := by decide +kernel
theorem dX4_takeLine_100 : decode cX4_takeLine 100 = .ok (.aload_n 0, 1) := by decide +kernel
theorem dX4_takeLine_101 : decode cX4_takeLine 101 = .ok (.getfield 30, 3) := by decide +kernel
theorem dX4_takeLine_104 : decode cX4_takeLine 104 = .ok (.iload_n 3, 1) := by decide +kernel
theorem dX4_takeLine_105 : decode cX4_takeLine 105 = .ok (.iastore, 1) := by decide +kernel
theorem dX4_takeLine_106 : decode cX4_takeLine 106 = .ok (.aload_n 0, 1) := by decide +kernel
theorem dX4_takeLine_107 : decode cX4_takeLine 107 = .ok (.getfield 27, 3) := by decide +kernel
theorem dX4_takeLine_110 : decode cX4_takeLine 110 = .ok (.aload_n 0, 1) := by decide +kernel
theorem dX4_takeLine_111 : decode cX4_takeLine 111 = .ok (.getfield 30, 3) := by decide +kernel
theorem dX4_takeLine_114 : decode cX4_takeLine 114 = .ok (.iload_n 2, 1) := by decide +kernel
theorem dX4_takeLine_115 : decode cX4_takeLine 115 = .ok (.iastore, 1) := by decide +kernel
theorem dX4_takeLine_116 : decode cX4_takeLine 116 = .ok (.aload_n 0, 1) := by decide +kernel
theorem dX4_takeLine_117 : decode cX4_takeLine 117 = .ok (.dup, 1) := by decide +kernel
theorem dX4_takeLine_118 : decode cX4_takeLine 118 = .ok (.getfield 30, 3) := by decide +kernel
theorem dX4_takeLine_121 : decode cX4_takeLine 121 = .ok (.iconst 1, 1) := by decide +kernel
theorem dX4_takeLine_122 : decode cX4_takeLine 122 = .ok (.iadd, 1) := by decide +kernel
theorem dX4_takeLine_123 : decode cX4_takeLine 123 = .ok (.putfield 30, 3) := by decide +kernel
theorem dX4_takeLine_126 : decode cX4_takeLine 126 = .ok (.iconst 1, 1) := by decide +kernel
theorem dX4_takeLine_127 : decode cX4_takeLine 127 = .ok (.ireturn, 1) := by decide +kernel
theorem kt_199 : Cond.methodLink RX4 44 yX0_at ∈ tb := tb_at (i := 800) (by decide +kernel) (by decide +kernel)
theorem kt_200 : Cond.code yX0_isFieldSign cX0_isFieldSign 1 (some .boolean) ∈ tb := tb_at (i := 814) (by decide +kernel) (by decide +kernel)
theorem kt_201 : Cond.methodLink RX4 64 yX0_isFieldSign ∈ tb := tb_at (i := 812) (by decide +kernel) (by decide +kernel)
theorem kt_202 : Cond.static yX0_isFieldSign ∈ tb := tb_at (i := 813) (by decide +kernel) (by decide +kernel)
theorem kt_203 : Cond.fieldLink RX4 30 "PostGate$Message" "count" "I" ∈ tb := tb_at (i := 440) (by decide +kernel) (by decide +kernel)
theorem kt_204 : Cond.fieldLink RX4 24 "PostGate$Message" "colons" "[I" ∈ tb := tb_at (i := 434) (by decide +kernel) (by decide +kernel)
theorem kt_205 : Cond.fieldLink RX4 20 "PostGate$Message" "starts" "[I" ∈ tb := tb_at (i := 433) (by decide +kernel) (by decide +kernel)
theorem kt_206 : Cond.methodLink RX4 67 yJ0_length_8abf5 ∈ tb := tb_at (i := 831) (by decide +kernel) (by decide +kernel)
theorem kt_207 : Cond.fieldLink RX4 14 "PostGate$Message" "text" "LPostGate$Bytes;" ∈ tb := tb_at (i := 430) (by decide +kernel) (by decide +kernel)
theorem kt_208 : Cond.methodLink RX4 73 yX0_smallOf ∈ tb := tb_at (i := 832) (by decide +kernel) (by decide +kernel)
theorem kt_209 : Cond.methodLink RX4 76 yJ0_charAt_5068e ∈ tb := tb_at (i := 833) (by decide +kernel) (by decide +kernel)
theorem kt_210 : Cond.code yX4_isNamed cX4_isNamed 4 (some .boolean) ∈ tb := tb_at (i := 830) (by decide +kernel) (by decide +kernel)
theorem kt_211 : Cond.initialized RX4 ∈ tb := tb_at (i := 92) (by decide +kernel) (by decide +kernel)
theorem kt_212 : Cond.methodLink RX4 80 yX4_isNamed ∈ tb := tb_at (i := 827) (by decide +kernel) (by decide +kernel)
theorem kt_213 : Cond.instanceMethod yX4_isNamed ∈ tb := tb_at (i := 828) (by decide +kernel) (by decide +kernel)
theorem kt_214 : Cond.selects RX4 yX4_isNamed yX4_isNamed ∈ tb := tb_at (i := 829) (by decide +kernel) (by decide +kernel)
theorem kt_215 : Cond.methodLink RX4 52 yX0_isWhite ∈ tb := tb_at (i := 805) (by decide +kernel) (by decide +kernel)
theorem kt_216 : Cond.methodLink RX4 56 yX0_find ∈ tb := tb_at (i := 808) (by decide +kernel) (by decide +kernel)
theorem kt_217 : Cond.code yX4_isFieldName cX4_isFieldName 4 (some .boolean) ∈ tb := tb_at (i := 811) (by decide +kernel) (by decide +kernel)
theorem kt_218 : Cond.methodLink RX4 60 yX4_isFieldName ∈ tb := tb_at (i := 809) (by decide +kernel) (by decide +kernel)
theorem kt_219 : Cond.static yX4_isFieldName ∈ tb := tb_at (i := 810) (by decide +kernel) (by decide +kernel)
theorem kt_220 : Cond.fieldLink RX4 27 "PostGate$Message" "ends" "[I" ∈ tb := tb_at (i := 437) (by decide +kernel) (by decide +kernel)
theorem kt_221 : Cond.code yX0_copy cX0_copy 2 none ∈ tb := tb_at (i := 579) (by decide +kernel) (by decide +kernel)
theorem kt_222 : Cond.methodLink RX4 37 yX0_copy ∈ tb := tb_at (i := 799) (by decide +kernel) (by decide +kernel)
theorem kt_223 : Cond.instanceMethod yX0_copy ∈ tb := tb_at (i := 577) (by decide +kernel) (by decide +kernel)
theorem kt_224 : Cond.selects RX0 yX0_copy yX0_copy ∈ tb := tb_at (i := 578) (by decide +kernel) (by decide +kernel)
theorem kt_225 : Cond.fieldLink RX4 34 "PostGate$Message" "bodyStart" "I" ∈ tb := tb_at (i := 443) (by decide +kernel) (by decide +kernel)
theorem kt_226 : Cond.code yX4_takeLine cX4_takeLine 4 (some .boolean) ∈ tb := tb_at (i := 804) (by decide +kernel) (by decide +kernel)
theorem kt_227 : Cond.methodLink RX4 48 yX4_takeLine ∈ tb := tb_at (i := 801) (by decide +kernel) (by decide +kernel)
theorem kt_228 : Cond.instanceMethod yX4_takeLine ∈ tb := tb_at (i := 803) (by decide +kernel) (by decide +kernel)
theorem kt_229 : Cond.selects RX4 yX4_takeLine yX4_takeLine ∈ tb := tb_at (i := 13) (by decide +kernel) (by decide +kernel)
theorem kn_6 : Cond.fieldLinkNest RX4 41 "PostGate$Bytes" "size" "I" "PostGate" ∈ nw := nw_at (i := 43) (by decide +kernel) rfl
theorem posN {z : Nat} (c : ¬ nI z ≤ 0) : 1 ≤ z := by
  rcases Nat.eq_zero_or_pos z with h | h
  · subst h
    exact absurd (by decide) c
  · exact h
theorem m1N {j : Nat} (h : 1 ≤ j) : nI j + Int32.ofInt (-1) = nI (j - 1) := by
  obtain ⟨k, rfl⟩ : ∃ k, j = k + 1 := ⟨j - 1, by omega⟩
  exact pk_m1 k
theorem incB {i x : Int32} {z : Nat} (ex : x = i + Int32.ofInt 1) (c : ¬ nI z ≤ i) (hz : z ≤ 10000) : (10000 - x.toInt).toNat < (10000 - i.toInt).toNat := by
  have h0 := i.le_toInt
  have h1 : (nI z).toInt = z := nI_toInt (by omega)
  have h2 : i.toInt < z := by
    rw [Int32.le_iff_toInt_le, h1] at c
    omega
  have h3 : x.toInt = i.toInt + 1 := by
    rw [ex, Int32.toInt_add, show (Int32.ofInt 1).toInt = 1 from by decide]
    exact Int.bmod_eq_of_le (by omega) (by omega)
  omega
set_option maxHeartbeats 4000000 in
set_option maxRecDepth 100000 in
theorem s_X4_isFieldName (l : Launch) (dC : Nat → ClassId) (dI : Nat → Nat → Nat) (cs : Nat → ClassId) (ty : TyM) (L : List Nat) (sz : Nat) (F : Nat → va_E) (g1 : Nat) (σ : Nat) (r1 : Nat) (n1 : Nat) (x2 : Int32) (x3 : Int32) (hW : WT ty L) (hL_g1 : g1 ∈ L) (hT_g1 : ty g1 = (0, σ, [r1, n1])) : Met l yX4_isFieldName (.code yX4_isFieldName cX4_isFieldName 4 (some .boolean) :: tb) ({ frames := 2, cells := 0, slots := 0, locals := 40 }) (va_Pc [.ref g1, .int x2, .int x3] (PT (dC, dI) cs ty L F sz)) (va_Qi (fun (r : Int32) (_ : Unit) => (r = 0 ∨ r = 1)) (fun _ T9 => ∃ F2 : Nat → va_E, QT (dC, dI) cs ty L [] F F2 (va_A (va_pl L F) sz) T9) (va_A (va_pl L F) sz)) 0 0 (va_A (va_pl L F) sz) := by
  refine Met.ofW (cc := cX4_isFieldName) (maxL := 4) (ret := (some .boolean)) (by decide) rfl ?_
  intro p e s m args below meth c s₁ B hml hv
  obtain ⟨rfl, hsz, hP, hK, hD0, hE, hO⟩ := hv
  have hx := B.exec
  have hb := B.bytes
  have hr := B.returns
  have hts : ∀ w ∈ tb, w.before _ s = true := fun w h => atoms_spec (ws := .code yX4_isFieldName cX4_isFieldName 4 (some .boolean) :: tb) B.pre w (List.mem_cons_of_mem _ h)
  have hown : s.vm.findClass RX4 = some m.cls := findClass_of_methodNamed B.named
  have hlocks := B.notSynchronized
  subst hsz
  have hD := hD0.self (sz := s.heap.size)
  generalize hAe : va_A (va_pl L F) s.heap.size = A at hD ⊢
  have hA : ∀ q : Nat, s.heap.size ≤ q → A q := fun q h => by rw [← hAe]; exact Or.inr h
  have hS : va_S A s.heap s.heap [] := va_S.rf
  have hR : FR ty [] F F := FR.refl
  have hl := lv_entry ([.ref g1, .int x2, .int x3]) (n := 4) (Nat.le_of_ble_eq_true rfl)
  rw [lg_entry_eq]
  generalize (lg_sl ([.ref g1, .int x2, .int x3]) ++ List.replicate (4 - (lg_sl ([.ref g1, .int x2, .int x3])).length) Slot.unset).toArray = ls at hl ⊢
  have hl : lv_has ls 4 [(0, .ref g1), (1, .int x2), (2, .int x3)] := hl
  refine lv_iload_n hx hb dX4_isFieldName_0 rfl (lv_at hl 1 rfl) ?_
  refine lv_istore_n (lv' := [(3, .int x2), (0, .ref g1), (1, .int x2), (2, .int x3)]) hx hb dX4_isFieldName_1 rfl hl (by decide) rfl (fun ls hl => ?_)
  refine W.widen (k := 0) (n := 0) (by omega) (by omega) ?_
  refine pl_loop (σ := Int32) A (dC, dI) cs ty L [] F 2 4 (fun i1 => [(3, .int i1), (0, .ref g1), (1, .int x2), (2, .int x3)]) (fun i1 => []) (fun i1 _ => True) (fun i1 => ((x3).toInt - i1.toInt).toNat) ?_ x2 F (trivial) hO hR _ _ hP hD hS ls (lv_sub hl [0, 1, 2, 3] rfl)
  rintro i1 F_1 hv_2 hO hR ih_3 H locs hP hD hS ls hl
  have hl : lv_has ls 4 [(3, .int i1), (0, .ref g1), (1, .int x2), (2, .int x3)] := hl
  have hv_2 : True := hv_2
  refine W.eq (g2 := F0 m 2 ls []) rfl ?_
  refine lv_iload_n hx hb dX4_isFieldName_2 rfl (lv_at hl 0 rfl) ?_
  refine lv_iload_n hx hb dX4_isFieldName_3 rfl (lv_at hl 3 rfl) ?_
  refine lv_icmp_ge (tgt := 26) hx hb dX4_isFieldName_4 (by decide) (fun c_4 => ?_) (fun c_4 => ?_)
  ·
    refine lv_iload_n hx hb dX4_isFieldName_26 rfl (lv_at hl 3 rfl) ?_
    refine lv_iload_n hx hb dX4_isFieldName_27 rfl (lv_at hl 2 rfl) ?_
    refine lv_isub hx hb dX4_isFieldName_28 ?_
    refine lv_topi (fun x_5 _ => ?_)
    refine lv_iconst (v := 1) hx hb dX4_isFieldName_29 (by decide) ?_
    refine lv_icmp_lt (tgt := 45) hx hb dX4_isFieldName_30 (by decide) (fun c_6 => ?_) (fun c_6 => ?_)
    ·
      refine lv_iconst (v := 0) hx hb dX4_isFieldName_45 (by decide) ?_
      refine W.widen (k := 0) (n := 0) (by omega) (by omega) ?_
      exact W.zret (v := 0) (ty := .boolean) hx hb hr (by decide) (fun t ht hWm => ⟨⟨0, (), rfl, (by first | exact Or.inl rfl | exact Or.inr rfl), ⟨F_1, QT.mk ht hP hD hO hR⟩⟩, hS.F ht⟩) hS.2.2 dX4_isFieldName_46
    ·
      refine lv_iload_n hx hb dX4_isFieldName_33 rfl (lv_at hl 3 rfl) ?_
      refine lv_iload_n hx hb dX4_isFieldName_34 rfl (lv_at hl 2 rfl) ?_
      refine lv_isub hx hb dX4_isFieldName_35 ?_
      refine lv_topi (fun x_7 _ => ?_)
      refine lv_bipush (v := 20) hx hb dX4_isFieldName_36 (by decide) ?_
      refine lv_icmp_gt (tgt := 45) hx hb dX4_isFieldName_38 (by decide) (fun c_8 => ?_) (fun c_8 => ?_)
      ·
        refine lv_iconst (v := 0) hx hb dX4_isFieldName_45 (by decide) ?_
        refine W.widen (k := 0) (n := 0) (by omega) (by omega) ?_
        exact W.zret (v := 0) (ty := .boolean) hx hb hr (by decide) (fun t ht hWm => ⟨⟨0, (), rfl, (by first | exact Or.inl rfl | exact Or.inr rfl), ⟨F_1, QT.mk ht hP hD hO hR⟩⟩, hS.F ht⟩) hS.2.2 dX4_isFieldName_46
      ·
        refine lv_iconst (v := 1) hx hb dX4_isFieldName_41 (by decide) ?_
        refine lv_goto (tgt := 46) hx hb dX4_isFieldName_42 (by decide) ?_
        refine W.widen (k := 0) (n := 0) (by omega) (by omega) ?_
        exact W.zret (v := 1) (ty := .boolean) hx hb hr (by decide) (fun t ht hWm => ⟨⟨1, (), rfl, (by first | exact Or.inl rfl | exact Or.inr rfl), ⟨F_1, QT.mk ht hP hD hO hR⟩⟩, hS.F ht⟩) hS.2.2 dX4_isFieldName_46
  ·
    refine lv_aload_n hx hb dX4_isFieldName_7 rfl (lv_at hl 1 rfl) ?_
    refine lv_iload_n hx hb dX4_isFieldName_8 rfl (lv_at hl 0 rfl) ?_
    have hFc := pg_free hD hS hA
    obtain ⟨hi_9, ht_10, hq_11⟩ := hW.bytes hL_g1 hT_g1
    obtain ⟨z_12, o_13, hF_14, hq_15, hq_16⟩ := hO.bytes hL_g1 hT_g1
    refine va_calli (va_runV (As := [.int i1]) (rest := []) ⟨hx, hb, hml, hown, hts⟩ (s_X0_at l dC dI cs ty L H.size F_1 g1 σ r1 n1 i1 hW hL_g1 hT_g1) ⟨callB_of 1 hts (gi kt_21) rfl rfl rfl (hts _ kt_1) (hts _ kt_199) (by decide +kernel) ⟨Nat.le_of_ble_eq_true rfl, Nat.le_of_ble_eq_true rfl⟩, (hts _ kt_23), (hts _ kt_24)⟩ ⟨fun a U g mk q => ⟨q.1, PT.calling q.2⟩, pg_recv hK hP hL_g1 hF_14 (q := (RX0, TX0, 3)) rfl, fun U hU hWm => ⟨rfl, PT.mk hU hWm hP hK hD hE hO⟩⟩ rfl rfl hl.1 rfl (lv_room (Nat.le_of_ble_eq_true rfl)) dX4_isFieldName_9 ⟨by show _ + 0 ≤ 0; omega, by show _ + 0 ≤ 0; omega⟩) hS (fun q _ h => hFc q h) hFc (fun r_17 u t H1 locs ht hvm hw hB hz1 hk1 hS => ?_)
    obtain ⟨F_18, hB1⟩ := hB
    obtain ⟨hP, hD, hO, hR⟩ := QT.back hB1 ht hFc hR (fun q h => absurd h List.not_mem_nil)
    have hF_19 : F_18 g1 = .inr (0, [.ref r1, .int (nI z_12), .int o_13]) := (hB1.2.2.2 g1 List.not_mem_nil).trans hF_14
    generalize H1 = H at hP hS ⊢
    have hw : True := hw
    have hw_20 := hw
    have hFc := pg_free hD hS hA
    refine va_calli (va_runS (As := [.int r_17]) (rest := []) ⟨hx, hb, hml, hown, hts⟩ (s_X0_isFieldSign l dC dI cs ty L H.size F_18 r_17 hW ) ⟨callB_of 1 hts (gi kt_200) rfl rfl rfl (hts _ kt_1) (hts _ kt_201) (by decide +kernel) ⟨Nat.le_of_ble_eq_true rfl, Nat.le_of_ble_eq_true rfl⟩, (hts _ kt_202)⟩ ⟨fun a U g mk q => ⟨q.1, PT.calling q.2⟩, fun U hU hWm => ⟨rfl, PT.mk hU hWm hP hK hD hE hO⟩⟩ rfl rfl hl.1 rfl (lv_room (Nat.le_of_ble_eq_true rfl)) dX4_isFieldName_12 ⟨by show _ + 0 ≤ 0; omega, by show _ + 0 ≤ 0; omega⟩) hS (fun q _ h => hFc q h) hFc (fun r_21 u t H1 locs ht hvm hw hB hz1 hk1 hS => ?_)
    obtain ⟨F_22, hB1⟩ := hB
    obtain ⟨hP, hD, hO, hR⟩ := QT.back hB1 ht hFc hR (fun q h => absurd h List.not_mem_nil)
    have hF_23 : F_22 g1 = .inr (0, [.ref r1, .int (nI z_12), .int o_13]) := (hB1.2.2.2 g1 List.not_mem_nil).trans hF_19
    generalize H1 = H at hP hS ⊢
    have hw : (r_21 = 0 ∨ r_21 = 1) := hw
    have hw_24 := hw
    refine lv_if_ne (tgt := 20) hx hb dX4_isFieldName_15 (by decide) (fun c_25 => ?_) (fun c_25 => ?_)
    ·
      obtain ⟨x_26, ex_26⟩ : ∃ y : Int32, y = i1 + Int32.ofInt 1 := ⟨_, rfl⟩
      refine lv_iinc (v := x_26) (lv' := [(3, .int x_26), (0, .ref g1), (1, .int x2), (2, .int x3)]) hx hb dX4_isFieldName_20 hl (k := 0) rfl (ex_26.symm) (by decide) rfl (fun ls hl => ?_)
      refine lv_goto (tgt := 2) hx hb dX4_isFieldName_23 (by decide) ?_
      refine W.widen (k := 0) (n := 0) (by omega) (by omega) ?_
      exact ih_3 x_26 F_22 (trivial) (by show ((x3).toInt - x_26.toInt).toNat < ((x3).toInt - i1.toInt).toNat; exact incN ex_26 c_4) hO hR _ _ hP hD hS ls (lv_sub hl [0, 1, 2, 3] rfl)
    ·
      refine lv_iconst (v := 0) hx hb dX4_isFieldName_18 (by decide) ?_
      refine W.widen (k := 0) (n := 0) (by omega) (by omega) ?_
      exact W.zret (v := 0) (ty := .boolean) hx hb hr (by decide) (fun t ht hWm => ⟨⟨0, (), rfl, (by first | exact Or.inl rfl | exact Or.inr rfl), ⟨F_22, QT.mk ht hP hD hO hR⟩⟩, hS.F ht⟩) hS.2.2 dX4_isFieldName_19
set_option maxHeartbeats 4000000 in
set_option maxRecDepth 100000 in
theorem s_X4_isNamed (l : Launch) (dC : Nat → ClassId) (dI : Nat → Nat → Nat) (cs : Nat → ClassId) (ty : TyM) (L : List Nat) (sz : Nat) (F : Nat → va_E) (h0 : Nat) (ρ : Nat) (tx : Nat) (y0 : Nat) (y1 : Nat) (y2 : Nat) (q : Nat) (v : Nat) (k0 : Nat) (x1 : Int32) (hW : WT ty L) (hL_h0 : h0 ∈ L) (hT_h0 : ty h0 = (4, ρ, [tx, y0, y1, y2])) : Met l yX4_isNamed (.code yX4_isNamed cX4_isNamed 4 (some .boolean) :: tb) ({ frames := 4, cells := 0, slots := 0, locals := 85 }) (va_Pc [.ref h0, .int x1, .ref q] (PTE (dC, dI) cs ty L F sz [(q, v, k0)])) (va_Qi (fun (r : Int32) (_ : Unit) => (r = 0 ∨ r = 1)) (fun _ T9 => ∃ F2 : Nat → va_E, QT (dC, dI) cs ty L [] F F2 (va_A (va_pl L F) sz) T9) (va_A (va_pl L F) sz)) 0 0 (va_A (va_pl L F) sz) := by
  refine Met.ofW (cc := cX4_isNamed) (maxL := 4) (ret := (some .boolean)) (by decide) rfl ?_
  intro p e s m args below meth c s₁ B hml hv
  obtain ⟨rfl, ⟨hsz, hP, hK, hD0, hE, hO⟩, hG, hX⟩ := hv
  have hx := B.exec
  have hb := B.bytes
  have hr := B.returns
  have hts : ∀ w ∈ tb, w.before _ s = true := fun w h => atoms_spec (ws := .code yX4_isNamed cX4_isNamed 4 (some .boolean) :: tb) B.pre w (List.mem_cons_of_mem _ h)
  have hown : s.vm.findClass RX4 = some m.cls := findClass_of_methodNamed B.named
  have hlocks := B.notSynchronized
  subst hsz
  have hD := hD0.self (sz := s.heap.size)
  generalize hAe : va_A (va_pl L F) s.heap.size = A at hD hG hX ⊢
  have hX_q : SX q v k0 A s s.heap := hX (q, v, k0) (by simp)
  obtain ⟨xo_q, xc_q, xv_q, xf_q, xt_q, xn_q⟩ := id hX_q
  have hA : ∀ q : Nat, s.heap.size ≤ q → A q := fun q h => by rw [← hAe]; exact Or.inr h
  have hS : va_S A s.heap s.heap [] := va_S.rf
  have hR : FR ty [] F F := FR.refl
  have hl := lv_entry ([.ref h0, .int x1, .ref q]) (n := 4) (Nat.le_of_ble_eq_true rfl)
  rw [lg_entry_eq]
  generalize (lg_sl ([.ref h0, .int x1, .ref q]) ++ List.replicate (4 - (lg_sl ([.ref h0, .int x1, .ref q])).length) Slot.unset).toArray = ls at hl ⊢
  have hl : lv_has ls 4 [(0, .ref h0), (1, .int x1), (2, .ref q)] := hl
  refine lv_iload_n hx hb dX4_isNamed_0 rfl (lv_at hl 1 rfl) ?_
  refine lv_if_lt (tgt := 32) hx hb dX4_isNamed_1 (by decide) (fun c_1 => ?_) (fun c_1 => ?_)
  ·
    refine lv_iconst (v := 0) hx hb dX4_isNamed_32 (by decide) ?_
    refine W.widen (k := 0) (n := 0) (by omega) (by omega) ?_
    exact W.zret (v := 0) (ty := .boolean) hx hb hr (by decide) (fun t ht hWm => ⟨⟨0, (), rfl, (by first | exact Or.inl rfl | exact Or.inr rfl), ⟨F, QT.mk ht hP hD hO hR⟩⟩, hS.F ht⟩) hS.2.2 dX4_isNamed_33
  ·
    refine lv_iload_n hx hb dX4_isNamed_4 rfl (lv_at hl 1 rfl) ?_
    refine lv_aload_n hx hb dX4_isNamed_5 rfl (lv_at hl 0 rfl) ?_
    obtain ⟨hi_2, hi_3, hi_4, hi_5, ⟨r_6, ht_7⟩, ht_8, ht_9, ht_10⟩ := hW.msg hL_h0 hT_h0
    obtain ⟨z_11, v0_12, hF_13, hq_14⟩ := hO.msg hL_h0 hT_h0
    refine pg_get (ci := 4) (v := .int (nI z_11)) (C := RX4) (T := TX4) (N := 6) hx hb hts it_4 hown hK hP hL_h0 hF_13 rfl 4 (by decide) (hts _ kt_203) (fun _ h9 => h9) rfl dX4_isNamed_6 ?_
    refine lv_icmp_ge (tgt := 32) hx hb dX4_isNamed_9 (by decide) (fun c_15 => ?_) (fun c_15 => ?_)
    ·
      refine lv_iconst (v := 0) hx hb dX4_isNamed_32 (by decide) ?_
      refine W.widen (k := 0) (n := 0) (by omega) (by omega) ?_
      exact W.zret (v := 0) (ty := .boolean) hx hb hr (by decide) (fun t ht hWm => ⟨⟨0, (), rfl, (by first | exact Or.inl rfl | exact Or.inr rfl), ⟨F, QT.mk ht hP hD hO hR⟩⟩, hS.F ht⟩) hS.2.2 dX4_isNamed_33
    ·
      obtain ⟨jk, hjk, rfl⟩ := nI_of c_1
      have hjkz : jk < z_11 := ltI hjk c_15
      refine lv_aload_n hx hb dX4_isNamed_12 rfl (lv_at hl 0 rfl) ?_
      refine pg_get (ci := 4) (v := .ref y1) (C := RX4) (T := TX4) (N := 6) hx hb hts it_4 hown hK hP hL_h0 hF_13 rfl 2 (by decide) (hts _ kt_204) (fun _ h9 => h9) rfl dX4_isNamed_13 ?_
      refine lv_iload_n hx hb dX4_isNamed_16 rfl (lv_at hl 1 rfl) ?_
      obtain ⟨f_16, hF_17, hq_18⟩ := hO.idx hi_4 ht_9
      refine pg_iald hx hb hK hP hi_4 0 hF_17 rfl (vp_in_nI (by omega) (by omega)) dX4_isNamed_17 ?_
      obtain ⟨k_19, hk_20, ek_21⟩ := hq_18 ((nI jk) : Int32).toNatClampNeg
      refine lv_topi (fun x_22 ex_22 => ?_)
      obtain rfl : x_22 = nI k_19 := ex_22.trans ek_21
      refine lv_aload_n hx hb dX4_isNamed_18 rfl (lv_at hl 0 rfl) ?_
      refine pg_get (ci := 4) (v := .ref y0) (C := RX4) (T := TX4) (N := 6) hx hb hts it_4 hown hK hP hL_h0 hF_13 rfl 1 (by decide) (hts _ kt_205) (fun _ h9 => h9) rfl dX4_isNamed_19 ?_
      refine lv_iload_n hx hb dX4_isNamed_22 rfl (lv_at hl 1 rfl) ?_
      obtain ⟨f_23, hF_24, hq_25⟩ := hO.idx hi_3 ht_8
      refine pg_iald hx hb hK hP hi_3 0 hF_24 rfl (vp_in_nI (by omega) (by omega)) dX4_isNamed_23 ?_
      obtain ⟨k_26, hk_27, ek_28⟩ := hq_25 ((nI jk) : Int32).toNatClampNeg
      refine lv_topi (fun x_29 ex_29 => ?_)
      obtain rfl : x_29 = nI k_26 := ex_29.trans ek_28
      refine lv_isub hx hb dX4_isNamed_24 ?_
      refine lv_topi (fun x_30 _ => ?_)
      refine lv_aload_n hx hb dX4_isNamed_25 rfl (lv_at hl 2 rfl) ?_
      have hFc := pg_free hD hS hA
      refine va_calli (va_runV (As := []) (rest := [.int x_30]) ⟨hx, hb, hml, hown, hts⟩ (s_J0_length_8abf5 l dC dI cs ty L s.heap.size F q v k0 hW ) ⟨callB_of 0 hts (gi kt_71) rfl rfl rfl (hts _ kt_51) (hts _ kt_206) (by decide +kernel) ⟨Nat.le_of_ble_eq_true rfl, Nat.le_of_ble_eq_true rfl⟩, (hts _ kt_73), (hts _ kt_74)⟩ ⟨fun a U g mk q => ⟨q.1, PTE.calling q.2⟩, sx_recv hX_q hS, fun U hU hWm => ⟨rfl, PTE.mk hU hWm hP hK hD hE hO hG (fun x hx => by rw [List.mem_singleton] at hx; subst hx; exact hX_q) hS hFc⟩⟩ rfl rfl hl.1 rfl (lv_room (Nat.le_of_ble_eq_true rfl)) dX4_isNamed_26 ⟨by show _ + 0 ≤ 0; omega, by show _ + 0 ≤ 0; omega⟩) hS (fun q _ h => hFc q h) hFc (fun r_31 u t H1 locs ht hvm hw hB hz1 hk1 hS => ?_)
      obtain ⟨F_32, hB1⟩ := hB
      obtain ⟨hP, hD, hO, hR⟩ := QT.back hB1 ht hFc hR (fun q h => absurd h List.not_mem_nil)
      have hF_33 : F_32 h0 = .inr (4, [.ref tx, .ref y0, .ref y1, .ref y2, .int (nI z_11), .int v0_12]) := (hB1.2.2.2 h0 List.not_mem_nil).trans hF_13
      have hF_34 : F_32 y1 = .inl (cs 16, 20, .inl f_16) := (hB1.2.2.2 y1 List.not_mem_nil).trans hF_17
      have hF_35 : F_32 y0 = .inl (cs 16, 20, .inl f_23) := (hB1.2.2.2 y0 List.not_mem_nil).trans hF_24
      generalize H1 = H at hP hS ⊢
      have hw : r_31 = nI k0 := hw
      have hw_36 := hw
      refine lv_icmp_eq (tgt := 34) hx hb dX4_isNamed_29 (by decide) (fun c_37 => ?_) (fun c_37 => ?_)
      ·
        refine lv_iconst (v := 0) hx hb dX4_isNamed_34 (by decide) ?_
        refine lv_istore_n (lv' := [(3, .int 0), (0, .ref h0), (1, .int (nI jk)), (2, .ref q)]) hx hb dX4_isNamed_35 rfl hl (by decide) rfl (fun ls hl => ?_)
        refine W.widen (k := 0) (n := 0) (by omega) (by omega) ?_
        have hF_39 : F h0 = .inr (4, [.ref tx, .ref y0, .ref y1, .ref y2, .int (nI z_11), .int v0_12]) := (hR h0 List.not_mem_nil).symm.trans hF_33
        have hF_40 : F y1 = .inl (cs 16, 20, .inl f_16) := (hR y1 List.not_mem_nil).symm.trans hF_34
        have hF_41 : F y0 = .inl (cs 16, 20, .inl f_23) := (hR y0 List.not_mem_nil).symm.trans hF_35
        refine pl_loop (σ := Nat) A (dC, dI) cs ty L [] F 36 4 (fun j => [(3, .int (nI j)), (0, .ref h0), (1, .int (nI jk)), (2, .ref q)]) (fun j => []) (fun j _ => j ≤ 10000) (fun j => 10000 - j) ?_ 0 F_32 (by omega) hO hR _ _ hP hD hS ls (lv_sub hl [0, 1, 2, 3] rfl)
        rintro j F_38 hv_42 hO hR ih_43 H locs hP hD hS ls hl
        have hl : lv_has ls 4 [(3, .int (nI j)), (0, .ref h0), (1, .int (nI jk)), (2, .ref q)] := hl
        have hv_42 : j ≤ 10000 := hv_42
        refine W.eq (g2 := F0 m 36 ls []) rfl ?_
        have hF_44 : F_38 h0 = .inr (4, [.ref tx, .ref y0, .ref y1, .ref y2, .int (nI z_11), .int v0_12]) := (hR h0 List.not_mem_nil).trans hF_39
        have hF_45 : F_38 y1 = .inl (cs 16, 20, .inl f_16) := (hR y1 List.not_mem_nil).trans hF_40
        have hF_46 : F_38 y0 = .inl (cs 16, 20, .inl f_23) := (hR y0 List.not_mem_nil).trans hF_41
        refine lv_iload_n hx hb dX4_isNamed_36 rfl (lv_at hl 0 rfl) ?_
        refine lv_aload_n hx hb dX4_isNamed_37 rfl (lv_at hl 3 rfl) ?_
        have hFc := pg_free hD hS hA
        refine va_calli (va_runV (As := []) (rest := [.int (nI j)]) ⟨hx, hb, hml, hown, hts⟩ (s_J0_length_8abf5 l dC dI cs ty L H.size F_38 q v k0 hW ) ⟨callB_of 0 hts (gi kt_71) rfl rfl rfl (hts _ kt_51) (hts _ kt_206) (by decide +kernel) ⟨Nat.le_of_ble_eq_true rfl, Nat.le_of_ble_eq_true rfl⟩, (hts _ kt_73), (hts _ kt_74)⟩ ⟨fun a U g mk q => ⟨q.1, PTE.calling q.2⟩, sx_recv hX_q hS, fun U hU hWm => ⟨rfl, PTE.mk hU hWm hP hK hD hE hO hG (fun x hx => by rw [List.mem_singleton] at hx; subst hx; exact hX_q) hS hFc⟩⟩ rfl rfl hl.1 rfl (lv_room (Nat.le_of_ble_eq_true rfl)) dX4_isNamed_38 ⟨by show _ + 0 ≤ 0; omega, by show _ + 0 ≤ 0; omega⟩) hS (fun q _ h => hFc q h) hFc (fun r_47 u t H1 locs ht hvm hw hB hz1 hk1 hS => ?_)
        obtain ⟨F_48, hB1⟩ := hB
        obtain ⟨hP, hD, hO, hR⟩ := QT.back hB1 ht hFc hR (fun q h => absurd h List.not_mem_nil)
        have hF_49 : F_48 h0 = .inr (4, [.ref tx, .ref y0, .ref y1, .ref y2, .int (nI z_11), .int v0_12]) := (hB1.2.2.2 h0 List.not_mem_nil).trans hF_44
        have hF_50 : F_48 y1 = .inl (cs 16, 20, .inl f_16) := (hB1.2.2.2 y1 List.not_mem_nil).trans hF_45
        have hF_51 : F_48 y0 = .inl (cs 16, 20, .inl f_23) := (hB1.2.2.2 y0 List.not_mem_nil).trans hF_46
        generalize H1 = H at hP hS ⊢
        have hw : r_47 = nI k0 := hw
        have hw_52 := hw
        refine lv_icmp_ge (tgt := 78) hx hb dX4_isNamed_41 (by decide) (fun c_53 => ?_) (fun c_53 => ?_)
        ·
          refine lv_iconst (v := 1) hx hb dX4_isNamed_78 (by decide) ?_
          refine W.widen (k := 0) (n := 0) (by omega) (by omega) ?_
          exact W.zret (v := 1) (ty := .boolean) hx hb hr (by decide) (fun t ht hWm => ⟨⟨1, (), rfl, (by first | exact Or.inl rfl | exact Or.inr rfl), ⟨F_48, QT.mk ht hP hD hO hR⟩⟩, hS.F ht⟩) hS.2.2 dX4_isNamed_79
        ·
          have hjn : j < k0 := ltI (by omega) (by rw [← hw_52]; exact c_53)
          refine lv_aload_n hx hb dX4_isNamed_44 rfl (lv_at hl 1 rfl) ?_
          refine pg_get (ci := 4) (v := .ref tx) (C := RX4) (T := TX4) (N := 6) hx hb hts it_4 hown hK hP hL_h0 hF_49 rfl 0 (by decide) (hts _ kt_207) (fun _ h9 => h9) rfl dX4_isNamed_45 ?_
          refine lv_aload_n hx hb dX4_isNamed_48 rfl (lv_at hl 1 rfl) ?_
          refine pg_get (ci := 4) (v := .ref y0) (C := RX4) (T := TX4) (N := 6) hx hb hts it_4 hown hK hP hL_h0 hF_49 rfl 1 (by decide) (hts _ kt_205) (fun _ h9 => h9) rfl dX4_isNamed_49 ?_
          refine lv_iload_n hx hb dX4_isNamed_52 rfl (lv_at hl 2 rfl) ?_
          refine pg_iald hx hb hK hP hi_3 0 hF_51 rfl (vp_in_nI (by omega) (by omega)) dX4_isNamed_53 ?_
          obtain ⟨k_54, hk_55, ek_56⟩ := hq_25 ((nI jk) : Int32).toNatClampNeg
          refine lv_topi (fun x_57 ex_57 => ?_)
          obtain rfl : x_57 = nI k_54 := ex_57.trans ek_56
          refine lv_iload_n hx hb dX4_isNamed_54 rfl (lv_at hl 0 rfl) ?_
          refine lv_iadd hx hb dX4_isNamed_55 ?_
          refine lv_topi (fun x_58 _ => ?_)
          have hFc := pg_free hD hS hA
          obtain ⟨hi_59, ht_60, hq_61⟩ := hW.bytes hi_2 ht_7
          obtain ⟨z_62, o_63, hF_64, hq_65, hq_66⟩ := hO.bytes hi_2 ht_7
          refine va_calli (va_runV (As := [.int x_58]) (rest := []) ⟨hx, hb, hml, hown, hts⟩ (s_X0_at l dC dI cs ty L H.size F_48 tx (ρ + 1) r_6 3000 x_58 hW hi_2 ht_7) ⟨callB_of 1 hts (gi kt_21) rfl rfl rfl (hts _ kt_1) (hts _ kt_199) (by decide +kernel) ⟨Nat.le_of_ble_eq_true rfl, Nat.le_of_ble_eq_true rfl⟩, (hts _ kt_23), (hts _ kt_24)⟩ ⟨fun a U g mk q => ⟨q.1, PT.calling q.2⟩, pg_recv hK hP hi_2 hF_64 (q := (RX0, TX0, 3)) rfl, fun U hU hWm => ⟨rfl, PT.mk hU hWm hP hK hD hE hO⟩⟩ rfl rfl hl.1 rfl (lv_room (Nat.le_of_ble_eq_true rfl)) dX4_isNamed_56 ⟨by show _ + 0 ≤ 0; omega, by show _ + 0 ≤ 0; omega⟩) hS (fun q _ h => hFc q h) hFc (fun r_67 u t H1 locs ht hvm hw hB hz1 hk1 hS => ?_)
          obtain ⟨F_68, hB1⟩ := hB
          obtain ⟨hP, hD, hO, hR⟩ := QT.back hB1 ht hFc hR (fun q h => absurd h List.not_mem_nil)
          have hF_69 : F_68 h0 = .inr (4, [.ref tx, .ref y0, .ref y1, .ref y2, .int (nI z_11), .int v0_12]) := (hB1.2.2.2 h0 List.not_mem_nil).trans hF_49
          have hF_70 : F_68 y1 = .inl (cs 16, 20, .inl f_16) := (hB1.2.2.2 y1 List.not_mem_nil).trans hF_50
          have hF_71 : F_68 y0 = .inl (cs 16, 20, .inl f_23) := (hB1.2.2.2 y0 List.not_mem_nil).trans hF_51
          have hF_72 : F_68 tx = .inr (0, [.ref r_6, .int (nI z_62), .int o_63]) := (hB1.2.2.2 tx List.not_mem_nil).trans hF_64
          generalize H1 = H at hP hS ⊢
          have hw : True := hw
          have hw_73 := hw
          have hFc := pg_free hD hS hA
          refine va_calli (va_runS (As := [.int r_67]) (rest := []) ⟨hx, hb, hml, hown, hts⟩ (s_X0_smallOf l dC dI cs ty L H.size F_68 r_67 hW ) ⟨callB_of 1 hts (gi kt_0) rfl rfl rfl (hts _ kt_1) (hts _ kt_208) (by decide +kernel) ⟨Nat.le_of_ble_eq_true rfl, Nat.le_of_ble_eq_true rfl⟩, (hts _ kt_3)⟩ ⟨fun a U g mk q => ⟨q.1, PT.calling q.2⟩, fun U hU hWm => ⟨rfl, PT.mk hU hWm hP hK hD hE hO⟩⟩ rfl rfl hl.1 rfl (lv_room (Nat.le_of_ble_eq_true rfl)) dX4_isNamed_59 ⟨by show _ + 0 ≤ 0; omega, by show _ + 0 ≤ 0; omega⟩) hS (fun q _ h => hFc q h) hFc (fun r_74 u t H1 locs ht hvm hw hB hz1 hk1 hS => ?_)
          obtain ⟨F_75, hB1⟩ := hB
          obtain ⟨hP, hD, hO, hR⟩ := QT.back hB1 ht hFc hR (fun q h => absurd h List.not_mem_nil)
          have hF_76 : F_75 h0 = .inr (4, [.ref tx, .ref y0, .ref y1, .ref y2, .int (nI z_11), .int v0_12]) := (hB1.2.2.2 h0 List.not_mem_nil).trans hF_69
          have hF_77 : F_75 y1 = .inl (cs 16, 20, .inl f_16) := (hB1.2.2.2 y1 List.not_mem_nil).trans hF_70
          have hF_78 : F_75 y0 = .inl (cs 16, 20, .inl f_23) := (hB1.2.2.2 y0 List.not_mem_nil).trans hF_71
          have hF_79 : F_75 tx = .inr (0, [.ref r_6, .int (nI z_62), .int o_63]) := (hB1.2.2.2 tx List.not_mem_nil).trans hF_72
          generalize H1 = H at hP hS ⊢
          have hw : True := hw
          have hw_80 := hw
          refine lv_aload_n hx hb dX4_isNamed_62 rfl (lv_at hl 3 rfl) ?_
          refine lv_iload_n hx hb dX4_isNamed_63 rfl (lv_at hl 0 rfl) ?_
          have hFc := pg_free hD hS hA
          refine va_calli (va_runV (As := [.int (nI j)]) (rest := [.int r_74]) ⟨hx, hb, hml, hown, hts⟩ (s_J0_charAt_5068e l dC dI cs ty L H.size F_75 q v k0 j hW (by omega)) ⟨callB_of 1 hts (gi kt_75) rfl rfl rfl (hts _ kt_51) (hts _ kt_209) (by decide +kernel) ⟨Nat.le_of_ble_eq_true rfl, Nat.le_of_ble_eq_true rfl⟩, (hts _ kt_77), (hts _ kt_78)⟩ ⟨fun a U g mk q => ⟨q.1, PTE.calling q.2⟩, sx_recv hX_q hS, fun U hU hWm => ⟨rfl, PTE.mk hU hWm hP hK hD hE hO hG (fun x hx => by rw [List.mem_singleton] at hx; subst hx; exact hX_q) hS hFc⟩⟩ rfl rfl hl.1 rfl (lv_room (Nat.le_of_ble_eq_true rfl)) dX4_isNamed_64 ⟨by show _ + 0 ≤ 0; omega, by show _ + 0 ≤ 0; omega⟩) hS (fun q _ h => hFc q h) hFc (fun r_81 u t H1 locs ht hvm hw hB hz1 hk1 hS => ?_)
          obtain ⟨F_82, hB1⟩ := hB
          obtain ⟨hP, hD, hO, hR⟩ := QT.back hB1 ht hFc hR (fun q h => absurd h List.not_mem_nil)
          have hF_83 : F_82 h0 = .inr (4, [.ref tx, .ref y0, .ref y1, .ref y2, .int (nI z_11), .int v0_12]) := (hB1.2.2.2 h0 List.not_mem_nil).trans hF_76
          have hF_84 : F_82 y1 = .inl (cs 16, 20, .inl f_16) := (hB1.2.2.2 y1 List.not_mem_nil).trans hF_77
          have hF_85 : F_82 y0 = .inl (cs 16, 20, .inl f_23) := (hB1.2.2.2 y0 List.not_mem_nil).trans hF_78
          have hF_86 : F_82 tx = .inr (0, [.ref r_6, .int (nI z_62), .int o_63]) := (hB1.2.2.2 tx List.not_mem_nil).trans hF_79
          generalize H1 = H at hP hS ⊢
          have hw : narrow .char (.int r_81) = .int r_81 := hw
          have hw_87 := hw
          refine lv_icmp_eq (tgt := 72) hx hb dX4_isNamed_67 (by decide) (fun c_88 => ?_) (fun c_88 => ?_)
          ·
            refine lv_iinc (v := (nI (j + 1))) (lv' := [(3, .int (nI (j + 1))), (0, .ref h0), (1, .int (nI jk)), (2, .ref q)]) hx hb dX4_isNamed_72 hl (k := 0) rfl (nI_1 _) (by decide) rfl (fun ls hl => ?_)
            refine lv_goto (tgt := 36) hx hb dX4_isNamed_75 (by decide) ?_
            refine W.widen (k := 0) (n := 0) (by omega) (by omega) ?_
            exact ih_43 (j + 1) F_82 (by first | omega | exact ⟨by omega, by omega⟩ | trivial) (by show 10000 - (j + 1) < 10000 - j; omega) hO hR _ _ hP hD hS ls (lv_sub hl [0, 1, 2, 3] rfl)
          ·
            refine lv_iconst (v := 0) hx hb dX4_isNamed_70 (by decide) ?_
            refine W.widen (k := 0) (n := 0) (by omega) (by omega) ?_
            exact W.zret (v := 0) (ty := .boolean) hx hb hr (by decide) (fun t ht hWm => ⟨⟨0, (), rfl, (by first | exact Or.inl rfl | exact Or.inr rfl), ⟨F_82, QT.mk ht hP hD hO hR⟩⟩, hS.F ht⟩) hS.2.2 dX4_isNamed_71
      ·
        refine lv_iconst (v := 0) hx hb dX4_isNamed_32 (by decide) ?_
        refine W.widen (k := 0) (n := 0) (by omega) (by omega) ?_
        exact W.zret (v := 0) (ty := .boolean) hx hb hr (by decide) (fun t ht hWm => ⟨⟨0, (), rfl, (by first | exact Or.inl rfl | exact Or.inr rfl), ⟨F_32, QT.mk ht hP hD hO hR⟩⟩, hS.F ht⟩) hS.2.2 dX4_isNamed_33
set_option maxHeartbeats 4000000 in
set_option maxRecDepth 100000 in
theorem s_X4_isNamedLike (l : Launch) (dC : Nat → ClassId) (dI : Nat → Nat → Nat) (cs : Nat → ClassId) (ty : TyM) (L : List Nat) (sz : Nat) (F : Nat → va_E) (h0 : Nat) (ρ : Nat) (tx : Nat) (y0 : Nat) (y1 : Nat) (y2 : Nat) (g1 : Nat) (σ : Nat) (r1 : Nat) (n1 : Nat) (x1 : Int32) (x3 : Int32) (x4 : Int32) (hW : WT ty L) (hL_h0 : h0 ∈ L) (hT_h0 : ty h0 = (4, ρ, [tx, y0, y1, y2])) (hL_g1 : g1 ∈ L) (hT_g1 : ty g1 = (0, σ, [r1, n1])) : Met l yX4_isNamedLike (.code yX4_isNamedLike cX4_isNamedLike 6 (some .boolean) :: tb) ({ frames := 1, cells := 0, slots := 0, locals := 21 }) (va_Pc [.ref h0, .int x1, .ref g1, .int x3, .int x4] (PT (dC, dI) cs ty L F sz)) (va_Qi (fun (r : Int32) (_ : Unit) => (r = 0 ∨ r = 1)) (fun _ T9 => ∃ F2 : Nat → va_E, QT (dC, dI) cs ty L [] F F2 (va_A (va_pl L F) sz) T9) (va_A (va_pl L F) sz)) 0 0 (va_A (va_pl L F) sz) := by
  refine Met.ofW (cc := cX4_isNamedLike) (maxL := 6) (ret := (some .boolean)) (by decide) rfl ?_
  intro p e s m args below meth c s₁ B hml hv
  obtain ⟨rfl, hsz, hP, hK, hD0, hE, hO⟩ := hv
  have hx := B.exec
  have hb := B.bytes
  have hr := B.returns
  have hts : ∀ w ∈ tb, w.before _ s = true := fun w h => atoms_spec (ws := .code yX4_isNamedLike cX4_isNamedLike 6 (some .boolean) :: tb) B.pre w (List.mem_cons_of_mem _ h)
  have hown : s.vm.findClass RX4 = some m.cls := findClass_of_methodNamed B.named
  have hlocks := B.notSynchronized
  subst hsz
  have hD := hD0.self (sz := s.heap.size)
  generalize hAe : va_A (va_pl L F) s.heap.size = A at hD ⊢
  have hA : ∀ q : Nat, s.heap.size ≤ q → A q := fun q h => by rw [← hAe]; exact Or.inr h
  have hS : va_S A s.heap s.heap [] := va_S.rf
  have hR : FR ty [] F F := FR.refl
  have hl := lv_entry ([.ref h0, .int x1, .ref g1, .int x3, .int x4]) (n := 6) (Nat.le_of_ble_eq_true rfl)
  rw [lg_entry_eq]
  generalize (lg_sl ([.ref h0, .int x1, .ref g1, .int x3, .int x4]) ++ List.replicate (6 - (lg_sl ([.ref h0, .int x1, .ref g1, .int x3, .int x4])).length) Slot.unset).toArray = ls at hl ⊢
  have hl : lv_has ls 6 [(0, .ref h0), (1, .int x1), (2, .ref g1), (3, .int x3), (4, .int x4)] := hl
  refine lv_iload_n hx hb dX4_isNamedLike_0 rfl (lv_at hl 1 rfl) ?_
  refine lv_if_lt (tgt := 32) hx hb dX4_isNamedLike_1 (by decide) (fun c_1 => ?_) (fun c_1 => ?_)
  ·
    refine lv_iconst (v := 0) hx hb dX4_isNamedLike_32 (by decide) ?_
    refine W.widen (k := 0) (n := 0) (by omega) (by omega) ?_
    exact W.zret (v := 0) (ty := .boolean) hx hb hr (by decide) (fun t ht hWm => ⟨⟨0, (), rfl, (by first | exact Or.inl rfl | exact Or.inr rfl), ⟨F, QT.mk ht hP hD hO hR⟩⟩, hS.F ht⟩) hS.2.2 dX4_isNamedLike_33
  ·
    refine lv_iload_n hx hb dX4_isNamedLike_4 rfl (lv_at hl 1 rfl) ?_
    refine lv_aload_n hx hb dX4_isNamedLike_5 rfl (lv_at hl 0 rfl) ?_
    obtain ⟨hi_2, hi_3, hi_4, hi_5, ⟨r_6, ht_7⟩, ht_8, ht_9, ht_10⟩ := hW.msg hL_h0 hT_h0
    obtain ⟨z_11, v0_12, hF_13, hq_14⟩ := hO.msg hL_h0 hT_h0
    refine pg_get (ci := 4) (v := .int (nI z_11)) (C := RX4) (T := TX4) (N := 6) hx hb hts it_4 hown hK hP hL_h0 hF_13 rfl 4 (by decide) (hts _ kt_203) (fun _ h9 => h9) rfl dX4_isNamedLike_6 ?_
    refine lv_icmp_ge (tgt := 32) hx hb dX4_isNamedLike_9 (by decide) (fun c_15 => ?_) (fun c_15 => ?_)
    ·
      refine lv_iconst (v := 0) hx hb dX4_isNamedLike_32 (by decide) ?_
      refine W.widen (k := 0) (n := 0) (by omega) (by omega) ?_
      exact W.zret (v := 0) (ty := .boolean) hx hb hr (by decide) (fun t ht hWm => ⟨⟨0, (), rfl, (by first | exact Or.inl rfl | exact Or.inr rfl), ⟨F, QT.mk ht hP hD hO hR⟩⟩, hS.F ht⟩) hS.2.2 dX4_isNamedLike_33
    ·
      obtain ⟨jk, hjk, rfl⟩ := nI_of c_1
      have hjkz : jk < z_11 := ltI hjk c_15
      refine lv_aload_n hx hb dX4_isNamedLike_12 rfl (lv_at hl 0 rfl) ?_
      refine pg_get (ci := 4) (v := .ref y1) (C := RX4) (T := TX4) (N := 6) hx hb hts it_4 hown hK hP hL_h0 hF_13 rfl 2 (by decide) (hts _ kt_204) (fun _ h9 => h9) rfl dX4_isNamedLike_13 ?_
      refine lv_iload_n hx hb dX4_isNamedLike_16 rfl (lv_at hl 1 rfl) ?_
      obtain ⟨f_16, hF_17, hq_18⟩ := hO.idx hi_4 ht_9
      refine pg_iald hx hb hK hP hi_4 0 hF_17 rfl (vp_in_nI (by omega) (by omega)) dX4_isNamedLike_17 ?_
      obtain ⟨k_19, hk_20, ek_21⟩ := hq_18 ((nI jk) : Int32).toNatClampNeg
      refine lv_topi (fun x_22 ex_22 => ?_)
      obtain rfl : x_22 = nI k_19 := ex_22.trans ek_21
      refine lv_aload_n hx hb dX4_isNamedLike_18 rfl (lv_at hl 0 rfl) ?_
      refine pg_get (ci := 4) (v := .ref y0) (C := RX4) (T := TX4) (N := 6) hx hb hts it_4 hown hK hP hL_h0 hF_13 rfl 1 (by decide) (hts _ kt_205) (fun _ h9 => h9) rfl dX4_isNamedLike_19 ?_
      refine lv_iload_n hx hb dX4_isNamedLike_22 rfl (lv_at hl 1 rfl) ?_
      obtain ⟨f_23, hF_24, hq_25⟩ := hO.idx hi_3 ht_8
      refine pg_iald hx hb hK hP hi_3 0 hF_24 rfl (vp_in_nI (by omega) (by omega)) dX4_isNamedLike_23 ?_
      obtain ⟨k_26, hk_27, ek_28⟩ := hq_25 ((nI jk) : Int32).toNatClampNeg
      refine lv_topi (fun x_29 ex_29 => ?_)
      obtain rfl : x_29 = nI k_26 := ex_29.trans ek_28
      refine lv_isub hx hb dX4_isNamedLike_24 ?_
      refine lv_topi (fun x_30 _ => ?_)
      refine lv_iload hx hb dX4_isNamedLike_25 (lv_at hl 4 rfl) ?_
      refine lv_iload_n hx hb dX4_isNamedLike_27 rfl (lv_at hl 3 rfl) ?_
      refine lv_isub hx hb dX4_isNamedLike_28 ?_
      refine lv_topi (fun x_31 _ => ?_)
      refine lv_icmp_eq (tgt := 34) hx hb dX4_isNamedLike_29 (by decide) (fun c_32 => ?_) (fun c_32 => ?_)
      ·
        refine lv_iconst (v := 0) hx hb dX4_isNamedLike_34 (by decide) ?_
        refine lv_istore (lv' := [(5, .int 0), (0, .ref h0), (1, .int (nI jk)), (2, .ref g1), (3, .int x3), (4, .int x4)]) hx hb dX4_isNamedLike_35 hl (by decide) rfl (fun ls hl => ?_)
        refine W.widen (k := 0) (n := 0) (by omega) (by omega) ?_
        have hF_34 : F h0 = .inr (4, [.ref tx, .ref y0, .ref y1, .ref y2, .int (nI z_11), .int v0_12]) := (hR h0 List.not_mem_nil).symm.trans hF_13
        have hF_35 : F y1 = .inl (cs 16, 20, .inl f_16) := (hR y1 List.not_mem_nil).symm.trans hF_17
        have hF_36 : F y0 = .inl (cs 16, 20, .inl f_23) := (hR y0 List.not_mem_nil).symm.trans hF_24
        refine pl_loop (σ := Int32) A (dC, dI) cs ty L [] F 37 6 (fun i1 => [(5, .int i1), (0, .ref h0), (1, .int (nI jk)), (2, .ref g1), (3, .int x3), (4, .int x4)]) (fun i1 => []) (fun i1 _ => True) (fun i1 => ((x4 - x3).toInt - i1.toInt).toNat) ?_ 0 F (trivial) hO hR _ _ hP hD hS ls (lv_sub hl [0, 1, 2, 3, 4, 5] rfl)
        rintro i1 F_33 hv_37 hO hR ih_38 H locs hP hD hS ls hl
        have hl : lv_has ls 6 [(5, .int i1), (0, .ref h0), (1, .int (nI jk)), (2, .ref g1), (3, .int x3), (4, .int x4)] := hl
        have hv_37 : True := hv_37
        refine W.eq (g2 := F0 m 37 ls []) rfl ?_
        have hF_39 : F_33 h0 = .inr (4, [.ref tx, .ref y0, .ref y1, .ref y2, .int (nI z_11), .int v0_12]) := (hR h0 List.not_mem_nil).trans hF_34
        have hF_40 : F_33 y1 = .inl (cs 16, 20, .inl f_16) := (hR y1 List.not_mem_nil).trans hF_35
        have hF_41 : F_33 y0 = .inl (cs 16, 20, .inl f_23) := (hR y0 List.not_mem_nil).trans hF_36
        refine lv_iload hx hb dX4_isNamedLike_37 (lv_at hl 0 rfl) ?_
        refine lv_iload hx hb dX4_isNamedLike_39 (lv_at hl 5 rfl) ?_
        refine lv_iload_n hx hb dX4_isNamedLike_41 rfl (lv_at hl 4 rfl) ?_
        refine lv_isub hx hb dX4_isNamedLike_42 ?_
        refine lv_topi (fun x_42 ex_42 => ?_)
        obtain rfl : x_42 = (x4 - x3) := ex_42.trans (rfl)
        refine lv_icmp_ge (tgt := 87) hx hb dX4_isNamedLike_43 (by decide) (fun c_43 => ?_) (fun c_43 => ?_)
        ·
          refine lv_iconst (v := 1) hx hb dX4_isNamedLike_87 (by decide) ?_
          refine W.widen (k := 0) (n := 0) (by omega) (by omega) ?_
          exact W.zret (v := 1) (ty := .boolean) hx hb hr (by decide) (fun t ht hWm => ⟨⟨1, (), rfl, (by first | exact Or.inl rfl | exact Or.inr rfl), ⟨F_33, QT.mk ht hP hD hO hR⟩⟩, hS.F ht⟩) hS.2.2 dX4_isNamedLike_88
        ·
          refine lv_aload_n hx hb dX4_isNamedLike_46 rfl (lv_at hl 1 rfl) ?_
          refine pg_get (ci := 4) (v := .ref tx) (C := RX4) (T := TX4) (N := 6) hx hb hts it_4 hown hK hP hL_h0 hF_39 rfl 0 (by decide) (hts _ kt_207) (fun _ h9 => h9) rfl dX4_isNamedLike_47 ?_
          refine lv_aload_n hx hb dX4_isNamedLike_50 rfl (lv_at hl 1 rfl) ?_
          refine pg_get (ci := 4) (v := .ref y0) (C := RX4) (T := TX4) (N := 6) hx hb hts it_4 hown hK hP hL_h0 hF_39 rfl 1 (by decide) (hts _ kt_205) (fun _ h9 => h9) rfl dX4_isNamedLike_51 ?_
          refine lv_iload_n hx hb dX4_isNamedLike_54 rfl (lv_at hl 2 rfl) ?_
          refine pg_iald hx hb hK hP hi_3 0 hF_41 rfl (vp_in_nI (by omega) (by omega)) dX4_isNamedLike_55 ?_
          obtain ⟨k_44, hk_45, ek_46⟩ := hq_25 ((nI jk) : Int32).toNatClampNeg
          refine lv_topi (fun x_47 ex_47 => ?_)
          obtain rfl : x_47 = nI k_44 := ex_47.trans ek_46
          refine lv_iload hx hb dX4_isNamedLike_56 (lv_at hl 0 rfl) ?_
          refine lv_iadd hx hb dX4_isNamedLike_58 ?_
          refine lv_topi (fun x_48 _ => ?_)
          have hFc := pg_free hD hS hA
          obtain ⟨hi_49, ht_50, hq_51⟩ := hW.bytes hi_2 ht_7
          obtain ⟨z_52, o_53, hF_54, hq_55, hq_56⟩ := hO.bytes hi_2 ht_7
          refine va_calli (va_runV (As := [.int x_48]) (rest := []) ⟨hx, hb, hml, hown, hts⟩ (s_X0_at l dC dI cs ty L H.size F_33 tx (ρ + 1) r_6 3000 x_48 hW hi_2 ht_7) ⟨callB_of 1 hts (gi kt_21) rfl rfl rfl (hts _ kt_1) (hts _ kt_199) (by decide +kernel) ⟨Nat.le_of_ble_eq_true rfl, Nat.le_of_ble_eq_true rfl⟩, (hts _ kt_23), (hts _ kt_24)⟩ ⟨fun a U g mk q => ⟨q.1, PT.calling q.2⟩, pg_recv hK hP hi_2 hF_54 (q := (RX0, TX0, 3)) rfl, fun U hU hWm => ⟨rfl, PT.mk hU hWm hP hK hD hE hO⟩⟩ rfl rfl hl.1 rfl (lv_room (Nat.le_of_ble_eq_true rfl)) dX4_isNamedLike_59 ⟨by show _ + 0 ≤ 0; omega, by show _ + 0 ≤ 0; omega⟩) hS (fun q _ h => hFc q h) hFc (fun r_57 u t H1 locs ht hvm hw hB hz1 hk1 hS => ?_)
          obtain ⟨F_58, hB1⟩ := hB
          obtain ⟨hP, hD, hO, hR⟩ := QT.back hB1 ht hFc hR (fun q h => absurd h List.not_mem_nil)
          have hF_59 : F_58 h0 = .inr (4, [.ref tx, .ref y0, .ref y1, .ref y2, .int (nI z_11), .int v0_12]) := (hB1.2.2.2 h0 List.not_mem_nil).trans hF_39
          have hF_60 : F_58 y1 = .inl (cs 16, 20, .inl f_16) := (hB1.2.2.2 y1 List.not_mem_nil).trans hF_40
          have hF_61 : F_58 y0 = .inl (cs 16, 20, .inl f_23) := (hB1.2.2.2 y0 List.not_mem_nil).trans hF_41
          have hF_62 : F_58 tx = .inr (0, [.ref r_6, .int (nI z_52), .int o_53]) := (hB1.2.2.2 tx List.not_mem_nil).trans hF_54
          generalize H1 = H at hP hS ⊢
          have hw : True := hw
          have hw_63 := hw
          have hFc := pg_free hD hS hA
          refine va_calli (va_runS (As := [.int r_57]) (rest := []) ⟨hx, hb, hml, hown, hts⟩ (s_X0_smallOf l dC dI cs ty L H.size F_58 r_57 hW ) ⟨callB_of 1 hts (gi kt_0) rfl rfl rfl (hts _ kt_1) (hts _ kt_208) (by decide +kernel) ⟨Nat.le_of_ble_eq_true rfl, Nat.le_of_ble_eq_true rfl⟩, (hts _ kt_3)⟩ ⟨fun a U g mk q => ⟨q.1, PT.calling q.2⟩, fun U hU hWm => ⟨rfl, PT.mk hU hWm hP hK hD hE hO⟩⟩ rfl rfl hl.1 rfl (lv_room (Nat.le_of_ble_eq_true rfl)) dX4_isNamedLike_62 ⟨by show _ + 0 ≤ 0; omega, by show _ + 0 ≤ 0; omega⟩) hS (fun q _ h => hFc q h) hFc (fun r_64 u t H1 locs ht hvm hw hB hz1 hk1 hS => ?_)
          obtain ⟨F_65, hB1⟩ := hB
          obtain ⟨hP, hD, hO, hR⟩ := QT.back hB1 ht hFc hR (fun q h => absurd h List.not_mem_nil)
          have hF_66 : F_65 h0 = .inr (4, [.ref tx, .ref y0, .ref y1, .ref y2, .int (nI z_11), .int v0_12]) := (hB1.2.2.2 h0 List.not_mem_nil).trans hF_59
          have hF_67 : F_65 y1 = .inl (cs 16, 20, .inl f_16) := (hB1.2.2.2 y1 List.not_mem_nil).trans hF_60
          have hF_68 : F_65 y0 = .inl (cs 16, 20, .inl f_23) := (hB1.2.2.2 y0 List.not_mem_nil).trans hF_61
          have hF_69 : F_65 tx = .inr (0, [.ref r_6, .int (nI z_52), .int o_53]) := (hB1.2.2.2 tx List.not_mem_nil).trans hF_62
          generalize H1 = H at hP hS ⊢
          have hw : True := hw
          have hw_70 := hw
          refine lv_aload_n hx hb dX4_isNamedLike_65 rfl (lv_at hl 3 rfl) ?_
          refine lv_iload_n hx hb dX4_isNamedLike_66 rfl (lv_at hl 4 rfl) ?_
          refine lv_iload hx hb dX4_isNamedLike_67 (lv_at hl 0 rfl) ?_
          refine lv_iadd hx hb dX4_isNamedLike_69 ?_
          refine lv_topi (fun x_71 _ => ?_)
          have hFc := pg_free hD hS hA
          obtain ⟨hi_72, ht_73, hq_74⟩ := hW.bytes hL_g1 hT_g1
          obtain ⟨z_75, o_76, hF_77, hq_78, hq_79⟩ := hO.bytes hL_g1 hT_g1
          refine va_calli (va_runV (As := [.int x_71]) (rest := [.int r_64]) ⟨hx, hb, hml, hown, hts⟩ (s_X0_at l dC dI cs ty L H.size F_65 g1 σ r1 n1 x_71 hW hL_g1 hT_g1) ⟨callB_of 1 hts (gi kt_21) rfl rfl rfl (hts _ kt_1) (hts _ kt_199) (by decide +kernel) ⟨Nat.le_of_ble_eq_true rfl, Nat.le_of_ble_eq_true rfl⟩, (hts _ kt_23), (hts _ kt_24)⟩ ⟨fun a U g mk q => ⟨q.1, PT.calling q.2⟩, pg_recv hK hP hL_g1 hF_77 (q := (RX0, TX0, 3)) rfl, fun U hU hWm => ⟨rfl, PT.mk hU hWm hP hK hD hE hO⟩⟩ rfl rfl hl.1 rfl (lv_room (Nat.le_of_ble_eq_true rfl)) dX4_isNamedLike_70 ⟨by show _ + 0 ≤ 0; omega, by show _ + 0 ≤ 0; omega⟩) hS (fun q _ h => hFc q h) hFc (fun r_80 u t H1 locs ht hvm hw hB hz1 hk1 hS => ?_)
          obtain ⟨F_81, hB1⟩ := hB
          obtain ⟨hP, hD, hO, hR⟩ := QT.back hB1 ht hFc hR (fun q h => absurd h List.not_mem_nil)
          have hF_82 : F_81 h0 = .inr (4, [.ref tx, .ref y0, .ref y1, .ref y2, .int (nI z_11), .int v0_12]) := (hB1.2.2.2 h0 List.not_mem_nil).trans hF_66
          have hF_83 : F_81 y1 = .inl (cs 16, 20, .inl f_16) := (hB1.2.2.2 y1 List.not_mem_nil).trans hF_67
          have hF_84 : F_81 y0 = .inl (cs 16, 20, .inl f_23) := (hB1.2.2.2 y0 List.not_mem_nil).trans hF_68
          have hF_85 : F_81 tx = .inr (0, [.ref r_6, .int (nI z_52), .int o_53]) := (hB1.2.2.2 tx List.not_mem_nil).trans hF_69
          have hF_86 : F_81 g1 = .inr (0, [.ref r1, .int (nI z_75), .int o_76]) := (hB1.2.2.2 g1 List.not_mem_nil).trans hF_77
          generalize H1 = H at hP hS ⊢
          have hw : True := hw
          have hw_87 := hw
          have hFc := pg_free hD hS hA
          refine va_calli (va_runS (As := [.int r_80]) (rest := [.int r_64]) ⟨hx, hb, hml, hown, hts⟩ (s_X0_smallOf l dC dI cs ty L H.size F_81 r_80 hW ) ⟨callB_of 1 hts (gi kt_0) rfl rfl rfl (hts _ kt_1) (hts _ kt_208) (by decide +kernel) ⟨Nat.le_of_ble_eq_true rfl, Nat.le_of_ble_eq_true rfl⟩, (hts _ kt_3)⟩ ⟨fun a U g mk q => ⟨q.1, PT.calling q.2⟩, fun U hU hWm => ⟨rfl, PT.mk hU hWm hP hK hD hE hO⟩⟩ rfl rfl hl.1 rfl (lv_room (Nat.le_of_ble_eq_true rfl)) dX4_isNamedLike_73 ⟨by show _ + 0 ≤ 0; omega, by show _ + 0 ≤ 0; omega⟩) hS (fun q _ h => hFc q h) hFc (fun r_88 u t H1 locs ht hvm hw hB hz1 hk1 hS => ?_)
          obtain ⟨F_89, hB1⟩ := hB
          obtain ⟨hP, hD, hO, hR⟩ := QT.back hB1 ht hFc hR (fun q h => absurd h List.not_mem_nil)
          have hF_90 : F_89 h0 = .inr (4, [.ref tx, .ref y0, .ref y1, .ref y2, .int (nI z_11), .int v0_12]) := (hB1.2.2.2 h0 List.not_mem_nil).trans hF_82
          have hF_91 : F_89 y1 = .inl (cs 16, 20, .inl f_16) := (hB1.2.2.2 y1 List.not_mem_nil).trans hF_83
          have hF_92 : F_89 y0 = .inl (cs 16, 20, .inl f_23) := (hB1.2.2.2 y0 List.not_mem_nil).trans hF_84
          have hF_93 : F_89 tx = .inr (0, [.ref r_6, .int (nI z_52), .int o_53]) := (hB1.2.2.2 tx List.not_mem_nil).trans hF_85
          have hF_94 : F_89 g1 = .inr (0, [.ref r1, .int (nI z_75), .int o_76]) := (hB1.2.2.2 g1 List.not_mem_nil).trans hF_86
          generalize H1 = H at hP hS ⊢
          have hw : True := hw
          have hw_95 := hw
          refine lv_icmp_eq (tgt := 81) hx hb dX4_isNamedLike_76 (by decide) (fun c_96 => ?_) (fun c_96 => ?_)
          ·
            obtain ⟨x_97, ex_97⟩ : ∃ y : Int32, y = i1 + Int32.ofInt 1 := ⟨_, rfl⟩
            refine lv_iinc (v := x_97) (lv' := [(5, .int x_97), (0, .ref h0), (1, .int (nI jk)), (2, .ref g1), (3, .int x3), (4, .int x4)]) hx hb dX4_isNamedLike_81 hl (k := 0) rfl (ex_97.symm) (by decide) rfl (fun ls hl => ?_)
            refine lv_goto (tgt := 37) hx hb dX4_isNamedLike_84 (by decide) ?_
            refine W.widen (k := 0) (n := 0) (by omega) (by omega) ?_
            exact ih_38 x_97 F_89 (trivial) (by show ((x4 - x3).toInt - x_97.toInt).toNat < ((x4 - x3).toInt - i1.toInt).toNat; exact incN ex_97 c_43) hO hR _ _ hP hD hS ls (lv_sub hl [0, 1, 2, 3, 4, 5] rfl)
          ·
            refine lv_iconst (v := 0) hx hb dX4_isNamedLike_79 (by decide) ?_
            refine W.widen (k := 0) (n := 0) (by omega) (by omega) ?_
            exact W.zret (v := 0) (ty := .boolean) hx hb hr (by decide) (fun t ht hWm => ⟨⟨0, (), rfl, (by first | exact Or.inl rfl | exact Or.inr rfl), ⟨F_89, QT.mk ht hP hD hO hR⟩⟩, hS.F ht⟩) hS.2.2 dX4_isNamedLike_80
      ·
        refine lv_iconst (v := 0) hx hb dX4_isNamedLike_32 (by decide) ?_
        refine W.widen (k := 0) (n := 0) (by omega) (by omega) ?_
        exact W.zret (v := 0) (ty := .boolean) hx hb hr (by decide) (fun t ht hWm => ⟨⟨0, (), rfl, (by first | exact Or.inl rfl | exact Or.inr rfl), ⟨F, QT.mk ht hP hD hO hR⟩⟩, hS.F ht⟩) hS.2.2 dX4_isNamedLike_33
set_option maxHeartbeats 4000000 in
set_option maxRecDepth 100000 in
theorem s_X4_countOf (l : Launch) (dC : Nat → ClassId) (dI : Nat → Nat → Nat) (cs : Nat → ClassId) (ty : TyM) (L : List Nat) (sz : Nat) (F : Nat → va_E) (h0 : Nat) (ρ : Nat) (tx : Nat) (y0 : Nat) (y1 : Nat) (y2 : Nat) (q : Nat) (v : Nat) (k0 : Nat) (hW : WT ty L) (hL_h0 : h0 ∈ L) (hT_h0 : ty h0 = (4, ρ, [tx, y0, y1, y2])) : Met l yX4_countOf (.code yX4_countOf cX4_countOf 4 (some .int) :: tb) ({ frames := 5, cells := 0, slots := 0, locals := 108 }) (va_Pc [.ref h0, .ref q] (PTE (dC, dI) cs ty L F sz [(q, v, k0)])) (va_Qi (fun (r : Int32) (_ : Unit) => True) (fun _ T9 => ∃ F2 : Nat → va_E, QT (dC, dI) cs ty L [] F F2 (va_A (va_pl L F) sz) T9) (va_A (va_pl L F) sz)) 0 0 (va_A (va_pl L F) sz) := by
  refine Met.ofW (cc := cX4_countOf) (maxL := 4) (ret := (some .int)) (by decide) rfl ?_
  intro p e s m args below meth c s₁ B hml hv
  obtain ⟨rfl, ⟨hsz, hP, hK, hD0, hE, hO⟩, hG, hX⟩ := hv
  have hx := B.exec
  have hb := B.bytes
  have hr := B.returns
  have hts : ∀ w ∈ tb, w.before _ s = true := fun w h => atoms_spec (ws := .code yX4_countOf cX4_countOf 4 (some .int) :: tb) B.pre w (List.mem_cons_of_mem _ h)
  have hown : s.vm.findClass RX4 = some m.cls := findClass_of_methodNamed B.named
  have hlocks := B.notSynchronized
  subst hsz
  have hD := hD0.self (sz := s.heap.size)
  generalize hAe : va_A (va_pl L F) s.heap.size = A at hD hG hX ⊢
  have hX_q : SX q v k0 A s s.heap := hX (q, v, k0) (by simp)
  obtain ⟨xo_q, xc_q, xv_q, xf_q, xt_q, xn_q⟩ := id hX_q
  have hA : ∀ q : Nat, s.heap.size ≤ q → A q := fun q h => by rw [← hAe]; exact Or.inr h
  have hS : va_S A s.heap s.heap [] := va_S.rf
  have hR : FR ty [] F F := FR.refl
  have hl := lv_entry ([.ref h0, .ref q]) (n := 4) (Nat.le_of_ble_eq_true rfl)
  rw [lg_entry_eq]
  generalize (lg_sl ([.ref h0, .ref q]) ++ List.replicate (4 - (lg_sl ([.ref h0, .ref q])).length) Slot.unset).toArray = ls at hl ⊢
  have hl : lv_has ls 4 [(0, .ref h0), (1, .ref q)] := hl
  refine lv_iconst (v := 0) hx hb dX4_countOf_0 (by decide) ?_
  refine lv_istore_n (lv' := [(2, .int 0), (0, .ref h0), (1, .ref q)]) hx hb dX4_countOf_1 rfl hl (by decide) rfl (fun ls hl => ?_)
  refine lv_iconst (v := 0) hx hb dX4_countOf_2 (by decide) ?_
  refine lv_istore_n (lv' := [(3, .int 0), (2, .int 0), (0, .ref h0), (1, .ref q)]) hx hb dX4_countOf_3 rfl hl (by decide) rfl (fun ls hl => ?_)
  refine W.widen (k := 0) (n := 0) (by omega) (by omega) ?_
  refine pl_loop (σ := Nat × Int32) A (dC, dI) cs ty L [] F 4 4 (fun (j, w2) => [(3, .int (nI j)), (2, .int w2), (0, .ref h0), (1, .ref q)]) (fun (j, w2) => []) (fun (j, w2) _ => j ≤ 20) (fun (j, w2) => 20 - j) ?_ (0, 0) F (by omega) hO hR _ _ hP hD hS ls (lv_sub hl [0, 1, 2, 3] rfl)
  rintro ⟨j, w2⟩ F_1 hv_2 hO hR ih_3 H locs hP hD hS ls hl
  have hl : lv_has ls 4 [(3, .int (nI j)), (2, .int w2), (0, .ref h0), (1, .ref q)] := hl
  have hv_2 : j ≤ 20 := hv_2
  refine W.eq (g2 := F0 m 4 ls []) rfl ?_
  refine lv_iload_n hx hb dX4_countOf_4 rfl (lv_at hl 0 rfl) ?_
  refine lv_aload_n hx hb dX4_countOf_5 rfl (lv_at hl 2 rfl) ?_
  obtain ⟨hi_4, hi_5, hi_6, hi_7, ⟨r_8, ht_9⟩, ht_10, ht_11, ht_12⟩ := hW.msg hL_h0 hT_h0
  obtain ⟨z_13, v0_14, hF_15, hq_16⟩ := hO.msg hL_h0 hT_h0
  refine pg_get (ci := 4) (v := .int (nI z_13)) (C := RX4) (T := TX4) (N := 6) hx hb hts it_4 hown hK hP hL_h0 hF_15 rfl 4 (by decide) (hts _ kt_203) (fun _ h9 => h9) rfl dX4_countOf_6 ?_
  refine lv_icmp_ge (tgt := 35) hx hb dX4_countOf_9 (by decide) (fun c_17 => ?_) (fun c_17 => ?_)
  ·
    have hi_18 : z_13 ≤ j := leN (N := z_13) c_17
    refine lv_iload_n hx hb dX4_countOf_35 rfl (lv_at hl 1 rfl) ?_
    refine W.widen (k := 0) (n := 0) (by omega) (by omega) ?_
    exact W.iret (v := w2) hx hb hr (fun t ht hWm => ⟨⟨w2, (), rfl, trivial, ⟨F_1, QT.mk ht hP hD hO hR⟩⟩, hS.F ht⟩) hS.2.2 dX4_countOf_36
  ·
    have hi_19 : j < z_13 := ltN (N := z_13) c_17
    have hjz : j < z_13 := ltI (by omega) c_17
    refine lv_iload_n hx hb dX4_countOf_12 rfl (lv_at hl 1 rfl) ?_
    refine lv_aload_n hx hb dX4_countOf_13 rfl (lv_at hl 2 rfl) ?_
    refine lv_iload_n hx hb dX4_countOf_14 rfl (lv_at hl 0 rfl) ?_
    refine lv_aload_n hx hb dX4_countOf_15 rfl (lv_at hl 3 rfl) ?_
    have hFc := pg_free hD hS hA
    refine va_calli (va_runV (As := [.int (nI j), .ref q]) (rest := [.int w2]) ⟨hx, hb, hml, hown, hts⟩ (s_X4_isNamed l dC dI cs ty L H.size F_1 h0 ρ tx y0 y1 y2 q v k0 (nI j) hW hL_h0 hT_h0) ⟨callB_of 2 hts (gi kt_210) rfl rfl rfl (hts _ kt_211) (hts _ kt_212) (by decide +kernel) ⟨Nat.le_of_ble_eq_true rfl, Nat.le_of_ble_eq_true rfl⟩, (hts _ kt_213), (hts _ kt_214)⟩ ⟨fun a U g mk q => ⟨q.1, PTE.calling q.2⟩, pg_recv hK hP hL_h0 hF_15 (q := (RX4, TX4, 6)) rfl, fun U hU hWm => ⟨rfl, PTE.mk hU hWm hP hK hD hE hO hG (fun x hx => by rw [List.mem_singleton] at hx; subst hx; exact hX_q) hS hFc⟩⟩ rfl rfl hl.1 rfl (lv_room (Nat.le_of_ble_eq_true rfl)) dX4_countOf_16 ⟨by show _ + 0 ≤ 0; omega, by show _ + 0 ≤ 0; omega⟩) hS (fun q _ h => hFc q h) hFc (fun r_20 u t H1 locs ht hvm hw hB hz1 hk1 hS => ?_)
    obtain ⟨F_21, hB1⟩ := hB
    obtain ⟨hP, hD, hO, hR⟩ := QT.back hB1 ht hFc hR (fun q h => absurd h List.not_mem_nil)
    have hF_22 : F_21 h0 = .inr (4, [.ref tx, .ref y0, .ref y1, .ref y2, .int (nI z_13), .int v0_14]) := (hB1.2.2.2 h0 List.not_mem_nil).trans hF_15
    generalize H1 = H at hP hS ⊢
    have hw : (r_20 = 0 ∨ r_20 = 1) := hw
    have hw_23 := hw
    refine lv_if_eq (tgt := 26) hx hb dX4_countOf_19 (by decide) (fun c_24 => ?_) (fun c_24 => ?_)
    ·
      refine lv_iconst (v := 0) hx hb dX4_countOf_26 (by decide) ?_
      refine lv_iadd hx hb dX4_countOf_27 ?_
      refine lv_topi (fun x_25 _ => ?_)
      refine lv_istore_n (lv' := [(2, .int x_25), (3, .int (nI j)), (0, .ref h0), (1, .ref q)]) hx hb dX4_countOf_28 rfl hl (by decide) rfl (fun ls hl => ?_)
      refine lv_iinc (v := (nI (j + 1))) (lv' := [(3, .int (nI (j + 1))), (2, .int x_25), (0, .ref h0), (1, .ref q)]) hx hb dX4_countOf_29 hl (k := 1) rfl (nI_1 _) (by decide) rfl (fun ls hl => ?_)
      refine lv_goto (tgt := 4) hx hb dX4_countOf_32 (by decide) ?_
      refine W.widen (k := 0) (n := 0) (by omega) (by omega) ?_
      exact ih_3 ((j + 1), x_25) F_21 (by first | omega | exact ⟨by omega, by omega⟩ | trivial) (by show 20 - (j + 1) < 20 - j; omega) hO hR _ _ hP hD hS ls (lv_sub hl [0, 1, 2, 3] rfl)
    ·
      refine lv_iconst (v := 1) hx hb dX4_countOf_22 (by decide) ?_
      refine lv_goto (tgt := 27) hx hb dX4_countOf_23 (by decide) ?_
      refine lv_iadd hx hb dX4_countOf_27 ?_
      refine lv_topi (fun x_26 _ => ?_)
      refine lv_istore_n (lv' := [(2, .int x_26), (3, .int (nI j)), (0, .ref h0), (1, .ref q)]) hx hb dX4_countOf_28 rfl hl (by decide) rfl (fun ls hl => ?_)
      refine lv_iinc (v := (nI (j + 1))) (lv' := [(3, .int (nI (j + 1))), (2, .int x_26), (0, .ref h0), (1, .ref q)]) hx hb dX4_countOf_29 hl (k := 1) rfl (nI_1 _) (by decide) rfl (fun ls hl => ?_)
      refine lv_goto (tgt := 4) hx hb dX4_countOf_32 (by decide) ?_
      refine W.widen (k := 0) (n := 0) (by omega) (by omega) ?_
      exact ih_3 ((j + 1), x_26) F_21 (by first | omega | exact ⟨by omega, by omega⟩ | trivial) (by show 20 - (j + 1) < 20 - j; omega) hO hR _ _ hP hD hS ls (lv_sub hl [0, 1, 2, 3] rfl)
set_option maxHeartbeats 4000000 in
set_option maxRecDepth 100000 in
theorem s_X4_fieldOf (l : Launch) (dC : Nat → ClassId) (dI : Nat → Nat → Nat) (cs : Nat → ClassId) (ty : TyM) (L : List Nat) (sz : Nat) (F : Nat → va_E) (h0 : Nat) (ρ : Nat) (tx : Nat) (y0 : Nat) (y1 : Nat) (y2 : Nat) (q : Nat) (v : Nat) (k0 : Nat) (x2 : Int32) (hW : WT ty L) (hL_h0 : h0 ∈ L) (hT_h0 : ty h0 = (4, ρ, [tx, y0, y1, y2])) : Met l yX4_fieldOf (.code yX4_fieldOf cX4_fieldOf 5 (some .int) :: tb) ({ frames := 5, cells := 0, slots := 0, locals := 108 }) (va_Pc [.ref h0, .ref q, .int x2] (PTE (dC, dI) cs ty L F sz [(q, v, k0)])) (va_Qi (fun (r : Int32) (_ : Unit) => (r = (-1) ∨ ∃ j : Nat, j < 20 ∧ r = nI j)) (fun _ T9 => ∃ F2 : Nat → va_E, QT (dC, dI) cs ty L [] F F2 (va_A (va_pl L F) sz) T9) (va_A (va_pl L F) sz)) 0 0 (va_A (va_pl L F) sz) := by
  refine Met.ofW (cc := cX4_fieldOf) (maxL := 5) (ret := (some .int)) (by decide) rfl ?_
  intro p e s m args below meth c s₁ B hml hv
  obtain ⟨rfl, ⟨hsz, hP, hK, hD0, hE, hO⟩, hG, hX⟩ := hv
  have hx := B.exec
  have hb := B.bytes
  have hr := B.returns
  have hts : ∀ w ∈ tb, w.before _ s = true := fun w h => atoms_spec (ws := .code yX4_fieldOf cX4_fieldOf 5 (some .int) :: tb) B.pre w (List.mem_cons_of_mem _ h)
  have hown : s.vm.findClass RX4 = some m.cls := findClass_of_methodNamed B.named
  have hlocks := B.notSynchronized
  subst hsz
  have hD := hD0.self (sz := s.heap.size)
  generalize hAe : va_A (va_pl L F) s.heap.size = A at hD hG hX ⊢
  have hX_q : SX q v k0 A s s.heap := hX (q, v, k0) (by simp)
  obtain ⟨xo_q, xc_q, xv_q, xf_q, xt_q, xn_q⟩ := id hX_q
  have hA : ∀ q : Nat, s.heap.size ≤ q → A q := fun q h => by rw [← hAe]; exact Or.inr h
  have hS : va_S A s.heap s.heap [] := va_S.rf
  have hR : FR ty [] F F := FR.refl
  have hl := lv_entry ([.ref h0, .ref q, .int x2]) (n := 5) (Nat.le_of_ble_eq_true rfl)
  rw [lg_entry_eq]
  generalize (lg_sl ([.ref h0, .ref q, .int x2]) ++ List.replicate (5 - (lg_sl ([.ref h0, .ref q, .int x2])).length) Slot.unset).toArray = ls at hl ⊢
  have hl : lv_has ls 5 [(0, .ref h0), (1, .ref q), (2, .int x2)] := hl
  refine lv_iload_n hx hb dX4_fieldOf_0 rfl (lv_at hl 2 rfl) ?_
  refine lv_istore_n (lv' := [(3, .int x2), (0, .ref h0), (1, .ref q), (2, .int x2)]) hx hb dX4_fieldOf_1 rfl hl (by decide) rfl (fun ls hl => ?_)
  refine lv_iconst (v := 0) hx hb dX4_fieldOf_2 (by decide) ?_
  refine lv_istore (lv' := [(4, .int 0), (3, .int x2), (0, .ref h0), (1, .ref q), (2, .int x2)]) hx hb dX4_fieldOf_3 hl (by decide) rfl (fun ls hl => ?_)
  refine W.widen (k := 0) (n := 0) (by omega) (by omega) ?_
  refine pl_loop (σ := Nat × Int32) A (dC, dI) cs ty L [] F 5 5 (fun (j, w3) => [(4, .int (nI j)), (3, .int w3), (0, .ref h0), (1, .ref q), (2, .int x2)]) (fun (j, w3) => []) (fun (j, w3) _ => j ≤ 20) (fun (j, w3) => 20 - j) ?_ (0, x2) F (by omega) hO hR _ _ hP hD hS ls (lv_sub hl [0, 1, 2, 3, 4] rfl)
  rintro ⟨j, w3⟩ F_1 hv_2 hO hR ih_3 H locs hP hD hS ls hl
  have hl : lv_has ls 5 [(4, .int (nI j)), (3, .int w3), (0, .ref h0), (1, .ref q), (2, .int x2)] := hl
  have hv_2 : j ≤ 20 := hv_2
  refine W.eq (g2 := F0 m 5 ls []) rfl ?_
  refine lv_iload hx hb dX4_fieldOf_5 (lv_at hl 0 rfl) ?_
  refine lv_aload_n hx hb dX4_fieldOf_7 rfl (lv_at hl 2 rfl) ?_
  obtain ⟨hi_4, hi_5, hi_6, hi_7, ⟨r_8, ht_9⟩, ht_10, ht_11, ht_12⟩ := hW.msg hL_h0 hT_h0
  obtain ⟨z_13, v0_14, hF_15, hq_16⟩ := hO.msg hL_h0 hT_h0
  refine pg_get (ci := 4) (v := .int (nI z_13)) (C := RX4) (T := TX4) (N := 6) hx hb hts it_4 hown hK hP hL_h0 hF_15 rfl 4 (by decide) (hts _ kt_203) (fun _ h9 => h9) rfl dX4_fieldOf_8 ?_
  refine lv_icmp_ge (tgt := 43) hx hb dX4_fieldOf_11 (by decide) (fun c_17 => ?_) (fun c_17 => ?_)
  ·
    have hi_18 : z_13 ≤ j := leN (N := z_13) c_17
    refine lv_iconst (v := (-1)) hx hb dX4_fieldOf_43 (by decide) ?_
    refine W.widen (k := 0) (n := 0) (by omega) (by omega) ?_
    exact W.iret (v := (-1)) hx hb hr (fun t ht hWm => ⟨⟨(-1), (), rfl, Or.inl rfl, ⟨F_1, QT.mk ht hP hD hO hR⟩⟩, hS.F ht⟩) hS.2.2 dX4_fieldOf_44
  ·
    have hi_19 : j < z_13 := ltN (N := z_13) c_17
    have hjz : j < z_13 := ltI (by omega) c_17
    refine lv_aload_n hx hb dX4_fieldOf_14 rfl (lv_at hl 2 rfl) ?_
    refine lv_iload hx hb dX4_fieldOf_15 (lv_at hl 0 rfl) ?_
    refine lv_aload_n hx hb dX4_fieldOf_17 rfl (lv_at hl 3 rfl) ?_
    have hFc := pg_free hD hS hA
    refine va_calli (va_runV (As := [.int (nI j), .ref q]) (rest := []) ⟨hx, hb, hml, hown, hts⟩ (s_X4_isNamed l dC dI cs ty L H.size F_1 h0 ρ tx y0 y1 y2 q v k0 (nI j) hW hL_h0 hT_h0) ⟨callB_of 2 hts (gi kt_210) rfl rfl rfl (hts _ kt_211) (hts _ kt_212) (by decide +kernel) ⟨Nat.le_of_ble_eq_true rfl, Nat.le_of_ble_eq_true rfl⟩, (hts _ kt_213), (hts _ kt_214)⟩ ⟨fun a U g mk q => ⟨q.1, PTE.calling q.2⟩, pg_recv hK hP hL_h0 hF_15 (q := (RX4, TX4, 6)) rfl, fun U hU hWm => ⟨rfl, PTE.mk hU hWm hP hK hD hE hO hG (fun x hx => by rw [List.mem_singleton] at hx; subst hx; exact hX_q) hS hFc⟩⟩ rfl rfl hl.1 rfl (lv_room (Nat.le_of_ble_eq_true rfl)) dX4_fieldOf_18 ⟨by show _ + 0 ≤ 0; omega, by show _ + 0 ≤ 0; omega⟩) hS (fun q _ h => hFc q h) hFc (fun r_20 u t H1 locs ht hvm hw hB hz1 hk1 hS => ?_)
    obtain ⟨F_21, hB1⟩ := hB
    obtain ⟨hP, hD, hO, hR⟩ := QT.back hB1 ht hFc hR (fun q h => absurd h List.not_mem_nil)
    have hF_22 : F_21 h0 = .inr (4, [.ref tx, .ref y0, .ref y1, .ref y2, .int (nI z_13), .int v0_14]) := (hB1.2.2.2 h0 List.not_mem_nil).trans hF_15
    generalize H1 = H at hP hS ⊢
    have hw : (r_20 = 0 ∨ r_20 = 1) := hw
    have hw_23 := hw
    refine lv_if_ne (tgt := 27) hx hb dX4_fieldOf_21 (by decide) (fun c_24 => ?_) (fun c_24 => ?_)
    ·
      refine lv_iload_n hx hb dX4_fieldOf_27 rfl (lv_at hl 1 rfl) ?_
      refine lv_if_ne (tgt := 34) hx hb dX4_fieldOf_28 (by decide) (fun c_25 => ?_) (fun c_25 => ?_)
      ·
        obtain ⟨x_26, ex_26⟩ : ∃ y : Int32, y = w3 + Int32.ofInt (-1) := ⟨_, rfl⟩
        refine lv_iinc (v := x_26) (lv' := [(3, .int x_26), (4, .int (nI j)), (0, .ref h0), (1, .ref q), (2, .int x2)]) hx hb dX4_fieldOf_34 hl (k := 1) rfl (ex_26.symm) (by decide) rfl (fun ls hl => ?_)
        refine lv_iinc (v := (nI (j + 1))) (lv' := [(4, .int (nI (j + 1))), (3, .int x_26), (0, .ref h0), (1, .ref q), (2, .int x2)]) hx hb dX4_fieldOf_37 hl (k := 1) rfl (nI_1 _) (by decide) rfl (fun ls hl => ?_)
        refine lv_goto (tgt := 5) hx hb dX4_fieldOf_40 (by decide) ?_
        refine W.widen (k := 0) (n := 0) (by omega) (by omega) ?_
        exact ih_3 ((j + 1), x_26) F_21 (by first | omega | exact ⟨by omega, by omega⟩ | trivial) (by show 20 - (j + 1) < 20 - j; omega) hO hR _ _ hP hD hS ls (lv_sub hl [0, 1, 2, 3, 4] rfl)
      ·
        refine lv_iload hx hb dX4_fieldOf_31 (lv_at hl 0 rfl) ?_
        refine W.widen (k := 0) (n := 0) (by omega) (by omega) ?_
        exact W.iret (v := (nI j)) hx hb hr (fun t ht hWm => ⟨⟨(nI j), (), rfl, (Or.inr ⟨j, by omega, rfl⟩), ⟨F_21, QT.mk ht hP hD hO hR⟩⟩, hS.F ht⟩) hS.2.2 dX4_fieldOf_33
    ·
      refine lv_goto (tgt := 37) hx hb dX4_fieldOf_24 (by decide) ?_
      refine lv_iinc (v := (nI (j + 1))) (lv' := [(4, .int (nI (j + 1))), (3, .int w3), (0, .ref h0), (1, .ref q), (2, .int x2)]) hx hb dX4_fieldOf_37 hl (k := 0) rfl (nI_1 _) (by decide) rfl (fun ls hl => ?_)
      refine lv_goto (tgt := 5) hx hb dX4_fieldOf_40 (by decide) ?_
      refine W.widen (k := 0) (n := 0) (by omega) (by omega) ?_
      exact ih_3 ((j + 1), w3) F_21 (by first | omega | exact ⟨by omega, by omega⟩ | trivial) (by show 20 - (j + 1) < 20 - j; omega) hO hR _ _ hP hD hS ls (lv_sub hl [0, 1, 2, 3, 4] rfl)
set_option maxHeartbeats 4000000 in
set_option maxRecDepth 100000 in
theorem s_X4_takeLine (l : Launch) (dC : Nat → ClassId) (dI : Nat → Nat → Nat) (cs : Nat → ClassId) (ty : TyM) (L : List Nat) (sz : Nat) (F : Nat → va_E) (h0 : Nat) (ρ : Nat) (tx : Nat) (y0 : Nat) (y1 : Nat) (y2 : Nat) (a1 : Nat) (b1 : Nat) (hW : WT ty L) (hL_h0 : h0 ∈ L) (hT_h0 : ty h0 = (4, ρ, [tx, y0, y1, y2])) (ha1 : a1 ≤ 10000) (hb1 : b1 ≤ 10000) : Met l yX4_takeLine (.code yX4_takeLine cX4_takeLine 4 (some .boolean) :: tb) ({ frames := 3, cells := 0, slots := 0, locals := 63 }) (va_Pc [.ref h0, .int (nI a1), .int (nI b1)] (PT (dC, dI) cs ty L F sz)) (va_Qi (fun (r : Int32) (_ : Unit) => (r = 0 ∨ r = 1)) (fun _ T9 => ∃ F2 : Nat → va_E, QT (dC, dI) cs ty L [ρ, ρ + 2, ρ + 3] F F2 (va_A (va_pl L F) sz) T9) (va_A (va_pl L F) sz)) 0 0 (va_A (va_pl L F) sz) := by
  refine Met.ofW (cc := cX4_takeLine) (maxL := 4) (ret := (some .boolean)) (by decide) rfl ?_
  intro p e s m args below meth c s₁ B hml hv
  obtain ⟨rfl, hsz, hP, hK, hD0, hE, hO⟩ := hv
  have hx := B.exec
  have hb := B.bytes
  have hr := B.returns
  have hts : ∀ w ∈ tb, w.before _ s = true := fun w h => atoms_spec (ws := .code yX4_takeLine cX4_takeLine 4 (some .boolean) :: tb) B.pre w (List.mem_cons_of_mem _ h)
  have hown : s.vm.findClass RX4 = some m.cls := findClass_of_methodNamed B.named
  have hlocks := B.notSynchronized
  subst hsz
  have hD := hD0.self (sz := s.heap.size)
  generalize hAe : va_A (va_pl L F) s.heap.size = A at hD ⊢
  have hA : ∀ q : Nat, s.heap.size ≤ q → A q := fun q h => by rw [← hAe]; exact Or.inr h
  have hS : va_S A s.heap s.heap [] := va_S.rf
  have hR : FR ty [ρ, ρ + 2, ρ + 3] F F := FR.refl
  have hl := lv_entry ([.ref h0, .int (nI a1), .int (nI b1)]) (n := 4) (Nat.le_of_ble_eq_true rfl)
  rw [lg_entry_eq]
  generalize (lg_sl ([.ref h0, .int (nI a1), .int (nI b1)]) ++ List.replicate (4 - (lg_sl ([.ref h0, .int (nI a1), .int (nI b1)])).length) Slot.unset).toArray = ls at hl ⊢
  have hl : lv_has ls 4 [(0, .ref h0), (1, .int (nI a1)), (2, .int (nI b1))] := hl
  refine lv_aload_n hx hb dX4_takeLine_0 rfl (lv_at hl 0 rfl) ?_
  obtain ⟨hi_1, hi_2, hi_3, hi_4, ⟨r_5, ht_6⟩, ht_7, ht_8, ht_9⟩ := hW.msg hL_h0 hT_h0
  obtain ⟨z_10, v0_11, hF_12, hq_13⟩ := hO.msg hL_h0 hT_h0
  refine pg_get (ci := 4) (v := .ref tx) (C := RX4) (T := TX4) (N := 6) hx hb hts it_4 hown hK hP hL_h0 hF_12 rfl 0 (by decide) (hts _ kt_207) (fun _ h9 => h9) rfl dX4_takeLine_1 ?_
  refine lv_iload_n hx hb dX4_takeLine_4 rfl (lv_at hl 1 rfl) ?_
  have hFc := pg_free hD hS hA
  obtain ⟨hi_14, ht_15, hq_16⟩ := hW.bytes hi_1 ht_6
  obtain ⟨z_17, o_18, hF_19, hq_20, hq_21⟩ := hO.bytes hi_1 ht_6
  refine va_calli (va_runV (As := [.int (nI a1)]) (rest := []) ⟨hx, hb, hml, hown, hts⟩ (s_X0_at l dC dI cs ty L s.heap.size F tx (ρ + 1) r_5 3000 (nI a1) hW hi_1 ht_6) ⟨callB_of 1 hts (gi kt_21) rfl rfl rfl (hts _ kt_1) (hts _ kt_199) (by decide +kernel) ⟨Nat.le_of_ble_eq_true rfl, Nat.le_of_ble_eq_true rfl⟩, (hts _ kt_23), (hts _ kt_24)⟩ ⟨fun a U g mk q => ⟨q.1, PT.calling q.2⟩, pg_recv hK hP hi_1 hF_19 (q := (RX0, TX0, 3)) rfl, fun U hU hWm => ⟨rfl, PT.mk hU hWm hP hK hD hE hO⟩⟩ rfl rfl hl.1 rfl (lv_room (Nat.le_of_ble_eq_true rfl)) dX4_takeLine_5 ⟨by show _ + 0 ≤ 0; omega, by show _ + 0 ≤ 0; omega⟩) hS (fun q _ h => hFc q h) hFc (fun r_22 u t H1 locs ht hvm hw hB hz1 hk1 hS => ?_)
  obtain ⟨F_23, hB1⟩ := hB
  obtain ⟨hP, hD, hO, hR⟩ := QT.back hB1 ht hFc hR (fun q h => absurd h List.not_mem_nil)
  have hF_24 : F_23 h0 = .inr (4, [.ref tx, .ref y0, .ref y1, .ref y2, .int (nI z_10), .int v0_11]) := (hB1.2.2.2 h0 List.not_mem_nil).trans hF_12
  have hF_25 : F_23 tx = .inr (0, [.ref r_5, .int (nI z_17), .int o_18]) := (hB1.2.2.2 tx List.not_mem_nil).trans hF_19
  generalize H1 = H at hP hS ⊢
  have hw : True := hw
  have hw_26 := hw
  have hFc := pg_free hD hS hA
  refine va_calli (va_runS (As := [.int r_22]) (rest := []) ⟨hx, hb, hml, hown, hts⟩ (s_X0_isWhite l dC dI cs ty L H.size F_23 r_22 hW ) ⟨callB_of 1 hts (gi kt_195) rfl rfl rfl (hts _ kt_1) (hts _ kt_215) (by decide +kernel) ⟨Nat.le_of_ble_eq_true rfl, Nat.le_of_ble_eq_true rfl⟩, (hts _ kt_197)⟩ ⟨fun a U g mk q => ⟨q.1, PT.calling q.2⟩, fun U hU hWm => ⟨rfl, PT.mk hU hWm hP hK hD hE hO⟩⟩ rfl rfl hl.1 rfl (lv_room (Nat.le_of_ble_eq_true rfl)) dX4_takeLine_8 ⟨by show _ + 0 ≤ 0; omega, by show _ + 0 ≤ 0; omega⟩) hS (fun q _ h => hFc q h) hFc (fun r_27 u t H1 locs ht hvm hw hB hz1 hk1 hS => ?_)
  obtain ⟨F_28, hB1⟩ := hB
  obtain ⟨hP, hD, hO, hR⟩ := QT.back hB1 ht hFc hR (fun q h => absurd h List.not_mem_nil)
  have hF_29 : F_28 h0 = .inr (4, [.ref tx, .ref y0, .ref y1, .ref y2, .int (nI z_10), .int v0_11]) := (hB1.2.2.2 h0 List.not_mem_nil).trans hF_24
  have hF_30 : F_28 tx = .inr (0, [.ref r_5, .int (nI z_17), .int o_18]) := (hB1.2.2.2 tx List.not_mem_nil).trans hF_25
  generalize H1 = H at hP hS ⊢
  have hw : (r_27 = 0 ∨ r_27 = 1) := hw
  have hw_31 := hw
  refine lv_if_eq (tgt := 46) hx hb dX4_takeLine_11 (by decide) (fun c_32 => ?_) (fun c_32 => ?_)
  ·
    refine lv_aload_n hx hb dX4_takeLine_46 rfl (lv_at hl 0 rfl) ?_
    refine pg_get (ci := 4) (v := .ref tx) (C := RX4) (T := TX4) (N := 6) hx hb hts it_4 hown hK hP hL_h0 hF_29 rfl 0 (by decide) (hts _ kt_207) (fun _ h9 => h9) rfl dX4_takeLine_47 ?_
    refine lv_bipush (v := 58) hx hb dX4_takeLine_50 (by decide) ?_
    refine lv_iload_n hx hb dX4_takeLine_52 rfl (lv_at hl 1 rfl) ?_
    refine lv_iload_n hx hb dX4_takeLine_53 rfl (lv_at hl 2 rfl) ?_
    have hFc := pg_free hD hS hA
    refine va_calli (va_runV (As := [.int 58, .int (nI a1), .int (nI b1)]) (rest := []) ⟨hx, hb, hml, hown, hts⟩ (s_X0_find l dC dI cs ty L H.size F_28 tx (ρ + 1) r_5 3000 58 (nI a1) (nI b1) hW hi_1 ht_6) ⟨callB_of 3 hts (gi kt_122) rfl rfl rfl (hts _ kt_1) (hts _ kt_216) (by decide +kernel) ⟨Nat.le_of_ble_eq_true rfl, Nat.le_of_ble_eq_true rfl⟩, (hts _ kt_124), (hts _ kt_125)⟩ ⟨fun a U g mk q => ⟨q.1, PT.calling q.2⟩, pg_recv hK hP hi_1 hF_30 (q := (RX0, TX0, 3)) rfl, fun U hU hWm => ⟨rfl, PT.mk hU hWm hP hK hD hE hO⟩⟩ rfl rfl hl.1 rfl (lv_room (Nat.le_of_ble_eq_true rfl)) dX4_takeLine_54 ⟨by show _ + 0 ≤ 0; omega, by show _ + 0 ≤ 0; omega⟩) hS (fun q _ h => hFc q h) hFc (fun r_33 u t H1 locs ht hvm hw hB hz1 hk1 hS => ?_)
    obtain ⟨F_34, hB1⟩ := hB
    obtain ⟨hP, hD, hO, hR⟩ := QT.back hB1 ht hFc hR (fun q h => absurd h List.not_mem_nil)
    have hF_35 : F_34 h0 = .inr (4, [.ref tx, .ref y0, .ref y1, .ref y2, .int (nI z_10), .int v0_11]) := (hB1.2.2.2 h0 List.not_mem_nil).trans hF_29
    have hF_36 : F_34 tx = .inr (0, [.ref r_5, .int (nI z_17), .int o_18]) := (hB1.2.2.2 tx List.not_mem_nil).trans hF_30
    generalize H1 = H at hP hS ⊢
    have hw : (r_33 = (nI b1) ∨ ∃ j : Nat, j < 3000 ∧ r_33 = nI j) := hw
    have hw_37 := hw
    obtain ⟨t_38, ht_38, et_38⟩ := fnd hw_37 hb1 (by omega)
    subst et_38
    refine lv_istore_n (lv' := [(3, .int (nI t_38)), (0, .ref h0), (1, .int (nI a1)), (2, .int (nI b1))]) hx hb dX4_takeLine_57 rfl hl (by decide) rfl (fun ls hl => ?_)
    refine lv_aload_n hx hb dX4_takeLine_58 rfl (lv_at hl 1 rfl) ?_
    refine pg_get (ci := 4) (v := .int (nI z_10)) (C := RX4) (T := TX4) (N := 6) hx hb hts it_4 hown hK hP hL_h0 hF_35 rfl 4 (by decide) (hts _ kt_203) (fun _ h9 => h9) rfl dX4_takeLine_59 ?_
    refine lv_bipush (v := 20) hx hb dX4_takeLine_62 (by decide) ?_
    refine lv_icmp_eq (tgt := 84) hx hb dX4_takeLine_64 (by decide) (fun c_39 => ?_) (fun c_39 => ?_)
    ·
      refine lv_iconst (v := 0) hx hb dX4_takeLine_84 (by decide) ?_
      refine W.widen (k := 0) (n := 0) (by omega) (by omega) ?_
      exact W.zret (v := 0) (ty := .boolean) hx hb hr (by decide) (fun t ht hWm => ⟨⟨0, (), rfl, (by first | exact Or.inl rfl | exact Or.inr rfl), ⟨F_34, QT.mk ht hP hD hO hR⟩⟩, hS.F ht⟩) hS.2.2 dX4_takeLine_85
    ·
      have hc20 : z_10 ≠ 20 := fun h => c_39 (by rw [h]; rfl)
      refine lv_iload_n hx hb dX4_takeLine_67 rfl (lv_at hl 0 rfl) ?_
      refine lv_iload_n hx hb dX4_takeLine_68 rfl (lv_at hl 3 rfl) ?_
      refine lv_icmp_eq (tgt := 84) hx hb dX4_takeLine_69 (by decide) (fun c_42 => ?_) (fun c_42 => ?_)
      ·
        refine lv_iconst (v := 0) hx hb dX4_takeLine_84 (by decide) ?_
        refine W.widen (k := 0) (n := 0) (by omega) (by omega) ?_
        exact W.zret (v := 0) (ty := .boolean) hx hb hr (by decide) (fun t ht hWm => ⟨⟨0, (), rfl, (by first | exact Or.inl rfl | exact Or.inr rfl), ⟨F_34, QT.mk ht hP hD hO hR⟩⟩, hS.F ht⟩) hS.2.2 dX4_takeLine_85
      ·
        refine lv_aload_n hx hb dX4_takeLine_72 rfl (lv_at hl 1 rfl) ?_
        refine pg_get (ci := 4) (v := .ref tx) (C := RX4) (T := TX4) (N := 6) hx hb hts it_4 hown hK hP hL_h0 hF_35 rfl 0 (by decide) (hts _ kt_207) (fun _ h9 => h9) rfl dX4_takeLine_73 ?_
        refine lv_iload_n hx hb dX4_takeLine_76 rfl (lv_at hl 2 rfl) ?_
        refine lv_iload_n hx hb dX4_takeLine_77 rfl (lv_at hl 0 rfl) ?_
        have hFc := pg_free hD hS hA
        refine va_calli (va_runS (As := [.ref tx, .int (nI a1), .int (nI t_38)]) (rest := []) ⟨hx, hb, hml, hown, hts⟩ (s_X4_isFieldName l dC dI cs ty L H.size F_34 tx (ρ + 1) r_5 3000 (nI a1) (nI t_38) hW hi_1 ht_6) ⟨callB_of 3 hts (gi kt_217) rfl rfl rfl (hts _ kt_211) (hts _ kt_218) (by decide +kernel) ⟨Nat.le_of_ble_eq_true rfl, Nat.le_of_ble_eq_true rfl⟩, (hts _ kt_219)⟩ ⟨fun a U g mk q => ⟨q.1, PT.calling q.2⟩, fun U hU hWm => ⟨rfl, PT.mk hU hWm hP hK hD hE hO⟩⟩ rfl rfl hl.1 rfl (lv_room (Nat.le_of_ble_eq_true rfl)) dX4_takeLine_78 ⟨by show _ + 0 ≤ 0; omega, by show _ + 0 ≤ 0; omega⟩) hS (fun q _ h => hFc q h) hFc (fun r_45 u t H1 locs ht hvm hw hB hz1 hk1 hS => ?_)
        obtain ⟨F_46, hB1⟩ := hB
        obtain ⟨hP, hD, hO, hR⟩ := QT.back hB1 ht hFc hR (fun q h => absurd h List.not_mem_nil)
        have hF_47 : F_46 h0 = .inr (4, [.ref tx, .ref y0, .ref y1, .ref y2, .int (nI z_10), .int v0_11]) := (hB1.2.2.2 h0 List.not_mem_nil).trans hF_35
        have hF_48 : F_46 tx = .inr (0, [.ref r_5, .int (nI z_17), .int o_18]) := (hB1.2.2.2 tx List.not_mem_nil).trans hF_36
        generalize H1 = H at hP hS ⊢
        have hw : (r_45 = 0 ∨ r_45 = 1) := hw
        have hw_49 := hw
        refine lv_if_ne (tgt := 86) hx hb dX4_takeLine_81 (by decide) (fun c_50 => ?_) (fun c_50 => ?_)
        ·
          refine lv_aload_n hx hb dX4_takeLine_86 rfl (lv_at hl 1 rfl) ?_
          refine pg_get (ci := 4) (v := .ref y0) (C := RX4) (T := TX4) (N := 6) hx hb hts it_4 hown hK hP hL_h0 hF_47 rfl 1 (by decide) (hts _ kt_205) (fun _ h9 => h9) rfl dX4_takeLine_87 ?_
          refine lv_aload_n hx hb dX4_takeLine_90 rfl (lv_at hl 1 rfl) ?_
          refine pg_get (ci := 4) (v := .int (nI z_10)) (C := RX4) (T := TX4) (N := 6) hx hb hts it_4 hown hK hP hL_h0 hF_47 rfl 4 (by decide) (hts _ kt_203) (fun _ h9 => h9) rfl dX4_takeLine_91 ?_
          refine lv_iload_n hx hb dX4_takeLine_94 rfl (lv_at hl 2 rfl) ?_
          obtain ⟨f_51, hF_52, hq_53⟩ := hO.idx hi_2 ht_7
          refine pg_iast hx hb hK hP hD hS hi_2 0 hF_52 rfl (vp_in_nI (by omega) (by omega)) dX4_takeLine_95 (fun H locs hP hD hS => ?_)
          obtain ⟨F_54, he_55, hP, hD, hO, hR⟩ : ∃ G, G = va_up F_46 y0 (.inl (cs 16, 20, .inl (upd f_51 ((nI z_10)).toNatClampNeg ((nI a1))))) ∧ va_P (dC, dI) vwCl (va_pl L G) H ∧ va_D A (va_pl L G) ∧ OK cs ty L G ∧ FR ty [ρ, ρ + 2, ρ + 3] F G := ⟨_, rfl, hP, hD, hO.up (sh.idx ht_7 ⟨_, rfl, ix_upd hq_53 _ _ (by omega)⟩), hR.up ht_7 (by simp)⟩
          have hF_56 : F_54 y0 = .inl (cs 16, 20, .inl (upd f_51 ((nI z_10)).toNatClampNeg ((nI a1)))) := by rw [he_55]; exact up_self
          have hF_57 : F_54 h0 = .inr (4, [.ref tx, .ref y0, .ref y1, .ref y2, .int (nI z_10), .int v0_11]) := by rw [he_55, up_ne (ne_ty hT_h0 ht_7 (by simp))]; exact hF_47
          have hF_58 : F_54 tx = .inr (0, [.ref r_5, .int (nI z_17), .int o_18]) := by rw [he_55, up_ne (ne_ty ht_6 ht_7 (by simp))]; exact hF_48
          obtain ⟨f_59, hF_56, hq_60⟩ : ∃ f : Nat → Int32, F_54 y0 = .inl (cs 16, 20, .inl f) ∧ IX f := ⟨_, hF_56, ix_upd hq_53 _ _ (by omega)⟩
          refine lv_aload_n hx hb dX4_takeLine_96 rfl (lv_at hl 1 rfl) ?_
          refine pg_get (ci := 4) (v := .ref y1) (C := RX4) (T := TX4) (N := 6) hx hb hts it_4 hown hK hP hL_h0 hF_57 rfl 2 (by decide) (hts _ kt_204) (fun _ h9 => h9) rfl dX4_takeLine_97 ?_
          refine lv_aload_n hx hb dX4_takeLine_100 rfl (lv_at hl 1 rfl) ?_
          refine pg_get (ci := 4) (v := .int (nI z_10)) (C := RX4) (T := TX4) (N := 6) hx hb hts it_4 hown hK hP hL_h0 hF_57 rfl 4 (by decide) (hts _ kt_203) (fun _ h9 => h9) rfl dX4_takeLine_101 ?_
          refine lv_iload_n hx hb dX4_takeLine_104 rfl (lv_at hl 0 rfl) ?_
          obtain ⟨f_61, hF_62, hq_63⟩ := hO.idx hi_3 ht_8
          refine pg_iast hx hb hK hP hD hS hi_3 0 hF_62 rfl (vp_in_nI (by omega) (by omega)) dX4_takeLine_105 (fun H locs hP hD hS => ?_)
          obtain ⟨F_64, he_65, hP, hD, hO, hR⟩ : ∃ G, G = va_up F_54 y1 (.inl (cs 16, 20, .inl (upd f_61 ((nI z_10)).toNatClampNeg ((nI t_38))))) ∧ va_P (dC, dI) vwCl (va_pl L G) H ∧ va_D A (va_pl L G) ∧ OK cs ty L G ∧ FR ty [ρ, ρ + 2, ρ + 3] F G := ⟨_, rfl, hP, hD, hO.up (sh.idx ht_8 ⟨_, rfl, ix_upd hq_63 _ _ (by omega)⟩), hR.up ht_8 (by simp)⟩
          have hF_66 : F_64 y1 = .inl (cs 16, 20, .inl (upd f_61 ((nI z_10)).toNatClampNeg ((nI t_38)))) := by rw [he_65]; exact up_self
          have hF_67 : F_64 y0 = .inl (cs 16, 20, .inl f_59) := by rw [he_65, up_ne (ne_ty3 ht_7 ht_8 (by show ρ ≠ ρ + 2; omega))]; exact hF_56
          have hF_68 : F_64 h0 = .inr (4, [.ref tx, .ref y0, .ref y1, .ref y2, .int (nI z_10), .int v0_11]) := by rw [he_65, up_ne (ne_ty hT_h0 ht_8 (by simp))]; exact hF_57
          have hF_69 : F_64 tx = .inr (0, [.ref r_5, .int (nI z_17), .int o_18]) := by rw [he_65, up_ne (ne_ty ht_6 ht_8 (by simp))]; exact hF_58
          obtain ⟨f_70, hF_66, hq_71⟩ : ∃ f : Nat → Int32, F_64 y1 = .inl (cs 16, 20, .inl f) ∧ IX f := ⟨_, hF_66, ix_upd hq_63 _ _ (by omega)⟩
          refine lv_aload_n hx hb dX4_takeLine_106 rfl (lv_at hl 1 rfl) ?_
          refine pg_get (ci := 4) (v := .ref y2) (C := RX4) (T := TX4) (N := 6) hx hb hts it_4 hown hK hP hL_h0 hF_68 rfl 3 (by decide) (hts _ kt_220) (fun _ h9 => h9) rfl dX4_takeLine_107 ?_
          refine lv_aload_n hx hb dX4_takeLine_110 rfl (lv_at hl 1 rfl) ?_
          refine pg_get (ci := 4) (v := .int (nI z_10)) (C := RX4) (T := TX4) (N := 6) hx hb hts it_4 hown hK hP hL_h0 hF_68 rfl 4 (by decide) (hts _ kt_203) (fun _ h9 => h9) rfl dX4_takeLine_111 ?_
          refine lv_iload_n hx hb dX4_takeLine_114 rfl (lv_at hl 3 rfl) ?_
          obtain ⟨f_72, hF_73, hq_74⟩ := hO.idx hi_4 ht_9
          refine pg_iast hx hb hK hP hD hS hi_4 0 hF_73 rfl (vp_in_nI (by omega) (by omega)) dX4_takeLine_115 (fun H locs hP hD hS => ?_)
          obtain ⟨F_75, he_76, hP, hD, hO, hR⟩ : ∃ G, G = va_up F_64 y2 (.inl (cs 16, 20, .inl (upd f_72 ((nI z_10)).toNatClampNeg ((nI b1))))) ∧ va_P (dC, dI) vwCl (va_pl L G) H ∧ va_D A (va_pl L G) ∧ OK cs ty L G ∧ FR ty [ρ, ρ + 2, ρ + 3] F G := ⟨_, rfl, hP, hD, hO.up (sh.idx ht_9 ⟨_, rfl, ix_upd hq_74 _ _ (by omega)⟩), hR.up ht_9 (by simp)⟩
          have hF_77 : F_75 y2 = .inl (cs 16, 20, .inl (upd f_72 ((nI z_10)).toNatClampNeg ((nI b1)))) := by rw [he_76]; exact up_self
          have hF_78 : F_75 y1 = .inl (cs 16, 20, .inl f_70) := by rw [he_76, up_ne (ne_ty3 ht_8 ht_9 (by show ρ + 2 ≠ ρ + 3; omega))]; exact hF_66
          have hF_79 : F_75 y0 = .inl (cs 16, 20, .inl f_59) := by rw [he_76, up_ne (ne_ty3 ht_7 ht_9 (by show ρ ≠ ρ + 3; omega))]; exact hF_67
          have hF_80 : F_75 h0 = .inr (4, [.ref tx, .ref y0, .ref y1, .ref y2, .int (nI z_10), .int v0_11]) := by rw [he_76, up_ne (ne_ty hT_h0 ht_9 (by simp))]; exact hF_68
          have hF_81 : F_75 tx = .inr (0, [.ref r_5, .int (nI z_17), .int o_18]) := by rw [he_76, up_ne (ne_ty ht_6 ht_9 (by simp))]; exact hF_69
          obtain ⟨f_82, hF_77, hq_83⟩ : ∃ f : Nat → Int32, F_75 y2 = .inl (cs 16, 20, .inl f) ∧ IX f := ⟨_, hF_77, ix_upd hq_74 _ _ (by omega)⟩
          refine lv_aload_n hx hb dX4_takeLine_116 rfl (lv_at hl 1 rfl) ?_
          refine lv_dup hx hb dX4_takeLine_117 rfl ?_
          refine pg_get (ci := 4) (v := .int (nI z_10)) (C := RX4) (T := TX4) (N := 6) hx hb hts it_4 hown hK hP hL_h0 hF_80 rfl 4 (by decide) (hts _ kt_203) (fun _ h9 => h9) rfl dX4_takeLine_118 ?_
          refine lv_iconst (v := 1) hx hb dX4_takeLine_121 (by decide) ?_
          refine lv_iadd hx hb dX4_takeLine_122 ?_
          refine lv_topi (fun x_84 ex_84 => ?_)
          obtain rfl : x_84 = (nI (z_10 + 1)) := ex_84.trans (nI_1 _)
          refine pg_put (ci := 4) (v := .int (nI (z_10 + 1))) (ty := .int) (C := RX4) (T := TX4) (N := 6) hx hb hts it_4 tyX4 tyX4_ok nmX4 hown hK hP hD hS hL_h0 hF_80 rfl 4 (by decide) (hts _ kt_203) (fun _ h9 => h9) rfl (by decide +kernel) (rfl) (rfl) (Nat.le_of_ble_eq_true rfl) dX4_takeLine_123 (fun H locs hP hD hS => ?_)
          obtain ⟨F_85, he_86, hP, hD, hO, hR⟩ : ∃ G, G = va_up F_75 h0 (.inr (4, [.ref tx, .ref y0, .ref y1, .ref y2, .int (nI (z_10 + 1)), .int v0_11])) ∧ va_P (dC, dI) vwCl (va_pl L G) H ∧ va_D A (va_pl L G) ∧ OK cs ty L G ∧ FR ty [ρ, ρ + 2, ρ + 3] F G := ⟨_, rfl, hP, hD, hO.up (sh.msg hT_h0 ⟨(z_10 + 1), v0_11, rfl, (by first | omega | assumption | exact Or.inl rfl | exact Or.inr rfl)⟩), hR.up hT_h0 (by simp)⟩
          have hF_87 : F_85 h0 = .inr (4, [.ref tx, .ref y0, .ref y1, .ref y2, .int (nI (z_10 + 1)), .int v0_11]) := by rw [he_86]; exact up_self
          have hF_88 : F_85 y2 = .inl (cs 16, 20, .inl f_82) := by rw [he_86, up_ne (ne_ty ht_9 hT_h0 (by simp))]; exact hF_77
          have hF_89 : F_85 y1 = .inl (cs 16, 20, .inl f_70) := by rw [he_86, up_ne (ne_ty ht_8 hT_h0 (by simp))]; exact hF_78
          have hF_90 : F_85 y0 = .inl (cs 16, 20, .inl f_59) := by rw [he_86, up_ne (ne_ty ht_7 hT_h0 (by simp))]; exact hF_79
          have hF_91 : F_85 tx = .inr (0, [.ref r_5, .int (nI z_17), .int o_18]) := by rw [he_86, up_ne (ne_ty ht_6 hT_h0 (by simp))]; exact hF_81
          refine lv_iconst (v := 1) hx hb dX4_takeLine_126 (by decide) ?_
          refine W.widen (k := 0) (n := 0) (by omega) (by omega) ?_
          exact W.zret (v := 1) (ty := .boolean) hx hb hr (by decide) (fun t ht hWm => ⟨⟨1, (), rfl, (by first | exact Or.inl rfl | exact Or.inr rfl), ⟨F_85, QT.mk ht hP hD hO hR⟩⟩, hS.F ht⟩) hS.2.2 dX4_takeLine_127
        ·
          refine lv_iconst (v := 0) hx hb dX4_takeLine_84 (by decide) ?_
          refine W.widen (k := 0) (n := 0) (by omega) (by omega) ?_
          exact W.zret (v := 0) (ty := .boolean) hx hb hr (by decide) (fun t ht hWm => ⟨⟨0, (), rfl, (by first | exact Or.inl rfl | exact Or.inr rfl), ⟨F_46, QT.mk ht hP hD hO hR⟩⟩, hS.F ht⟩) hS.2.2 dX4_takeLine_85
  ·
    refine lv_aload_n hx hb dX4_takeLine_14 rfl (lv_at hl 0 rfl) ?_
    refine pg_get (ci := 4) (v := .int (nI z_10)) (C := RX4) (T := TX4) (N := 6) hx hb hts it_4 hown hK hP hL_h0 hF_29 rfl 4 (by decide) (hts _ kt_203) (fun _ h9 => h9) rfl dX4_takeLine_15 ?_
    refine lv_if_le (tgt := 33) hx hb dX4_takeLine_18 (by decide) (fun c_92 => ?_) (fun c_92 => ?_)
    ·
      refine lv_aload_n hx hb dX4_takeLine_33 rfl (lv_at hl 0 rfl) ?_
      refine pg_get (ci := 4) (v := .int (nI z_10)) (C := RX4) (T := TX4) (N := 6) hx hb hts it_4 hown hK hP hL_h0 hF_29 rfl 4 (by decide) (hts _ kt_203) (fun _ h9 => h9) rfl dX4_takeLine_34 ?_
      refine lv_if_le (tgt := 44) hx hb dX4_takeLine_37 (by decide) (fun c_94 => ?_) (fun c_94 => ?_)
      ·
        refine lv_iconst (v := 0) hx hb dX4_takeLine_44 (by decide) ?_
        refine W.widen (k := 0) (n := 0) (by omega) (by omega) ?_
        exact W.zret (v := 0) (ty := .boolean) hx hb hr (by decide) (fun t ht hWm => ⟨⟨0, (), rfl, (by first | exact Or.inl rfl | exact Or.inr rfl), ⟨F_28, QT.mk ht hP hD hO hR⟩⟩, hS.F ht⟩) hS.2.2 dX4_takeLine_45
      ·
        refine lv_iconst (v := 1) hx hb dX4_takeLine_40 (by decide) ?_
        refine lv_goto (tgt := 45) hx hb dX4_takeLine_41 (by decide) ?_
        refine W.widen (k := 0) (n := 0) (by omega) (by omega) ?_
        exact W.zret (v := 1) (ty := .boolean) hx hb hr (by decide) (fun t ht hWm => ⟨⟨1, (), rfl, (by first | exact Or.inl rfl | exact Or.inr rfl), ⟨F_28, QT.mk ht hP hD hO hR⟩⟩, hS.F ht⟩) hS.2.2 dX4_takeLine_45
    ·
      have hz1 := posN c_92
      refine lv_aload_n hx hb dX4_takeLine_21 rfl (lv_at hl 0 rfl) ?_
      refine pg_get (ci := 4) (v := .ref y2) (C := RX4) (T := TX4) (N := 6) hx hb hts it_4 hown hK hP hL_h0 hF_29 rfl 3 (by decide) (hts _ kt_220) (fun _ h9 => h9) rfl dX4_takeLine_22 ?_
      refine lv_aload_n hx hb dX4_takeLine_25 rfl (lv_at hl 0 rfl) ?_
      refine pg_get (ci := 4) (v := .int (nI z_10)) (C := RX4) (T := TX4) (N := 6) hx hb hts it_4 hown hK hP hL_h0 hF_29 rfl 4 (by decide) (hts _ kt_203) (fun _ h9 => h9) rfl dX4_takeLine_26 ?_
      refine lv_iconst (v := 1) hx hb dX4_takeLine_29 (by decide) ?_
      refine lv_isub hx hb dX4_takeLine_30 ?_
      refine lv_topi (fun x_98 ex_98 => ?_)
      obtain rfl : x_98 = (nI (z_10 - 1)) := ex_98.trans (pk_sub (b := 1) (by omega))
      refine lv_iload_n hx hb dX4_takeLine_31 rfl (lv_at hl 2 rfl) ?_
      obtain ⟨f_99, hF_100, hq_101⟩ := hO.idx hi_4 ht_9
      refine pg_iast hx hb hK hP hD hS hi_4 0 hF_100 rfl (vp_in_nI (by omega) (by omega)) dX4_takeLine_32 (fun H locs hP hD hS => ?_)
      obtain ⟨F_102, he_103, hP, hD, hO, hR⟩ : ∃ G, G = va_up F_28 y2 (.inl (cs 16, 20, .inl (upd f_99 ((nI (z_10 - 1))).toNatClampNeg ((nI b1))))) ∧ va_P (dC, dI) vwCl (va_pl L G) H ∧ va_D A (va_pl L G) ∧ OK cs ty L G ∧ FR ty [ρ, ρ + 2, ρ + 3] F G := ⟨_, rfl, hP, hD, hO.up (sh.idx ht_9 ⟨_, rfl, ix_upd hq_101 _ _ (by omega)⟩), hR.up ht_9 (by simp)⟩
      have hF_104 : F_102 y2 = .inl (cs 16, 20, .inl (upd f_99 ((nI (z_10 - 1))).toNatClampNeg ((nI b1)))) := by rw [he_103]; exact up_self
      have hF_105 : F_102 h0 = .inr (4, [.ref tx, .ref y0, .ref y1, .ref y2, .int (nI z_10), .int v0_11]) := by rw [he_103, up_ne (ne_ty hT_h0 ht_9 (by simp))]; exact hF_29
      have hF_106 : F_102 tx = .inr (0, [.ref r_5, .int (nI z_17), .int o_18]) := by rw [he_103, up_ne (ne_ty ht_6 ht_9 (by simp))]; exact hF_30
      obtain ⟨f_107, hF_104, hq_108⟩ : ∃ f : Nat → Int32, F_102 y2 = .inl (cs 16, 20, .inl f) ∧ IX f := ⟨_, hF_104, ix_upd hq_101 _ _ (by omega)⟩
      refine lv_aload_n hx hb dX4_takeLine_33 rfl (lv_at hl 0 rfl) ?_
      refine pg_get (ci := 4) (v := .int (nI z_10)) (C := RX4) (T := TX4) (N := 6) hx hb hts it_4 hown hK hP hL_h0 hF_105 rfl 4 (by decide) (hts _ kt_203) (fun _ h9 => h9) rfl dX4_takeLine_34 ?_
      refine lv_if_le (tgt := 44) hx hb dX4_takeLine_37 (by decide) (fun c_109 => ?_) (fun c_109 => ?_)
      ·
        refine lv_iconst (v := 0) hx hb dX4_takeLine_44 (by decide) ?_
        refine W.widen (k := 0) (n := 0) (by omega) (by omega) ?_
        exact W.zret (v := 0) (ty := .boolean) hx hb hr (by decide) (fun t ht hWm => ⟨⟨0, (), rfl, (by first | exact Or.inl rfl | exact Or.inr rfl), ⟨F_102, QT.mk ht hP hD hO hR⟩⟩, hS.F ht⟩) hS.2.2 dX4_takeLine_45
      ·
        refine lv_iconst (v := 1) hx hb dX4_takeLine_40 (by decide) ?_
        refine lv_goto (tgt := 45) hx hb dX4_takeLine_41 (by decide) ?_
        refine W.widen (k := 0) (n := 0) (by omega) (by omega) ?_
        exact W.zret (v := 1) (ty := .boolean) hx hb hr (by decide) (fun t ht hWm => ⟨⟨1, (), rfl, (by first | exact Or.inl rfl | exact Or.inr rfl), ⟨F_102, QT.mk ht hP hD hO hR⟩⟩, hS.F ht⟩) hS.2.2 dX4_takeLine_45
set_option maxHeartbeats 4000000 in
set_option maxRecDepth 100000 in
theorem s_X4_read (l : Launch) (dC : Nat → ClassId) (dI : Nat → Nat → Nat) (cs : Nat → ClassId) (ty : TyM) (L : List Nat) (sz : Nat) (F : Nat → va_E) (h0 : Nat) (ρ : Nat) (tx : Nat) (y0 : Nat) (y1 : Nat) (y2 : Nat) (g1 : Nat) (σ : Nat) (r1 : Nat) (n1 : Nat) (hW : WT ty L) (hL_h0 : h0 ∈ L) (hT_h0 : ty h0 = (4, ρ, [tx, y0, y1, y2])) (hL_g1 : g1 ∈ L) (hT_g1 : ty g1 = (0, σ, [r1, n1])) : Met l yX4_read (.code yX4_read cX4_read 5 (some .boolean) :: tb) ({ frames := 4, cells := 0, slots := 0, locals := 95 }) (va_Pc [.ref h0, .ref g1] (PT (dC, dI) cs ty L F sz)) (va_Qi (fun (r : Int32) (_ : Unit) => (r = 0 ∨ r = 1)) (fun _ T9 => ∃ F2 : Nat → va_E, QT (dC, dI) cs ty L [ρ, ρ + 1, ρ + 2, ρ + 3] F F2 (va_A (va_pl L F) sz) T9) (va_A (va_pl L F) sz)) 0 0 (va_A (va_pl L F) sz) := by
  refine Met.ofW (cc := cX4_read) (maxL := 5) (ret := (some .boolean)) (by decide) rfl ?_
  intro p e s m args below meth c s₁ B hml hv
  obtain ⟨rfl, hsz, hP, hK, hD0, hE, hO⟩ := hv
  have hx := B.exec
  have hb := B.bytes
  have hr := B.returns
  have hts : ∀ w ∈ tb, w.before _ s = true := fun w h => atoms_spec (ws := .code yX4_read cX4_read 5 (some .boolean) :: tb) B.pre w (List.mem_cons_of_mem _ h)
  have hown : s.vm.findClass RX4 = some m.cls := findClass_of_methodNamed B.named
  have hlocks := B.notSynchronized
  subst hsz
  have hD := hD0.self (sz := s.heap.size)
  generalize hAe : va_A (va_pl L F) s.heap.size = A at hD ⊢
  have hA : ∀ q : Nat, s.heap.size ≤ q → A q := fun q h => by rw [← hAe]; exact Or.inr h
  have hS : va_S A s.heap s.heap [] := va_S.rf
  have hR : FR ty [ρ, ρ + 1, ρ + 2, ρ + 3] F F := FR.refl
  have hl := lv_entry ([.ref h0, .ref g1]) (n := 5) (Nat.le_of_ble_eq_true rfl)
  rw [lg_entry_eq]
  generalize (lg_sl ([.ref h0, .ref g1]) ++ List.replicate (5 - (lg_sl ([.ref h0, .ref g1])).length) Slot.unset).toArray = ls at hl ⊢
  have hl : lv_has ls 5 [(0, .ref h0), (1, .ref g1)] := hl
  refine lv_aload_n hx hb dX4_read_0 rfl (lv_at hl 0 rfl) ?_
  obtain ⟨hi_1, hi_2, hi_3, hi_4, ⟨r_5, ht_6⟩, ht_7, ht_8, ht_9⟩ := hW.msg hL_h0 hT_h0
  obtain ⟨z_10, v0_11, hF_12, hq_13⟩ := hO.msg hL_h0 hT_h0
  refine pg_get (ci := 4) (v := .ref tx) (C := RX4) (T := TX4) (N := 6) hx hb hts it_4 hown hK hP hL_h0 hF_12 rfl 0 (by decide) (hts _ kt_207) (fun _ h9 => h9) rfl dX4_read_1 ?_
  refine lv_aload_n hx hb dX4_read_4 rfl (lv_at hl 1 rfl) ?_
  have hFc := pg_free hD hS hA
  obtain ⟨hi_14, ht_15, hq_16⟩ := hW.bytes hi_1 ht_6
  obtain ⟨z_17, o_18, hF_19, hq_20, hq_21⟩ := hO.bytes hi_1 ht_6
  refine va_callv (va_runV (As := [.ref g1]) (rest := []) ⟨hx, hb, hml, hown, hts⟩ (s_X0_copy l dC dI cs ty L s.heap.size F tx (ρ + 1) r_5 3000 g1 σ r1 n1 hW hi_1 ht_6 hL_g1 hT_g1) ⟨callB_of 1 hts (gi kt_221) rfl rfl rfl (hts _ kt_1) (hts _ kt_222) (by decide +kernel) ⟨Nat.le_of_ble_eq_true rfl, Nat.le_of_ble_eq_true rfl⟩, (hts _ kt_223), (hts _ kt_224)⟩ ⟨fun a U g mk q => ⟨q.1, PT.calling q.2⟩, pg_recv hK hP hi_1 hF_19 (q := (RX0, TX0, 3)) rfl, fun U hU hWm => ⟨rfl, PT.mk hU hWm hP hK hD hE hO⟩⟩ rfl rfl hl.1 rfl (lv_room (Nat.le_of_ble_eq_true rfl)) dX4_read_5 ⟨by show _ + 0 ≤ 0; omega, by show _ + 0 ≤ 0; omega⟩) hS (fun q _ h => hFc q h) hFc (fun u t H1 locs ht hvm hw hB hz1 hk1 hS => ?_)
  obtain ⟨F_23, hB1⟩ := hB
  obtain ⟨hP, hD, hO, hR⟩ := QT.back hB1 ht hFc hR (fun q h => by simp only [List.mem_cons, List.not_mem_nil, or_false] at h ⊢; omega)
  have hF_24 : F_23 h0 = .inr (4, [.ref tx, .ref y0, .ref y1, .ref y2, .int (nI z_10), .int v0_11]) := (hB1.2.2.2 h0 (by rw [hT_h0]; simp)).trans hF_12
  generalize H1 = H at hP hS ⊢
  refine lv_aload_n hx hb dX4_read_8 rfl (lv_at hl 0 rfl) ?_
  refine lv_iconst (v := 0) hx hb dX4_read_9 (by decide) ?_
  refine pg_put (ci := 4) (v := .int 0) (ty := .int) (C := RX4) (T := TX4) (N := 6) hx hb hts it_4 tyX4 tyX4_ok nmX4 hown hK hP hD hS hL_h0 hF_24 rfl 4 (by decide) (hts _ kt_203) (fun _ h9 => h9) rfl (by decide +kernel) (rfl) (rfl) (Nat.le_of_ble_eq_true rfl) dX4_read_10 (fun H locs hP hD hS => ?_)
  obtain ⟨F_25, he_26, hP, hD, hO, hR⟩ : ∃ G, G = va_up F_23 h0 (.inr (4, [.ref tx, .ref y0, .ref y1, .ref y2, .int 0, .int v0_11])) ∧ va_P (dC, dI) vwCl (va_pl L G) H ∧ va_D A (va_pl L G) ∧ OK cs ty L G ∧ FR ty [ρ, ρ + 1, ρ + 2, ρ + 3] F G := ⟨_, rfl, hP, hD, hO.up (sh.msg hT_h0 ⟨0, v0_11, rfl, (by first | omega | assumption | exact Or.inl rfl | exact Or.inr rfl)⟩), hR.up hT_h0 (by simp)⟩
  have hF_27 : F_25 h0 = .inr (4, [.ref tx, .ref y0, .ref y1, .ref y2, .int 0, .int v0_11]) := by rw [he_26]; exact up_self
  refine lv_aload_n hx hb dX4_read_13 rfl (lv_at hl 0 rfl) ?_
  refine lv_aload_n hx hb dX4_read_14 rfl (lv_at hl 0 rfl) ?_
  refine pg_get (ci := 4) (v := .ref tx) (C := RX4) (T := TX4) (N := 6) hx hb hts it_4 hown hK hP hL_h0 hF_27 rfl 0 (by decide) (hts _ kt_207) (fun _ h9 => h9) rfl dX4_read_15 ?_
  obtain ⟨z_28, o_29, hF_30, hq_31, hq_32⟩ := hO.bytes hi_1 ht_6
  refine pg_getN (ci := 0) (v := .int (nI z_28)) (C := RX0) (T := TX0) (N := 3) hx hb hts it_0 hown hK hP hi_1 hF_30 rfl 1 (by decide) (hE.nest kn_6) (fun _ h9 => h9) rfl dX4_read_18 ?_
  refine pg_put (ci := 4) (v := .int (nI z_28)) (ty := .int) (C := RX4) (T := TX4) (N := 6) hx hb hts it_4 tyX4 tyX4_ok nmX4 hown hK hP hD hS hL_h0 hF_27 rfl 5 (by decide) (hts _ kt_225) (fun _ h9 => h9) rfl (by decide +kernel) (rfl) (rfl) (Nat.le_of_ble_eq_true rfl) dX4_read_21 (fun H locs hP hD hS => ?_)
  obtain ⟨F_33, he_34, hP, hD, hO, hR⟩ : ∃ G, G = va_up F_25 h0 (.inr (4, [.ref tx, .ref y0, .ref y1, .ref y2, .int 0, .int (nI z_28)])) ∧ va_P (dC, dI) vwCl (va_pl L G) H ∧ va_D A (va_pl L G) ∧ OK cs ty L G ∧ FR ty [ρ, ρ + 1, ρ + 2, ρ + 3] F G := ⟨_, rfl, hP, hD, hO.up (sh.msg hT_h0 ⟨0, (nI z_28), rfl, (by first | omega | assumption | exact Or.inl rfl | exact Or.inr rfl)⟩), hR.up hT_h0 (by simp)⟩
  have hF_35 : F_33 h0 = .inr (4, [.ref tx, .ref y0, .ref y1, .ref y2, .int 0, .int (nI z_28)]) := by rw [he_34]; exact up_self
  have hF_36 : F_33 tx = .inr (0, [.ref r_5, .int (nI z_28), .int o_29]) := by rw [he_34, up_ne (ne_ty ht_6 hT_h0 (by simp))]; exact hF_30
  refine lv_iconst (v := 0) hx hb dX4_read_24 (by decide) ?_
  refine lv_istore_n (lv' := [(2, .int 0), (0, .ref h0), (1, .ref g1)]) hx hb dX4_read_25 rfl hl (by decide) rfl (fun ls hl => ?_)
  refine lv_iconst (v := 0) hx hb dX4_read_26 (by decide) ?_
  refine lv_istore_n (lv' := [(3, .int 0), (2, .int 0), (0, .ref h0), (1, .ref g1)]) hx hb dX4_read_27 rfl hl (by decide) rfl (fun ls hl => ?_)
  refine W.widen (k := 0) (n := 0) (by omega) (by omega) ?_
  refine pl_loop (σ := Nat × Nat) A (dC, dI) cs ty L [ρ, ρ + 1, ρ + 2, ρ + 3] F 28 5 (fun (j, w2) => [(3, .int (nI j)), (2, .int (nI w2)), (0, .ref h0), (1, .ref g1)]) (fun (j, w2) => []) (fun (j, w2) _ => j ≤ 3001 ∧ w2 ≤ 3001) (fun (j, w2) => 3001 - j) ?_ (0, 0) F_33 (⟨by omega, by omega⟩) hO hR _ _ hP hD hS ls (lv_sub hl [0, 1, 2, 3] rfl)
  rintro ⟨j, w2⟩ F_37 hv_38 hO hR ih_39 H locs hP hD hS ls hl
  have hl : lv_has ls 5 [(3, .int (nI j)), (2, .int (nI w2)), (0, .ref h0), (1, .ref g1)] := hl
  have hv_38 : j ≤ 3001 ∧ w2 ≤ 3001 := hv_38
  refine W.eq (g2 := F0 m 28 ls []) rfl ?_
  obtain ⟨hv1, hv2⟩ := hv_38
  refine lv_iload_n hx hb dX4_read_28 rfl (lv_at hl 0 rfl) ?_
  refine lv_aload_n hx hb dX4_read_29 rfl (lv_at hl 2 rfl) ?_
  obtain ⟨z_40, v0_41, hF_42, hq_43⟩ := hO.msg hL_h0 hT_h0
  refine pg_get (ci := 4) (v := .ref tx) (C := RX4) (T := TX4) (N := 6) hx hb hts it_4 hown hK hP hL_h0 hF_42 rfl 0 (by decide) (hts _ kt_207) (fun _ h9 => h9) rfl dX4_read_30 ?_
  obtain ⟨z_44, o_45, hF_46, hq_47, hq_48⟩ := hO.bytes hi_1 ht_6
  refine pg_getN (ci := 0) (v := .int (nI z_44)) (C := RX0) (T := TX0) (N := 3) hx hb hts it_0 hown hK hP hi_1 hF_46 rfl 1 (by decide) (hE.nest kn_6) (fun _ h9 => h9) rfl dX4_read_33 ?_
  refine lv_icmp_gt (tgt := 124) hx hb dX4_read_36 (by decide) (fun c_49 => ?_) (fun c_49 => ?_)
  ·
    have hi_50 : z_44 < j := (nI_ltI (a := z_44) (b := j) (by omega) (by omega)).mp c_49
    refine lv_aload_n hx hb dX4_read_124 rfl (lv_at hl 2 rfl) ?_
    refine pg_get (ci := 4) (v := .int (nI z_40)) (C := RX4) (T := TX4) (N := 6) hx hb hts it_4 hown hK hP hL_h0 hF_42 rfl 4 (by decide) (hts _ kt_203) (fun _ h9 => h9) rfl dX4_read_125 ?_
    refine lv_if_le (tgt := 135) hx hb dX4_read_128 (by decide) (fun c_51 => ?_) (fun c_51 => ?_)
    ·
      refine lv_iconst (v := 0) hx hb dX4_read_135 (by decide) ?_
      refine W.widen (k := 0) (n := 0) (by omega) (by omega) ?_
      exact W.zret (v := 0) (ty := .boolean) hx hb hr (by decide) (fun t ht hWm => ⟨⟨0, (), rfl, (by first | exact Or.inl rfl | exact Or.inr rfl), ⟨F_37, QT.mk ht hP hD hO hR⟩⟩, hS.F ht⟩) hS.2.2 dX4_read_136
    ·
      refine lv_iconst (v := 1) hx hb dX4_read_131 (by decide) ?_
      refine lv_goto (tgt := 136) hx hb dX4_read_132 (by decide) ?_
      refine W.widen (k := 0) (n := 0) (by omega) (by omega) ?_
      exact W.zret (v := 1) (ty := .boolean) hx hb hr (by decide) (fun t ht hWm => ⟨⟨1, (), rfl, (by first | exact Or.inl rfl | exact Or.inr rfl), ⟨F_37, QT.mk ht hP hD hO hR⟩⟩, hS.F ht⟩) hS.2.2 dX4_read_136
  ·
    have hi_54 : j ≤ z_44 := Nat.not_lt.mp (fun q => c_49 ((nI_ltI (a := z_44) (b := j) (by omega) (by omega)).mpr q))
    refine lv_iload_n hx hb dX4_read_39 rfl (lv_at hl 0 rfl) ?_
    refine lv_aload_n hx hb dX4_read_40 rfl (lv_at hl 2 rfl) ?_
    refine pg_get (ci := 4) (v := .ref tx) (C := RX4) (T := TX4) (N := 6) hx hb hts it_4 hown hK hP hL_h0 hF_42 rfl 0 (by decide) (hts _ kt_207) (fun _ h9 => h9) rfl dX4_read_41 ?_
    refine pg_getN (ci := 0) (v := .int (nI z_44)) (C := RX0) (T := TX0) (N := 3) hx hb hts it_0 hown hK hP hi_1 hF_46 rfl 1 (by decide) (hE.nest kn_6) (fun _ h9 => h9) rfl dX4_read_44 ?_
    refine lv_icmp_ne (tgt := 54) hx hb dX4_read_47 (by decide) (fun c_55 => ?_) (fun c_55 => ?_)
    ·
      refine lv_iconst (v := 0) hx hb dX4_read_54 (by decide) ?_
      refine lv_istore (lv' := [(4, .int 0), (3, .int (nI j)), (2, .int (nI w2)), (0, .ref h0), (1, .ref g1)]) hx hb dX4_read_55 hl (by decide) rfl (fun ls hl => ?_)
      refine lv_iload hx hb dX4_read_57 (lv_at hl 0 rfl) ?_
      refine lv_if_ne (tgt := 75) hx hb dX4_read_59 (by decide) (fun c_57 => absurd (by decide) c_57) (fun c_57 => ?_)
      refine lv_aload_n hx hb dX4_read_62 rfl (lv_at hl 3 rfl) ?_
      refine pg_get (ci := 4) (v := .ref tx) (C := RX4) (T := TX4) (N := 6) hx hb hts it_4 hown hK hP hL_h0 hF_42 rfl 0 (by decide) (hts _ kt_207) (fun _ h9 => h9) rfl dX4_read_63 ?_
      refine lv_iload_n hx hb dX4_read_66 rfl (lv_at hl 1 rfl) ?_
      have hFc := pg_free hD hS hA
      refine va_calli (va_runV (As := [.int (nI j)]) (rest := []) ⟨hx, hb, hml, hown, hts⟩ (s_X0_at l dC dI cs ty L H.size F_37 tx (ρ + 1) r_5 3000 (nI j) hW hi_1 ht_6) ⟨callB_of 1 hts (gi kt_21) rfl rfl rfl (hts _ kt_1) (hts _ kt_199) (by decide +kernel) ⟨Nat.le_of_ble_eq_true rfl, Nat.le_of_ble_eq_true rfl⟩, (hts _ kt_23), (hts _ kt_24)⟩ ⟨fun a U g mk q => ⟨q.1, PT.calling q.2⟩, pg_recv hK hP hi_1 hF_46 (q := (RX0, TX0, 3)) rfl, fun U hU hWm => ⟨rfl, PT.mk hU hWm hP hK hD hE hO⟩⟩ rfl rfl hl.1 rfl (lv_room (Nat.le_of_ble_eq_true rfl)) dX4_read_67 ⟨by show _ + 0 ≤ 0; omega, by show _ + 0 ≤ 0; omega⟩) hS (fun q _ h => hFc q h) hFc (fun r_58 u t H1 locs ht hvm hw hB hz1 hk1 hS => ?_)
      obtain ⟨F_59, hB1⟩ := hB
      obtain ⟨hP, hD, hO, hR⟩ := QT.back hB1 ht hFc hR (fun q h => absurd h List.not_mem_nil)
      have hF_60 : F_59 h0 = .inr (4, [.ref tx, .ref y0, .ref y1, .ref y2, .int (nI z_40), .int v0_41]) := (hB1.2.2.2 h0 List.not_mem_nil).trans hF_42
      have hF_61 : F_59 tx = .inr (0, [.ref r_5, .int (nI z_44), .int o_45]) := (hB1.2.2.2 tx List.not_mem_nil).trans hF_46
      generalize H1 = H at hP hS ⊢
      have hw : True := hw
      have hw_62 := hw
      refine lv_bipush (v := 10) hx hb dX4_read_70 (by decide) ?_
      refine lv_icmp_ne (tgt := 118) hx hb dX4_read_72 (by decide) (fun c_63 => ?_) (fun c_63 => ?_)
      ·
        refine lv_iinc (v := (nI (j + 1))) (lv' := [(3, .int (nI (j + 1))), (4, .int 0), (2, .int (nI w2)), (0, .ref h0), (1, .ref g1)]) hx hb dX4_read_118 hl (k := 1) rfl (nI_1 _) (by decide) rfl (fun ls hl => ?_)
        refine lv_goto (tgt := 28) hx hb dX4_read_121 (by decide) ?_
        refine W.widen (k := 0) (n := 0) (by omega) (by omega) ?_
        exact ih_39 ((j + 1), w2) F_59 (⟨by omega, by omega⟩) (by show 3001 - (j + 1) < 3001 - j; omega) hO hR _ _ hP hD hS ls (lv_sub hl [0, 2, 3, 4] rfl)
      ·
        refine lv_iload hx hb dX4_read_75 (lv_at hl 0 rfl) ?_
        refine lv_if_eq (tgt := 88) hx hb dX4_read_77 (by decide) (fun c_64 => ?_) (fun c_64 => absurd (by decide) c_64)
        refine lv_iload_n hx hb dX4_read_88 rfl (lv_at hl 2 rfl) ?_
        refine lv_iload_n hx hb dX4_read_89 rfl (lv_at hl 1 rfl) ?_
        refine lv_icmp_ne (tgt := 103) hx hb dX4_read_90 (by decide) (fun c_65 => ?_) (fun c_65 => ?_)
        ·
          refine lv_aload_n hx hb dX4_read_103 rfl (lv_at hl 3 rfl) ?_
          refine lv_iload_n hx hb dX4_read_104 rfl (lv_at hl 2 rfl) ?_
          refine lv_iload_n hx hb dX4_read_105 rfl (lv_at hl 1 rfl) ?_
          have hFc := pg_free hD hS hA
          refine va_calli (va_runV (As := [.int (nI w2), .int (nI j)]) (rest := []) ⟨hx, hb, hml, hown, hts⟩ (s_X4_takeLine l dC dI cs ty L H.size F_59 h0 ρ tx y0 y1 y2 w2 j hW hL_h0 hT_h0 (by omega) (by omega)) ⟨callB_of 2 hts (gi kt_226) rfl rfl rfl (hts _ kt_211) (hts _ kt_227) (by decide +kernel) ⟨Nat.le_of_ble_eq_true rfl, Nat.le_of_ble_eq_true rfl⟩, (hts _ kt_228), (hts _ kt_229)⟩ ⟨fun a U g mk q => ⟨q.1, PT.calling q.2⟩, pg_recv hK hP hL_h0 hF_60 (q := (RX4, TX4, 6)) rfl, fun U hU hWm => ⟨rfl, PT.mk hU hWm hP hK hD hE hO⟩⟩ rfl rfl hl.1 rfl (lv_room (Nat.le_of_ble_eq_true rfl)) dX4_read_106 ⟨by show _ + 0 ≤ 0; omega, by show _ + 0 ≤ 0; omega⟩) hS (fun q _ h => hFc q h) hFc (fun r_67 u t H1 locs ht hvm hw hB hz1 hk1 hS => ?_)
          obtain ⟨F_68, hB1⟩ := hB
          obtain ⟨hP, hD, hO, hR⟩ := QT.back hB1 ht hFc hR (fun q h => by simp only [List.mem_cons, List.not_mem_nil, or_false] at h ⊢; omega)
          have hF_69 : F_68 tx = .inr (0, [.ref r_5, .int (nI z_44), .int o_45]) := (hB1.2.2.2 tx (by rw [ht_6]; simp)).trans hF_61
          generalize H1 = H at hP hS ⊢
          have hw : (r_67 = 0 ∨ r_67 = 1) := hw
          have hw_70 := hw
          refine lv_if_ne (tgt := 114) hx hb dX4_read_109 (by decide) (fun c_71 => ?_) (fun c_71 => ?_)
          ·
            refine lv_iload_n hx hb dX4_read_114 rfl (lv_at hl 1 rfl) ?_
            refine lv_iconst (v := 1) hx hb dX4_read_115 (by decide) ?_
            refine lv_iadd hx hb dX4_read_116 ?_
            refine lv_topi (fun x_72 ex_72 => ?_)
            obtain rfl : x_72 = (nI (j + 1)) := ex_72.trans (nI_1 j)
            refine lv_istore_n (lv' := [(2, .int (nI (j + 1))), (4, .int 0), (3, .int (nI j)), (0, .ref h0), (1, .ref g1)]) hx hb dX4_read_117 rfl hl (by decide) rfl (fun ls hl => ?_)
            refine lv_iinc (v := (nI (j + 1))) (lv' := [(3, .int (nI (j + 1))), (2, .int (nI (j + 1))), (4, .int 0), (0, .ref h0), (1, .ref g1)]) hx hb dX4_read_118 hl (k := 2) rfl (nI_1 _) (by decide) rfl (fun ls hl => ?_)
            refine lv_goto (tgt := 28) hx hb dX4_read_121 (by decide) ?_
            refine W.widen (k := 0) (n := 0) (by omega) (by omega) ?_
            exact ih_39 ((j + 1), (j + 1)) F_68 (⟨by omega, by omega⟩) (by show 3001 - (j + 1) < 3001 - j; omega) hO hR _ _ hP hD hS ls (lv_sub hl [0, 1, 3, 4] rfl)
          ·
            refine lv_iconst (v := 0) hx hb dX4_read_112 (by decide) ?_
            refine W.widen (k := 0) (n := 0) (by omega) (by omega) ?_
            exact W.zret (v := 0) (ty := .boolean) hx hb hr (by decide) (fun t ht hWm => ⟨⟨0, (), rfl, (by first | exact Or.inl rfl | exact Or.inr rfl), ⟨F_68, QT.mk ht hP hD hO hR⟩⟩, hS.F ht⟩) hS.2.2 dX4_read_113
        ·
          refine lv_aload_n hx hb dX4_read_93 rfl (lv_at hl 3 rfl) ?_
          refine lv_iload_n hx hb dX4_read_94 rfl (lv_at hl 1 rfl) ?_
          refine lv_iconst (v := 1) hx hb dX4_read_95 (by decide) ?_
          refine lv_iadd hx hb dX4_read_96 ?_
          refine lv_topi (fun x_74 _ => ?_)
          refine pg_put (ci := 4) (v := .int x_74) (ty := .int) (C := RX4) (T := TX4) (N := 6) hx hb hts it_4 tyX4 tyX4_ok nmX4 hown hK hP hD hS hL_h0 hF_60 rfl 5 (by decide) (hts _ kt_225) (fun _ h9 => h9) rfl (by decide +kernel) (rfl) (rfl) (Nat.le_of_ble_eq_true rfl) dX4_read_97 (fun H locs hP hD hS => ?_)
          obtain ⟨F_75, he_76, hP, hD, hO, hR⟩ : ∃ G, G = va_up F_59 h0 (.inr (4, [.ref tx, .ref y0, .ref y1, .ref y2, .int (nI z_40), .int x_74])) ∧ va_P (dC, dI) vwCl (va_pl L G) H ∧ va_D A (va_pl L G) ∧ OK cs ty L G ∧ FR ty [ρ, ρ + 1, ρ + 2, ρ + 3] F G := ⟨_, rfl, hP, hD, hO.up (sh.msg hT_h0 ⟨z_40, x_74, rfl, (by first | omega | assumption | exact Or.inl rfl | exact Or.inr rfl)⟩), hR.up hT_h0 (by simp)⟩
          have hF_77 : F_75 h0 = .inr (4, [.ref tx, .ref y0, .ref y1, .ref y2, .int (nI z_40), .int x_74]) := by rw [he_76]; exact up_self
          have hF_78 : F_75 tx = .inr (0, [.ref r_5, .int (nI z_44), .int o_45]) := by rw [he_76, up_ne (ne_ty ht_6 hT_h0 (by simp))]; exact hF_61
          refine lv_goto (tgt := 124) hx hb dX4_read_100 (by decide) ?_
          refine lv_aload_n hx hb dX4_read_124 rfl (lv_at hl 3 rfl) ?_
          refine pg_get (ci := 4) (v := .int (nI z_40)) (C := RX4) (T := TX4) (N := 6) hx hb hts it_4 hown hK hP hL_h0 hF_77 rfl 4 (by decide) (hts _ kt_203) (fun _ h9 => h9) rfl dX4_read_125 ?_
          refine lv_if_le (tgt := 135) hx hb dX4_read_128 (by decide) (fun c_79 => ?_) (fun c_79 => ?_)
          ·
            refine lv_iconst (v := 0) hx hb dX4_read_135 (by decide) ?_
            refine W.widen (k := 0) (n := 0) (by omega) (by omega) ?_
            exact W.zret (v := 0) (ty := .boolean) hx hb hr (by decide) (fun t ht hWm => ⟨⟨0, (), rfl, (by first | exact Or.inl rfl | exact Or.inr rfl), ⟨F_75, QT.mk ht hP hD hO hR⟩⟩, hS.F ht⟩) hS.2.2 dX4_read_136
          ·
            refine lv_iconst (v := 1) hx hb dX4_read_131 (by decide) ?_
            refine lv_goto (tgt := 136) hx hb dX4_read_132 (by decide) ?_
            refine W.widen (k := 0) (n := 0) (by omega) (by omega) ?_
            exact W.zret (v := 1) (ty := .boolean) hx hb hr (by decide) (fun t ht hWm => ⟨⟨1, (), rfl, (by first | exact Or.inl rfl | exact Or.inr rfl), ⟨F_75, QT.mk ht hP hD hO hR⟩⟩, hS.F ht⟩) hS.2.2 dX4_read_136
    ·
      refine lv_iconst (v := 1) hx hb dX4_read_50 (by decide) ?_
      refine lv_goto (tgt := 55) hx hb dX4_read_51 (by decide) ?_
      refine lv_istore (lv' := [(4, .int 1), (3, .int (nI j)), (2, .int (nI w2)), (0, .ref h0), (1, .ref g1)]) hx hb dX4_read_55 hl (by decide) rfl (fun ls hl => ?_)
      refine lv_iload hx hb dX4_read_57 (lv_at hl 0 rfl) ?_
      refine lv_if_ne (tgt := 75) hx hb dX4_read_59 (by decide) (fun c_83 => ?_) (fun c_83 => absurd c_83 (by decide))
      refine lv_iload hx hb dX4_read_75 (lv_at hl 0 rfl) ?_
      refine lv_if_eq (tgt := 88) hx hb dX4_read_77 (by decide) (fun c_84 => absurd c_84 (by decide)) (fun c_84 => ?_)
      refine lv_iload_n hx hb dX4_read_80 rfl (lv_at hl 2 rfl) ?_
      refine lv_iload_n hx hb dX4_read_81 rfl (lv_at hl 1 rfl) ?_
      refine lv_icmp_ne (tgt := 88) hx hb dX4_read_82 (by decide) (fun c_85 => ?_) (fun c_85 => ?_)
      ·
        refine lv_iload_n hx hb dX4_read_88 rfl (lv_at hl 2 rfl) ?_
        refine lv_iload_n hx hb dX4_read_89 rfl (lv_at hl 1 rfl) ?_
        refine lv_icmp_ne (tgt := 103) hx hb dX4_read_90 (by decide) (fun c_87 => ?_) (fun c_87 => ?_)
        ·
          refine lv_aload_n hx hb dX4_read_103 rfl (lv_at hl 3 rfl) ?_
          refine lv_iload_n hx hb dX4_read_104 rfl (lv_at hl 2 rfl) ?_
          refine lv_iload_n hx hb dX4_read_105 rfl (lv_at hl 1 rfl) ?_
          have hFc := pg_free hD hS hA
          refine va_calli (va_runV (As := [.int (nI w2), .int (nI j)]) (rest := []) ⟨hx, hb, hml, hown, hts⟩ (s_X4_takeLine l dC dI cs ty L H.size F_37 h0 ρ tx y0 y1 y2 w2 j hW hL_h0 hT_h0 (by omega) (by omega)) ⟨callB_of 2 hts (gi kt_226) rfl rfl rfl (hts _ kt_211) (hts _ kt_227) (by decide +kernel) ⟨Nat.le_of_ble_eq_true rfl, Nat.le_of_ble_eq_true rfl⟩, (hts _ kt_228), (hts _ kt_229)⟩ ⟨fun a U g mk q => ⟨q.1, PT.calling q.2⟩, pg_recv hK hP hL_h0 hF_42 (q := (RX4, TX4, 6)) rfl, fun U hU hWm => ⟨rfl, PT.mk hU hWm hP hK hD hE hO⟩⟩ rfl rfl hl.1 rfl (lv_room (Nat.le_of_ble_eq_true rfl)) dX4_read_106 ⟨by show _ + 0 ≤ 0; omega, by show _ + 0 ≤ 0; omega⟩) hS (fun q _ h => hFc q h) hFc (fun r_89 u t H1 locs ht hvm hw hB hz1 hk1 hS => ?_)
          obtain ⟨F_90, hB1⟩ := hB
          obtain ⟨hP, hD, hO, hR⟩ := QT.back hB1 ht hFc hR (fun q h => by simp only [List.mem_cons, List.not_mem_nil, or_false] at h ⊢; omega)
          have hF_91 : F_90 tx = .inr (0, [.ref r_5, .int (nI z_44), .int o_45]) := (hB1.2.2.2 tx (by rw [ht_6]; simp)).trans hF_46
          generalize H1 = H at hP hS ⊢
          have hw : (r_89 = 0 ∨ r_89 = 1) := hw
          have hw_92 := hw
          refine lv_if_ne (tgt := 114) hx hb dX4_read_109 (by decide) (fun c_93 => ?_) (fun c_93 => ?_)
          ·
            refine lv_iload_n hx hb dX4_read_114 rfl (lv_at hl 1 rfl) ?_
            refine lv_iconst (v := 1) hx hb dX4_read_115 (by decide) ?_
            refine lv_iadd hx hb dX4_read_116 ?_
            refine lv_topi (fun x_94 ex_94 => ?_)
            obtain rfl : x_94 = (nI (j + 1)) := ex_94.trans (nI_1 j)
            refine lv_istore_n (lv' := [(2, .int (nI (j + 1))), (4, .int 1), (3, .int (nI j)), (0, .ref h0), (1, .ref g1)]) hx hb dX4_read_117 rfl hl (by decide) rfl (fun ls hl => ?_)
            refine lv_iinc (v := (nI (j + 1))) (lv' := [(3, .int (nI (j + 1))), (2, .int (nI (j + 1))), (4, .int 1), (0, .ref h0), (1, .ref g1)]) hx hb dX4_read_118 hl (k := 2) rfl (nI_1 _) (by decide) rfl (fun ls hl => ?_)
            refine lv_goto (tgt := 28) hx hb dX4_read_121 (by decide) ?_
            refine W.widen (k := 0) (n := 0) (by omega) (by omega) ?_
            exact ih_39 ((j + 1), (j + 1)) F_90 (⟨by omega, by omega⟩) (by show 3001 - (j + 1) < 3001 - j; omega) hO hR _ _ hP hD hS ls (lv_sub hl [0, 1, 3, 4] rfl)
          ·
            refine lv_iconst (v := 0) hx hb dX4_read_112 (by decide) ?_
            refine W.widen (k := 0) (n := 0) (by omega) (by omega) ?_
            exact W.zret (v := 0) (ty := .boolean) hx hb hr (by decide) (fun t ht hWm => ⟨⟨0, (), rfl, (by first | exact Or.inl rfl | exact Or.inr rfl), ⟨F_90, QT.mk ht hP hD hO hR⟩⟩, hS.F ht⟩) hS.2.2 dX4_read_113
        ·
          refine lv_aload_n hx hb dX4_read_93 rfl (lv_at hl 3 rfl) ?_
          refine lv_iload_n hx hb dX4_read_94 rfl (lv_at hl 1 rfl) ?_
          refine lv_iconst (v := 1) hx hb dX4_read_95 (by decide) ?_
          refine lv_iadd hx hb dX4_read_96 ?_
          refine lv_topi (fun x_96 _ => ?_)
          refine pg_put (ci := 4) (v := .int x_96) (ty := .int) (C := RX4) (T := TX4) (N := 6) hx hb hts it_4 tyX4 tyX4_ok nmX4 hown hK hP hD hS hL_h0 hF_42 rfl 5 (by decide) (hts _ kt_225) (fun _ h9 => h9) rfl (by decide +kernel) (rfl) (rfl) (Nat.le_of_ble_eq_true rfl) dX4_read_97 (fun H locs hP hD hS => ?_)
          obtain ⟨F_97, he_98, hP, hD, hO, hR⟩ : ∃ G, G = va_up F_37 h0 (.inr (4, [.ref tx, .ref y0, .ref y1, .ref y2, .int (nI z_40), .int x_96])) ∧ va_P (dC, dI) vwCl (va_pl L G) H ∧ va_D A (va_pl L G) ∧ OK cs ty L G ∧ FR ty [ρ, ρ + 1, ρ + 2, ρ + 3] F G := ⟨_, rfl, hP, hD, hO.up (sh.msg hT_h0 ⟨z_40, x_96, rfl, (by first | omega | assumption | exact Or.inl rfl | exact Or.inr rfl)⟩), hR.up hT_h0 (by simp)⟩
          have hF_99 : F_97 h0 = .inr (4, [.ref tx, .ref y0, .ref y1, .ref y2, .int (nI z_40), .int x_96]) := by rw [he_98]; exact up_self
          have hF_100 : F_97 tx = .inr (0, [.ref r_5, .int (nI z_44), .int o_45]) := by rw [he_98, up_ne (ne_ty ht_6 hT_h0 (by simp))]; exact hF_46
          refine lv_goto (tgt := 124) hx hb dX4_read_100 (by decide) ?_
          refine lv_aload_n hx hb dX4_read_124 rfl (lv_at hl 3 rfl) ?_
          refine pg_get (ci := 4) (v := .int (nI z_40)) (C := RX4) (T := TX4) (N := 6) hx hb hts it_4 hown hK hP hL_h0 hF_99 rfl 4 (by decide) (hts _ kt_203) (fun _ h9 => h9) rfl dX4_read_125 ?_
          refine lv_if_le (tgt := 135) hx hb dX4_read_128 (by decide) (fun c_101 => ?_) (fun c_101 => ?_)
          ·
            refine lv_iconst (v := 0) hx hb dX4_read_135 (by decide) ?_
            refine W.widen (k := 0) (n := 0) (by omega) (by omega) ?_
            exact W.zret (v := 0) (ty := .boolean) hx hb hr (by decide) (fun t ht hWm => ⟨⟨0, (), rfl, (by first | exact Or.inl rfl | exact Or.inr rfl), ⟨F_97, QT.mk ht hP hD hO hR⟩⟩, hS.F ht⟩) hS.2.2 dX4_read_136
          ·
            refine lv_iconst (v := 1) hx hb dX4_read_131 (by decide) ?_
            refine lv_goto (tgt := 136) hx hb dX4_read_132 (by decide) ?_
            refine W.widen (k := 0) (n := 0) (by omega) (by omega) ?_
            exact W.zret (v := 1) (ty := .boolean) hx hb hr (by decide) (fun t ht hWm => ⟨⟨1, (), rfl, (by first | exact Or.inl rfl | exact Or.inr rfl), ⟨F_97, QT.mk ht hP hD hO hR⟩⟩, hS.F ht⟩) hS.2.2 dX4_read_136
      ·
        refine lv_goto (tgt := 118) hx hb dX4_read_85 (by decide) ?_
        refine lv_iinc (v := (nI (j + 1))) (lv' := [(3, .int (nI (j + 1))), (4, .int 1), (2, .int (nI w2)), (0, .ref h0), (1, .ref g1)]) hx hb dX4_read_118 hl (k := 1) rfl (nI_1 _) (by decide) rfl (fun ls hl => ?_)
        refine lv_goto (tgt := 28) hx hb dX4_read_121 (by decide) ?_
        refine W.widen (k := 0) (n := 0) (by omega) (by omega) ?_
        exact ih_39 ((j + 1), w2) F_37 (⟨by omega, by omega⟩) (by show 3001 - (j + 1) < 3001 - j; omega) hO hR _ _ hP hD hS ls (lv_sub hl [0, 2, 3, 4] rfl)
