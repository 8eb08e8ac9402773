theorem dX0_addFour_0 : decode cX0_addFour 0 = .ok (.bipush 24, 2) := by decide +kernel
theorem dX0_addFour_2 : decode cX0_addFour 2 = .ok (.istore_n 2, 1) := by decide +kernel
theorem dX0_addFour_3 : decode cX0_addFour 3 = .ok (.iload_n 2, 1) := by decide +kernel
theorem dX0_addFour_4 : decode cX0_addFour 4 = .ok (.ifCond .lt 20, 3) := by decide +kernel
theorem dX0_addFour_7 : decode cX0_addFour 7 = .ok (.aload_n 0, 1) := by decide +kernel
theorem dX0_addFour_8 : decode cX0_addFour 8 = .ok (.iload_n 1, 1) := by decide +kernel
theorem dX0_addFour_9 : decode cX0_addFour 9 = .ok (.iload_n 2, 1) := by decide +kernel
theorem dX0_addFour_10 : decode cX0_addFour 10 = .ok (.iushr, 1) := by decide +kernel
theorem dX0_addFour_11 : decode cX0_addFour 11 = .ok (.sipush 255, 3) := by decide +kernel
theorem dX0_addFour_14 : decode cX0_addFour 14 = .ok (.iand, 1) := by decide +kernel
theorem dX0_addFour_15 : decode cX0_addFour 15 = .ok (.invokevirtual 34, 3) := by decide +kernel
theorem dX0_addFour_18 : decode cX0_addFour 18 = .ok (.iinc 2 (-8), 3) := by decide +kernel
theorem dX0_addFour_21 : decode cX0_addFour 21 = .ok (.goto (-18), 3) := by decide +kernel
theorem dX0_addFour_24 : decode cX0_addFour 24 = .ok (.return_, 1) := by decide +kernel
theorem dX0_find_0 : decode cX0_find 0 = .ok (.iconst 0, 1) := by decide +kernel
theorem dX0_find_1 : decode cX0_find 1 = .ok (.iload_n 2, 1) := by decide +kernel
theorem dX0_find_2 : decode cX0_find 2 = .ok (.invokestatic 48, 3) := by decide +kernel
theorem dX0_find_5 : decode cX0_find 5 = .ok (.istore 4, 2) := by decide +kernel
theorem dX0_find_7 : decode cX0_find 7 = .ok (.iload 4, 2) := by decide +kernel
theorem dX0_find_9 : decode cX0_find 9 = .ok (.iload_n 3, 1) := by decide +kernel
theorem dX0_find_10 : decode cX0_find 10 = .ok (.if_icmp .ge 32, 3) := by decide +kernel
theorem dX0_find_13 : decode cX0_find 13 = .ok (.iload 4, 2) := by decide +kernel
theorem dX0_find_15 : decode cX0_find 15 = .ok (.aload_n 0, 1) := by decide +kernel
theorem dX0_find_16 : decode cX0_find 16 = .ok (.getfield 9, 3) := by decide +kernel
theorem dX0_find_19 : decode cX0_find 19 = .ok (.if_icmp .ge 23, 3) := by decide +kernel
theorem dX0_find_22 : decode cX0_find 22 = .ok (.aload_n 0, 1) := by decide +kernel
theorem dX0_find_23 : decode cX0_find 23 = .ok (.getfield 19, 3) := by decide +kernel
theorem dX0_find_26 : decode cX0_find 26 = .ok (.iload 4, 2) := by decide +kernel
theorem dX0_find_28 : decode cX0_find 28 = .ok (.iaload, 1) := by decide +kernel
theorem dX0_find_29 : decode cX0_find 29 = .ok (.iload_n 1, 1) := by decide +kernel
theorem dX0_find_30 : decode cX0_find 30 = .ok (.if_icmp .ne 6, 3) := by decide +kernel
theorem dX0_find_33 : decode cX0_find 33 = .ok (.iload 4, 2) := by decide +kernel
theorem dX0_find_35 : decode cX0_find 35 = .ok (.ireturn, 1) := by decide +kernel
theorem dX0_find_36 : decode cX0_find 36 = .ok (.iinc 4 1, 3) := by decide +kernel
theorem dX0_find_39 : decode cX0_find 39 = .ok (.goto (-32), 3) := by decide +kernel
theorem dX0_find_42 : decode cX0_find 42 = .ok (.iload_n 3, 1) := by decide +kernel
theorem dX0_find_43 : decode cX0_find 43 = .ok (.ireturn, 1) := by decide +kernel
theorem dX0_findLast_0 : decode cX0_findLast 0 = .ok (.iload_n 3, 1) := by decide +kernel
theorem dX0_findLast_1 : decode cX0_findLast 1 = .ok (.iconst 1, 1) := by decide +kernel
theorem dX0_findLast_2 : decode cX0_findLast 2 = .ok (.isub, 1) := by decide +kernel
theorem dX0_findLast_3 : decode cX0_findLast 3 = .ok (.istore 4, 2) := by decide +kernel
theorem dX0_findLast_5 : decode cX0_findLast 5 = .ok (.iload 4, 2) := by decide +kernel
theorem dX0_findLast_7 : decode cX0_findLast 7 = .ok (.iload_n 2, 1) := by decide +kernel
theorem dX0_findLast_8 : decode cX0_findLast 8 = .ok (.if_icmp .lt 22, 3) := by decide +kernel
theorem dX0_findLast_11 : decode cX0_findLast 11 = .ok (.aload_n 0, 1) := by decide +kernel
theorem dX0_findLast_12 : decode cX0_findLast 12 = .ok (.iload 4, 2) := by decide +kernel
theorem dX0_findLast_14 : decode cX0_findLast 14 = .ok (.invokevirtual 74, 3) := by decide +kernel
theorem dX0_findLast_17 : decode cX0_findLast 17 = .ok (.iload_n 1, 1) := by decide +kernel
theorem dX0_findLast_18 : decode cX0_findLast 18 = .ok (.if_icmp .ne 6, 3) := by decide +kernel
theorem dX0_findLast_21 : decode cX0_findLast 21 = .ok (.iload 4, 2) := by decide +kernel
theorem dX0_findLast_23 : decode cX0_findLast 23 = .ok (.ireturn, 1) := by decide +kernel
theorem dX0_findLast_24 : decode cX0_findLast 24 = .ok (.iinc 4 (-1), 3) := by decide +kernel
theorem dX0_findLast_27 : decode cX0_findLast 27 = .ok (.goto (-22), 3) := by decide +kernel
theorem dX0_findLast_30 : decode cX0_findLast 30 = .ok (.iload_n 2, 1) := by decide +kernel
theorem dX0_findLast_31 : decode cX0_findLast 31 = .ok (.iconst 1, 1) := by decide +kernel
theorem dX0_findLast_32 : decode cX0_findLast 32 = .ok (.isub, 1) := by decide +kernel
theorem dX0_findLast_33 : decode cX0_findLast 33 = .ok (.ireturn, 1) := by decide +kernel
theorem dX0_isName_0 : decode cX0_isName 0 = .ok (.aload_n 0, 1) := by decide +kernel
theorem dX0_isName_1 : decode cX0_isName 1 = .ok (.getfield 15, 3) := by decide +kernel
theorem dX0_isName_4 : decode cX0_isName 4 = .ok (.ifCond .ne 18, 3) := by decide +kernel
theorem dX0_isName_7 : decode cX0_isName 7 = .ok (.iload_n 2, 1) := by decide +kernel
theorem dX0_isName_8 : decode cX0_isName 8 = .ok (.iload_n 1, 1) := by decide +kernel
theorem dX0_isName_9 : decode cX0_isName 9 = .ok (.isub, 1) := by decide +kernel
theorem dX0_isName_10 : decode cX0_isName 10 = .ok (.iconst 1, 1) := by decide +kernel
theorem dX0_isName_11 : decode cX0_isName 11 = .ok (.if_icmp .lt 11, 3) := by decide +kernel
theorem dX0_isName_14 : decode cX0_isName 14 = .ok (.iload_n 2, 1) := by decide +kernel
theorem dX0_isName_15 : decode cX0_isName 15 = .ok (.iload_n 1, 1) := by decide +kernel
theorem dX0_isName_16 : decode cX0_isName 16 = .ok (.isub, 1) := by decide +kernel
theorem dX0_isName_17 : decode cX0_isName 17 = .ok (.bipush 60, 2) := by decide +kernel
theorem dX0_isName_19 : decode cX0_isName 19 = .ok (.if_icmp .le 5, 3) := by decide +kernel
theorem dX0_isName_22 : decode cX0_isName 22 = .ok (.iconst 0, 1) := by decide +kernel
theorem dX0_isName_23 : decode cX0_isName 23 = .ok (.ireturn, 1) := by decide +kernel
theorem dX0_isName_24 : decode cX0_isName 24 = .ok (.iconst 0, 1) := by decide +kernel
theorem dX0_isName_25 : decode cX0_isName 25 = .ok (.istore_n 3, 1) := by decide +kernel
theorem dX0_isName_26 : decode cX0_isName 26 = .ok (.iload_n 1, 1) := by decide +kernel
theorem dX0_isName_27 : decode cX0_isName 27 = .ok (.istore 4, 2) := by decide +kernel
theorem dX0_isName_29 : decode cX0_isName 29 = .ok (.iload 4, 2) := by decide +kernel
theorem dX0_isName_31 : decode cX0_isName 31 = .ok (.iload_n 2, 1) := by decide +kernel
theorem dX0_isName_32 : decode cX0_isName 32 = .ok (.if_icmp .ge 94, 3) := by decide +kernel
theorem dX0_isName_35 : decode cX0_isName 35 = .ok (.aload_n 0, 1) := by decide +kernel
theorem dX0_isName_36 : decode cX0_isName 36 = .ok (.iload 4, 2) := by decide +kernel
theorem dX0_isName_38 : decode cX0_isName 38 = .ok (.invokevirtual 74, 3) := by decide +kernel
theorem dX0_isName_41 : decode cX0_isName 41 = .ok (.istore 5, 2) := by decide +kernel
theorem dX0_isName_43 : decode cX0_isName 43 = .ok (.iload 5, 2) := by decide +kernel
theorem dX0_isName_45 : decode cX0_isName 45 = .ok (.bipush 46, 2) := by decide +kernel
theorem dX0_isName_47 : decode cX0_isName 47 = .ok (.if_icmp .ne 7, 3) := by decide +kernel
theorem dX0_isName_50 : decode cX0_isName 50 = .ok (.iconst 1, 1) := by decide +kernel
theorem dX0_isName_51 : decode cX0_isName 51 = .ok (.goto 4, 3) := by decide +kernel
theorem dX0_isName_54 : decode cX0_isName 54 = .ok (.iconst 0, 1) := by decide +kernel
theorem dX0_isName_55 : decode cX0_isName 55 = .ok (.istore 6, 2) := by decide +kernel
theorem dX0_isName_57 : decode cX0_isName 57 = .ok (.iload 6, 2) := by decide +kernel
theorem dX0_isName_59 : decode cX0_isName 59 = .ok (.ifCond .eq 10, 3) := by decide +kernel
theorem dX0_isName_62 : decode cX0_isName 62 = .ok (.iload_n 3, 1) := by decide +kernel
theorem dX0_isName_63 : decode cX0_isName 63 = .ok (.ifCond .ne 44, 3) := by decide +kernel
theorem dX0_isName_66 : decode cX0_isName 66 = .ok (.goto 39, 3) := by decide +kernel
theorem dX0_isName_69 : decode cX0_isName 69 = .ok (.iload_n 3, 1) := by decide +kernel
theorem dX0_isName_70 : decode cX0_isName 70 = .ok (.bipush 20, 2) := by decide +kernel
theorem dX0_isName_72 : decode cX0_isName 72 = .ok (.if_icmp .eq 33, 3) := by decide +kernel
theorem dX0_isName_75 : decode cX0_isName 75 = .ok (.iload 5, 2) := by decide +kernel
theorem dX0_isName_77 : decode cX0_isName 77 = .ok (.invokestatic 27, 3) := by decide +kernel
theorem dX0_isName_80 : decode cX0_isName 80 = .ok (.ifCond .ne 27, 3) := by decide +kernel
theorem dX0_isName_83 : decode cX0_isName 83 = .ok (.iload 5, 2) := by decide +kernel
theorem dX0_isName_85 : decode cX0_isName 85 = .ok (.invokestatic 31, 3) := by decide +kernel
theorem dX0_isName_88 : decode cX0_isName 88 = .ok (.ifCond .ne 19, 3) := by decide +kernel
theorem dX0_isName_91 : decode cX0_isName 91 = .ok (.iload 5, 2) := by decide +kernel
theorem dX0_isName_93 : decode cX0_isName 93 = .ok (.bipush 45, 2) := by decide +kernel
theorem dX0_isName_95 : decode cX0_isName 95 = .ok (.if_icmp .eq 12, 3) := by decide +kernel
theorem dX0_isName_98 : decode cX0_isName 98 = .ok (.iload 5, 2) := by decide +kernel
theorem dX0_isName_100 : decode cX0_isName 100 = .ok (.bipush 95, 2) := by decide +kernel
theorem dX0_isName_102 : decode cX0_isName 102 = .ok (.if_icmp .eq 5, 3) := by decide +kernel
theorem dX0_isName_105 : decode cX0_isName 105 = .ok (.iconst 0, 1) := by decide +kernel
theorem dX0_isName_106 : decode cX0_isName 106 = .ok (.ireturn, 1) := by decide +kernel
theorem dX0_isName_107 : decode cX0_isName 107 = .ok (.iload 6, 2) := by decide +kernel
theorem dX0_isName_109 : decode cX0_isName 109 = .ok (.ifCond .eq 7, 3) := by decide +kernel
theorem dX0_isName_112 : decode cX0_isName 112 = .ok (.iconst 0, 1) := by decide +kernel
theorem dX0_isName_113 : decode cX0_isName 113 = .ok (.goto 6, 3) := by decide +kernel
theorem dX0_isName_116 : decode cX0_isName 116 = .ok (.iload_n 3, 1) := by decide +kernel
theorem dX0_isName_117 : decode cX0_isName 117 = .ok (.iconst 1, 1) := by decide +kernel
theorem dX0_isName_118 : decode cX0_isName 118 = .ok (.iadd, 1) := by decide +kernel
theorem dX0_isName_119 : decode cX0_isName 119 = .ok (.istore_n 3, 1) := by decide +kernel
theorem dX0_isName_120 : decode cX0_isName 120 = .ok (.iinc 4 1, 3) := by decide +kernel
theorem dX0_isName_123 : decode cX0_isName 123 = .ok (.goto (-94), 3) := by decide +kernel
theorem dX0_isName_126 : decode cX0_isName 126 = .ok (.iload_n 3, 1) := by decide +kernel
theorem dX0_isName_127 : decode cX0_isName 127 = .ok (.ifCond .le 7, 3) := by decide +kernel
theorem dX0_isName_130 : decode cX0_isName 130 = .ok (.iconst 1, 1) := by decide +kernel
theorem dX0_isName_131 : decode cX0_isName 131 = .ok (.goto 4, 3) := by decide +kernel
theorem dX0_isName_134 : decode cX0_isName 134 = .ok (.iconst 0, 1) := by decide +kernel
theorem dX0_isName_135 : decode cX0_isName 135 = .ok (.ireturn, 1) := by decide +kernel
theorem dX0_partStart_0 : decode cX0_partStart 0 = .ok (.iload_n 1, 1) := by decide +kernel
theorem dX0_partStart_1 : decode cX0_partStart 1 = .ok (.istore_n 2, 1) := by decide +kernel
theorem dX0_partStart_2 : decode cX0_partStart 2 = .ok (.iconst 0, 1) := by decide +kernel
theorem dX0_partStart_3 : decode cX0_partStart 3 = .ok (.istore_n 3, 1) := by decide +kernel
theorem dX0_partStart_4 : decode cX0_partStart 4 = .ok (.iload_n 3, 1) := by decide +kernel
theorem dX0_partStart_5 : decode cX0_partStart 5 = .ok (.aload_n 0, 1) := by decide +kernel
theorem dX0_partStart_6 : decode cX0_partStart 6 = .ok (.getfield 9, 3) := by decide +kernel
theorem dX0_partStart_9 : decode cX0_partStart 9 = .ok (.if_icmp .ge 40, 3) := by decide +kernel
theorem dX0_partStart_12 : decode cX0_partStart 12 = .ok (.iload_n 2, 1) := by decide +kernel
theorem dX0_partStart_13 : decode cX0_partStart 13 = .ok (.ifCond .le 36, 3) := by decide +kernel
theorem dX0_partStart_16 : decode cX0_partStart 16 = .ok (.iload_n 2, 1) := by decide +kernel
theorem dX0_partStart_17 : decode cX0_partStart 17 = .ok (.aload_n 0, 1) := by decide +kernel
theorem dX0_partStart_18 : decode cX0_partStart 18 = .ok (.getfield 19, 3) := by decide +kernel
theorem dX0_partStart_21 : decode cX0_partStart 21 = .ok (.iload_n 3, 1) := by decide +kernel
theorem dX0_partStart_22 : decode cX0_partStart 22 = .ok (.iaload, 1) := by decide +kernel
theorem dX0_partStart_23 : decode cX0_partStart 23 = .ok (.bipush 46, 2) := by decide +kernel
theorem dX0_partStart_25 : decode cX0_partStart 25 = .ok (.if_icmp .ne 7, 3) := by decide +kernel
theorem dX0_partStart_28 : decode cX0_partStart 28 = .ok (.iconst 1, 1) := by decide +kernel
theorem dX0_partStart_29 : decode cX0_partStart 29 = .ok (.goto 4, 3) := by decide +kernel
theorem dX0_partStart_32 : decode cX0_partStart 32 = .ok (.iconst 0, 1) := by decide +kernel
theorem dX0_partStart_33 : decode cX0_partStart 33 = .ok (.isub, 1) := by decide +kernel
theorem dX0_partStart_34 : decode cX0_partStart 34 = .ok (.istore_n 2, 1) := by decide +kernel
theorem dX0_partStart_35 : decode cX0_partStart 35 = .ok (.iload_n 2, 1) := by decide +kernel
theorem dX0_partStart_36 : decode cX0_partStart 36 = .ok (.ifCond .ne 7, 3) := by decide +kernel
theorem dX0_partStart_39 : decode cX0_partStart 39 = .ok (.iload_n 3, 1) := by decide +kernel
theorem dX0_partStart_40 : decode cX0_partStart 40 = .ok (.iconst 1, 1) := by decide +kernel
theorem dX0_partStart_41 : decode cX0_partStart 41 = .ok (.iadd, 1) := by decide +kernel
theorem dX0_partStart_42 : decode cX0_partStart 42 = .ok (.ireturn, 1) := by decide +kernel
theorem dX0_partStart_43 : decode cX0_partStart 43 = .ok (.iinc 3 1, 3) := by decide +kernel
theorem dX0_partStart_46 : decode cX0_partStart 46 = .ok (.goto (-42), 3) := by decide +kernel
theorem dX0_partStart_49 : decode cX0_partStart 49 = .ok (.iconst 0, 1) := by decide +kernel
theorem dX0_partStart_50 : decode cX0_partStart 50 = .ok (.ireturn, 1) := by decide +kernel
theorem dX0_sixOf_0 : decode cX0_sixOf 0 = .ok (.iload_n 0, 1) := by decide +kernel
theorem dX0_sixOf_1 : decode cX0_sixOf 1 = .ok (.bipush 65, 2) := by decide +kernel
theorem dX0_sixOf_3 : decode cX0_sixOf 3 = .ok (.if_icmp .lt 14, 3) := by decide +kernel
theorem dX0_sixOf_6 : decode cX0_sixOf 6 = .ok (.iload_n 0, 1) := by decide +kernel
theorem dX0_sixOf_7 : decode cX0_sixOf 7 = .ok (.bipush 90, 2) := by decide +kernel
theorem dX0_sixOf_9 : decode cX0_sixOf 9 = .ok (.if_icmp .gt 8, 3) := by decide +kernel
theorem dX0_sixOf_12 : decode cX0_sixOf 12 = .ok (.iload_n 0, 1) := by decide +kernel
theorem dX0_sixOf_13 : decode cX0_sixOf 13 = .ok (.bipush 65, 2) := by decide +kernel
theorem dX0_sixOf_15 : decode cX0_sixOf 15 = .ok (.isub, 1) := by decide +kernel
theorem dX0_sixOf_16 : decode cX0_sixOf 16 = .ok (.ireturn, 1) := by decide +kernel
theorem dX0_sixOf_17 : decode cX0_sixOf 17 = .ok (.iload_n 0, 1) := by decide +kernel
theorem dX0_sixOf_18 : decode cX0_sixOf 18 = .ok (.invokestatic 27, 3) := by decide +kernel
theorem dX0_sixOf_21 : decode cX0_sixOf 21 = .ok (.ifCond .eq 11, 3) := by decide +kernel
theorem dX0_sixOf_24 : decode cX0_sixOf 24 = .ok (.iload_n 0, 1) := by decide +kernel
theorem dX0_sixOf_25 : decode cX0_sixOf 25 = .ok (.bipush 97, 2) := by decide +kernel
theorem dX0_sixOf_27 : decode cX0_sixOf 27 = .ok (.isub, 1) := by decide +kernel
theorem dX0_sixOf_28 : decode cX0_sixOf 28 = .ok (.bipush 26, 2) := by decide +kernel
theorem dX0_sixOf_30 : decode cX0_sixOf 30 = .ok (.iadd, 1) := by decide +kernel
theorem dX0_sixOf_31 : decode cX0_sixOf 31 = .ok (.ireturn, 1) := by decide +kernel
theorem dX0_sixOf_32 : decode cX0_sixOf 32 = .ok (.iload_n 0, 1) := by decide +kernel
theorem dX0_sixOf_33 : decode cX0_sixOf 33 = .ok (.invokestatic 31, 3) := by decide +kernel
theorem dX0_sixOf_36 : decode cX0_sixOf 36 = .ok (.ifCond .eq 11, 3) := by decide +kernel
theorem dX0_sixOf_39 : decode cX0_sixOf 39 = .ok (.iload_n 0, 1) := by decide +kernel
theorem dX0_sixOf_40 : decode cX0_sixOf 40 = .ok (.bipush 48, 2) := by decide +kernel
theorem dX0_sixOf_42 : decode cX0_sixOf 42 = .ok (.isub, 1) := by decide +kernel
theorem dX0_sixOf_43 : decode cX0_sixOf 43 = .ok (.bipush 52, 2) := by decide +kernel
theorem dX0_sixOf_45 : decode cX0_sixOf 45 = .ok (.iadd, 1) := by decide +kernel
theorem dX0_sixOf_46 : decode cX0_sixOf 46 = .ok (.ireturn, 1) := by decide +kernel
theorem dX0_sixOf_47 : decode cX0_sixOf 47 = .ok (.iload_n 0, 1) := by decide +kernel
theorem dX0_sixOf_48 : decode cX0_sixOf 48 = .ok (.bipush 43, 2) := by decide +kernel
theorem dX0_sixOf_50 : decode cX0_sixOf 50 = .ok (.if_icmp .ne 8, 3) := by decide +kernel
theorem dX0_sixOf_53 : decode cX0_sixOf 53 = .ok (.bipush 62, 2) := by decide +kernel
theorem dX0_sixOf_55 : decode cX0_sixOf 55 = .ok (.goto 15, 3) := by decide +kernel
theorem dX0_sixOf_58 : decode cX0_sixOf 58 = .ok (.iload_n 0, 1) := by decide +kernel
theorem dX0_sixOf_59 : decode cX0_sixOf 59 = .ok (.bipush 47, 2) := by decide +kernel
theorem dX0_sixOf_61 : decode cX0_sixOf 61 = .ok (.if_icmp .ne 8, 3) := by decide +kernel
theorem dX0_sixOf_64 : decode cX0_sixOf 64 = .ok (.bipush 63, 2) := by decide +kernel
theorem dX0_sixOf_66 : decode cX0_sixOf 66 = .ok (.goto 4, 3) := by decide +kernel
theorem dX0_sixOf_69 : decode cX0_sixOf 69 = .ok (.iconst (-1), 1) := by decide +kernel
theorem dX0_sixOf_70 : decode cX0_sixOf 70 = .ok (.ireturn, 1) := by decide +kernel
theorem kt_13 : Cond.code yX0_add cX0_add 2 none ∈ tb := tb_at (i := 496) (by decide +kernel) (by decide +kernel)
theorem kt_14 : Cond.methodLink RX0 34 yX0_add ∈ tb := tb_at (i := 493) (by decide +kernel) (by decide +kernel)
theorem kt_15 : Cond.instanceMethod yX0_add ∈ tb := tb_at (i := 494) (by decide +kernel) (by decide +kernel)
theorem kt_16 : Cond.selects RX0 yX0_add yX0_add ∈ tb := tb_at (i := 495) (by decide +kernel) (by decide +kernel)
theorem kt_17 : Cond.methodLink RX0 48 Lib.Math.max.name ∈ tb := tb_at (i := 517) (by decide +kernel) (by decide +kernel)
theorem kt_18 : Cond.static Lib.Math.max.name ∈ tb := tb_at (i := 518) (by decide +kernel) (by decide +kernel)
theorem kt_19 : Cond.initialized "java/lang/Math" ∈ tb := tb_at (i := 97) (by decide +kernel) (by decide +kernel)
theorem kt_20 : Cond.code Lib.Math.max.name Lib.Math.max.code 2 (some .int) ∈ tb := tb_at (i := 519) (by decide +kernel) (by decide +kernel)
theorem kt_21 : Cond.code yX0_at cX0_at 2 (some .int) ∈ tb := tb_at (i := 527) (by decide +kernel) (by decide +kernel)
theorem kt_22 : Cond.methodLink RX0 74 yX0_at ∈ tb := tb_at (i := 524) (by decide +kernel) (by decide +kernel)
theorem kt_23 : Cond.instanceMethod yX0_at ∈ tb := tb_at (i := 525) (by decide +kernel) (by decide +kernel)
theorem kt_24 : Cond.selects RX0 yX0_at yX0_at ∈ tb := tb_at (i := 526) (by decide +kernel) (by decide +kernel)
theorem incN {i e x : Int32} (ex : x = i + Int32.ofInt 1) (c : ¬ e ≤ i) : (e.toInt - x.toInt).toNat < (e.toInt - i.toInt).toNat := by
  have h1 : i.toInt < e.toInt := by
    rw [Int32.le_iff_toInt_le] at c
    omega
  have h2 : x.toInt = i.toInt + 1 := by
    have h3 := e.toInt_lt
    have h4 := i.le_toInt
    rw [ex, Int32.toInt_add, show (Int32.ofInt 1).toInt = 1 from by decide]
    exact Int.bmod_eq_of_le (by omega) (by omega)
  omega
theorem decN {i b x : Int32} (ex : x = i + Int32.ofInt (-1)) (c : ¬ i < b) (hb : ¬ b < 0) : (x.toInt - b.toInt + 1).toNat < (i.toInt - b.toInt + 1).toNat := by
  have h1 : b.toInt ≤ i.toInt := by
    rw [Int32.lt_iff_toInt_lt] at c
    omega
  have h0 : 0 ≤ b.toInt := by
    rw [Int32.lt_iff_toInt_lt] at hb
    have : (0 : Int32).toInt = 0 := by decide
    omega
  have h2 : x.toInt = i.toInt - 1 := by
    have h3 := i.toInt_lt
    rw [ex, Int32.toInt_add, show (Int32.ofInt (-1)).toInt = -1 from by decide]
    exact Int.bmod_eq_of_le (by omega) (by omega)
  omega
theorem max0 (x : Int32) : ∃ a : Nat, a < 2 ^ 31 ∧ (if 0 < x then x else 0) = nI a := by
  split
  · rename_i h
    exact nI_of (fun q => Int32.lt_irrefl (Int32.lt_trans h q))
  · exact ⟨0, by omega, nI_0.symm⟩
set_option maxHeartbeats 4000000 in
set_option maxRecDepth 100000 in
theorem s_X0_addFour_x (l : Launch) (dC : Nat → ClassId) (dI : Nat → Nat → Nat) (cs : Nat → ClassId) (ty : TyM) (L : List Nat) (sz : Nat) (F : Nat → va_E) (h0 : Nat) (ρ : Nat) (r0 : Nat) (n : Nat) (z : Nat) (x1 : Int32) (hW : WT ty L) (hL_h0 : h0 ∈ L) (hT_h0 : ty h0 = (0, ρ, [r0, n])) (hF0 : F h0 = .inr (0, [.ref r0, .int (nI z), .int 0])) (hz0 : z + 4 ≤ n) : Met l yX0_addFour (.code yX0_addFour cX0_addFour 3 none :: tb) ({ frames := 1, cells := 0, slots := 0, locals := 21 }) (va_Pc [.ref h0, .int x1] (PT (dC, dI) cs ty L F sz)) (va_Qv (fun _ : Unit => True) (fun _ T9 => ∃ F2 : Nat → va_E, QT (dC, dI) cs ty L [ρ] F F2 (va_A (va_pl L F) sz) T9 ∧ F2 h0 = .inr (0, [.ref r0, .int (nI (z + 4)), .int 0])) (va_A (va_pl L F) sz)) 0 0 (va_A (va_pl L F) sz) := by
  refine Met.ofW (cc := cX0_addFour) (maxL := 3) (ret := none) (by decide) rfl ?_
  intro p e s m args below meth c s₁ B hml hv
  obtain ⟨rfl, hsz, hP, hK, hD0, hE, hO⟩ := hv
  have hx := B.exec
  have hb := B.bytes
  have hr := B.returns
  have hts : ∀ w ∈ tb, w.before _ s = true := fun w h => atoms_spec (ws := .code yX0_addFour cX0_addFour 3 none :: tb) B.pre w (List.mem_cons_of_mem _ h)
  have hown : s.vm.findClass RX0 = some m.cls := findClass_of_methodNamed B.named
  have hlocks := B.notSynchronized
  subst hsz
  have hD := hD0.self (sz := s.heap.size)
  generalize hAe : va_A (va_pl L F) s.heap.size = A at hD ⊢
  have hA : ∀ q : Nat, s.heap.size ≤ q → A q := fun q h => by rw [← hAe]; exact Or.inr h
  have hS : va_S A s.heap s.heap [] := va_S.rf
  have hR : FR ty [ρ] F F := FR.refl
  have hl := lv_entry ([.ref h0, .int x1]) (n := 3) (Nat.le_of_ble_eq_true rfl)
  rw [lg_entry_eq]
  generalize (lg_sl ([.ref h0, .int x1]) ++ List.replicate (3 - (lg_sl ([.ref h0, .int x1])).length) Slot.unset).toArray = ls at hl ⊢
  have hl : lv_has ls 3 [(0, .ref h0), (1, .int x1)] := hl
  refine lv_bipush (v := 24) hx hb dX0_addFour_0 (by decide) ?_
  refine lv_istore_n (lv' := [(2, .int 24), (0, .ref h0), (1, .int x1)]) hx hb dX0_addFour_2 rfl hl (by decide) rfl (fun ls hl => ?_)
  refine lv_iload_n hx hb dX0_addFour_3 rfl (lv_at hl 0 rfl) ?_
  refine lv_if_lt (tgt := 24) hx hb dX0_addFour_4 (by decide) (fun c_1 => absurd c_1 (by decide)) (fun c_1 => ?_)
  refine lv_aload_n hx hb dX0_addFour_7 rfl (lv_at hl 1 rfl) ?_
  refine lv_iload_n hx hb dX0_addFour_8 rfl (lv_at hl 2 rfl) ?_
  refine lv_iload_n hx hb dX0_addFour_9 rfl (lv_at hl 0 rfl) ?_
  refine lv_iushr hx hb dX0_addFour_10 rfl ?_
  refine lv_topi (fun x_3 _ => ?_)
  refine lv_sipush (v := 255) hx hb dX0_addFour_11 (by decide) ?_
  refine lv_iand hx hb dX0_addFour_14 ?_
  refine lv_topi (fun x_4 _ => ?_)
  obtain ⟨hi_5, ht_6, hq_7⟩ := hW.bytes hL_h0 hT_h0
  have hFc := pg_free hD hS hA
  refine va_callv (va_runV (As := [.int x_4]) (rest := []) ⟨hx, hb, hml, hown, hts⟩ (s_X0_add_x l dC dI cs ty L s.heap.size F h0 ρ r0 n z x_4 hW hL_h0 hT_h0 hF0 (by omega)) ⟨callB_of 1 hts (gi kt_13) rfl rfl rfl (hts _ kt_1) (hts _ kt_14) (by decide +kernel) ⟨Nat.le_of_ble_eq_true rfl, Nat.le_of_ble_eq_true rfl⟩, (hts _ kt_15), (hts _ kt_16)⟩ ⟨fun a U g mk q => ⟨q.1, PT.calling q.2⟩, pg_recv hK hP hL_h0 hF0 (q := (RX0, TX0, 3)) rfl, fun U hU hWm => ⟨rfl, PT.mk hU hWm hP hK hD hE hO⟩⟩ rfl rfl hl.1 rfl (lv_room (Nat.le_of_ble_eq_true rfl)) dX0_addFour_15 ⟨by show _ + 0 ≤ 0; omega, by show _ + 0 ≤ 0; omega⟩) hS (fun q _ h => hFc q h) hFc (fun u t H1 locs ht hvm hw hB hz1 hk1 hS => ?_)
  obtain ⟨F_9, hB1, hq_10⟩ := hB
  obtain ⟨hP, hD, hO, hR⟩ := QT.back hB1 ht hFc hR (fun q h => by simp only [List.mem_cons, List.not_mem_nil, or_false] at h ⊢; omega)
  generalize H1 = H at hP hS ⊢
  refine lv_iinc (v := 16) (lv' := [(2, .int 16), (0, .ref h0), (1, .int x1)]) hx hb dX0_addFour_18 hl (k := 0) rfl (by decide) (by decide) rfl (fun ls hl => ?_)
  refine lv_goto (tgt := 3) hx hb dX0_addFour_21 (by decide) ?_
  refine lv_iload_n hx hb dX0_addFour_3 rfl (lv_at hl 0 rfl) ?_
  refine lv_if_lt (tgt := 24) hx hb dX0_addFour_4 (by decide) (fun c_11 => absurd c_11 (by decide)) (fun c_11 => ?_)
  refine lv_aload_n hx hb dX0_addFour_7 rfl (lv_at hl 1 rfl) ?_
  refine lv_iload_n hx hb dX0_addFour_8 rfl (lv_at hl 2 rfl) ?_
  refine lv_iload_n hx hb dX0_addFour_9 rfl (lv_at hl 0 rfl) ?_
  refine lv_iushr hx hb dX0_addFour_10 rfl ?_
  refine lv_topi (fun x_13 _ => ?_)
  refine lv_sipush (v := 255) hx hb dX0_addFour_11 (by decide) ?_
  refine lv_iand hx hb dX0_addFour_14 ?_
  refine lv_topi (fun x_14 _ => ?_)
  have hFc := pg_free hD hS hA
  refine va_callv (va_runV (As := [.int x_14]) (rest := []) ⟨hx, hb, hml, hown, hts⟩ (s_X0_add_x l dC dI cs ty L H.size F_9 h0 ρ r0 n (z + 1) x_14 hW hL_h0 hT_h0 hq_10 (by omega)) ⟨callB_of 1 hts (gi kt_13) rfl rfl rfl (hts _ kt_1) (hts _ kt_14) (by decide +kernel) ⟨Nat.le_of_ble_eq_true rfl, Nat.le_of_ble_eq_true rfl⟩, (hts _ kt_15), (hts _ kt_16)⟩ ⟨fun a U g mk q => ⟨q.1, PT.calling q.2⟩, pg_recv hK hP hL_h0 hq_10 (q := (RX0, TX0, 3)) rfl, fun U hU hWm => ⟨rfl, PT.mk hU hWm hP hK hD hE hO⟩⟩ rfl rfl hl.1 rfl (lv_room (Nat.le_of_ble_eq_true rfl)) dX0_addFour_15 ⟨by show _ + 0 ≤ 0; omega, by show _ + 0 ≤ 0; omega⟩) hS (fun q _ h => hFc q h) hFc (fun u t H1 locs ht hvm hw hB hz1 hk1 hS => ?_)
  obtain ⟨F_16, hB1, hq_17⟩ := hB
  obtain ⟨hP, hD, hO, hR⟩ := QT.back hB1 ht hFc hR (fun q h => by simp only [List.mem_cons, List.not_mem_nil, or_false] at h ⊢; omega)
  generalize H1 = H at hP hS ⊢
  refine lv_iinc (v := 8) (lv' := [(2, .int 8), (0, .ref h0), (1, .int x1)]) hx hb dX0_addFour_18 hl (k := 0) rfl (by decide) (by decide) rfl (fun ls hl => ?_)
  refine lv_goto (tgt := 3) hx hb dX0_addFour_21 (by decide) ?_
  refine lv_iload_n hx hb dX0_addFour_3 rfl (lv_at hl 0 rfl) ?_
  refine lv_if_lt (tgt := 24) hx hb dX0_addFour_4 (by decide) (fun c_18 => absurd c_18 (by decide)) (fun c_18 => ?_)
  refine lv_aload_n hx hb dX0_addFour_7 rfl (lv_at hl 1 rfl) ?_
  refine lv_iload_n hx hb dX0_addFour_8 rfl (lv_at hl 2 rfl) ?_
  refine lv_iload_n hx hb dX0_addFour_9 rfl (lv_at hl 0 rfl) ?_
  refine lv_iushr hx hb dX0_addFour_10 rfl ?_
  refine lv_topi (fun x_20 _ => ?_)
  refine lv_sipush (v := 255) hx hb dX0_addFour_11 (by decide) ?_
  refine lv_iand hx hb dX0_addFour_14 ?_
  refine lv_topi (fun x_21 _ => ?_)
  have hFc := pg_free hD hS hA
  refine va_callv (va_runV (As := [.int x_21]) (rest := []) ⟨hx, hb, hml, hown, hts⟩ (s_X0_add_x l dC dI cs ty L H.size F_16 h0 ρ r0 n (z + 2) x_21 hW hL_h0 hT_h0 hq_17 (by omega)) ⟨callB_of 1 hts (gi kt_13) rfl rfl rfl (hts _ kt_1) (hts _ kt_14) (by decide +kernel) ⟨Nat.le_of_ble_eq_true rfl, Nat.le_of_ble_eq_true rfl⟩, (hts _ kt_15), (hts _ kt_16)⟩ ⟨fun a U g mk q => ⟨q.1, PT.calling q.2⟩, pg_recv hK hP hL_h0 hq_17 (q := (RX0, TX0, 3)) rfl, fun U hU hWm => ⟨rfl, PT.mk hU hWm hP hK hD hE hO⟩⟩ rfl rfl hl.1 rfl (lv_room (Nat.le_of_ble_eq_true rfl)) dX0_addFour_15 ⟨by show _ + 0 ≤ 0; omega, by show _ + 0 ≤ 0; omega⟩) hS (fun q _ h => hFc q h) hFc (fun u t H1 locs ht hvm hw hB hz1 hk1 hS => ?_)
  obtain ⟨F_23, hB1, hq_24⟩ := hB
  obtain ⟨hP, hD, hO, hR⟩ := QT.back hB1 ht hFc hR (fun q h => by simp only [List.mem_cons, List.not_mem_nil, or_false] at h ⊢; omega)
  generalize H1 = H at hP hS ⊢
  refine lv_iinc (v := 0) (lv' := [(2, .int 0), (0, .ref h0), (1, .int x1)]) hx hb dX0_addFour_18 hl (k := 0) rfl (by decide) (by decide) rfl (fun ls hl => ?_)
  refine lv_goto (tgt := 3) hx hb dX0_addFour_21 (by decide) ?_
  refine lv_iload_n hx hb dX0_addFour_3 rfl (lv_at hl 0 rfl) ?_
  refine lv_if_lt (tgt := 24) hx hb dX0_addFour_4 (by decide) (fun c_25 => absurd c_25 (by decide)) (fun c_25 => ?_)
  refine lv_aload_n hx hb dX0_addFour_7 rfl (lv_at hl 1 rfl) ?_
  refine lv_iload_n hx hb dX0_addFour_8 rfl (lv_at hl 2 rfl) ?_
  refine lv_iload_n hx hb dX0_addFour_9 rfl (lv_at hl 0 rfl) ?_
  refine lv_iushr hx hb dX0_addFour_10 rfl ?_
  refine lv_topi (fun x_27 _ => ?_)
  refine lv_sipush (v := 255) hx hb dX0_addFour_11 (by decide) ?_
  refine lv_iand hx hb dX0_addFour_14 ?_
  refine lv_topi (fun x_28 _ => ?_)
  have hFc := pg_free hD hS hA
  refine va_callv (va_runV (As := [.int x_28]) (rest := []) ⟨hx, hb, hml, hown, hts⟩ (s_X0_add_x l dC dI cs ty L H.size F_23 h0 ρ r0 n (z + 3) x_28 hW hL_h0 hT_h0 hq_24 (by omega)) ⟨callB_of 1 hts (gi kt_13) rfl rfl rfl (hts _ kt_1) (hts _ kt_14) (by decide +kernel) ⟨Nat.le_of_ble_eq_true rfl, Nat.le_of_ble_eq_true rfl⟩, (hts _ kt_15), (hts _ kt_16)⟩ ⟨fun a U g mk q => ⟨q.1, PT.calling q.2⟩, pg_recv hK hP hL_h0 hq_24 (q := (RX0, TX0, 3)) rfl, fun U hU hWm => ⟨rfl, PT.mk hU hWm hP hK hD hE hO⟩⟩ rfl rfl hl.1 rfl (lv_room (Nat.le_of_ble_eq_true rfl)) dX0_addFour_15 ⟨by show _ + 0 ≤ 0; omega, by show _ + 0 ≤ 0; omega⟩) hS (fun q _ h => hFc q h) hFc (fun u t H1 locs ht hvm hw hB hz1 hk1 hS => ?_)
  obtain ⟨F_30, hB1, hq_31⟩ := hB
  obtain ⟨hP, hD, hO, hR⟩ := QT.back hB1 ht hFc hR (fun q h => by simp only [List.mem_cons, List.not_mem_nil, or_false] at h ⊢; omega)
  generalize H1 = H at hP hS ⊢
  refine lv_iinc (v := (-8)) (lv' := [(2, .int (-8)), (0, .ref h0), (1, .int x1)]) hx hb dX0_addFour_18 hl (k := 0) rfl (by decide) (by decide) rfl (fun ls hl => ?_)
  refine lv_goto (tgt := 3) hx hb dX0_addFour_21 (by decide) ?_
  refine lv_iload_n hx hb dX0_addFour_3 rfl (lv_at hl 0 rfl) ?_
  refine lv_if_lt (tgt := 24) hx hb dX0_addFour_4 (by decide) (fun c_32 => ?_) (fun c_32 => absurd (by decide) c_32)
  refine W.widen (k := 0) (n := 0) (by omega) (by omega) ?_
  exact W.vret hx hb hr (fun t ht hWm => ⟨⟨(), rfl, trivial, ⟨F_30, QT.mk ht hP hD hO hR, hq_31⟩⟩, hS.F ht⟩) hS.2.2 dX0_addFour_24
set_option maxHeartbeats 4000000 in
set_option maxRecDepth 100000 in
theorem s_X0_addFour (l : Launch) (dC : Nat → ClassId) (dI : Nat → Nat → Nat) (cs : Nat → ClassId) (ty : TyM) (L : List Nat) (sz : Nat) (F : Nat → va_E) (h0 : Nat) (ρ : Nat) (r0 : Nat) (n : Nat) (x1 : Int32) (hW : WT ty L) (hL_h0 : h0 ∈ L) (hT_h0 : ty h0 = (0, ρ, [r0, n])) : Met l yX0_addFour (.code yX0_addFour cX0_addFour 3 none :: tb) ({ frames := 1, cells := 0, slots := 0, locals := 21 }) (va_Pc [.ref h0, .int x1] (PT (dC, dI) cs ty L F sz)) (va_Qv (fun _ : Unit => True) (fun _ T9 => ∃ F2 : Nat → va_E, QT (dC, dI) cs ty L [ρ] F F2 (va_A (va_pl L F) sz) T9) (va_A (va_pl L F) sz)) 0 0 (va_A (va_pl L F) sz) := by
  refine Met.ofW (cc := cX0_addFour) (maxL := 3) (ret := none) (by decide) rfl ?_
  intro p e s m args below meth c s₁ B hml hv
  obtain ⟨rfl, hsz, hP, hK, hD0, hE, hO⟩ := hv
  have hx := B.exec
  have hb := B.bytes
  have hr := B.returns
  have hts : ∀ w ∈ tb, w.before _ s = true := fun w h => atoms_spec (ws := .code yX0_addFour cX0_addFour 3 none :: tb) B.pre w (List.mem_cons_of_mem _ h)
  have hown : s.vm.findClass RX0 = some m.cls := findClass_of_methodNamed B.named
  have hlocks := B.notSynchronized
  subst hsz
  have hD := hD0.self (sz := s.heap.size)
  generalize hAe : va_A (va_pl L F) s.heap.size = A at hD ⊢
  have hA : ∀ q : Nat, s.heap.size ≤ q → A q := fun q h => by rw [← hAe]; exact Or.inr h
  have hS : va_S A s.heap s.heap [] := va_S.rf
  have hR : FR ty [ρ] F F := FR.refl
  have hl := lv_entry ([.ref h0, .int x1]) (n := 3) (Nat.le_of_ble_eq_true rfl)
  rw [lg_entry_eq]
  generalize (lg_sl ([.ref h0, .int x1]) ++ List.replicate (3 - (lg_sl ([.ref h0, .int x1])).length) Slot.unset).toArray = ls at hl ⊢
  have hl : lv_has ls 3 [(0, .ref h0), (1, .int x1)] := hl
  refine lv_bipush (v := 24) hx hb dX0_addFour_0 (by decide) ?_
  refine lv_istore_n (lv' := [(2, .int 24), (0, .ref h0), (1, .int x1)]) hx hb dX0_addFour_2 rfl hl (by decide) rfl (fun ls hl => ?_)
  refine lv_iload_n hx hb dX0_addFour_3 rfl (lv_at hl 0 rfl) ?_
  refine lv_if_lt (tgt := 24) hx hb dX0_addFour_4 (by decide) (fun c_1 => absurd c_1 (by decide)) (fun c_1 => ?_)
  refine lv_aload_n hx hb dX0_addFour_7 rfl (lv_at hl 1 rfl) ?_
  refine lv_iload_n hx hb dX0_addFour_8 rfl (lv_at hl 2 rfl) ?_
  refine lv_iload_n hx hb dX0_addFour_9 rfl (lv_at hl 0 rfl) ?_
  refine lv_iushr hx hb dX0_addFour_10 rfl ?_
  refine lv_topi (fun x_3 _ => ?_)
  refine lv_sipush (v := 255) hx hb dX0_addFour_11 (by decide) ?_
  refine lv_iand hx hb dX0_addFour_14 ?_
  refine lv_topi (fun x_4 _ => ?_)
  have hFc := pg_free hD hS hA
  obtain ⟨hi_5, ht_6, hq_7⟩ := hW.bytes hL_h0 hT_h0
  obtain ⟨z_8, o_9, hF_10, hq_11, hq_12⟩ := hO.bytes hL_h0 hT_h0
  refine va_callv (va_runV (As := [.int x_4]) (rest := []) ⟨hx, hb, hml, hown, hts⟩ (s_X0_add l dC dI cs ty L s.heap.size F h0 ρ r0 n x_4 hW hL_h0 hT_h0) ⟨callB_of 1 hts (gi kt_13) rfl rfl rfl (hts _ kt_1) (hts _ kt_14) (by decide +kernel) ⟨Nat.le_of_ble_eq_true rfl, Nat.le_of_ble_eq_true rfl⟩, (hts _ kt_15), (hts _ kt_16)⟩ ⟨fun a U g mk q => ⟨q.1, PT.calling q.2⟩, pg_recv hK hP hL_h0 hF_10 (q := (RX0, TX0, 3)) rfl, fun U hU hWm => ⟨rfl, PT.mk hU hWm hP hK hD hE hO⟩⟩ rfl rfl hl.1 rfl (lv_room (Nat.le_of_ble_eq_true rfl)) dX0_addFour_15 ⟨by show _ + 0 ≤ 0; omega, by show _ + 0 ≤ 0; omega⟩) hS (fun q _ h => hFc q h) hFc (fun u t H1 locs ht hvm hw hB hz1 hk1 hS => ?_)
  obtain ⟨F_14, hB1⟩ := hB
  obtain ⟨hP, hD, hO, hR⟩ := QT.back hB1 ht hFc hR (fun q h => by simp only [List.mem_cons, List.not_mem_nil, or_false] at h ⊢; omega)
  generalize H1 = H at hP hS ⊢
  refine lv_iinc (v := 16) (lv' := [(2, .int 16), (0, .ref h0), (1, .int x1)]) hx hb dX0_addFour_18 hl (k := 0) rfl (by decide) (by decide) rfl (fun ls hl => ?_)
  refine lv_goto (tgt := 3) hx hb dX0_addFour_21 (by decide) ?_
  refine lv_iload_n hx hb dX0_addFour_3 rfl (lv_at hl 0 rfl) ?_
  refine lv_if_lt (tgt := 24) hx hb dX0_addFour_4 (by decide) (fun c_15 => absurd c_15 (by decide)) (fun c_15 => ?_)
  refine lv_aload_n hx hb dX0_addFour_7 rfl (lv_at hl 1 rfl) ?_
  refine lv_iload_n hx hb dX0_addFour_8 rfl (lv_at hl 2 rfl) ?_
  refine lv_iload_n hx hb dX0_addFour_9 rfl (lv_at hl 0 rfl) ?_
  refine lv_iushr hx hb dX0_addFour_10 rfl ?_
  refine lv_topi (fun x_17 _ => ?_)
  refine lv_sipush (v := 255) hx hb dX0_addFour_11 (by decide) ?_
  refine lv_iand hx hb dX0_addFour_14 ?_
  refine lv_topi (fun x_18 _ => ?_)
  have hFc := pg_free hD hS hA
  obtain ⟨z_19, o_20, hF_21, hq_22, hq_23⟩ := hO.bytes hL_h0 hT_h0
  refine va_callv (va_runV (As := [.int x_18]) (rest := []) ⟨hx, hb, hml, hown, hts⟩ (s_X0_add l dC dI cs ty L H.size F_14 h0 ρ r0 n x_18 hW hL_h0 hT_h0) ⟨callB_of 1 hts (gi kt_13) rfl rfl rfl (hts _ kt_1) (hts _ kt_14) (by decide +kernel) ⟨Nat.le_of_ble_eq_true rfl, Nat.le_of_ble_eq_true rfl⟩, (hts _ kt_15), (hts _ kt_16)⟩ ⟨fun a U g mk q => ⟨q.1, PT.calling q.2⟩, pg_recv hK hP hL_h0 hF_21 (q := (RX0, TX0, 3)) rfl, fun U hU hWm => ⟨rfl, PT.mk hU hWm hP hK hD hE hO⟩⟩ rfl rfl hl.1 rfl (lv_room (Nat.le_of_ble_eq_true rfl)) dX0_addFour_15 ⟨by show _ + 0 ≤ 0; omega, by show _ + 0 ≤ 0; omega⟩) hS (fun q _ h => hFc q h) hFc (fun u t H1 locs ht hvm hw hB hz1 hk1 hS => ?_)
  obtain ⟨F_25, hB1⟩ := hB
  obtain ⟨hP, hD, hO, hR⟩ := QT.back hB1 ht hFc hR (fun q h => by simp only [List.mem_cons, List.not_mem_nil, or_false] at h ⊢; omega)
  generalize H1 = H at hP hS ⊢
  refine lv_iinc (v := 8) (lv' := [(2, .int 8), (0, .ref h0), (1, .int x1)]) hx hb dX0_addFour_18 hl (k := 0) rfl (by decide) (by decide) rfl (fun ls hl => ?_)
  refine lv_goto (tgt := 3) hx hb dX0_addFour_21 (by decide) ?_
  refine lv_iload_n hx hb dX0_addFour_3 rfl (lv_at hl 0 rfl) ?_
  refine lv_if_lt (tgt := 24) hx hb dX0_addFour_4 (by decide) (fun c_26 => absurd c_26 (by decide)) (fun c_26 => ?_)
  refine lv_aload_n hx hb dX0_addFour_7 rfl (lv_at hl 1 rfl) ?_
  refine lv_iload_n hx hb dX0_addFour_8 rfl (lv_at hl 2 rfl) ?_
  refine lv_iload_n hx hb dX0_addFour_9 rfl (lv_at hl 0 rfl) ?_
  refine lv_iushr hx hb dX0_addFour_10 rfl ?_
  refine lv_topi (fun x_28 _ => ?_)
  refine lv_sipush (v := 255) hx hb dX0_addFour_11 (by decide) ?_
  refine lv_iand hx hb dX0_addFour_14 ?_
  refine lv_topi (fun x_29 _ => ?_)
  have hFc := pg_free hD hS hA
  obtain ⟨z_30, o_31, hF_32, hq_33, hq_34⟩ := hO.bytes hL_h0 hT_h0
  refine va_callv (va_runV (As := [.int x_29]) (rest := []) ⟨hx, hb, hml, hown, hts⟩ (s_X0_add l dC dI cs ty L H.size F_25 h0 ρ r0 n x_29 hW hL_h0 hT_h0) ⟨callB_of 1 hts (gi kt_13) rfl rfl rfl (hts _ kt_1) (hts _ kt_14) (by decide +kernel) ⟨Nat.le_of_ble_eq_true rfl, Nat.le_of_ble_eq_true rfl⟩, (hts _ kt_15), (hts _ kt_16)⟩ ⟨fun a U g mk q => ⟨q.1, PT.calling q.2⟩, pg_recv hK hP hL_h0 hF_32 (q := (RX0, TX0, 3)) rfl, fun U hU hWm => ⟨rfl, PT.mk hU hWm hP hK hD hE hO⟩⟩ rfl rfl hl.1 rfl (lv_room (Nat.le_of_ble_eq_true rfl)) dX0_addFour_15 ⟨by show _ + 0 ≤ 0; omega, by show _ + 0 ≤ 0; omega⟩) hS (fun q _ h => hFc q h) hFc (fun u t H1 locs ht hvm hw hB hz1 hk1 hS => ?_)
  obtain ⟨F_36, hB1⟩ := hB
  obtain ⟨hP, hD, hO, hR⟩ := QT.back hB1 ht hFc hR (fun q h => by simp only [List.mem_cons, List.not_mem_nil, or_false] at h ⊢; omega)
  generalize H1 = H at hP hS ⊢
  refine lv_iinc (v := 0) (lv' := [(2, .int 0), (0, .ref h0), (1, .int x1)]) hx hb dX0_addFour_18 hl (k := 0) rfl (by decide) (by decide) rfl (fun ls hl => ?_)
  refine lv_goto (tgt := 3) hx hb dX0_addFour_21 (by decide) ?_
  refine lv_iload_n hx hb dX0_addFour_3 rfl (lv_at hl 0 rfl) ?_
  refine lv_if_lt (tgt := 24) hx hb dX0_addFour_4 (by decide) (fun c_37 => absurd c_37 (by decide)) (fun c_37 => ?_)
  refine lv_aload_n hx hb dX0_addFour_7 rfl (lv_at hl 1 rfl) ?_
  refine lv_iload_n hx hb dX0_addFour_8 rfl (lv_at hl 2 rfl) ?_
  refine lv_iload_n hx hb dX0_addFour_9 rfl (lv_at hl 0 rfl) ?_
  refine lv_iushr hx hb dX0_addFour_10 rfl ?_
  refine lv_topi (fun x_39 _ => ?_)
  refine lv_sipush (v := 255) hx hb dX0_addFour_11 (by decide) ?_
  refine lv_iand hx hb dX0_addFour_14 ?_
  refine lv_topi (fun x_40 _ => ?_)
  have hFc := pg_free hD hS hA
  obtain ⟨z_41, o_42, hF_43, hq_44, hq_45⟩ := hO.bytes hL_h0 hT_h0
  refine va_callv (va_runV (As := [.int x_40]) (rest := []) ⟨hx, hb, hml, hown, hts⟩ (s_X0_add l dC dI cs ty L H.size F_36 h0 ρ r0 n x_40 hW hL_h0 hT_h0) ⟨callB_of 1 hts (gi kt_13) rfl rfl rfl (hts _ kt_1) (hts _ kt_14) (by decide +kernel) ⟨Nat.le_of_ble_eq_true rfl, Nat.le_of_ble_eq_true rfl⟩, (hts _ kt_15), (hts _ kt_16)⟩ ⟨fun a U g mk q => ⟨q.1, PT.calling q.2⟩, pg_recv hK hP hL_h0 hF_43 (q := (RX0, TX0, 3)) rfl, fun U hU hWm => ⟨rfl, PT.mk hU hWm hP hK hD hE hO⟩⟩ rfl rfl hl.1 rfl (lv_room (Nat.le_of_ble_eq_true rfl)) dX0_addFour_15 ⟨by show _ + 0 ≤ 0; omega, by show _ + 0 ≤ 0; omega⟩) hS (fun q _ h => hFc q h) hFc (fun u t H1 locs ht hvm hw hB hz1 hk1 hS => ?_)
  obtain ⟨F_47, hB1⟩ := hB
  obtain ⟨hP, hD, hO, hR⟩ := QT.back hB1 ht hFc hR (fun q h => by simp only [List.mem_cons, List.not_mem_nil, or_false] at h ⊢; omega)
  generalize H1 = H at hP hS ⊢
  refine lv_iinc (v := (-8)) (lv' := [(2, .int (-8)), (0, .ref h0), (1, .int x1)]) hx hb dX0_addFour_18 hl (k := 0) rfl (by decide) (by decide) rfl (fun ls hl => ?_)
  refine lv_goto (tgt := 3) hx hb dX0_addFour_21 (by decide) ?_
  refine lv_iload_n hx hb dX0_addFour_3 rfl (lv_at hl 0 rfl) ?_
  refine lv_if_lt (tgt := 24) hx hb dX0_addFour_4 (by decide) (fun c_48 => ?_) (fun c_48 => absurd (by decide) c_48)
  refine W.widen (k := 0) (n := 0) (by omega) (by omega) ?_
  exact W.vret hx hb hr (fun t ht hWm => ⟨⟨(), rfl, trivial, ⟨F_47, QT.mk ht hP hD hO hR⟩⟩, hS.F ht⟩) hS.2.2 dX0_addFour_24
set_option maxHeartbeats 4000000 in
set_option maxRecDepth 100000 in
theorem s_X0_find (l : Launch) (dC : Nat → ClassId) (dI : Nat → Nat → Nat) (cs : Nat → ClassId) (ty : TyM) (L : List Nat) (sz : Nat) (F : Nat → va_E) (h0 : Nat) (ρ : Nat) (r0 : Nat) (n : Nat) (x1 : Int32) (x2 : Int32) (x3 : Int32) (hW : WT ty L) (hL_h0 : h0 ∈ L) (hT_h0 : ty h0 = (0, ρ, [r0, n])) : Met l yX0_find (.code yX0_find cX0_find 5 (some .int) :: tb) ({ frames := 1, cells := 0, slots := 0, locals := 21 }) (va_Pc [.ref h0, .int x1, .int x2, .int x3] (PT (dC, dI) cs ty L F sz)) (va_Qi (fun (r : Int32) (_ : Unit) => (r = x3 ∨ ∃ j : Nat, j < n ∧ r = nI j)) (fun _ T9 => ∃ F2 : Nat → va_E, QT (dC, dI) cs ty L [] F F2 (va_A (va_pl L F) sz) T9) (va_A (va_pl L F) sz)) 0 0 (va_A (va_pl L F) sz) := by
  refine Met.ofW (cc := cX0_find) (maxL := 5) (ret := (some .int)) (by decide) rfl ?_
  intro p e s m args below meth c s₁ B hml hv
  obtain ⟨rfl, hsz, hP, hK, hD0, hE, hO⟩ := hv
  have hx := B.exec
  have hb := B.bytes
  have hr := B.returns
  have hts : ∀ w ∈ tb, w.before _ s = true := fun w h => atoms_spec (ws := .code yX0_find cX0_find 5 (some .int) :: tb) B.pre w (List.mem_cons_of_mem _ h)
  have hown : s.vm.findClass RX0 = some m.cls := findClass_of_methodNamed B.named
  have hlocks := B.notSynchronized
  subst hsz
  have hD := hD0.self (sz := s.heap.size)
  generalize hAe : va_A (va_pl L F) s.heap.size = A at hD ⊢
  have hA : ∀ q : Nat, s.heap.size ≤ q → A q := fun q h => by rw [← hAe]; exact Or.inr h
  have hS : va_S A s.heap s.heap [] := va_S.rf
  have hR : FR ty [] F F := FR.refl
  have hl := lv_entry ([.ref h0, .int x1, .int x2, .int x3]) (n := 5) (Nat.le_of_ble_eq_true rfl)
  rw [lg_entry_eq]
  generalize (lg_sl ([.ref h0, .int x1, .int x2, .int x3]) ++ List.replicate (5 - (lg_sl ([.ref h0, .int x1, .int x2, .int x3])).length) Slot.unset).toArray = ls at hl ⊢
  have hl : lv_has ls 5 [(0, .ref h0), (1, .int x1), (2, .int x2), (3, .int x3)] := hl
  refine lv_iconst (v := 0) hx hb dX0_find_0 (by decide) ?_
  refine lv_iload_n hx hb dX0_find_1 rfl (lv_at hl 2 rfl) ?_
  refine va_mmax hx hb (by rw [hml]; exact hl.1.symm) hown (hts _ kt_17) (hts _ kt_18) (hts _ kt_19) (hts _ kt_20) (Nat.le_of_ble_eq_true rfl) (Nat.le_of_ble_eq_true rfl) (by show _ ≤ 0; omega) (by show _ ≤ 0; omega) dX0_find_2 ?_
  obtain ⟨a_1, ha_1, ea_1⟩ := max0 x2
  refine lv_topi (fun x_2 ex_2 => ?_)
  obtain rfl : x_2 = nI a_1 := ex_2.trans ea_1
  refine lv_istore (lv' := [(4, .int (nI a_1)), (0, .ref h0), (1, .int x1), (2, .int x2), (3, .int x3)]) hx hb dX0_find_5 hl (by decide) rfl (fun ls hl => ?_)
  refine W.widen (k := 0) (n := 0) (by omega) (by omega) ?_
  refine pl_loop (σ := Nat) A (dC, dI) cs ty L [] F 7 5 (fun j => [(4, .int (nI j)), (0, .ref h0), (1, .int x1), (2, .int x2), (3, .int x3)]) (fun j => []) (fun j _ => j < 2 ^ 31) (fun j => 10000 - j) ?_ a_1 F (by omega) hO hR _ _ hP hD hS ls (lv_sub hl [0, 1, 2, 3, 4] rfl)
  rintro j F_3 hv_4 hO hR ih_5 H locs hP hD hS ls hl
  have hl : lv_has ls 5 [(4, .int (nI j)), (0, .ref h0), (1, .int x1), (2, .int x2), (3, .int x3)] := hl
  have hv_4 : j < 2 ^ 31 := hv_4
  refine W.eq (g2 := F0 m 7 ls []) rfl ?_
  refine lv_iload hx hb dX0_find_7 (lv_at hl 0 rfl) ?_
  refine lv_iload_n hx hb dX0_find_9 rfl (lv_at hl 4 rfl) ?_
  refine lv_icmp_ge (tgt := 42) hx hb dX0_find_10 (by decide) (fun c_6 => ?_) (fun c_6 => ?_)
  ·
    refine lv_iload_n hx hb dX0_find_42 rfl (lv_at hl 4 rfl) ?_
    refine W.widen (k := 0) (n := 0) (by omega) (by omega) ?_
    exact W.iret (v := x3) hx hb hr (fun t ht hWm => ⟨⟨x3, (), rfl, (Or.inl rfl), ⟨F_3, QT.mk ht hP hD hO hR⟩⟩, hS.F ht⟩) hS.2.2 dX0_find_43
  ·
    refine lv_iload hx hb dX0_find_13 (lv_at hl 0 rfl) ?_
    refine lv_aload_n hx hb dX0_find_15 rfl (lv_at hl 1 rfl) ?_
    obtain ⟨hi_7, ht_8, hq_9⟩ := hW.bytes hL_h0 hT_h0
    obtain ⟨z_10, o_11, hF_12, hq_13, hq_14⟩ := hO.bytes hL_h0 hT_h0
    refine pg_get (ci := 0) (v := .int (nI z_10)) (C := RX0) (T := TX0) (N := 3) hx hb hts it_0 hown hK hP hL_h0 hF_12 rfl 1 (by decide) (hts _ kt_10) (fun _ h9 => h9) rfl dX0_find_16 ?_
    refine lv_icmp_ge (tgt := 42) hx hb dX0_find_19 (by decide) (fun c_15 => ?_) (fun c_15 => ?_)
    ·
      have hi_16 : z_10 ≤ j := leN (N := z_10) c_15
      refine lv_iload_n hx hb dX0_find_42 rfl (lv_at hl 4 rfl) ?_
      refine W.widen (k := 0) (n := 0) (by omega) (by omega) ?_
      exact W.iret (v := x3) hx hb hr (fun t ht hWm => ⟨⟨x3, (), rfl, (Or.inl rfl), ⟨F_3, QT.mk ht hP hD hO hR⟩⟩, hS.F ht⟩) hS.2.2 dX0_find_43
    ·
      have hi_17 : j < z_10 := ltN (N := z_10) c_15
      have hjz : j < z_10 := ltI (by omega) c_15
      refine lv_aload_n hx hb dX0_find_22 rfl (lv_at hl 1 rfl) ?_
      refine pg_get (ci := 0) (v := .ref r0) (C := RX0) (T := TX0) (N := 3) hx hb hts it_0 hown hK hP hL_h0 hF_12 rfl 0 (by decide) (hts _ kt_12) (fun _ h9 => h9) rfl dX0_find_23 ?_
      refine lv_iload hx hb dX0_find_26 (lv_at hl 0 rfl) ?_
      obtain ⟨f_18, hF_19⟩ := hO.ints hi_7 ht_8
      refine pg_iald hx hb hK hP hi_7 0 hF_19 rfl (vp_in_nI (by omega) (by omega)) dX0_find_28 ?_
      refine lv_topi (fun x_20 _ => ?_)
      refine lv_iload_n hx hb dX0_find_29 rfl (lv_at hl 2 rfl) ?_
      refine lv_icmp_ne (tgt := 36) hx hb dX0_find_30 (by decide) (fun c_21 => ?_) (fun c_21 => ?_)
      ·
        refine lv_iinc (v := (nI (j + 1))) (lv' := [(4, .int (nI (j + 1))), (0, .ref h0), (1, .int x1), (2, .int x2), (3, .int x3)]) hx hb dX0_find_36 hl (k := 0) rfl (nI_1 _) (by decide) rfl (fun ls hl => ?_)
        refine lv_goto (tgt := 7) hx hb dX0_find_39 (by decide) ?_
        refine W.widen (k := 0) (n := 0) (by omega) (by omega) ?_
        exact ih_5 (j + 1) F_3 (by first | omega | exact ⟨by omega, by omega⟩ | trivial) (by show 10000 - (j + 1) < 10000 - j; omega) hO hR _ _ hP hD hS ls (lv_sub hl [0, 1, 2, 3, 4] rfl)
      ·
        refine lv_iload hx hb dX0_find_33 (lv_at hl 0 rfl) ?_
        refine W.widen (k := 0) (n := 0) (by omega) (by omega) ?_
        exact W.iret (v := (nI j)) hx hb hr (fun t ht hWm => ⟨⟨(nI j), (), rfl, (Or.inr ⟨j, by omega, rfl⟩), ⟨F_3, QT.mk ht hP hD hO hR⟩⟩, hS.F ht⟩) hS.2.2 dX0_find_35
set_option maxHeartbeats 4000000 in
set_option maxRecDepth 100000 in
theorem s_X0_findLast (l : Launch) (dC : Nat → ClassId) (dI : Nat → Nat → Nat) (cs : Nat → ClassId) (ty : TyM) (L : List Nat) (sz : Nat) (F : Nat → va_E) (h0 : Nat) (ρ : Nat) (r0 : Nat) (n : Nat) (x1 : Int32) (x2 : Int32) (x3 : Int32) (hW : WT ty L) (hL_h0 : h0 ∈ L) (hT_h0 : ty h0 = (0, ρ, [r0, n])) (hs0 : ¬ x2 < 0) : Met l yX0_findLast (.code yX0_findLast cX0_findLast 5 (some .int) :: tb) ({ frames := 1, cells := 0, slots := 0, locals := 21 }) (va_Pc [.ref h0, .int x1, .int x2, .int x3] (PT (dC, dI) cs ty L F sz)) (va_Qi (fun (r : Int32) (_ : Unit) => True) (fun _ T9 => ∃ F2 : Nat → va_E, QT (dC, dI) cs ty L [] F F2 (va_A (va_pl L F) sz) T9) (va_A (va_pl L F) sz)) 0 0 (va_A (va_pl L F) sz) := by
  refine Met.ofW (cc := cX0_findLast) (maxL := 5) (ret := (some .int)) (by decide) rfl ?_
  intro p e s m args below meth c s₁ B hml hv
  obtain ⟨rfl, hsz, hP, hK, hD0, hE, hO⟩ := hv
  have hx := B.exec
  have hb := B.bytes
  have hr := B.returns
  have hts : ∀ w ∈ tb, w.before _ s = true := fun w h => atoms_spec (ws := .code yX0_findLast cX0_findLast 5 (some .int) :: tb) B.pre w (List.mem_cons_of_mem _ h)
  have hown : s.vm.findClass RX0 = some m.cls := findClass_of_methodNamed B.named
  have hlocks := B.notSynchronized
  subst hsz
  have hD := hD0.self (sz := s.heap.size)
  generalize hAe : va_A (va_pl L F) s.heap.size = A at hD ⊢
  have hA : ∀ q : Nat, s.heap.size ≤ q → A q := fun q h => by rw [← hAe]; exact Or.inr h
  have hS : va_S A s.heap s.heap [] := va_S.rf
  have hR : FR ty [] F F := FR.refl
  have hl := lv_entry ([.ref h0, .int x1, .int x2, .int x3]) (n := 5) (Nat.le_of_ble_eq_true rfl)
  rw [lg_entry_eq]
  generalize (lg_sl ([.ref h0, .int x1, .int x2, .int x3]) ++ List.replicate (5 - (lg_sl ([.ref h0, .int x1, .int x2, .int x3])).length) Slot.unset).toArray = ls at hl ⊢
  have hl : lv_has ls 5 [(0, .ref h0), (1, .int x1), (2, .int x2), (3, .int x3)] := hl
  refine lv_iload_n hx hb dX0_findLast_0 rfl (lv_at hl 3 rfl) ?_
  refine lv_iconst (v := 1) hx hb dX0_findLast_1 (by decide) ?_
  refine lv_isub hx hb dX0_findLast_2 ?_
  refine lv_topi (fun x_1 _ => ?_)
  refine lv_istore (lv' := [(4, .int x_1), (0, .ref h0), (1, .int x1), (2, .int x2), (3, .int x3)]) hx hb dX0_findLast_3 hl (by decide) rfl (fun ls hl => ?_)
  refine W.widen (k := 0) (n := 0) (by omega) (by omega) ?_
  refine pl_loop (σ := Int32) A (dC, dI) cs ty L [] F 5 5 (fun i1 => [(4, .int i1), (0, .ref h0), (1, .int x1), (2, .int x2), (3, .int x3)]) (fun i1 => []) (fun i1 _ => True) (fun i1 => (i1.toInt - x2.toInt + 1).toNat) ?_ x_1 F (trivial) hO hR _ _ hP hD hS ls (lv_sub hl [0, 1, 2, 3, 4] rfl)
  rintro i1 F_2 hv_3 hO hR ih_4 H locs hP hD hS ls hl
  have hl : lv_has ls 5 [(4, .int i1), (0, .ref h0), (1, .int x1), (2, .int x2), (3, .int x3)] := hl
  have hv_3 : True := hv_3
  refine W.eq (g2 := F0 m 5 ls []) rfl ?_
  refine lv_iload hx hb dX0_findLast_5 (lv_at hl 0 rfl) ?_
  refine lv_iload_n hx hb dX0_findLast_7 rfl (lv_at hl 3 rfl) ?_
  refine lv_icmp_lt (tgt := 30) hx hb dX0_findLast_8 (by decide) (fun c_5 => ?_) (fun c_5 => ?_)
  ·
    refine lv_iload_n hx hb dX0_findLast_30 rfl (lv_at hl 3 rfl) ?_
    refine lv_iconst (v := 1) hx hb dX0_findLast_31 (by decide) ?_
    refine lv_isub hx hb dX0_findLast_32 ?_
    refine lv_topi (fun x_6 _ => ?_)
    refine W.widen (k := 0) (n := 0) (by omega) (by omega) ?_
    exact W.iret (v := x_6) hx hb hr (fun t ht hWm => ⟨⟨x_6, (), rfl, trivial, ⟨F_2, QT.mk ht hP hD hO hR⟩⟩, hS.F ht⟩) hS.2.2 dX0_findLast_33
  ·
    refine lv_aload_n hx hb dX0_findLast_11 rfl (lv_at hl 1 rfl) ?_
    refine lv_iload hx hb dX0_findLast_12 (lv_at hl 0 rfl) ?_
    have hFc := pg_free hD hS hA
    obtain ⟨hi_7, ht_8, hq_9⟩ := hW.bytes hL_h0 hT_h0
    obtain ⟨z_10, o_11, hF_12, hq_13, hq_14⟩ := hO.bytes hL_h0 hT_h0
    refine va_calli (va_runV (As := [.int i1]) (rest := []) ⟨hx, hb, hml, hown, hts⟩ (s_X0_at l dC dI cs ty L H.size F_2 h0 ρ r0 n i1 hW hL_h0 hT_h0) ⟨callB_of 1 hts (gi kt_21) rfl rfl rfl (hts _ kt_1) (hts _ kt_22) (by decide +kernel) ⟨Nat.le_of_ble_eq_true rfl, Nat.le_of_ble_eq_true rfl⟩, (hts _ kt_23), (hts _ kt_24)⟩ ⟨fun a U g mk q => ⟨q.1, PT.calling q.2⟩, pg_recv hK hP hL_h0 hF_12 (q := (RX0, TX0, 3)) rfl, fun U hU hWm => ⟨rfl, PT.mk hU hWm hP hK hD hE hO⟩⟩ rfl rfl hl.1 rfl (lv_room (Nat.le_of_ble_eq_true rfl)) dX0_findLast_14 ⟨by show _ + 0 ≤ 0; omega, by show _ + 0 ≤ 0; omega⟩) hS (fun q _ h => hFc q h) hFc (fun r_15 u t H1 locs ht hvm hw hB hz1 hk1 hS => ?_)
    obtain ⟨F_16, hB1⟩ := hB
    obtain ⟨hP, hD, hO, hR⟩ := QT.back hB1 ht hFc hR (fun q h => absurd h List.not_mem_nil)
    have hF_17 : F_16 h0 = .inr (0, [.ref r0, .int (nI z_10), .int o_11]) := (hB1.2.2.2 h0 List.not_mem_nil).trans hF_12
    generalize H1 = H at hP hS ⊢
    have hw : True := hw
    have hw_18 := hw
    refine lv_iload_n hx hb dX0_findLast_17 rfl (lv_at hl 2 rfl) ?_
    refine lv_icmp_ne (tgt := 24) hx hb dX0_findLast_18 (by decide) (fun c_19 => ?_) (fun c_19 => ?_)
    ·
      obtain ⟨x_20, ex_20⟩ : ∃ y : Int32, y = i1 + Int32.ofInt (-1) := ⟨_, rfl⟩
      refine lv_iinc (v := x_20) (lv' := [(4, .int x_20), (0, .ref h0), (1, .int x1), (2, .int x2), (3, .int x3)]) hx hb dX0_findLast_24 hl (k := 0) rfl (ex_20.symm) (by decide) rfl (fun ls hl => ?_)
      refine lv_goto (tgt := 5) hx hb dX0_findLast_27 (by decide) ?_
      refine W.widen (k := 0) (n := 0) (by omega) (by omega) ?_
      exact ih_4 x_20 F_16 (trivial) (by show (x_20.toInt - x2.toInt + 1).toNat < (i1.toInt - x2.toInt + 1).toNat; exact decN ex_20 c_5 hs0) hO hR _ _ hP hD hS ls (lv_sub hl [0, 1, 2, 3, 4] rfl)
    ·
      refine lv_iload hx hb dX0_findLast_21 (lv_at hl 0 rfl) ?_
      refine W.widen (k := 0) (n := 0) (by omega) (by omega) ?_
      exact W.iret (v := i1) hx hb hr (fun t ht hWm => ⟨⟨i1, (), rfl, trivial, ⟨F_16, QT.mk ht hP hD hO hR⟩⟩, hS.F ht⟩) hS.2.2 dX0_findLast_23
set_option maxHeartbeats 4000000 in
set_option maxRecDepth 100000 in
theorem s_X0_partStart (l : Launch) (dC : Nat → ClassId) (dI : Nat → Nat → Nat) (cs : Nat → ClassId) (ty : TyM) (L : List Nat) (sz : Nat) (F : Nat → va_E) (h0 : Nat) (ρ : Nat) (r0 : Nat) (n : Nat) (x1 : Int32) (hW : WT ty L) (hL_h0 : h0 ∈ L) (hT_h0 : ty h0 = (0, ρ, [r0, n])) : Met l yX0_partStart (.code yX0_partStart cX0_partStart 4 (some .int) :: tb) ({ frames := 0, cells := 0, slots := 0, locals := 0 }) (va_Pc [.ref h0, .int x1] (PT (dC, dI) cs ty L F sz)) (va_Qi (fun (r : Int32) (_ : Unit) => True) (fun _ T9 => ∃ F2 : Nat → va_E, QT (dC, dI) cs ty L [] F F2 (va_A (va_pl L F) sz) T9) (va_A (va_pl L F) sz)) 0 0 (va_A (va_pl L F) sz) := by
  refine Met.ofW (cc := cX0_partStart) (maxL := 4) (ret := (some .int)) (by decide) rfl ?_
  intro p e s m args below meth c s₁ B hml hv
  obtain ⟨rfl, hsz, hP, hK, hD0, hE, hO⟩ := hv
  have hx := B.exec
  have hb := B.bytes
  have hr := B.returns
  have hts : ∀ w ∈ tb, w.before _ s = true := fun w h => atoms_spec (ws := .code yX0_partStart cX0_partStart 4 (some .int) :: tb) B.pre w (List.mem_cons_of_mem _ h)
  have hown : s.vm.findClass RX0 = some m.cls := findClass_of_methodNamed B.named
  have hlocks := B.notSynchronized
  subst hsz
  have hD := hD0.self (sz := s.heap.size)
  generalize hAe : va_A (va_pl L F) s.heap.size = A at hD ⊢
  have hA : ∀ q : Nat, s.heap.size ≤ q → A q := fun q h => by rw [← hAe]; exact Or.inr h
  have hS : va_S A s.heap s.heap [] := va_S.rf
  have hR : FR ty [] F F := FR.refl
  have hl := lv_entry ([.ref h0, .int x1]) (n := 4) (Nat.le_of_ble_eq_true rfl)
  rw [lg_entry_eq]
  generalize (lg_sl ([.ref h0, .int x1]) ++ List.replicate (4 - (lg_sl ([.ref h0, .int x1])).length) Slot.unset).toArray = ls at hl ⊢
  have hl : lv_has ls 4 [(0, .ref h0), (1, .int x1)] := hl
  refine lv_iload_n hx hb dX0_partStart_0 rfl (lv_at hl 1 rfl) ?_
  refine lv_istore_n (lv' := [(2, .int x1), (0, .ref h0), (1, .int x1)]) hx hb dX0_partStart_1 rfl hl (by decide) rfl (fun ls hl => ?_)
  refine lv_iconst (v := 0) hx hb dX0_partStart_2 (by decide) ?_
  refine lv_istore_n (lv' := [(3, .int 0), (2, .int x1), (0, .ref h0), (1, .int x1)]) hx hb dX0_partStart_3 rfl hl (by decide) rfl (fun ls hl => ?_)
  refine W.widen (k := 0) (n := 0) (by omega) (by omega) ?_
  refine pl_loop (σ := Nat × Int32) A (dC, dI) cs ty L [] F 4 4 (fun (j, v1) => [(3, .int (nI j)), (2, .int v1), (0, .ref h0), (1, .int x1)]) (fun (j, v1) => []) (fun (j, v1) _ => j ≤ 10000) (fun (j, v1) => 10000 - j) ?_ (0, x1) F (by omega) hO hR _ _ hP hD hS ls (lv_sub hl [0, 1, 2, 3] rfl)
  rintro ⟨j, v1⟩ F_1 hv_2 hO hR ih_3 H locs hP hD hS ls hl
  have hl : lv_has ls 4 [(3, .int (nI j)), (2, .int v1), (0, .ref h0), (1, .int x1)] := hl
  have hv_2 : j ≤ 10000 := hv_2
  refine W.eq (g2 := F0 m 4 ls []) rfl ?_
  refine lv_iload_n hx hb dX0_partStart_4 rfl (lv_at hl 0 rfl) ?_
  refine lv_aload_n hx hb dX0_partStart_5 rfl (lv_at hl 2 rfl) ?_
  obtain ⟨hi_4, ht_5, hq_6⟩ := hW.bytes hL_h0 hT_h0
  obtain ⟨z_7, o_8, hF_9, hq_10, hq_11⟩ := hO.bytes hL_h0 hT_h0
  refine pg_get (ci := 0) (v := .int (nI z_7)) (C := RX0) (T := TX0) (N := 3) hx hb hts it_0 hown hK hP hL_h0 hF_9 rfl 1 (by decide) (hts _ kt_10) (fun _ h9 => h9) rfl dX0_partStart_6 ?_
  refine lv_icmp_ge (tgt := 49) hx hb dX0_partStart_9 (by decide) (fun c_12 => ?_) (fun c_12 => ?_)
  ·
    have hi_13 : z_7 ≤ j := leN (N := z_7) c_12
    refine lv_iconst (v := 0) hx hb dX0_partStart_49 (by decide) ?_
    refine W.widen (k := 0) (n := 0) (by omega) (by omega) ?_
    exact W.iret (v := 0) hx hb hr (fun t ht hWm => ⟨⟨0, (), rfl, trivial, ⟨F_1, QT.mk ht hP hD hO hR⟩⟩, hS.F ht⟩) hS.2.2 dX0_partStart_50
  ·
    have hi_14 : j < z_7 := ltN (N := z_7) c_12
    have hjz : j < z_7 := ltI (by omega) c_12
    refine lv_iload_n hx hb dX0_partStart_12 rfl (lv_at hl 1 rfl) ?_
    refine lv_if_le (tgt := 49) hx hb dX0_partStart_13 (by decide) (fun c_15 => ?_) (fun c_15 => ?_)
    ·
      refine lv_iconst (v := 0) hx hb dX0_partStart_49 (by decide) ?_
      refine W.widen (k := 0) (n := 0) (by omega) (by omega) ?_
      exact W.iret (v := 0) hx hb hr (fun t ht hWm => ⟨⟨0, (), rfl, trivial, ⟨F_1, QT.mk ht hP hD hO hR⟩⟩, hS.F ht⟩) hS.2.2 dX0_partStart_50
    ·
      refine lv_iload_n hx hb dX0_partStart_16 rfl (lv_at hl 1 rfl) ?_
      refine lv_aload_n hx hb dX0_partStart_17 rfl (lv_at hl 2 rfl) ?_
      refine pg_get (ci := 0) (v := .ref r0) (C := RX0) (T := TX0) (N := 3) hx hb hts it_0 hown hK hP hL_h0 hF_9 rfl 0 (by decide) (hts _ kt_12) (fun _ h9 => h9) rfl dX0_partStart_18 ?_
      refine lv_iload_n hx hb dX0_partStart_21 rfl (lv_at hl 0 rfl) ?_
      obtain ⟨f_16, hF_17⟩ := hO.ints hi_4 ht_5
      refine pg_iald hx hb hK hP hi_4 0 hF_17 rfl (vp_in_nI (by omega) (by omega)) dX0_partStart_22 ?_
      refine lv_topi (fun x_18 _ => ?_)
      refine lv_bipush (v := 46) hx hb dX0_partStart_23 (by decide) ?_
      refine lv_icmp_ne (tgt := 32) hx hb dX0_partStart_25 (by decide) (fun c_19 => ?_) (fun c_19 => ?_)
      ·
        refine lv_iconst (v := 0) hx hb dX0_partStart_32 (by decide) ?_
        refine lv_isub hx hb dX0_partStart_33 ?_
        refine lv_topi (fun x_20 _ => ?_)
        refine lv_istore_n (lv' := [(2, .int x_20), (3, .int (nI j)), (0, .ref h0), (1, .int x1)]) hx hb dX0_partStart_34 rfl hl (by decide) rfl (fun ls hl => ?_)
        refine lv_iload_n hx hb dX0_partStart_35 rfl (lv_at hl 0 rfl) ?_
        refine lv_if_ne (tgt := 43) hx hb dX0_partStart_36 (by decide) (fun c_21 => ?_) (fun c_21 => ?_)
        ·
          refine lv_iinc (v := (nI (j + 1))) (lv' := [(3, .int (nI (j + 1))), (2, .int x_20), (0, .ref h0), (1, .int x1)]) hx hb dX0_partStart_43 hl (k := 1) rfl (nI_1 _) (by decide) rfl (fun ls hl => ?_)
          refine lv_goto (tgt := 4) hx hb dX0_partStart_46 (by decide) ?_
          refine W.widen (k := 0) (n := 0) (by omega) (by omega) ?_
          exact ih_3 ((j + 1), x_20) F_1 (by first | omega | exact ⟨by omega, by omega⟩ | trivial) (by show 10000 - (j + 1) < 10000 - j; omega) hO hR _ _ hP hD hS ls (lv_sub hl [0, 1, 2, 3] rfl)
        ·
          refine lv_iload_n hx hb dX0_partStart_39 rfl (lv_at hl 1 rfl) ?_
          refine lv_iconst (v := 1) hx hb dX0_partStart_40 (by decide) ?_
          refine lv_iadd hx hb dX0_partStart_41 ?_
          refine lv_topi (fun x_22 _ => ?_)
          refine W.widen (k := 0) (n := 0) (by omega) (by omega) ?_
          exact W.iret (v := x_22) hx hb hr (fun t ht hWm => ⟨⟨x_22, (), rfl, trivial, ⟨F_1, QT.mk ht hP hD hO hR⟩⟩, hS.F ht⟩) hS.2.2 dX0_partStart_42
      ·
        refine lv_iconst (v := 1) hx hb dX0_partStart_28 (by decide) ?_
        refine lv_goto (tgt := 33) hx hb dX0_partStart_29 (by decide) ?_
        refine lv_isub hx hb dX0_partStart_33 ?_
        refine lv_topi (fun x_23 _ => ?_)
        refine lv_istore_n (lv' := [(2, .int x_23), (3, .int (nI j)), (0, .ref h0), (1, .int x1)]) hx hb dX0_partStart_34 rfl hl (by decide) rfl (fun ls hl => ?_)
        refine lv_iload_n hx hb dX0_partStart_35 rfl (lv_at hl 0 rfl) ?_
        refine lv_if_ne (tgt := 43) hx hb dX0_partStart_36 (by decide) (fun c_24 => ?_) (fun c_24 => ?_)
        ·
          refine lv_iinc (v := (nI (j + 1))) (lv' := [(3, .int (nI (j + 1))), (2, .int x_23), (0, .ref h0), (1, .int x1)]) hx hb dX0_partStart_43 hl (k := 1) rfl (nI_1 _) (by decide) rfl (fun ls hl => ?_)
          refine lv_goto (tgt := 4) hx hb dX0_partStart_46 (by decide) ?_
          refine W.widen (k := 0) (n := 0) (by omega) (by omega) ?_
          exact ih_3 ((j + 1), x_23) F_1 (by first | omega | exact ⟨by omega, by omega⟩ | trivial) (by show 10000 - (j + 1) < 10000 - j; omega) hO hR _ _ hP hD hS ls (lv_sub hl [0, 1, 2, 3] rfl)
        ·
          refine lv_iload_n hx hb dX0_partStart_39 rfl (lv_at hl 1 rfl) ?_
          refine lv_iconst (v := 1) hx hb dX0_partStart_40 (by decide) ?_
          refine lv_iadd hx hb dX0_partStart_41 ?_
          refine lv_topi (fun x_25 _ => ?_)
          refine W.widen (k := 0) (n := 0) (by omega) (by omega) ?_
          exact W.iret (v := x_25) hx hb hr (fun t ht hWm => ⟨⟨x_25, (), rfl, trivial, ⟨F_1, QT.mk ht hP hD hO hR⟩⟩, hS.F ht⟩) hS.2.2 dX0_partStart_42
set_option maxHeartbeats 4000000 in
set_option maxRecDepth 100000 in
theorem s_X0_sixOf (l : Launch) (dC : Nat → ClassId) (dI : Nat → Nat → Nat) (cs : Nat → ClassId) (ty : TyM) (L : List Nat) (sz : Nat) (F : Nat → va_E) (x1 : Int32) (hW : WT ty L) : Met l yX0_sixOf (.code yX0_sixOf cX0_sixOf 1 (some .int) :: tb) ({ frames := 1, cells := 0, slots := 0, locals := 20 }) (va_Pc [.int x1] (PT (dC, dI) cs ty L F sz)) (va_Qi (fun (r : Int32) (_ : Unit) => True) (fun _ T9 => ∃ F2 : Nat → va_E, QT (dC, dI) cs ty L [] F F2 (va_A (va_pl L F) sz) T9) (va_A (va_pl L F) sz)) 0 0 (va_A (va_pl L F) sz) := by
  refine Met.ofW (cc := cX0_sixOf) (maxL := 1) (ret := (some .int)) (by decide) rfl ?_
  intro p e s m args below meth c s₁ B hml hv
  obtain ⟨rfl, hsz, hP, hK, hD0, hE, hO⟩ := hv
  have hx := B.exec
  have hb := B.bytes
  have hr := B.returns
  have hts : ∀ w ∈ tb, w.before _ s = true := fun w h => atoms_spec (ws := .code yX0_sixOf cX0_sixOf 1 (some .int) :: tb) B.pre w (List.mem_cons_of_mem _ h)
  have hown : s.vm.findClass RX0 = some m.cls := findClass_of_methodNamed B.named
  have hlocks := B.notSynchronized
  subst hsz
  have hD := hD0.self (sz := s.heap.size)
  generalize hAe : va_A (va_pl L F) s.heap.size = A at hD ⊢
  have hA : ∀ q : Nat, s.heap.size ≤ q → A q := fun q h => by rw [← hAe]; exact Or.inr h
  have hS : va_S A s.heap s.heap [] := va_S.rf
  have hR : FR ty [] F F := FR.refl
  have hl := lv_entry ([.int x1]) (n := 1) (Nat.le_of_ble_eq_true rfl)
  rw [lg_entry_eq]
  generalize (lg_sl ([.int x1]) ++ List.replicate (1 - (lg_sl ([.int x1])).length) Slot.unset).toArray = ls at hl ⊢
  have hl : lv_has ls 1 [(0, .int x1)] := hl
  refine lv_iload_n hx hb dX0_sixOf_0 rfl (lv_at hl 0 rfl) ?_
  refine lv_bipush (v := 65) hx hb dX0_sixOf_1 (by decide) ?_
  refine lv_icmp_lt (tgt := 17) hx hb dX0_sixOf_3 (by decide) (fun c_1 => ?_) (fun c_1 => ?_)
  ·
    refine lv_iload_n hx hb dX0_sixOf_17 rfl (lv_at hl 0 rfl) ?_
    have hFc := pg_free hD hS hA
    refine va_calli (va_runS (As := [.int x1]) (rest := []) ⟨hx, hb, hml, hown, hts⟩ (s_X0_isSmall l dC dI cs ty L s.heap.size F x1 hW ) ⟨callB_of 1 hts (gi kt_4) rfl rfl rfl (hts _ kt_1) (hts _ kt_5) (by decide +kernel) ⟨Nat.le_of_ble_eq_true rfl, Nat.le_of_ble_eq_true rfl⟩, (hts _ kt_6)⟩ ⟨fun a U g mk q => ⟨q.1, PT.calling q.2⟩, fun U hU hWm => ⟨rfl, PT.mk hU hWm hP hK hD hE hO⟩⟩ rfl rfl hl.1 rfl (lv_room (Nat.le_of_ble_eq_true rfl)) dX0_sixOf_18 ⟨by show _ + 0 ≤ 0; omega, by show _ + 0 ≤ 0; omega⟩) hS (fun q _ h => hFc q h) hFc (fun r_2 u t H1 locs ht hvm hw hB hz1 hk1 hS => ?_)
    obtain ⟨F_3, hB1⟩ := hB
    obtain ⟨hP, hD, hO, hR⟩ := QT.back hB1 ht hFc hR (fun q h => absurd h List.not_mem_nil)
    generalize H1 = H at hP hS ⊢
    have hw : (r_2 = 0 ∨ r_2 = 1) := hw
    have hw_4 := hw
    refine lv_if_eq (tgt := 32) hx hb dX0_sixOf_21 (by decide) (fun c_5 => ?_) (fun c_5 => ?_)
    ·
      refine lv_iload_n hx hb dX0_sixOf_32 rfl (lv_at hl 0 rfl) ?_
      have hFc := pg_free hD hS hA
      refine va_calli (va_runS (As := [.int x1]) (rest := []) ⟨hx, hb, hml, hown, hts⟩ (s_X0_isDigit l dC dI cs ty L H.size F_3 x1 hW ) ⟨callB_of 1 hts (gi kt_7) rfl rfl rfl (hts _ kt_1) (hts _ kt_8) (by decide +kernel) ⟨Nat.le_of_ble_eq_true rfl, Nat.le_of_ble_eq_true rfl⟩, (hts _ kt_9)⟩ ⟨fun a U g mk q => ⟨q.1, PT.calling q.2⟩, fun U hU hWm => ⟨rfl, PT.mk hU hWm hP hK hD hE hO⟩⟩ rfl rfl hl.1 rfl (lv_room (Nat.le_of_ble_eq_true rfl)) dX0_sixOf_33 ⟨by show _ + 0 ≤ 0; omega, by show _ + 0 ≤ 0; omega⟩) hS (fun q _ h => hFc q h) hFc (fun r_6 u t H1 locs ht hvm hw hB hz1 hk1 hS => ?_)
      obtain ⟨F_7, hB1⟩ := hB
      obtain ⟨hP, hD, hO, hR⟩ := QT.back hB1 ht hFc hR (fun q h => absurd h List.not_mem_nil)
      generalize H1 = H at hP hS ⊢
      have hw : (r_6 = 0 ∨ r_6 = 1) := hw
      have hw_8 := hw
      refine lv_if_eq (tgt := 47) hx hb dX0_sixOf_36 (by decide) (fun c_9 => ?_) (fun c_9 => ?_)
      ·
        refine lv_iload_n hx hb dX0_sixOf_47 rfl (lv_at hl 0 rfl) ?_
        refine lv_bipush (v := 43) hx hb dX0_sixOf_48 (by decide) ?_
        refine lv_icmp_ne (tgt := 58) hx hb dX0_sixOf_50 (by decide) (fun c_10 => ?_) (fun c_10 => ?_)
        ·
          refine lv_iload_n hx hb dX0_sixOf_58 rfl (lv_at hl 0 rfl) ?_
          refine lv_bipush (v := 47) hx hb dX0_sixOf_59 (by decide) ?_
          refine lv_icmp_ne (tgt := 69) hx hb dX0_sixOf_61 (by decide) (fun c_11 => ?_) (fun c_11 => ?_)
          ·
            refine lv_iconst (v := (-1)) hx hb dX0_sixOf_69 (by decide) ?_
            refine W.widen (k := 0) (n := 0) (by omega) (by omega) ?_
            exact W.iret (v := (-1)) hx hb hr (fun t ht hWm => ⟨⟨(-1), (), rfl, trivial, ⟨F_7, QT.mk ht hP hD hO hR⟩⟩, hS.F ht⟩) hS.2.2 dX0_sixOf_70
          ·
            refine lv_bipush (v := 63) hx hb dX0_sixOf_64 (by decide) ?_
            refine lv_goto (tgt := 70) hx hb dX0_sixOf_66 (by decide) ?_
            refine W.widen (k := 0) (n := 0) (by omega) (by omega) ?_
            exact W.iret (v := 63) hx hb hr (fun t ht hWm => ⟨⟨63, (), rfl, trivial, ⟨F_7, QT.mk ht hP hD hO hR⟩⟩, hS.F ht⟩) hS.2.2 dX0_sixOf_70
        ·
          refine lv_bipush (v := 62) hx hb dX0_sixOf_53 (by decide) ?_
          refine lv_goto (tgt := 70) hx hb dX0_sixOf_55 (by decide) ?_
          refine W.widen (k := 0) (n := 0) (by omega) (by omega) ?_
          exact W.iret (v := 62) hx hb hr (fun t ht hWm => ⟨⟨62, (), rfl, trivial, ⟨F_7, QT.mk ht hP hD hO hR⟩⟩, hS.F ht⟩) hS.2.2 dX0_sixOf_70
      ·
        refine lv_iload_n hx hb dX0_sixOf_39 rfl (lv_at hl 0 rfl) ?_
        refine lv_bipush (v := 48) hx hb dX0_sixOf_40 (by decide) ?_
        refine lv_isub hx hb dX0_sixOf_42 ?_
        refine lv_topi (fun x_12 _ => ?_)
        refine lv_bipush (v := 52) hx hb dX0_sixOf_43 (by decide) ?_
        refine lv_iadd hx hb dX0_sixOf_45 ?_
        refine lv_topi (fun x_13 _ => ?_)
        refine W.widen (k := 0) (n := 0) (by omega) (by omega) ?_
        exact W.iret (v := x_13) hx hb hr (fun t ht hWm => ⟨⟨x_13, (), rfl, trivial, ⟨F_7, QT.mk ht hP hD hO hR⟩⟩, hS.F ht⟩) hS.2.2 dX0_sixOf_46
    ·
      refine lv_iload_n hx hb dX0_sixOf_24 rfl (lv_at hl 0 rfl) ?_
      refine lv_bipush (v := 97) hx hb dX0_sixOf_25 (by decide) ?_
      refine lv_isub hx hb dX0_sixOf_27 ?_
      refine lv_topi (fun x_14 _ => ?_)
      refine lv_bipush (v := 26) hx hb dX0_sixOf_28 (by decide) ?_
      refine lv_iadd hx hb dX0_sixOf_30 ?_
      refine lv_topi (fun x_15 _ => ?_)
      refine W.widen (k := 0) (n := 0) (by omega) (by omega) ?_
      exact W.iret (v := x_15) hx hb hr (fun t ht hWm => ⟨⟨x_15, (), rfl, trivial, ⟨F_3, QT.mk ht hP hD hO hR⟩⟩, hS.F ht⟩) hS.2.2 dX0_sixOf_31
  ·
    refine lv_iload_n hx hb dX0_sixOf_6 rfl (lv_at hl 0 rfl) ?_
    refine lv_bipush (v := 90) hx hb dX0_sixOf_7 (by decide) ?_
    refine lv_icmp_gt (tgt := 17) hx hb dX0_sixOf_9 (by decide) (fun c_16 => ?_) (fun c_16 => ?_)
    ·
      refine lv_iload_n hx hb dX0_sixOf_17 rfl (lv_at hl 0 rfl) ?_
      have hFc := pg_free hD hS hA
      refine va_calli (va_runS (As := [.int x1]) (rest := []) ⟨hx, hb, hml, hown, hts⟩ (s_X0_isSmall l dC dI cs ty L s.heap.size F x1 hW ) ⟨callB_of 1 hts (gi kt_4) rfl rfl rfl (hts _ kt_1) (hts _ kt_5) (by decide +kernel) ⟨Nat.le_of_ble_eq_true rfl, Nat.le_of_ble_eq_true rfl⟩, (hts _ kt_6)⟩ ⟨fun a U g mk q => ⟨q.1, PT.calling q.2⟩, fun U hU hWm => ⟨rfl, PT.mk hU hWm hP hK hD hE hO⟩⟩ rfl rfl hl.1 rfl (lv_room (Nat.le_of_ble_eq_true rfl)) dX0_sixOf_18 ⟨by show _ + 0 ≤ 0; omega, by show _ + 0 ≤ 0; omega⟩) hS (fun q _ h => hFc q h) hFc (fun r_17 u t H1 locs ht hvm hw hB hz1 hk1 hS => ?_)
      obtain ⟨F_18, hB1⟩ := hB
      obtain ⟨hP, hD, hO, hR⟩ := QT.back hB1 ht hFc hR (fun q h => absurd h List.not_mem_nil)
      generalize H1 = H at hP hS ⊢
      have hw : (r_17 = 0 ∨ r_17 = 1) := hw
      have hw_19 := hw
      refine lv_if_eq (tgt := 32) hx hb dX0_sixOf_21 (by decide) (fun c_20 => ?_) (fun c_20 => ?_)
      ·
        refine lv_iload_n hx hb dX0_sixOf_32 rfl (lv_at hl 0 rfl) ?_
        have hFc := pg_free hD hS hA
        refine va_calli (va_runS (As := [.int x1]) (rest := []) ⟨hx, hb, hml, hown, hts⟩ (s_X0_isDigit l dC dI cs ty L H.size F_18 x1 hW ) ⟨callB_of 1 hts (gi kt_7) rfl rfl rfl (hts _ kt_1) (hts _ kt_8) (by decide +kernel) ⟨Nat.le_of_ble_eq_true rfl, Nat.le_of_ble_eq_true rfl⟩, (hts _ kt_9)⟩ ⟨fun a U g mk q => ⟨q.1, PT.calling q.2⟩, fun U hU hWm => ⟨rfl, PT.mk hU hWm hP hK hD hE hO⟩⟩ rfl rfl hl.1 rfl (lv_room (Nat.le_of_ble_eq_true rfl)) dX0_sixOf_33 ⟨by show _ + 0 ≤ 0; omega, by show _ + 0 ≤ 0; omega⟩) hS (fun q _ h => hFc q h) hFc (fun r_21 u t H1 locs ht hvm hw hB hz1 hk1 hS => ?_)
        obtain ⟨F_22, hB1⟩ := hB
        obtain ⟨hP, hD, hO, hR⟩ := QT.back hB1 ht hFc hR (fun q h => absurd h List.not_mem_nil)
        generalize H1 = H at hP hS ⊢
        have hw : (r_21 = 0 ∨ r_21 = 1) := hw
        have hw_23 := hw
        refine lv_if_eq (tgt := 47) hx hb dX0_sixOf_36 (by decide) (fun c_24 => ?_) (fun c_24 => ?_)
        ·
          refine lv_iload_n hx hb dX0_sixOf_47 rfl (lv_at hl 0 rfl) ?_
          refine lv_bipush (v := 43) hx hb dX0_sixOf_48 (by decide) ?_
          refine lv_icmp_ne (tgt := 58) hx hb dX0_sixOf_50 (by decide) (fun c_25 => ?_) (fun c_25 => ?_)
          ·
            refine lv_iload_n hx hb dX0_sixOf_58 rfl (lv_at hl 0 rfl) ?_
            refine lv_bipush (v := 47) hx hb dX0_sixOf_59 (by decide) ?_
            refine lv_icmp_ne (tgt := 69) hx hb dX0_sixOf_61 (by decide) (fun c_26 => ?_) (fun c_26 => ?_)
            ·
              refine lv_iconst (v := (-1)) hx hb dX0_sixOf_69 (by decide) ?_
              refine W.widen (k := 0) (n := 0) (by omega) (by omega) ?_
              exact W.iret (v := (-1)) hx hb hr (fun t ht hWm => ⟨⟨(-1), (), rfl, trivial, ⟨F_22, QT.mk ht hP hD hO hR⟩⟩, hS.F ht⟩) hS.2.2 dX0_sixOf_70
            ·
              refine lv_bipush (v := 63) hx hb dX0_sixOf_64 (by decide) ?_
              refine lv_goto (tgt := 70) hx hb dX0_sixOf_66 (by decide) ?_
              refine W.widen (k := 0) (n := 0) (by omega) (by omega) ?_
              exact W.iret (v := 63) hx hb hr (fun t ht hWm => ⟨⟨63, (), rfl, trivial, ⟨F_22, QT.mk ht hP hD hO hR⟩⟩, hS.F ht⟩) hS.2.2 dX0_sixOf_70
          ·
            refine lv_bipush (v := 62) hx hb dX0_sixOf_53 (by decide) ?_
            refine lv_goto (tgt := 70) hx hb dX0_sixOf_55 (by decide) ?_
            refine W.widen (k := 0) (n := 0) (by omega) (by omega) ?_
            exact W.iret (v := 62) hx hb hr (fun t ht hWm => ⟨⟨62, (), rfl, trivial, ⟨F_22, QT.mk ht hP hD hO hR⟩⟩, hS.F ht⟩) hS.2.2 dX0_sixOf_70
        ·
          refine lv_iload_n hx hb dX0_sixOf_39 rfl (lv_at hl 0 rfl) ?_
          refine lv_bipush (v := 48) hx hb dX0_sixOf_40 (by decide) ?_
          refine lv_isub hx hb dX0_sixOf_42 ?_
          refine lv_topi (fun x_27 _ => ?_)
          refine lv_bipush (v := 52) hx hb dX0_sixOf_43 (by decide) ?_
          refine lv_iadd hx hb dX0_sixOf_45 ?_
          refine lv_topi (fun x_28 _ => ?_)
          refine W.widen (k := 0) (n := 0) (by omega) (by omega) ?_
          exact W.iret (v := x_28) hx hb hr (fun t ht hWm => ⟨⟨x_28, (), rfl, trivial, ⟨F_22, QT.mk ht hP hD hO hR⟩⟩, hS.F ht⟩) hS.2.2 dX0_sixOf_46
      ·
        refine lv_iload_n hx hb dX0_sixOf_24 rfl (lv_at hl 0 rfl) ?_
        refine lv_bipush (v := 97) hx hb dX0_sixOf_25 (by decide) ?_
        refine lv_isub hx hb dX0_sixOf_27 ?_
        refine lv_topi (fun x_29 _ => ?_)
        refine lv_bipush (v := 26) hx hb dX0_sixOf_28 (by decide) ?_
        refine lv_iadd hx hb dX0_sixOf_30 ?_
        refine lv_topi (fun x_30 _ => ?_)
        refine W.widen (k := 0) (n := 0) (by omega) (by omega) ?_
        exact W.iret (v := x_30) hx hb hr (fun t ht hWm => ⟨⟨x_30, (), rfl, trivial, ⟨F_18, QT.mk ht hP hD hO hR⟩⟩, hS.F ht⟩) hS.2.2 dX0_sixOf_31
    ·
      refine lv_iload_n hx hb dX0_sixOf_12 rfl (lv_at hl 0 rfl) ?_
      refine lv_bipush (v := 65) hx hb dX0_sixOf_13 (by decide) ?_
      refine lv_isub hx hb dX0_sixOf_15 ?_
      refine lv_topi (fun x_31 _ => ?_)
      refine W.widen (k := 0) (n := 0) (by omega) (by omega) ?_
      exact W.iret (v := x_31) hx hb hr (fun t ht hWm => ⟨⟨x_31, (), rfl, trivial, ⟨F, QT.mk ht hP hD hO hR⟩⟩, hS.F ht⟩) hS.2.2 dX0_sixOf_16
set_option maxHeartbeats 4000000 in
set_option maxRecDepth 100000 in
theorem s_X0_isName (l : Launch) (dC : Nat → ClassId) (dI : Nat → Nat → Nat) (cs : Nat → ClassId) (ty : TyM) (L : List Nat) (sz : Nat) (F : Nat → va_E) (h0 : Nat) (ρ : Nat) (r0 : Nat) (n : Nat) (x1 : Int32) (x2 : Int32) (hW : WT ty L) (hL_h0 : h0 ∈ L) (hT_h0 : ty h0 = (0, ρ, [r0, n])) : Met l yX0_isName (.code yX0_isName cX0_isName 7 (some .boolean) :: tb) ({ frames := 1, cells := 0, slots := 0, locals := 21 }) (va_Pc [.ref h0, .int x1, .int x2] (PT (dC, dI) cs ty L F sz)) (va_Qi (fun (r : Int32) (_ : Unit) => (r = 0 ∨ r = 1)) (fun _ T9 => ∃ F2 : Nat → va_E, QT (dC, dI) cs ty L [] F F2 (va_A (va_pl L F) sz) T9) (va_A (va_pl L F) sz)) 0 0 (va_A (va_pl L F) sz) := by
  refine Met.ofW (cc := cX0_isName) (maxL := 7) (ret := (some .boolean)) (by decide) rfl ?_
  intro p e s m args below meth c s₁ B hml hv
  obtain ⟨rfl, hsz, hP, hK, hD0, hE, hO⟩ := hv
  have hx := B.exec
  have hb := B.bytes
  have hr := B.returns
  have hts : ∀ w ∈ tb, w.before _ s = true := fun w h => atoms_spec (ws := .code yX0_isName cX0_isName 7 (some .boolean) :: tb) B.pre w (List.mem_cons_of_mem _ h)
  have hown : s.vm.findClass RX0 = some m.cls := findClass_of_methodNamed B.named
  have hlocks := B.notSynchronized
  subst hsz
  have hD := hD0.self (sz := s.heap.size)
  generalize hAe : va_A (va_pl L F) s.heap.size = A at hD ⊢
  have hA : ∀ q : Nat, s.heap.size ≤ q → A q := fun q h => by rw [← hAe]; exact Or.inr h
  have hS : va_S A s.heap s.heap [] := va_S.rf
  have hR : FR ty [] F F := FR.refl
  have hl := lv_entry ([.ref h0, .int x1, .int x2]) (n := 7) (Nat.le_of_ble_eq_true rfl)
  rw [lg_entry_eq]
  generalize (lg_sl ([.ref h0, .int x1, .int x2]) ++ List.replicate (7 - (lg_sl ([.ref h0, .int x1, .int x2])).length) Slot.unset).toArray = ls at hl ⊢
  have hl : lv_has ls 7 [(0, .ref h0), (1, .int x1), (2, .int x2)] := hl
  refine lv_aload_n hx hb dX0_isName_0 rfl (lv_at hl 0 rfl) ?_
  obtain ⟨hi_1, ht_2, hq_3⟩ := hW.bytes hL_h0 hT_h0
  obtain ⟨z_4, o_5, hF_6, hq_7, hq_8⟩ := hO.bytes hL_h0 hT_h0
  refine pg_get (ci := 0) (v := .int o_5) (C := RX0) (T := TX0) (N := 3) hx hb hts it_0 hown hK hP hL_h0 hF_6 rfl 2 (by decide) (hts _ kt_11) (fun _ h9 => h9) rfl dX0_isName_1 ?_
  refine lv_if_ne (tgt := 22) hx hb dX0_isName_4 (by decide) (fun c_9 => ?_) (fun c_9 => ?_)
  ·
    refine lv_iconst (v := 0) hx hb dX0_isName_22 (by decide) ?_
    refine W.widen (k := 0) (n := 0) (by omega) (by omega) ?_
    exact W.zret (v := 0) (ty := .boolean) hx hb hr (by decide) (fun t ht hWm => ⟨⟨0, (), rfl, (by first | exact Or.inl rfl | exact Or.inr rfl), ⟨F, QT.mk ht hP hD hO hR⟩⟩, hS.F ht⟩) hS.2.2 dX0_isName_23
  ·
    refine lv_iload_n hx hb dX0_isName_7 rfl (lv_at hl 2 rfl) ?_
    refine lv_iload_n hx hb dX0_isName_8 rfl (lv_at hl 1 rfl) ?_
    refine lv_isub hx hb dX0_isName_9 ?_
    refine lv_topi (fun x_10 _ => ?_)
    refine lv_iconst (v := 1) hx hb dX0_isName_10 (by decide) ?_
    refine lv_icmp_lt (tgt := 22) hx hb dX0_isName_11 (by decide) (fun c_11 => ?_) (fun c_11 => ?_)
    ·
      refine lv_iconst (v := 0) hx hb dX0_isName_22 (by decide) ?_
      refine W.widen (k := 0) (n := 0) (by omega) (by omega) ?_
      exact W.zret (v := 0) (ty := .boolean) hx hb hr (by decide) (fun t ht hWm => ⟨⟨0, (), rfl, (by first | exact Or.inl rfl | exact Or.inr rfl), ⟨F, QT.mk ht hP hD hO hR⟩⟩, hS.F ht⟩) hS.2.2 dX0_isName_23
    ·
      refine lv_iload_n hx hb dX0_isName_14 rfl (lv_at hl 2 rfl) ?_
      refine lv_iload_n hx hb dX0_isName_15 rfl (lv_at hl 1 rfl) ?_
      refine lv_isub hx hb dX0_isName_16 ?_
      refine lv_topi (fun x_12 _ => ?_)
      refine lv_bipush (v := 60) hx hb dX0_isName_17 (by decide) ?_
      refine lv_icmp_le (tgt := 24) hx hb dX0_isName_19 (by decide) (fun c_13 => ?_) (fun c_13 => ?_)
      ·
        refine lv_iconst (v := 0) hx hb dX0_isName_24 (by decide) ?_
        refine lv_istore_n (lv' := [(3, .int 0), (0, .ref h0), (1, .int x1), (2, .int x2)]) hx hb dX0_isName_25 rfl hl (by decide) rfl (fun ls hl => ?_)
        refine lv_iload_n hx hb dX0_isName_26 rfl (lv_at hl 2 rfl) ?_
        refine lv_istore (lv' := [(4, .int x1), (3, .int 0), (0, .ref h0), (1, .int x1), (2, .int x2)]) hx hb dX0_isName_27 hl (by decide) rfl (fun ls hl => ?_)
        refine W.widen (k := 0) (n := 0) (by omega) (by omega) ?_
        have hF_15 : F h0 = .inr (0, [.ref r0, .int (nI z_4), .int o_5]) := (hR h0 List.not_mem_nil).symm.trans hF_6
        refine pl_loop (σ := Int32 × Int32) A (dC, dI) cs ty L [] F 29 7 (fun (i1, v1) => [(4, .int i1), (3, .int v1), (0, .ref h0), (1, .int x1), (2, .int x2)]) (fun (i1, v1) => []) (fun (i1, v1) _ => True) (fun (i1, v1) => (x2.toInt - i1.toInt).toNat) ?_ (x1, 0) F (trivial) hO hR _ _ hP hD hS ls (lv_sub hl [0, 1, 2, 3, 4] rfl)
        rintro ⟨i1, v1⟩ F_14 hv_16 hO hR ih_17 H locs hP hD hS ls hl
        have hl : lv_has ls 7 [(4, .int i1), (3, .int v1), (0, .ref h0), (1, .int x1), (2, .int x2)] := hl
        have hv_16 : True := hv_16
        refine W.eq (g2 := F0 m 29 ls []) rfl ?_
        have hF_18 : F_14 h0 = .inr (0, [.ref r0, .int (nI z_4), .int o_5]) := (hR h0 List.not_mem_nil).trans hF_15
        refine lv_iload hx hb dX0_isName_29 (lv_at hl 0 rfl) ?_
        refine lv_iload_n hx hb dX0_isName_31 rfl (lv_at hl 4 rfl) ?_
        refine lv_icmp_ge (tgt := 126) hx hb dX0_isName_32 (by decide) (fun c_19 => ?_) (fun c_19 => ?_)
        ·
          refine lv_iload_n hx hb dX0_isName_126 rfl (lv_at hl 1 rfl) ?_
          refine lv_if_le (tgt := 134) hx hb dX0_isName_127 (by decide) (fun c_20 => ?_) (fun c_20 => ?_)
          ·
            refine lv_iconst (v := 0) hx hb dX0_isName_134 (by decide) ?_
            refine W.widen (k := 0) (n := 0) (by omega) (by omega) ?_
            exact W.zret (v := 0) (ty := .boolean) hx hb hr (by decide) (fun t ht hWm => ⟨⟨0, (), rfl, (by first | exact Or.inl rfl | exact Or.inr rfl), ⟨F_14, QT.mk ht hP hD hO hR⟩⟩, hS.F ht⟩) hS.2.2 dX0_isName_135
          ·
            refine lv_iconst (v := 1) hx hb dX0_isName_130 (by decide) ?_
            refine lv_goto (tgt := 135) hx hb dX0_isName_131 (by decide) ?_
            refine W.widen (k := 0) (n := 0) (by omega) (by omega) ?_
            exact W.zret (v := 1) (ty := .boolean) hx hb hr (by decide) (fun t ht hWm => ⟨⟨1, (), rfl, (by first | exact Or.inl rfl | exact Or.inr rfl), ⟨F_14, QT.mk ht hP hD hO hR⟩⟩, hS.F ht⟩) hS.2.2 dX0_isName_135
        ·
          refine lv_aload_n hx hb dX0_isName_35 rfl (lv_at hl 2 rfl) ?_
          refine lv_iload hx hb dX0_isName_36 (lv_at hl 0 rfl) ?_
          have hFc := pg_free hD hS hA
          refine va_calli (va_runV (As := [.int i1]) (rest := []) ⟨hx, hb, hml, hown, hts⟩ (s_X0_at l dC dI cs ty L H.size F_14 h0 ρ r0 n i1 hW hL_h0 hT_h0) ⟨callB_of 1 hts (gi kt_21) rfl rfl rfl (hts _ kt_1) (hts _ kt_22) (by decide +kernel) ⟨Nat.le_of_ble_eq_true rfl, Nat.le_of_ble_eq_true rfl⟩, (hts _ kt_23), (hts _ kt_24)⟩ ⟨fun a U g mk q => ⟨q.1, PT.calling q.2⟩, pg_recv hK hP hL_h0 hF_18 (q := (RX0, TX0, 3)) rfl, fun U hU hWm => ⟨rfl, PT.mk hU hWm hP hK hD hE hO⟩⟩ rfl rfl hl.1 rfl (lv_room (Nat.le_of_ble_eq_true rfl)) dX0_isName_38 ⟨by show _ + 0 ≤ 0; omega, by show _ + 0 ≤ 0; omega⟩) hS (fun q _ h => hFc q h) hFc (fun r_21 u t H1 locs ht hvm hw hB hz1 hk1 hS => ?_)
          obtain ⟨F_22, hB1⟩ := hB
          obtain ⟨hP, hD, hO, hR⟩ := QT.back hB1 ht hFc hR (fun q h => absurd h List.not_mem_nil)
          have hF_23 : F_22 h0 = .inr (0, [.ref r0, .int (nI z_4), .int o_5]) := (hB1.2.2.2 h0 List.not_mem_nil).trans hF_18
          generalize H1 = H at hP hS ⊢
          have hw : True := hw
          have hw_24 := hw
          refine lv_istore (lv' := [(5, .int r_21), (4, .int i1), (3, .int v1), (0, .ref h0), (1, .int x1), (2, .int x2)]) hx hb dX0_isName_41 hl (by decide) rfl (fun ls hl => ?_)
          refine lv_iload hx hb dX0_isName_43 (lv_at hl 0 rfl) ?_
          refine lv_bipush (v := 46) hx hb dX0_isName_45 (by decide) ?_
          refine lv_icmp_ne (tgt := 54) hx hb dX0_isName_47 (by decide) (fun c_25 => ?_) (fun c_25 => ?_)
          ·
            refine lv_iconst (v := 0) hx hb dX0_isName_54 (by decide) ?_
            refine lv_istore (lv' := [(6, .int 0), (5, .int r_21), (4, .int i1), (3, .int v1), (0, .ref h0), (1, .int x1), (2, .int x2)]) hx hb dX0_isName_55 hl (by decide) rfl (fun ls hl => ?_)
            refine lv_iload hx hb dX0_isName_57 (lv_at hl 0 rfl) ?_
            refine lv_if_eq (tgt := 69) hx hb dX0_isName_59 (by decide) (fun c_26 => ?_) (fun c_26 => absurd (by decide) c_26)
            refine lv_iload_n hx hb dX0_isName_69 rfl (lv_at hl 3 rfl) ?_
            refine lv_bipush (v := 20) hx hb dX0_isName_70 (by decide) ?_
            refine lv_icmp_eq (tgt := 105) hx hb dX0_isName_72 (by decide) (fun c_27 => ?_) (fun c_27 => ?_)
            ·
              refine lv_iconst (v := 0) hx hb dX0_isName_105 (by decide) ?_
              refine W.widen (k := 0) (n := 0) (by omega) (by omega) ?_
              exact W.zret (v := 0) (ty := .boolean) hx hb hr (by decide) (fun t ht hWm => ⟨⟨0, (), rfl, (by first | exact Or.inl rfl | exact Or.inr rfl), ⟨F_22, QT.mk ht hP hD hO hR⟩⟩, hS.F ht⟩) hS.2.2 dX0_isName_106
            ·
              refine lv_iload hx hb dX0_isName_75 (lv_at hl 1 rfl) ?_
              have hFc := pg_free hD hS hA
              refine va_calli (va_runS (As := [.int r_21]) (rest := []) ⟨hx, hb, hml, hown, hts⟩ (s_X0_isSmall l dC dI cs ty L H.size F_22 r_21 hW ) ⟨callB_of 1 hts (gi kt_4) rfl rfl rfl (hts _ kt_1) (hts _ kt_5) (by decide +kernel) ⟨Nat.le_of_ble_eq_true rfl, Nat.le_of_ble_eq_true rfl⟩, (hts _ kt_6)⟩ ⟨fun a U g mk q => ⟨q.1, PT.calling q.2⟩, fun U hU hWm => ⟨rfl, PT.mk hU hWm hP hK hD hE hO⟩⟩ rfl rfl hl.1 rfl (lv_room (Nat.le_of_ble_eq_true rfl)) dX0_isName_77 ⟨by show _ + 0 ≤ 0; omega, by show _ + 0 ≤ 0; omega⟩) hS (fun q _ h => hFc q h) hFc (fun r_28 u t H1 locs ht hvm hw hB hz1 hk1 hS => ?_)
              obtain ⟨F_29, hB1⟩ := hB
              obtain ⟨hP, hD, hO, hR⟩ := QT.back hB1 ht hFc hR (fun q h => absurd h List.not_mem_nil)
              have hF_30 : F_29 h0 = .inr (0, [.ref r0, .int (nI z_4), .int o_5]) := (hB1.2.2.2 h0 List.not_mem_nil).trans hF_23
              generalize H1 = H at hP hS ⊢
              have hw : (r_28 = 0 ∨ r_28 = 1) := hw
              have hw_31 := hw
              refine lv_if_ne (tgt := 107) hx hb dX0_isName_80 (by decide) (fun c_32 => ?_) (fun c_32 => ?_)
              ·
                refine lv_iload hx hb dX0_isName_107 (lv_at hl 0 rfl) ?_
                refine lv_if_eq (tgt := 116) hx hb dX0_isName_109 (by decide) (fun c_33 => ?_) (fun c_33 => absurd (by decide) c_33)
                refine lv_iload_n hx hb dX0_isName_116 rfl (lv_at hl 3 rfl) ?_
                refine lv_iconst (v := 1) hx hb dX0_isName_117 (by decide) ?_
                refine lv_iadd hx hb dX0_isName_118 ?_
                refine lv_topi (fun x_34 _ => ?_)
                refine lv_istore_n (lv' := [(3, .int x_34), (6, .int 0), (5, .int r_21), (4, .int i1), (0, .ref h0), (1, .int x1), (2, .int x2)]) hx hb dX0_isName_119 rfl hl (by decide) rfl (fun ls hl => ?_)
                obtain ⟨x_35, ex_35⟩ : ∃ y : Int32, y = i1 + Int32.ofInt 1 := ⟨_, rfl⟩
                refine lv_iinc (v := x_35) (lv' := [(4, .int x_35), (3, .int x_34), (6, .int 0), (5, .int r_21), (0, .ref h0), (1, .int x1), (2, .int x2)]) hx hb dX0_isName_120 hl (k := 3) rfl (ex_35.symm) (by decide) rfl (fun ls hl => ?_)
                refine lv_goto (tgt := 29) hx hb dX0_isName_123 (by decide) ?_
                refine W.widen (k := 0) (n := 0) (by omega) (by omega) ?_
                exact ih_17 (x_35, x_34) F_29 (trivial) (by show (x2.toInt - x_35.toInt).toNat < (x2.toInt - i1.toInt).toNat; exact incN ex_35 c_19) hO hR _ _ hP hD hS ls (lv_sub hl [0, 1, 4, 5, 6] rfl)
              ·
                refine lv_iload hx hb dX0_isName_83 (lv_at hl 1 rfl) ?_
                have hFc := pg_free hD hS hA
                refine va_calli (va_runS (As := [.int r_21]) (rest := []) ⟨hx, hb, hml, hown, hts⟩ (s_X0_isDigit l dC dI cs ty L H.size F_29 r_21 hW ) ⟨callB_of 1 hts (gi kt_7) rfl rfl rfl (hts _ kt_1) (hts _ kt_8) (by decide +kernel) ⟨Nat.le_of_ble_eq_true rfl, Nat.le_of_ble_eq_true rfl⟩, (hts _ kt_9)⟩ ⟨fun a U g mk q => ⟨q.1, PT.calling q.2⟩, fun U hU hWm => ⟨rfl, PT.mk hU hWm hP hK hD hE hO⟩⟩ rfl rfl hl.1 rfl (lv_room (Nat.le_of_ble_eq_true rfl)) dX0_isName_85 ⟨by show _ + 0 ≤ 0; omega, by show _ + 0 ≤ 0; omega⟩) hS (fun q _ h => hFc q h) hFc (fun r_36 u t H1 locs ht hvm hw hB hz1 hk1 hS => ?_)
                obtain ⟨F_37, hB1⟩ := hB
                obtain ⟨hP, hD, hO, hR⟩ := QT.back hB1 ht hFc hR (fun q h => absurd h List.not_mem_nil)
                have hF_38 : F_37 h0 = .inr (0, [.ref r0, .int (nI z_4), .int o_5]) := (hB1.2.2.2 h0 List.not_mem_nil).trans hF_30
                generalize H1 = H at hP hS ⊢
                have hw : (r_36 = 0 ∨ r_36 = 1) := hw
                have hw_39 := hw
                refine lv_if_ne (tgt := 107) hx hb dX0_isName_88 (by decide) (fun c_40 => ?_) (fun c_40 => ?_)
                ·
                  refine lv_iload hx hb dX0_isName_107 (lv_at hl 0 rfl) ?_
                  refine lv_if_eq (tgt := 116) hx hb dX0_isName_109 (by decide) (fun c_41 => ?_) (fun c_41 => absurd (by decide) c_41)
                  refine lv_iload_n hx hb dX0_isName_116 rfl (lv_at hl 3 rfl) ?_
                  refine lv_iconst (v := 1) hx hb dX0_isName_117 (by decide) ?_
                  refine lv_iadd hx hb dX0_isName_118 ?_
                  refine lv_topi (fun x_42 _ => ?_)
                  refine lv_istore_n (lv' := [(3, .int x_42), (6, .int 0), (5, .int r_21), (4, .int i1), (0, .ref h0), (1, .int x1), (2, .int x2)]) hx hb dX0_isName_119 rfl hl (by decide) rfl (fun ls hl => ?_)
                  obtain ⟨x_43, ex_43⟩ : ∃ y : Int32, y = i1 + Int32.ofInt 1 := ⟨_, rfl⟩
                  refine lv_iinc (v := x_43) (lv' := [(4, .int x_43), (3, .int x_42), (6, .int 0), (5, .int r_21), (0, .ref h0), (1, .int x1), (2, .int x2)]) hx hb dX0_isName_120 hl (k := 3) rfl (ex_43.symm) (by decide) rfl (fun ls hl => ?_)
                  refine lv_goto (tgt := 29) hx hb dX0_isName_123 (by decide) ?_
                  refine W.widen (k := 0) (n := 0) (by omega) (by omega) ?_
                  exact ih_17 (x_43, x_42) F_37 (trivial) (by show (x2.toInt - x_43.toInt).toNat < (x2.toInt - i1.toInt).toNat; exact incN ex_43 c_19) hO hR _ _ hP hD hS ls (lv_sub hl [0, 1, 4, 5, 6] rfl)
                ·
                  refine lv_iload hx hb dX0_isName_91 (lv_at hl 1 rfl) ?_
                  refine lv_bipush (v := 45) hx hb dX0_isName_93 (by decide) ?_
                  refine lv_icmp_eq (tgt := 107) hx hb dX0_isName_95 (by decide) (fun c_44 => ?_) (fun c_44 => ?_)
                  ·
                    refine lv_iload hx hb dX0_isName_107 (lv_at hl 0 rfl) ?_
                    refine lv_if_eq (tgt := 116) hx hb dX0_isName_109 (by decide) (fun c_45 => ?_) (fun c_45 => absurd (by decide) c_45)
                    refine lv_iload_n hx hb dX0_isName_116 rfl (lv_at hl 3 rfl) ?_
                    refine lv_iconst (v := 1) hx hb dX0_isName_117 (by decide) ?_
                    refine lv_iadd hx hb dX0_isName_118 ?_
                    refine lv_topi (fun x_46 _ => ?_)
                    refine lv_istore_n (lv' := [(3, .int x_46), (6, .int 0), (5, .int r_21), (4, .int i1), (0, .ref h0), (1, .int x1), (2, .int x2)]) hx hb dX0_isName_119 rfl hl (by decide) rfl (fun ls hl => ?_)
                    obtain ⟨x_47, ex_47⟩ : ∃ y : Int32, y = i1 + Int32.ofInt 1 := ⟨_, rfl⟩
                    refine lv_iinc (v := x_47) (lv' := [(4, .int x_47), (3, .int x_46), (6, .int 0), (5, .int r_21), (0, .ref h0), (1, .int x1), (2, .int x2)]) hx hb dX0_isName_120 hl (k := 3) rfl (ex_47.symm) (by decide) rfl (fun ls hl => ?_)
                    refine lv_goto (tgt := 29) hx hb dX0_isName_123 (by decide) ?_
                    refine W.widen (k := 0) (n := 0) (by omega) (by omega) ?_
                    exact ih_17 (x_47, x_46) F_37 (trivial) (by show (x2.toInt - x_47.toInt).toNat < (x2.toInt - i1.toInt).toNat; exact incN ex_47 c_19) hO hR _ _ hP hD hS ls (lv_sub hl [0, 1, 4, 5, 6] rfl)
                  ·
                    refine lv_iload hx hb dX0_isName_98 (lv_at hl 1 rfl) ?_
                    refine lv_bipush (v := 95) hx hb dX0_isName_100 (by decide) ?_
                    refine lv_icmp_eq (tgt := 107) hx hb dX0_isName_102 (by decide) (fun c_48 => ?_) (fun c_48 => ?_)
                    ·
                      refine lv_iload hx hb dX0_isName_107 (lv_at hl 0 rfl) ?_
                      refine lv_if_eq (tgt := 116) hx hb dX0_isName_109 (by decide) (fun c_49 => ?_) (fun c_49 => absurd (by decide) c_49)
                      refine lv_iload_n hx hb dX0_isName_116 rfl (lv_at hl 3 rfl) ?_
                      refine lv_iconst (v := 1) hx hb dX0_isName_117 (by decide) ?_
                      refine lv_iadd hx hb dX0_isName_118 ?_
                      refine lv_topi (fun x_50 _ => ?_)
                      refine lv_istore_n (lv' := [(3, .int x_50), (6, .int 0), (5, .int r_21), (4, .int i1), (0, .ref h0), (1, .int x1), (2, .int x2)]) hx hb dX0_isName_119 rfl hl (by decide) rfl (fun ls hl => ?_)
                      obtain ⟨x_51, ex_51⟩ : ∃ y : Int32, y = i1 + Int32.ofInt 1 := ⟨_, rfl⟩
                      refine lv_iinc (v := x_51) (lv' := [(4, .int x_51), (3, .int x_50), (6, .int 0), (5, .int r_21), (0, .ref h0), (1, .int x1), (2, .int x2)]) hx hb dX0_isName_120 hl (k := 3) rfl (ex_51.symm) (by decide) rfl (fun ls hl => ?_)
                      refine lv_goto (tgt := 29) hx hb dX0_isName_123 (by decide) ?_
                      refine W.widen (k := 0) (n := 0) (by omega) (by omega) ?_
                      exact ih_17 (x_51, x_50) F_37 (trivial) (by show (x2.toInt - x_51.toInt).toNat < (x2.toInt - i1.toInt).toNat; exact incN ex_51 c_19) hO hR _ _ hP hD hS ls (lv_sub hl [0, 1, 4, 5, 6] rfl)
                    ·
                      refine lv_iconst (v := 0) hx hb dX0_isName_105 (by decide) ?_
                      refine W.widen (k := 0) (n := 0) (by omega) (by omega) ?_
                      exact W.zret (v := 0) (ty := .boolean) hx hb hr (by decide) (fun t ht hWm => ⟨⟨0, (), rfl, (by first | exact Or.inl rfl | exact Or.inr rfl), ⟨F_37, QT.mk ht hP hD hO hR⟩⟩, hS.F ht⟩) hS.2.2 dX0_isName_106
          ·
            refine lv_iconst (v := 1) hx hb dX0_isName_50 (by decide) ?_
            refine lv_goto (tgt := 55) hx hb dX0_isName_51 (by decide) ?_
            refine lv_istore (lv' := [(6, .int 1), (5, .int r_21), (4, .int i1), (3, .int v1), (0, .ref h0), (1, .int x1), (2, .int x2)]) hx hb dX0_isName_55 hl (by decide) rfl (fun ls hl => ?_)
            refine lv_iload hx hb dX0_isName_57 (lv_at hl 0 rfl) ?_
            refine lv_if_eq (tgt := 69) hx hb dX0_isName_59 (by decide) (fun c_52 => absurd c_52 (by decide)) (fun c_52 => ?_)
            refine lv_iload_n hx hb dX0_isName_62 rfl (lv_at hl 3 rfl) ?_
            refine lv_if_ne (tgt := 107) hx hb dX0_isName_63 (by decide) (fun c_53 => ?_) (fun c_53 => ?_)
            ·
              refine lv_iload hx hb dX0_isName_107 (lv_at hl 0 rfl) ?_
              refine lv_if_eq (tgt := 116) hx hb dX0_isName_109 (by decide) (fun c_54 => absurd c_54 (by decide)) (fun c_54 => ?_)
              refine lv_iconst (v := 0) hx hb dX0_isName_112 (by decide) ?_
              refine lv_goto (tgt := 119) hx hb dX0_isName_113 (by decide) ?_
              refine lv_istore_n (lv' := [(3, .int 0), (6, .int 1), (5, .int r_21), (4, .int i1), (0, .ref h0), (1, .int x1), (2, .int x2)]) hx hb dX0_isName_119 rfl hl (by decide) rfl (fun ls hl => ?_)
              obtain ⟨x_55, ex_55⟩ : ∃ y : Int32, y = i1 + Int32.ofInt 1 := ⟨_, rfl⟩
              refine lv_iinc (v := x_55) (lv' := [(4, .int x_55), (3, .int 0), (6, .int 1), (5, .int r_21), (0, .ref h0), (1, .int x1), (2, .int x2)]) hx hb dX0_isName_120 hl (k := 3) rfl (ex_55.symm) (by decide) rfl (fun ls hl => ?_)
              refine lv_goto (tgt := 29) hx hb dX0_isName_123 (by decide) ?_
              refine W.widen (k := 0) (n := 0) (by omega) (by omega) ?_
              exact ih_17 (x_55, 0) F_22 (trivial) (by show (x2.toInt - x_55.toInt).toNat < (x2.toInt - i1.toInt).toNat; exact incN ex_55 c_19) hO hR _ _ hP hD hS ls (lv_sub hl [0, 1, 4, 5, 6] rfl)
            ·
              refine lv_goto (tgt := 105) hx hb dX0_isName_66 (by decide) ?_
              refine lv_iconst (v := 0) hx hb dX0_isName_105 (by decide) ?_
              refine W.widen (k := 0) (n := 0) (by omega) (by omega) ?_
              exact W.zret (v := 0) (ty := .boolean) hx hb hr (by decide) (fun t ht hWm => ⟨⟨0, (), rfl, (by first | exact Or.inl rfl | exact Or.inr rfl), ⟨F_22, QT.mk ht hP hD hO hR⟩⟩, hS.F ht⟩) hS.2.2 dX0_isName_106
      ·
        refine lv_iconst (v := 0) hx hb dX0_isName_22 (by decide) ?_
        refine W.widen (k := 0) (n := 0) (by omega) (by omega) ?_
        exact W.zret (v := 0) (ty := .boolean) hx hb hr (by decide) (fun t ht hWm => ⟨⟨0, (), rfl, (by first | exact Or.inl rfl | exact Or.inr rfl), ⟨F, QT.mk ht hP hD hO hR⟩⟩, hS.F ht⟩) hS.2.2 dX0_isName_23
