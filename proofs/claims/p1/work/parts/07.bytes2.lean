theorem dX0_add_0 : decode cX0_add 0 = .ok (.aload_n 0, 1) := by decide +kernel
theorem dX0_add_1 : decode cX0_add 1 = .ok (.getfield 9, 3) := by decide +kernel
theorem dX0_add_4 : decode cX0_add 4 = .ok (.aload_n 0, 1) := by decide +kernel
theorem dX0_add_5 : decode cX0_add 5 = .ok (.getfield 19, 3) := by decide +kernel
theorem dX0_add_8 : decode cX0_add 8 = .ok (.arraylength, 1) := by decide +kernel
theorem dX0_add_9 : decode cX0_add 9 = .ok (.if_icmp .ge 26, 3) := by decide +kernel
theorem dX0_add_12 : decode cX0_add 12 = .ok (.aload_n 0, 1) := by decide +kernel
theorem dX0_add_13 : decode cX0_add 13 = .ok (.getfield 19, 3) := by decide +kernel
theorem dX0_add_16 : decode cX0_add 16 = .ok (.aload_n 0, 1) := by decide +kernel
theorem dX0_add_17 : decode cX0_add 17 = .ok (.getfield 9, 3) := by decide +kernel
theorem dX0_add_20 : decode cX0_add 20 = .ok (.iload_n 1, 1) := by decide +kernel
theorem dX0_add_21 : decode cX0_add 21 = .ok (.iastore, 1) := by decide +kernel
theorem dX0_add_22 : decode cX0_add 22 = .ok (.aload_n 0, 1) := by decide +kernel
theorem dX0_add_23 : decode cX0_add 23 = .ok (.dup, 1) := by decide +kernel
theorem dX0_add_24 : decode cX0_add 24 = .ok (.getfield 9, 3) := by decide +kernel
theorem dX0_add_27 : decode cX0_add 27 = .ok (.iconst 1, 1) := by decide +kernel
theorem dX0_add_28 : decode cX0_add 28 = .ok (.iadd, 1) := by decide +kernel
theorem dX0_add_29 : decode cX0_add 29 = .ok (.putfield 9, 3) := by decide +kernel
theorem dX0_add_32 : decode cX0_add 32 = .ok (.goto 8, 3) := by decide +kernel
theorem dX0_add_35 : decode cX0_add 35 = .ok (.aload_n 0, 1) := by decide +kernel
theorem dX0_add_36 : decode cX0_add 36 = .ok (.iconst 1, 1) := by decide +kernel
theorem dX0_add_37 : decode cX0_add 37 = .ok (.putfield 15, 3) := by decide +kernel
theorem dX0_add_40 : decode cX0_add 40 = .ok (.return_, 1) := by decide +kernel
theorem dX0_addFour_0 : decode cX0_addFour 0 = .ok (.bipush 24, 2) := by decide +kernel
theorem dX0_addFour_2 : decode cX0_addFour 2 = .ok (.istore_n 2, 1) := by decide +kernel
theorem dX0_addFour_3 : decode cX0_addFour 3 = .ok (.iload_n 2, 1) := by decide +kernel
theorem dX0_addFour_4 : decode cX0_addFour 4 = .ok (.ifCond .lt 20, 3) := by decide +kernel
theorem dX0_addFour_7 : decode cX0_addFour 7 = .ok (.aload_n 0, 1) := by decide +kernel
theorem dX0_addFour_8 : decode cX0_addFour 8 = .ok (.iload_n 1, 1) := by decide +kernel
theorem dX0_addFour_9 : decode cX0_addFour 9 = .ok (.iload_n 2, 1) := by decide +kernel
theorem dX0_addFour_10 : decode cX0_addFour 10 = .ok (.iushr, 1) := by decide +kernel
theorem dX0_addFour_11 : decode cX0_addFour 11 = .ok (.sipush 255, 3) := by decide +kernel
theorem dX0_addFour_14 : decode cX0_addFour 14 = .ok (.iand, 1) := by decide +kernel
theorem dX0_addFour_15 : decode cX0_addFour 15 = .ok (.invokevirtual 34, 3) := by decide +kernel
theorem dX0_addFour_18 : decode cX0_addFour 18 = .ok (.iinc 2 (-8), 3) := by decide +kernel
theorem dX0_addFour_21 : decode cX0_addFour 21 = .ok (.goto (-18), 3) := by decide +kernel
theorem dX0_addFour_24 : decode cX0_addFour 24 = .ok (.return_, 1) := by decide +kernel
theorem dX0_addRange_0 : decode cX0_addRange 0 = .ok (.iconst 0, 1) := by decide +kernel
theorem dX0_addRange_1 : decode cX0_addRange 1 = .ok (.iload_n 2, 1) := by decide +kernel
theorem dX0_addRange_2 : decode cX0_addRange 2 = .ok (.invokestatic 48, 3) := by decide +kernel
theorem dX0_addRange_5 : decode cX0_addRange 5 = .ok (.istore 4, 2) := by decide +kernel
theorem dX0_addRange_7 : decode cX0_addRange 7 = .ok (.iload_n 3, 1) := by decide +kernel
theorem dX0_addRange_8 : decode cX0_addRange 8 = .ok (.aload_n 1, 1) := by decide +kernel
theorem dX0_addRange_9 : decode cX0_addRange 9 = .ok (.getfield 9, 3) := by decide +kernel
theorem dX0_addRange_12 : decode cX0_addRange 12 = .ok (.invokestatic 54, 3) := by decide +kernel
theorem dX0_addRange_15 : decode cX0_addRange 15 = .ok (.iload 4, 2) := by decide +kernel
theorem dX0_addRange_17 : decode cX0_addRange 17 = .ok (.isub, 1) := by decide +kernel
theorem dX0_addRange_18 : decode cX0_addRange 18 = .ok (.istore 5, 2) := by decide +kernel
theorem dX0_addRange_20 : decode cX0_addRange 20 = .ok (.iload 5, 2) := by decide +kernel
theorem dX0_addRange_22 : decode cX0_addRange 22 = .ok (.aload_n 0, 1) := by decide +kernel
theorem dX0_addRange_23 : decode cX0_addRange 23 = .ok (.getfield 19, 3) := by decide +kernel
theorem dX0_addRange_26 : decode cX0_addRange 26 = .ok (.arraylength, 1) := by decide +kernel
theorem dX0_addRange_27 : decode cX0_addRange 27 = .ok (.aload_n 0, 1) := by decide +kernel
theorem dX0_addRange_28 : decode cX0_addRange 28 = .ok (.getfield 9, 3) := by decide +kernel
theorem dX0_addRange_31 : decode cX0_addRange 31 = .ok (.isub, 1) := by decide +kernel
theorem dX0_addRange_32 : decode cX0_addRange 32 = .ok (.invokestatic 54, 3) := by decide +kernel
theorem dX0_addRange_35 : decode cX0_addRange 35 = .ok (.istore 6, 2) := by decide +kernel
theorem dX0_addRange_37 : decode cX0_addRange 37 = .ok (.iload 6, 2) := by decide +kernel
theorem dX0_addRange_39 : decode cX0_addRange 39 = .ok (.ifCond .le 33, 3) := by decide +kernel
theorem dX0_addRange_42 : decode cX0_addRange 42 = .ok (.aload_n 1, 1) := by decide +kernel
theorem dX0_addRange_43 : decode cX0_addRange 43 = .ok (.getfield 19, 3) := by decide +kernel
theorem dX0_addRange_46 : decode cX0_addRange 46 = .ok (.iload 4, 2) := by decide +kernel
theorem dX0_addRange_48 : decode cX0_addRange 48 = .ok (.aload_n 0, 1) := by decide +kernel
theorem dX0_addRange_49 : decode cX0_addRange 49 = .ok (.getfield 19, 3) := by decide +kernel
theorem dX0_addRange_52 : decode cX0_addRange 52 = .ok (.aload_n 0, 1) := by decide +kernel
theorem dX0_addRange_53 : decode cX0_addRange 53 = .ok (.getfield 9, 3) := by decide +kernel
theorem dX0_addRange_56 : decode cX0_addRange 56 = .ok (.iload 6, 2) := by decide +kernel
theorem dX0_addRange_58 : decode cX0_addRange 58 = .ok (.invokestatic 57, 3) := by decide +kernel
theorem dX0_addRange_61 : decode cX0_addRange 61 = .ok (.aload_n 0, 1) := by decide +kernel
theorem dX0_addRange_62 : decode cX0_addRange 62 = .ok (.dup, 1) := by decide +kernel
theorem dX0_addRange_63 : decode cX0_addRange 63 = .ok (.getfield 9, 3) := by decide +kernel
theorem dX0_addRange_66 : decode cX0_addRange 66 = .ok (.iload 6, 2) := by decide +kernel
theorem dX0_addRange_68 : decode cX0_addRange 68 = .ok (.iadd, 1) := by decide +kernel
theorem dX0_addRange_69 : decode cX0_addRange 69 = .ok (.putfield 9, 3) := by decide +kernel
theorem dX0_addRange_72 : decode cX0_addRange 72 = .ok (.aload_n 0, 1) := by decide +kernel
theorem dX0_addRange_73 : decode cX0_addRange 73 = .ok (.aload_n 0, 1) := by decide +kernel
theorem dX0_addRange_74 : decode cX0_addRange 74 = .ok (.getfield 15, 3) := by decide +kernel
theorem dX0_addRange_77 : decode cX0_addRange 77 = .ok (.ifCond .ne 10, 3) := by decide +kernel
theorem dX0_addRange_80 : decode cX0_addRange 80 = .ok (.iload 6, 2) := by decide +kernel
theorem dX0_addRange_82 : decode cX0_addRange 82 = .ok (.iload 5, 2) := by decide +kernel
theorem dX0_addRange_84 : decode cX0_addRange 84 = .ok (.if_icmp .ge 7, 3) := by decide +kernel
theorem dX0_addRange_87 : decode cX0_addRange 87 = .ok (.iconst 1, 1) := by decide +kernel
theorem dX0_addRange_88 : decode cX0_addRange 88 = .ok (.goto 4, 3) := by decide +kernel
theorem dX0_addRange_91 : decode cX0_addRange 91 = .ok (.iconst 0, 1) := by decide +kernel
theorem dX0_addRange_92 : decode cX0_addRange 92 = .ok (.putfield 15, 3) := by decide +kernel
theorem dX0_addRange_95 : decode cX0_addRange 95 = .ok (.return_, 1) := by decide +kernel
theorem dX0_clear_0 : decode cX0_clear 0 = .ok (.aload_n 0, 1) := by decide +kernel
theorem dX0_clear_1 : decode cX0_clear 1 = .ok (.iconst 0, 1) := by decide +kernel
theorem dX0_clear_2 : decode cX0_clear 2 = .ok (.putfield 9, 3) := by decide +kernel
theorem dX0_clear_5 : decode cX0_clear 5 = .ok (.aload_n 0, 1) := by decide +kernel
theorem dX0_clear_6 : decode cX0_clear 6 = .ok (.iconst 0, 1) := by decide +kernel
theorem dX0_clear_7 : decode cX0_clear 7 = .ok (.putfield 15, 3) := by decide +kernel
theorem dX0_clear_10 : decode cX0_clear 10 = .ok (.return_, 1) := by decide +kernel
theorem dX0_copy_0 : decode cX0_copy 0 = .ok (.aload_n 0, 1) := by decide +kernel
theorem dX0_copy_1 : decode cX0_copy 1 = .ok (.invokevirtual 63, 3) := by decide +kernel
theorem dX0_copy_4 : decode cX0_copy 4 = .ok (.aload_n 0, 1) := by decide +kernel
theorem dX0_copy_5 : decode cX0_copy 5 = .ok (.aload_n 1, 1) := by decide +kernel
theorem dX0_copy_6 : decode cX0_copy 6 = .ok (.iconst 0, 1) := by decide +kernel
theorem dX0_copy_7 : decode cX0_copy 7 = .ok (.aload_n 1, 1) := by decide +kernel
theorem dX0_copy_8 : decode cX0_copy 8 = .ok (.getfield 9, 3) := by decide +kernel
theorem dX0_copy_11 : decode cX0_copy 11 = .ok (.invokevirtual 66, 3) := by decide +kernel
theorem dX0_copy_14 : decode cX0_copy 14 = .ok (.return_, 1) := by decide +kernel
theorem dX0_cut_0 : decode cX0_cut 0 = .ok (.iload_n 1, 1) := by decide +kernel
theorem dX0_cut_1 : decode cX0_cut 1 = .ok (.ifCond .lt 16, 3) := by decide +kernel
theorem dX0_cut_4 : decode cX0_cut 4 = .ok (.iload_n 1, 1) := by decide +kernel
theorem dX0_cut_5 : decode cX0_cut 5 = .ok (.aload_n 0, 1) := by decide +kernel
theorem dX0_cut_6 : decode cX0_cut 6 = .ok (.getfield 9, 3) := by decide +kernel
theorem dX0_cut_9 : decode cX0_cut 9 = .ok (.if_icmp .ge 8, 3) := by decide +kernel
theorem dX0_cut_12 : decode cX0_cut 12 = .ok (.aload_n 0, 1) := by decide +kernel
theorem dX0_cut_13 : decode cX0_cut 13 = .ok (.iload_n 1, 1) := by decide +kernel
theorem dX0_cut_14 : decode cX0_cut 14 = .ok (.putfield 9, 3) := by decide +kernel
theorem dX0_cut_17 : decode cX0_cut 17 = .ok (.return_, 1) := by decide +kernel
theorem dX0_find_0 : decode cX0_find 0 = .ok (.iconst 0, 1) := by decide +kernel
theorem dX0_find_1 : decode cX0_find 1 = .ok (.iload_n 2, 1) := by decide +kernel
theorem dX0_find_2 : decode cX0_find 2 = .ok (.invokestatic 48, 3) := by decide +kernel
theorem dX0_find_5 : decode cX0_find 5 = .ok (.istore 4, 2) := by decide +kernel
theorem dX0_find_7 : decode cX0_find 7 = .ok (.iload 4, 2) := by decide +kernel
theorem dX0_find_9 : decode cX0_find 9 = .ok (.iload_n 3, 1) := by decide +kernel
theorem dX0_find_10 : decode cX0_find 10 = .ok (.if_icmp .ge 32, 3) := by decide +kernel
theorem dX0_find_13 : decode cX0_find 13 = .ok (.iload 4, 2) := by decide +kernel
theorem dX0_find_15 : decode cX0_find 15 = .ok (.aload_n 0, 1) := by decide +kernel
theorem dX0_find_16 : decode cX0_find 16 = .ok (.getfield 9, 3) := by decide +kernel
theorem dX0_find_19 : decode cX0_find 19 = .ok (.if_icmp .ge 23, 3) := by decide +kernel
theorem dX0_find_22 : decode cX0_find 22 = .ok (.aload_n 0, 1) := by decide +kernel
theorem dX0_find_23 : decode cX0_find 23 = .ok (.getfield 19, 3) := by decide +kernel
theorem dX0_find_26 : decode cX0_find 26 = .ok (.iload 4, 2) := by decide +kernel
theorem dX0_find_28 : decode cX0_find 28 = .ok (.iaload, 1) := by decide +kernel
theorem dX0_find_29 : decode cX0_find 29 = .ok (.iload_n 1, 1) := by decide +kernel
theorem dX0_find_30 : decode cX0_find 30 = .ok (.if_icmp .ne 6, 3) := by decide +kernel
theorem dX0_find_33 : decode cX0_find 33 = .ok (.iload 4, 2) := by decide +kernel
theorem dX0_find_35 : decode cX0_find 35 = .ok (.ireturn, 1) := by decide +kernel
theorem dX0_find_36 : decode cX0_find 36 = .ok (.iinc 4 1, 3) := by decide +kernel
theorem dX0_find_39 : decode cX0_find 39 = .ok (.goto (-32), 3) := by decide +kernel
theorem dX0_find_42 : decode cX0_find 42 = .ok (.iload_n 3, 1) := by decide +kernel
theorem dX0_find_43 : decode cX0_find 43 = .ok (.ireturn, 1) := by decide +kernel
theorem dX0_isName_0 : decode cX0_isName 0 = .ok (.aload_n 0, 1) := by decide +kernel
theorem dX0_isName_1 : decode cX0_isName 1 = .ok (.getfield 15, 3) := by decide +kernel
theorem dX0_isName_4 : decode cX0_isName 4 = .ok (.ifCond .ne 18, 3) := by decide +kernel
theorem dX0_isName_7 : decode cX0_isName 7 = .ok (.iload_n 2, 1) := by decide +kernel
theorem dX0_isName_8 : decode cX0_isName 8 = .ok (.iload_n 1, 1) := by decide +kernel
theorem dX0_isName_9 : decode cX0_isName 9 = .ok (.isub, 1) := by decide +kernel
theorem dX0_isName_10 : decode cX0_isName 10 = .ok (.iconst 1, 1) := by decide +kernel
theorem dX0_isName_11 : decode cX0_isName 11 = .ok (.if_icmp .lt 11, 3) := by decide +kernel
theorem dX0_isName_14 : decode cX0_isName 14 = .ok (.iload_n 2, 1) := by decide +kernel
theorem dX0_isName_15 : decode cX0_isName 15 = .ok (.iload_n 1, 1) := by decide +kernel
theorem dX0_isName_16 : decode cX0_isName 16 = .ok (.isub, 1) := by decide +kernel
theorem dX0_isName_17 : decode cX0_isName 17 = .ok (.bipush 60, 2) := by decide +kernel
theorem dX0_isName_19 : decode cX0_isName 19 = .ok (.if_icmp .le 5, 3) := by decide +kernel
theorem dX0_isName_22 : decode cX0_isName 22 = .ok (.iconst 0, 1) := by decide +kernel
theorem dX0_isName_23 : decode cX0_isName 23 = .ok (.ireturn, 1) := by decide +kernel
theorem dX0_isName_24 : decode cX0_isName 24 = .ok (.iconst 0, 1) := by decide +kernel
theorem dX0_isName_25 : decode cX0_isName 25 = .ok (.istore_n 3, 1) := by decide +kernel
theorem dX0_isName_26 : decode cX0_isName 26 = .ok (.iload_n 1, 1) := by decide +kernel
theorem dX0_isName_27 : decode cX0_isName 27 = .ok (.istore 4, 2) := by decide +kernel
theorem dX0_isName_29 : decode cX0_isName 29 = .ok (.iload 4, 2) := by decide +kernel
theorem dX0_isName_31 : decode cX0_isName 31 = .ok (.iload_n 2, 1) := by decide +kernel
theorem dX0_isName_32 : decode cX0_isName 32 = .ok (.if_icmp .ge 94, 3) := by decide +kernel
theorem dX0_isName_35 : decode cX0_isName 35 = .ok (.aload_n 0, 1) := by decide +kernel
theorem dX0_isName_36 : decode cX0_isName 36 = .ok (.iload 4, 2) := by decide +kernel
theorem dX0_isName_38 : decode cX0_isName 38 = .ok (.invokevirtual 74, 3) := by decide +kernel
theorem dX0_isName_41 : decode cX0_isName 41 = .ok (.istore 5, 2) := by decide +kernel
theorem dX0_isName_43 : decode cX0_isName 43 = .ok (.iload 5, 2) := by decide +kernel
theorem dX0_isName_45 : decode cX0_isName 45 = .ok (.bipush 46, 2) := by decide +kernel
theorem dX0_isName_47 : decode cX0_isName 47 = .ok (.if_icmp .ne 7, 3) := by decide +kernel
theorem dX0_isName_50 : decode cX0_isName 50 = .ok (.iconst 1, 1) := by decide +kernel
theorem dX0_isName_51 : decode cX0_isName 51 = .ok (.goto 4, 3) := by decide +kernel
theorem dX0_isName_54 : decode cX0_isName 54 = .ok (.iconst 0, 1) := by decide +kernel
theorem dX0_isName_55 : decode cX0_isName 55 = .ok (.istore 6, 2) := by decide +kernel
theorem dX0_isName_57 : decode cX0_isName 57 = .ok (.iload 6, 2) := by decide +kernel
theorem dX0_isName_59 : decode cX0_isName 59 = .ok (.ifCond .eq 10, 3) := by decide +kernel
theorem dX0_isName_62 : decode cX0_isName 62 = .ok (.iload_n 3, 1) := by decide +kernel
theorem dX0_isName_63 : decode cX0_isName 63 = .ok (.ifCond .ne 44, 3) := by decide +kernel
theorem dX0_isName_66 : decode cX0_isName 66 = .ok (.goto 39, 3) := by decide +kernel
theorem dX0_isName_69 : decode cX0_isName 69 = .ok (.iload_n 3, 1) := by decide +kernel
theorem dX0_isName_70 : decode cX0_isName 70 = .ok (.bipush 20, 2) := by decide +kernel
theorem dX0_isName_72 : decode cX0_isName 72 = .ok (.if_icmp .eq 33, 3) := by decide +kernel
theorem dX0_isName_75 : decode cX0_isName 75 = .ok (.iload 5, 2) := by decide +kernel
theorem dX0_isName_77 : decode cX0_isName 77 = .ok (.invokestatic 27, 3) := by decide +kernel
theorem dX0_isName_80 : decode cX0_isName 80 = .ok (.ifCond .ne 27, 3) := by decide +kernel
theorem dX0_isName_83 : decode cX0_isName 83 = .ok (.iload 5, 2) := by decide +kernel
theorem dX0_isName_85 : decode cX0_isName 85 = .ok (.invokestatic 31, 3) := by decide +kernel
theorem dX0_isName_88 : decode cX0_isName 88 = .ok (.ifCond .ne 19, 3) := by decide +kernel
theorem dX0_isName_91 : decode cX0_isName 91 = .ok (.iload 5, 2) := by decide +kernel
theorem dX0_isName_93 : decode cX0_isName 93 = .ok (.bipush 45, 2) := by decide +kernel
theorem dX0_isName_95 : decode cX0_isName 95 = .ok (.if_icmp .eq 12, 3) := by decide +kernel
theorem dX0_isName_98 : decode cX0_isName 98 = .ok (.iload 5, 2) := by decide +kernel
theorem dX0_isName_100 : decode cX0_isName 100 = .ok (.bipush 95, 2) := by decide +kernel
theorem dX0_isName_102 : decode cX0_isName 102 = .ok (.if_icmp .eq 5, 3) := by decide +kernel
theorem dX0_isName_105 : decode cX0_isName 105 = .ok (.iconst 0, 1) := by decide +kernel
theorem dX0_isName_106 : decode cX0_isName 106 = .ok (.ireturn, 1) := by decide +kernel
theorem dX0_isName_107 : decode cX0_isName 107 = .ok (.iload 6, 2) := by decide +kernel
theorem dX0_isName_109 : decode cX0_isName 109 = .ok (.ifCond .eq 7, 3) := by decide +kernel
theorem dX0_isName_112 : decode cX0_isName 112 = .ok (.iconst 0, 1) := by decide +kernel
theorem dX0_isName_113 : decode cX0_isName 113 = .ok (.goto 6, 3) := by decide +kernel
theorem dX0_isName_116 : decode cX0_isName 116 = .ok (.iload_n 3, 1) := by decide +kernel
theorem dX0_isName_117 : decode cX0_isName 117 = .ok (.iconst 1, 1) := by decide +kernel
theorem dX0_isName_118 : decode cX0_isName 118 = .ok (.iadd, 1) := by decide +kernel
theorem dX0_isName_119 : decode cX0_isName 119 = .ok (.istore_n 3, 1) := by decide +kernel
theorem dX0_isName_120 : decode cX0_isName 120 = .ok (.iinc 4 1, 3) := by decide +kernel
theorem dX0_isName_123 : decode cX0_isName 123 = .ok (.goto (-94), 3) := by decide +kernel
theorem dX0_isName_126 : decode cX0_isName 126 = .ok (.iload_n 3, 1) := by decide +kernel
theorem dX0_isName_127 : decode cX0_isName 127 = .ok (.ifCond .le 7, 3) := by decide +kernel
theorem dX0_isName_130 : decode cX0_isName 130 = .ok (.iconst 1, 1) := by decide +kernel
theorem dX0_isName_131 : decode cX0_isName 131 = .ok (.goto 4, 3) := by decide +kernel
theorem dX0_isName_134 : decode cX0_isName 134 = .ok (.iconst 0, 1) := by decide +kernel
theorem dX0_isName_135 : decode cX0_isName 135 = .ok (.ireturn, 1) := by decide +kernel
theorem kt_171 : Cond.methodLink RX0 48 Lib.Math.max.name ∈ tb := tb_at (i := 517) (by decide +kernel) (by decide +kernel)
theorem kt_172 : Cond.static Lib.Math.max.name ∈ tb := tb_at (i := 518) (by decide +kernel) (by decide +kernel)
theorem kt_173 : Cond.initialized "java/lang/Math" ∈ tb := tb_at (i := 97) (by decide +kernel) (by decide +kernel)
theorem kt_174 : Cond.code Lib.Math.max.name Lib.Math.max.code 2 (some .int) ∈ tb := tb_at (i := 519) (by decide +kernel) (by decide +kernel)
theorem kt_175 : Cond.methodLink RX0 54 Lib.Math.min.name ∈ tb := tb_at (i := 545) (by decide +kernel) (by decide +kernel)
theorem kt_176 : Cond.static Lib.Math.min.name ∈ tb := tb_at (i := 546) (by decide +kernel) (by decide +kernel)
theorem kt_177 : Cond.code Lib.Math.min.name Lib.Math.min.code 2 (some .int) ∈ tb := tb_at (i := 547) (by decide +kernel) (by decide +kernel)
theorem kt_178 : Cond.code yX0_clear cX0_clear 1 none ∈ tb := tb_at (i := 540) (by decide +kernel) (by decide +kernel)
theorem kt_179 : Cond.methodLink RX0 63 yX0_clear ∈ tb := tb_at (i := 580) (by decide +kernel) (by decide +kernel)
theorem kt_180 : Cond.instanceMethod yX0_clear ∈ tb := tb_at (i := 538) (by decide +kernel) (by decide +kernel)
theorem kt_181 : Cond.selects RX0 yX0_clear yX0_clear ∈ tb := tb_at (i := 539) (by decide +kernel) (by decide +kernel)
theorem kt_182 : Cond.code yX0_addRange cX0_addRange 7 none ∈ tb := tb_at (i := 544) (by decide +kernel) (by decide +kernel)
theorem kt_183 : Cond.methodLink RX0 66 yX0_addRange ∈ tb := tb_at (i := 581) (by decide +kernel) (by decide +kernel)
theorem kt_184 : Cond.instanceMethod yX0_addRange ∈ tb := tb_at (i := 542) (by decide +kernel) (by decide +kernel)
theorem kt_185 : Cond.selects RX0 yX0_addRange yX0_addRange ∈ tb := tb_at (i := 543) (by decide +kernel) (by decide +kernel)
theorem kt_186 : Cond.code yX0_add cX0_add 2 none ∈ tb := tb_at (i := 496) (by decide +kernel) (by decide +kernel)
theorem kt_187 : Cond.methodLink RX0 34 yX0_add ∈ tb := tb_at (i := 493) (by decide +kernel) (by decide +kernel)
theorem kt_188 : Cond.instanceMethod yX0_add ∈ tb := tb_at (i := 494) (by decide +kernel) (by decide +kernel)
theorem kt_189 : Cond.selects RX0 yX0_add yX0_add ∈ tb := tb_at (i := 495) (by decide +kernel) (by decide +kernel)
set_option maxHeartbeats 4000000 in
set_option maxRecDepth 100000 in
theorem c_X0_clear (l : Launch) (dC : Nat → ClassId) (dI : Nat → Nat → Nat) (sz : Nat) (h0 : Nat) (q : Nat) (n : Int32) (v : Int32) : Met l yX0_clear (.code yX0_clear cX0_clear 1 none :: tb) ({ frames := 0, cells := 0, slots := 0, locals := 0 }) (va_Pc [.ref h0] (PW (dC, dI) sz [(h0, .inr (0, [.ref q, .int n, .int v]))] [])) (va_Qv (fun _ : Unit => True) (fun _ T9 => QW (dC, dI) (va_A [(h0, .inr (0, [.ref q, .int n, .int v]))] sz) [(h0, .inr (0, [.ref q, .int 0, .int 0]))] [] T9) (va_A [(h0, .inr (0, [.ref q, .int n, .int v]))] sz)) 0 0 (va_A [(h0, .inr (0, [.ref q, .int n, .int v]))] sz) := by
  refine Met.ofW (cc := cX0_clear) (maxL := 1) (ret := none) (by decide) rfl ?_
  intro p e s m args below meth c s₁ B hml hv
  obtain ⟨rfl, hsz, hP, hK, hD0, hE⟩ := hv
  have hx := B.exec
  have hb := B.bytes
  have hr := B.returns
  have hts : ∀ w ∈ tb, w.before _ s = true := fun w h => atoms_spec (ws := .code yX0_clear cX0_clear 1 none :: tb) B.pre w (List.mem_cons_of_mem _ h)
  have hown : s.vm.findClass RX0 = some m.cls := findClass_of_methodNamed B.named
  have hlocks := B.notSynchronized
  subst hsz
  have hD := hD0.self (sz := s.heap.size)
  generalize hAe : va_A [(h0, .inr (0, [.ref q, .int n, .int v]))] s.heap.size = A at hD ⊢
  have hA : ∀ q : Nat, s.heap.size ≤ q → A q := fun q h => by rw [← hAe]; exact Or.inr h
  have hS : va_S A s.heap s.heap [] := va_S.rf
  have hP : va_P (dC, dI) vwCl [(h0, .inr (0, [.ref q, .int n, .int v]))] s.heap := hP
  have hl := lv_entry ([.ref h0]) (n := 1) (Nat.le_of_ble_eq_true rfl)
  rw [lg_entry_eq]
  generalize (lg_sl ([.ref h0]) ++ List.replicate (1 - (lg_sl ([.ref h0])).length) Slot.unset).toArray = ls at hl ⊢
  have hl : lv_has ls 1 [(0, .ref h0)] := hl
  refine lv_aload_n hx hb dX0_clear_0 rfl (lv_at hl 0 rfl) ?_
  refine lv_iconst (v := 0) hx hb dX0_clear_1 (by decide) ?_
  refine va_put (D := (dC, dI)) (ci := 0) (v := .int 0) (ty := .int) (C := RX0) (T := TX0) (N := 3) hx hb hts it_0 tyX0 tyX0_ok nmX0 hown hK hP hD hS 0 rfl rfl 1 (by decide) (hts _ kt_3) (fun _ h9 => h9) rfl (by decide +kernel) rfl rfl (Nat.le_of_ble_eq_true rfl) dX0_clear_2 (fun H locs hP hD hS => ?_)
  have hP : va_P (dC, dI) vwCl [(h0, .inr (0, [.ref q, .int 0, .int v]))] H := hP
  have hD : va_D A [(h0, .inr (0, [.ref q, .int 0, .int v]))] := hD
  refine lv_aload_n hx hb dX0_clear_5 rfl (lv_at hl 0 rfl) ?_
  refine lv_iconst (v := 0) hx hb dX0_clear_6 (by decide) ?_
  refine va_put (D := (dC, dI)) (ci := 0) (v := .int 0) (ty := .boolean) (C := RX0) (T := TX0) (N := 3) hx hb hts it_0 tyX0 tyX0_ok nmX0 hown hK hP hD hS 0 rfl rfl 2 (by decide) (hts _ kt_4) (fun _ h9 => h9) rfl (by decide +kernel) rfl rfl (Nat.le_of_ble_eq_true rfl) dX0_clear_7 (fun H locs hP hD hS => ?_)
  have hP : va_P (dC, dI) vwCl [(h0, .inr (0, [.ref q, .int 0, .int 0]))] H := hP
  have hD : va_D A [(h0, .inr (0, [.ref q, .int 0, .int 0]))] := hD
  have hP9 := hP.sub (ws' := [(h0, .inr (0, [.ref q, .int 0, .int 0]))]) [0] rfl
  have hD9 := hD.sub (ws' := [(h0, .inr (0, [.ref q, .int 0, .int 0]))]) [0] (by decide) rfl
  have hK9 := hK.sub (tys' := []) [] rfl
  refine W.widen (k := 0) (n := 0) (by omega) (by omega) ?_
  exact W.vret hx hb hr (fun t ht hW => ⟨⟨(), rfl, trivial, QW.mk ht hW hP9 hK9 hD9⟩, hS.F ht⟩) hS.2.2 dX0_clear_10
set_option maxHeartbeats 4000000 in
set_option maxRecDepth 100000 in
theorem c_X0_cut (l : Launch) (dC : Nat → ClassId) (dI : Nat → Nat → Nat) (sz : Nat) (h0 : Nat) (q : Nat) : Met l yX0_cut (.code yX0_cut cX0_cut 2 none :: tb) ({ frames := 0, cells := 0, slots := 0, locals := 0 }) (va_Pc [.ref h0, .int 0] (PW (dC, dI) sz [(h0, .inr (0, [.ref q, .int 0, .int 0]))] [])) (va_Qv (fun _ : Unit => True) (fun _ T9 => QW (dC, dI) (va_A [(h0, .inr (0, [.ref q, .int 0, .int 0]))] sz) [(h0, .inr (0, [.ref q, .int 0, .int 0]))] [] T9) (va_A [(h0, .inr (0, [.ref q, .int 0, .int 0]))] sz)) 0 0 (va_A [(h0, .inr (0, [.ref q, .int 0, .int 0]))] sz) := by
  refine Met.ofW (cc := cX0_cut) (maxL := 2) (ret := none) (by decide) rfl ?_
  intro p e s m args below meth c s₁ B hml hv
  obtain ⟨rfl, hsz, hP, hK, hD0, hE⟩ := hv
  have hx := B.exec
  have hb := B.bytes
  have hr := B.returns
  have hts : ∀ w ∈ tb, w.before _ s = true := fun w h => atoms_spec (ws := .code yX0_cut cX0_cut 2 none :: tb) B.pre w (List.mem_cons_of_mem _ h)
  have hown : s.vm.findClass RX0 = some m.cls := findClass_of_methodNamed B.named
  have hlocks := B.notSynchronized
  subst hsz
  have hD := hD0.self (sz := s.heap.size)
  generalize hAe : va_A [(h0, .inr (0, [.ref q, .int 0, .int 0]))] s.heap.size = A at hD ⊢
  have hA : ∀ q : Nat, s.heap.size ≤ q → A q := fun q h => by rw [← hAe]; exact Or.inr h
  have hS : va_S A s.heap s.heap [] := va_S.rf
  have hP : va_P (dC, dI) vwCl [(h0, .inr (0, [.ref q, .int 0, .int 0]))] s.heap := hP
  have hl := lv_entry ([.ref h0, .int 0]) (n := 2) (Nat.le_of_ble_eq_true rfl)
  rw [lg_entry_eq]
  generalize (lg_sl ([.ref h0, .int 0]) ++ List.replicate (2 - (lg_sl ([.ref h0, .int 0])).length) Slot.unset).toArray = ls at hl ⊢
  have hl : lv_has ls 2 [(0, .ref h0), (1, .int 0)] := hl
  refine lv_iload_n hx hb dX0_cut_0 rfl (lv_at hl 1 rfl) ?_
  refine lv_if_lt (tgt := 17) hx hb dX0_cut_1 (by decide) (fun c_1 => absurd c_1 (by decide)) (fun c_1 => ?_)
  refine lv_iload_n hx hb dX0_cut_4 rfl (lv_at hl 1 rfl) ?_
  refine lv_aload_n hx hb dX0_cut_5 rfl (lv_at hl 0 rfl) ?_
  refine va_get (D := (dC, dI)) (ci := 0) (v := .int 0) (C := RX0) (T := TX0) (N := 3) hx hb hts it_0 hown hK hP 0 rfl rfl 1 (by decide) (hts _ kt_3) (fun _ h9 => h9) rfl dX0_cut_6 ?_
  refine lv_icmp_ge (tgt := 17) hx hb dX0_cut_9 (by decide) (fun c_2 => ?_) (fun c_2 => absurd (by decide) c_2)
  have hP9 := hP.sub (ws' := [(h0, .inr (0, [.ref q, .int 0, .int 0]))]) [0] rfl
  have hD9 := hD.sub (ws' := [(h0, .inr (0, [.ref q, .int 0, .int 0]))]) [0] (by decide) rfl
  have hK9 := hK.sub (tys' := []) [] rfl
  refine W.widen (k := 0) (n := 0) (by omega) (by omega) ?_
  exact W.vret hx hb hr (fun t ht hW => ⟨⟨(), rfl, trivial, QW.mk ht hW hP9 hK9 hD9⟩, hS.F ht⟩) hS.2.2 dX0_cut_17
set_option maxHeartbeats 4000000 in
set_option maxRecDepth 100000 in
theorem c_X0_find (l : Launch) (dC : Nat → ClassId) (dI : Nat → Nat → Nat) (sz : Nat) (h0 : Nat) (q : Nat) (x1 : Int32) : Met l yX0_find (.code yX0_find cX0_find 5 (some .int) :: tb) ({ frames := 1, cells := 0, slots := 0, locals := 21 }) (va_Pc [.ref h0, .int x1, .int 0, .int 0] (PW (dC, dI) sz [(h0, .inr (0, [.ref q, .int 0, .int 0]))] [])) (va_Qi (fun (r : Int32) (_ : Unit) => r = 0) (fun _ T9 => QW (dC, dI) (va_A [(h0, .inr (0, [.ref q, .int 0, .int 0]))] sz) [(h0, .inr (0, [.ref q, .int 0, .int 0]))] [] T9) (va_A [(h0, .inr (0, [.ref q, .int 0, .int 0]))] sz)) 0 0 (va_A [(h0, .inr (0, [.ref q, .int 0, .int 0]))] sz) := by
  refine Met.ofW (cc := cX0_find) (maxL := 5) (ret := (some .int)) (by decide) rfl ?_
  intro p e s m args below meth c s₁ B hml hv
  obtain ⟨rfl, hsz, hP, hK, hD0, hE⟩ := hv
  have hx := B.exec
  have hb := B.bytes
  have hr := B.returns
  have hts : ∀ w ∈ tb, w.before _ s = true := fun w h => atoms_spec (ws := .code yX0_find cX0_find 5 (some .int) :: tb) B.pre w (List.mem_cons_of_mem _ h)
  have hown : s.vm.findClass RX0 = some m.cls := findClass_of_methodNamed B.named
  have hlocks := B.notSynchronized
  subst hsz
  have hD := hD0.self (sz := s.heap.size)
  generalize hAe : va_A [(h0, .inr (0, [.ref q, .int 0, .int 0]))] s.heap.size = A at hD ⊢
  have hA : ∀ q : Nat, s.heap.size ≤ q → A q := fun q h => by rw [← hAe]; exact Or.inr h
  have hS : va_S A s.heap s.heap [] := va_S.rf
  have hP : va_P (dC, dI) vwCl [(h0, .inr (0, [.ref q, .int 0, .int 0]))] s.heap := hP
  have hl := lv_entry ([.ref h0, .int x1, .int 0, .int 0]) (n := 5) (Nat.le_of_ble_eq_true rfl)
  rw [lg_entry_eq]
  generalize (lg_sl ([.ref h0, .int x1, .int 0, .int 0]) ++ List.replicate (5 - (lg_sl ([.ref h0, .int x1, .int 0, .int 0])).length) Slot.unset).toArray = ls at hl ⊢
  have hl : lv_has ls 5 [(0, .ref h0), (1, .int x1), (2, .int 0), (3, .int 0)] := hl
  refine lv_iconst (v := 0) hx hb dX0_find_0 (by decide) ?_
  refine lv_iload_n hx hb dX0_find_1 rfl (lv_at hl 2 rfl) ?_
  refine va_mmax hx hb (by rw [hml]; exact hl.1.symm) hown (hts _ kt_171) (hts _ kt_172) (hts _ kt_173) (hts _ kt_174) (Nat.le_of_ble_eq_true rfl) (Nat.le_of_ble_eq_true rfl) (by show _ ≤ 0; omega) (by show _ ≤ 0; omega) dX0_find_2 ?_
  refine lv_topi (fun x_1 ex_1 => ?_)
  obtain rfl : x_1 = 0 := ex_1.trans (by decide)
  refine lv_istore (lv' := [(4, .int 0), (0, .ref h0), (1, .int x1), (2, .int 0), (3, .int 0)]) hx hb dX0_find_5 hl (by decide) rfl (fun ls hl => ?_)
  refine lv_iload hx hb dX0_find_7 (lv_at hl 0 rfl) ?_
  refine lv_iload_n hx hb dX0_find_9 rfl (lv_at hl 4 rfl) ?_
  refine lv_icmp_ge (tgt := 42) hx hb dX0_find_10 (by decide) (fun c_2 => ?_) (fun c_2 => absurd (by decide) c_2)
  refine lv_iload_n hx hb dX0_find_42 rfl (lv_at hl 4 rfl) ?_
  have hP9 := hP.sub (ws' := [(h0, .inr (0, [.ref q, .int 0, .int 0]))]) [0] rfl
  have hD9 := hD.sub (ws' := [(h0, .inr (0, [.ref q, .int 0, .int 0]))]) [0] (by decide) rfl
  have hK9 := hK.sub (tys' := []) [] rfl
  refine W.widen (k := 0) (n := 0) (by omega) (by omega) ?_
  exact W.iret (v := 0) hx hb hr (fun t ht hW => ⟨⟨0, (), rfl, rfl, QW.mk ht hW hP9 hK9 hD9⟩, hS.F ht⟩) hS.2.2 dX0_find_43
set_option maxHeartbeats 4000000 in
set_option maxRecDepth 100000 in
theorem c_X0_isName (l : Launch) (dC : Nat → ClassId) (dI : Nat → Nat → Nat) (sz : Nat) (h0 : Nat) (q : Nat) : Met l yX0_isName (.code yX0_isName cX0_isName 7 (some .boolean) :: tb) ({ frames := 0, cells := 0, slots := 0, locals := 0 }) (va_Pc [.ref h0, .int 0, .int 0] (PW (dC, dI) sz [(h0, .inr (0, [.ref q, .int 0, .int 0]))] [])) (va_Qi (fun (r : Int32) (_ : Unit) => r = 0) (fun _ T9 => QW (dC, dI) (va_A [(h0, .inr (0, [.ref q, .int 0, .int 0]))] sz) [(h0, .inr (0, [.ref q, .int 0, .int 0]))] [] T9) (va_A [(h0, .inr (0, [.ref q, .int 0, .int 0]))] sz)) 0 0 (va_A [(h0, .inr (0, [.ref q, .int 0, .int 0]))] sz) := by
  refine Met.ofW (cc := cX0_isName) (maxL := 7) (ret := (some .boolean)) (by decide) rfl ?_
  intro p e s m args below meth c s₁ B hml hv
  obtain ⟨rfl, hsz, hP, hK, hD0, hE⟩ := hv
  have hx := B.exec
  have hb := B.bytes
  have hr := B.returns
  have hts : ∀ w ∈ tb, w.before _ s = true := fun w h => atoms_spec (ws := .code yX0_isName cX0_isName 7 (some .boolean) :: tb) B.pre w (List.mem_cons_of_mem _ h)
  have hown : s.vm.findClass RX0 = some m.cls := findClass_of_methodNamed B.named
  have hlocks := B.notSynchronized
  subst hsz
  have hD := hD0.self (sz := s.heap.size)
  generalize hAe : va_A [(h0, .inr (0, [.ref q, .int 0, .int 0]))] s.heap.size = A at hD ⊢
  have hA : ∀ q : Nat, s.heap.size ≤ q → A q := fun q h => by rw [← hAe]; exact Or.inr h
  have hS : va_S A s.heap s.heap [] := va_S.rf
  have hP : va_P (dC, dI) vwCl [(h0, .inr (0, [.ref q, .int 0, .int 0]))] s.heap := hP
  have hl := lv_entry ([.ref h0, .int 0, .int 0]) (n := 7) (Nat.le_of_ble_eq_true rfl)
  rw [lg_entry_eq]
  generalize (lg_sl ([.ref h0, .int 0, .int 0]) ++ List.replicate (7 - (lg_sl ([.ref h0, .int 0, .int 0])).length) Slot.unset).toArray = ls at hl ⊢
  have hl : lv_has ls 7 [(0, .ref h0), (1, .int 0), (2, .int 0)] := hl
  refine lv_aload_n hx hb dX0_isName_0 rfl (lv_at hl 0 rfl) ?_
  refine va_get (D := (dC, dI)) (ci := 0) (v := .int 0) (C := RX0) (T := TX0) (N := 3) hx hb hts it_0 hown hK hP 0 rfl rfl 2 (by decide) (hts _ kt_4) (fun _ h9 => h9) rfl dX0_isName_1 ?_
  refine lv_if_ne (tgt := 22) hx hb dX0_isName_4 (by decide) (fun c_1 => absurd (by decide) c_1) (fun c_1 => ?_)
  refine lv_iload_n hx hb dX0_isName_7 rfl (lv_at hl 2 rfl) ?_
  refine lv_iload_n hx hb dX0_isName_8 rfl (lv_at hl 1 rfl) ?_
  refine lv_isub hx hb dX0_isName_9 ?_
  refine lv_topi (fun x_2 ex_2 => ?_)
  obtain rfl : x_2 = 0 := ex_2.trans (by decide)
  refine lv_iconst (v := 1) hx hb dX0_isName_10 (by decide) ?_
  refine lv_icmp_lt (tgt := 22) hx hb dX0_isName_11 (by decide) (fun c_3 => ?_) (fun c_3 => absurd (by decide) c_3)
  refine lv_iconst (v := 0) hx hb dX0_isName_22 (by decide) ?_
  have hP9 := hP.sub (ws' := [(h0, .inr (0, [.ref q, .int 0, .int 0]))]) [0] rfl
  have hD9 := hD.sub (ws' := [(h0, .inr (0, [.ref q, .int 0, .int 0]))]) [0] (by decide) rfl
  have hK9 := hK.sub (tys' := []) [] rfl
  refine W.widen (k := 0) (n := 0) (by omega) (by omega) ?_
  exact W.zret (v := 0) (ty := .boolean) hx hb hr (by decide) (fun t ht hW => ⟨⟨0, (), rfl, rfl, QW.mk ht hW hP9 hK9 hD9⟩, hS.F ht⟩) hS.2.2 dX0_isName_23
set_option maxHeartbeats 4000000 in
set_option maxRecDepth 100000 in
theorem c_X0_addRange (l : Launch) (dC : Nat → ClassId) (dI : Nat → Nat → Nat) (sz : Nat) (h0 : Nat) (q : Nat) (g1 : Nat) (g2 : Nat) (cA : ClassId) : Met l yX0_addRange (.code yX0_addRange cX0_addRange 7 none :: tb) ({ frames := 1, cells := 0, slots := 0, locals := 21 }) (va_Pc [.ref h0, .ref g1, .int 0, .int 0] (PW (dC, dI) sz [(h0, .inr (0, [.ref q, .int 0, .int 0])), (q, .inl (cA, 3000, .inl (fun _ => 0))), (g1, .inr (0, [.ref g2, .int 0, .int 0]))] [(cA, .int)])) (va_Qv (fun _ : Unit => True) (fun _ T9 => QW (dC, dI) (va_A [(h0, .inr (0, [.ref q, .int 0, .int 0])), (q, .inl (cA, 3000, .inl (fun _ => 0))), (g1, .inr (0, [.ref g2, .int 0, .int 0]))] sz) [(h0, .inr (0, [.ref q, .int 0, .int 0])), (q, .inl (cA, 3000, .inl (fun _ => 0))), (g1, .inr (0, [.ref g2, .int 0, .int 0]))] [(cA, .int)] T9) (va_A [(h0, .inr (0, [.ref q, .int 0, .int 0])), (q, .inl (cA, 3000, .inl (fun _ => 0))), (g1, .inr (0, [.ref g2, .int 0, .int 0]))] sz)) 0 0 (va_A [(h0, .inr (0, [.ref q, .int 0, .int 0])), (q, .inl (cA, 3000, .inl (fun _ => 0))), (g1, .inr (0, [.ref g2, .int 0, .int 0]))] sz) := by
  refine Met.ofW (cc := cX0_addRange) (maxL := 7) (ret := none) (by decide) rfl ?_
  intro p e s m args below meth c s₁ B hml hv
  obtain ⟨rfl, hsz, hP, hK, hD0, hE⟩ := hv
  have hx := B.exec
  have hb := B.bytes
  have hr := B.returns
  have hts : ∀ w ∈ tb, w.before _ s = true := fun w h => atoms_spec (ws := .code yX0_addRange cX0_addRange 7 none :: tb) B.pre w (List.mem_cons_of_mem _ h)
  have hown : s.vm.findClass RX0 = some m.cls := findClass_of_methodNamed B.named
  have hlocks := B.notSynchronized
  subst hsz
  have hD := hD0.self (sz := s.heap.size)
  generalize hAe : va_A [(h0, .inr (0, [.ref q, .int 0, .int 0])), (q, .inl (cA, 3000, .inl (fun _ => 0))), (g1, .inr (0, [.ref g2, .int 0, .int 0]))] s.heap.size = A at hD ⊢
  have hA : ∀ q : Nat, s.heap.size ≤ q → A q := fun q h => by rw [← hAe]; exact Or.inr h
  have hS : va_S A s.heap s.heap [] := va_S.rf
  have hP : va_P (dC, dI) vwCl [(h0, .inr (0, [.ref q, .int 0, .int 0])), (q, .inl (cA, 3000, .inl (fun _ => 0))), (g1, .inr (0, [.ref g2, .int 0, .int 0]))] s.heap := hP
  have hl := lv_entry ([.ref h0, .ref g1, .int 0, .int 0]) (n := 7) (Nat.le_of_ble_eq_true rfl)
  rw [lg_entry_eq]
  generalize (lg_sl ([.ref h0, .ref g1, .int 0, .int 0]) ++ List.replicate (7 - (lg_sl ([.ref h0, .ref g1, .int 0, .int 0])).length) Slot.unset).toArray = ls at hl ⊢
  have hl : lv_has ls 7 [(0, .ref h0), (1, .ref g1), (2, .int 0), (3, .int 0)] := hl
  refine lv_iconst (v := 0) hx hb dX0_addRange_0 (by decide) ?_
  refine lv_iload_n hx hb dX0_addRange_1 rfl (lv_at hl 2 rfl) ?_
  refine va_mmax hx hb (by rw [hml]; exact hl.1.symm) hown (hts _ kt_171) (hts _ kt_172) (hts _ kt_173) (hts _ kt_174) (Nat.le_of_ble_eq_true rfl) (Nat.le_of_ble_eq_true rfl) (by show _ ≤ 0; omega) (by show _ ≤ 0; omega) dX0_addRange_2 ?_
  refine lv_topi (fun x_1 ex_1 => ?_)
  obtain rfl : x_1 = 0 := ex_1.trans (by decide)
  refine lv_istore (lv' := [(4, .int 0), (0, .ref h0), (1, .ref g1), (2, .int 0), (3, .int 0)]) hx hb dX0_addRange_5 hl (by decide) rfl (fun ls hl => ?_)
  refine lv_iload_n hx hb dX0_addRange_7 rfl (lv_at hl 4 rfl) ?_
  refine lv_aload_n hx hb dX0_addRange_8 rfl (lv_at hl 2 rfl) ?_
  refine va_get (D := (dC, dI)) (ci := 0) (v := .int 0) (C := RX0) (T := TX0) (N := 3) hx hb hts it_0 hown hK hP 2 rfl rfl 1 (by decide) (hts _ kt_3) (fun _ h9 => h9) rfl dX0_addRange_9 ?_
  refine va_mmin hx hb (by rw [hml]; exact hl.1.symm) hown (hts _ kt_175) (hts _ kt_176) (hts _ kt_173) (hts _ kt_177) (Nat.le_of_ble_eq_true rfl) (Nat.le_of_ble_eq_true rfl) (by show _ ≤ 0; omega) (by show _ ≤ 0; omega) dX0_addRange_12 ?_
  refine lv_topi (fun x_2 ex_2 => ?_)
  obtain rfl : x_2 = 0 := ex_2.trans (by decide)
  refine lv_iload hx hb dX0_addRange_15 (lv_at hl 0 rfl) ?_
  refine lv_isub hx hb dX0_addRange_17 ?_
  refine lv_topi (fun x_3 ex_3 => ?_)
  obtain rfl : x_3 = 0 := ex_3.trans (by decide)
  refine lv_istore (lv' := [(5, .int 0), (4, .int 0), (0, .ref h0), (1, .ref g1), (2, .int 0), (3, .int 0)]) hx hb dX0_addRange_18 hl (by decide) rfl (fun ls hl => ?_)
  refine lv_iload hx hb dX0_addRange_20 (lv_at hl 0 rfl) ?_
  refine lv_aload_n hx hb dX0_addRange_22 rfl (lv_at hl 2 rfl) ?_
  refine va_get (D := (dC, dI)) (ci := 0) (v := .ref q) (C := RX0) (T := TX0) (N := 3) hx hb hts it_0 hown hK hP 0 rfl rfl 0 (by decide) (hts _ kt_6) (fun _ h9 => h9) rfl dX0_addRange_23 ?_
  refine va_alen (v := 3000) hx hb hK hP 1 0 rfl rfl rfl dX0_addRange_26 ?_
  refine lv_aload_n hx hb dX0_addRange_27 rfl (lv_at hl 2 rfl) ?_
  refine va_get (D := (dC, dI)) (ci := 0) (v := .int 0) (C := RX0) (T := TX0) (N := 3) hx hb hts it_0 hown hK hP 0 rfl rfl 1 (by decide) (hts _ kt_3) (fun _ h9 => h9) rfl dX0_addRange_28 ?_
  refine lv_isub hx hb dX0_addRange_31 ?_
  refine lv_topi (fun x_4 ex_4 => ?_)
  obtain rfl : x_4 = 3000 := ex_4.trans (by decide)
  refine va_mmin hx hb (by rw [hml]; exact hl.1.symm) hown (hts _ kt_175) (hts _ kt_176) (hts _ kt_173) (hts _ kt_177) (Nat.le_of_ble_eq_true rfl) (Nat.le_of_ble_eq_true rfl) (by show _ ≤ 0; omega) (by show _ ≤ 0; omega) dX0_addRange_32 ?_
  refine lv_topi (fun x_5 ex_5 => ?_)
  obtain rfl : x_5 = 0 := ex_5.trans (by decide)
  refine lv_istore (lv' := [(6, .int 0), (5, .int 0), (4, .int 0), (0, .ref h0), (1, .ref g1), (2, .int 0), (3, .int 0)]) hx hb dX0_addRange_35 hl (by decide) rfl (fun ls hl => ?_)
  refine lv_iload hx hb dX0_addRange_37 (lv_at hl 0 rfl) ?_
  refine lv_if_le (tgt := 72) hx hb dX0_addRange_39 (by decide) (fun c_6 => ?_) (fun c_6 => absurd (by decide) c_6)
  refine lv_aload_n hx hb dX0_addRange_72 rfl (lv_at hl 3 rfl) ?_
  refine lv_aload_n hx hb dX0_addRange_73 rfl (lv_at hl 3 rfl) ?_
  refine va_get (D := (dC, dI)) (ci := 0) (v := .int 0) (C := RX0) (T := TX0) (N := 3) hx hb hts it_0 hown hK hP 0 rfl rfl 2 (by decide) (hts _ kt_4) (fun _ h9 => h9) rfl dX0_addRange_74 ?_
  refine lv_if_ne (tgt := 87) hx hb dX0_addRange_77 (by decide) (fun c_7 => absurd (by decide) c_7) (fun c_7 => ?_)
  refine lv_iload hx hb dX0_addRange_80 (lv_at hl 0 rfl) ?_
  refine lv_iload hx hb dX0_addRange_82 (lv_at hl 1 rfl) ?_
  refine lv_icmp_ge (tgt := 91) hx hb dX0_addRange_84 (by decide) (fun c_8 => ?_) (fun c_8 => absurd (by decide) c_8)
  refine lv_iconst (v := 0) hx hb dX0_addRange_91 (by decide) ?_
  refine va_put (D := (dC, dI)) (ci := 0) (v := .int 0) (ty := .boolean) (C := RX0) (T := TX0) (N := 3) hx hb hts it_0 tyX0 tyX0_ok nmX0 hown hK hP hD hS 0 rfl rfl 2 (by decide) (hts _ kt_4) (fun _ h9 => h9) rfl (by decide +kernel) rfl rfl (Nat.le_of_ble_eq_true rfl) dX0_addRange_92 (fun H locs hP hD hS => ?_)
  have hP : va_P (dC, dI) vwCl [(h0, .inr (0, [.ref q, .int 0, .int 0])), (q, .inl (cA, 3000, .inl (fun _ => 0))), (g1, .inr (0, [.ref g2, .int 0, .int 0]))] H := hP
  have hD : va_D A [(h0, .inr (0, [.ref q, .int 0, .int 0])), (q, .inl (cA, 3000, .inl (fun _ => 0))), (g1, .inr (0, [.ref g2, .int 0, .int 0]))] := hD
  have hP9 := hP.sub (ws' := [(h0, .inr (0, [.ref q, .int 0, .int 0])), (q, .inl (cA, 3000, .inl (fun _ => 0))), (g1, .inr (0, [.ref g2, .int 0, .int 0]))]) [0, 1, 2] rfl
  have hD9 := hD.sub (ws' := [(h0, .inr (0, [.ref q, .int 0, .int 0])), (q, .inl (cA, 3000, .inl (fun _ => 0))), (g1, .inr (0, [.ref g2, .int 0, .int 0]))]) [0, 1, 2] (by decide) rfl
  have hK9 := hK.sub (tys' := [(cA, .int)]) [0] rfl
  refine W.widen (k := 0) (n := 0) (by omega) (by omega) ?_
  exact W.vret hx hb hr (fun t ht hW => ⟨⟨(), rfl, trivial, QW.mk ht hW hP9 hK9 hD9⟩, hS.F ht⟩) hS.2.2 dX0_addRange_95
set_option maxHeartbeats 4000000 in
set_option maxRecDepth 100000 in
theorem c_X0_copy (l : Launch) (dC : Nat → ClassId) (dI : Nat → Nat → Nat) (sz : Nat) (h0 : Nat) (q : Nat) (g1 : Nat) (g2 : Nat) (cA : ClassId) : Met l yX0_copy (.code yX0_copy cX0_copy 2 none :: tb) ({ frames := 2, cells := 0, slots := 0, locals := 47 }) (va_Pc [.ref h0, .ref g1] (PW (dC, dI) sz [(h0, .inr (0, [.ref q, .int 0, .int 0])), (q, .inl (cA, 3000, .inl (fun _ => 0))), (g1, .inr (0, [.ref g2, .int 0, .int 0]))] [(cA, .int)])) (va_Qv (fun _ : Unit => True) (fun _ T9 => QW (dC, dI) (va_A [(h0, .inr (0, [.ref q, .int 0, .int 0])), (q, .inl (cA, 3000, .inl (fun _ => 0))), (g1, .inr (0, [.ref g2, .int 0, .int 0]))] sz) [(h0, .inr (0, [.ref q, .int 0, .int 0])), (q, .inl (cA, 3000, .inl (fun _ => 0))), (g1, .inr (0, [.ref g2, .int 0, .int 0]))] [(cA, .int)] T9) (va_A [(h0, .inr (0, [.ref q, .int 0, .int 0])), (q, .inl (cA, 3000, .inl (fun _ => 0))), (g1, .inr (0, [.ref g2, .int 0, .int 0]))] sz)) 0 0 (va_A [(h0, .inr (0, [.ref q, .int 0, .int 0])), (q, .inl (cA, 3000, .inl (fun _ => 0))), (g1, .inr (0, [.ref g2, .int 0, .int 0]))] sz) := by
  refine Met.ofW (cc := cX0_copy) (maxL := 2) (ret := none) (by decide) rfl ?_
  intro p e s m args below meth c s₁ B hml hv
  obtain ⟨rfl, hsz, hP, hK, hD0, hE⟩ := hv
  have hx := B.exec
  have hb := B.bytes
  have hr := B.returns
  have hts : ∀ w ∈ tb, w.before _ s = true := fun w h => atoms_spec (ws := .code yX0_copy cX0_copy 2 none :: tb) B.pre w (List.mem_cons_of_mem _ h)
  have hown : s.vm.findClass RX0 = some m.cls := findClass_of_methodNamed B.named
  have hlocks := B.notSynchronized
  subst hsz
  have hD := hD0.self (sz := s.heap.size)
  generalize hAe : va_A [(h0, .inr (0, [.ref q, .int 0, .int 0])), (q, .inl (cA, 3000, .inl (fun _ => 0))), (g1, .inr (0, [.ref g2, .int 0, .int 0]))] s.heap.size = A at hD ⊢
  have hA : ∀ q : Nat, s.heap.size ≤ q → A q := fun q h => by rw [← hAe]; exact Or.inr h
  have hS : va_S A s.heap s.heap [] := va_S.rf
  have hP : va_P (dC, dI) vwCl [(h0, .inr (0, [.ref q, .int 0, .int 0])), (q, .inl (cA, 3000, .inl (fun _ => 0))), (g1, .inr (0, [.ref g2, .int 0, .int 0]))] s.heap := hP
  have hl := lv_entry ([.ref h0, .ref g1]) (n := 2) (Nat.le_of_ble_eq_true rfl)
  rw [lg_entry_eq]
  generalize (lg_sl ([.ref h0, .ref g1]) ++ List.replicate (2 - (lg_sl ([.ref h0, .ref g1])).length) Slot.unset).toArray = ls at hl ⊢
  have hl : lv_has ls 2 [(0, .ref h0), (1, .ref g1)] := hl
  refine lv_aload_n hx hb dX0_copy_0 rfl (lv_at hl 0 rfl) ?_
  have hPc := hP.sub (ws' := [(h0, .inr (0, [.ref q, .int 0, .int 0]))]) [0] rfl
  have hDc := hD.sub (ws' := [(h0, .inr (0, [.ref q, .int 0, .int 0]))]) [0] (by decide) rfl
  have hKc := hK.sub (tys' := []) [] rfl
  have hFc := va_free (wc := [(h0, .inr (0, [.ref q, .int 0, .int 0]))]) hD hS hA [0] rfl
  refine va_callv (va_runV (As := []) (rest := []) ⟨hx, hb, hml, hown, hts⟩ (c_X0_clear l dC dI s.heap.size h0 q 0 0 ) ⟨callB_of 0 hts (gi kt_178) rfl rfl rfl (hts _ kt_10) (hts _ kt_179) (by decide +kernel) ⟨Nat.le_of_ble_eq_true rfl, Nat.le_of_ble_eq_true rfl⟩, (hts _ kt_180), (hts _ kt_181)⟩ ⟨fun a U g mk q => ⟨q.1, PW.calling q.2⟩, va_recv hKc hPc (ci := 0) (q0 := 0) rfl rfl, fun U hU hW => ⟨rfl, PW.mk hU hW hPc hKc hDc hE⟩⟩ rfl rfl hl.1 rfl (lv_room (Nat.le_of_ble_eq_true rfl)) dX0_copy_1 ⟨by show _ + 0 ≤ 0; omega, by show _ + 0 ≤ 0; omega⟩) hS (fun q _ h => hFc q h) hFc (fun u t H1 locs ht hvm hw hB hz1 hk1 hS => ?_)
  have hB1 := hB
  obtain ⟨hP, hD, hK⟩ := QW.join (wr := [(q, .inl (cA, 3000, .inl (fun _ => 0))), (g1, .inr (0, [.ref g2, .int 0, .int 0]))]) hP hD hK [0] [1, 2] rfl rfl (by decide) (by decide) hk1 hFc ht hvm hB1
  generalize H1 = H at hP hS ⊢
  have hK : va_K (dC, dI) vwCl [(cA, .int)] s := hK.sub [0] rfl
  have hP : va_P (dC, dI) vwCl [(q, .inl (cA, 3000, .inl (fun _ => 0))), (g1, .inr (0, [.ref g2, .int 0, .int 0])), (h0, .inr (0, [.ref q, .int 0, .int 0]))] H := hP
  have hD : va_D A [(q, .inl (cA, 3000, .inl (fun _ => 0))), (g1, .inr (0, [.ref g2, .int 0, .int 0])), (h0, .inr (0, [.ref q, .int 0, .int 0]))] := hD
  refine lv_aload_n hx hb dX0_copy_4 rfl (lv_at hl 0 rfl) ?_
  refine lv_aload_n hx hb dX0_copy_5 rfl (lv_at hl 1 rfl) ?_
  refine lv_iconst (v := 0) hx hb dX0_copy_6 (by decide) ?_
  refine lv_aload_n hx hb dX0_copy_7 rfl (lv_at hl 1 rfl) ?_
  refine va_get (D := (dC, dI)) (ci := 0) (v := .int 0) (C := RX0) (T := TX0) (N := 3) hx hb hts it_0 hown hK hP 1 rfl rfl 1 (by decide) (hts _ kt_3) (fun _ h9 => h9) rfl dX0_copy_8 ?_
  have hPc := hP.sub (ws' := [(h0, .inr (0, [.ref q, .int 0, .int 0])), (q, .inl (cA, 3000, .inl (fun _ => 0))), (g1, .inr (0, [.ref g2, .int 0, .int 0]))]) [2, 0, 1] rfl
  have hDc := hD.sub (ws' := [(h0, .inr (0, [.ref q, .int 0, .int 0])), (q, .inl (cA, 3000, .inl (fun _ => 0))), (g1, .inr (0, [.ref g2, .int 0, .int 0]))]) [2, 0, 1] (by decide) rfl
  have hKc := hK.sub (tys' := [(cA, .int)]) [0] rfl
  have hFc := va_free (wc := [(h0, .inr (0, [.ref q, .int 0, .int 0])), (q, .inl (cA, 3000, .inl (fun _ => 0))), (g1, .inr (0, [.ref g2, .int 0, .int 0]))]) hD hS hA [2, 0, 1] rfl
  refine va_callv (va_runV (As := [.ref g1, .int 0, .int 0]) (rest := []) ⟨hx, hb, hml, hown, hts⟩ (c_X0_addRange l dC dI H.size h0 q g1 g2 cA ) ⟨callB_of 3 hts (gi kt_182) rfl rfl rfl (hts _ kt_10) (hts _ kt_183) (by decide +kernel) ⟨Nat.le_of_ble_eq_true rfl, Nat.le_of_ble_eq_true rfl⟩, (hts _ kt_184), (hts _ kt_185)⟩ ⟨fun a U g mk q => ⟨q.1, PW.calling q.2⟩, va_recv hKc hPc (ci := 0) (q0 := 0) rfl rfl, fun U hU hW => ⟨rfl, PW.mk hU hW hPc hKc hDc hE⟩⟩ rfl rfl hl.1 rfl (lv_room (Nat.le_of_ble_eq_true rfl)) dX0_copy_11 ⟨by show _ + 0 ≤ 0; omega, by show _ + 0 ≤ 0; omega⟩) hS (fun q _ h => hFc q h) hFc (fun u t H1 locs ht hvm hw hB hz1 hk1 hS => ?_)
  have hB1 := hB
  obtain ⟨hP, hD, hK⟩ := QW.join (wr := []) hP hD hK [2, 0, 1] [] rfl rfl (by decide) (by decide) hk1 hFc ht hvm hB1
  generalize H1 = H at hP hS ⊢
  have hK : va_K (dC, dI) vwCl [(cA, .int)] s := hK.sub [0] rfl
  have hP : va_P (dC, dI) vwCl [(h0, .inr (0, [.ref q, .int 0, .int 0])), (q, .inl (cA, 3000, .inl (fun _ => 0))), (g1, .inr (0, [.ref g2, .int 0, .int 0]))] H := hP
  have hD : va_D A [(h0, .inr (0, [.ref q, .int 0, .int 0])), (q, .inl (cA, 3000, .inl (fun _ => 0))), (g1, .inr (0, [.ref g2, .int 0, .int 0]))] := hD
  have hP9 := hP.sub (ws' := [(h0, .inr (0, [.ref q, .int 0, .int 0])), (q, .inl (cA, 3000, .inl (fun _ => 0))), (g1, .inr (0, [.ref g2, .int 0, .int 0]))]) [0, 1, 2] rfl
  have hD9 := hD.sub (ws' := [(h0, .inr (0, [.ref q, .int 0, .int 0])), (q, .inl (cA, 3000, .inl (fun _ => 0))), (g1, .inr (0, [.ref g2, .int 0, .int 0]))]) [0, 1, 2] (by decide) rfl
  have hK9 := hK.sub (tys' := [(cA, .int)]) [0] rfl
  refine W.widen (k := 0) (n := 0) (by omega) (by omega) ?_
  exact W.vret hx hb hr (fun t ht hW => ⟨⟨(), rfl, trivial, QW.mk ht hW hP9 hK9 hD9⟩, hS.F ht⟩) hS.2.2 dX0_copy_14
set_option maxHeartbeats 4000000 in
set_option maxRecDepth 100000 in
theorem c_X0_add (l : Launch) (dC : Nat → ClassId) (dI : Nat → Nat → Nat) (sz : Nat) (h0 : Nat) (q : Nat) (n : Nat) (cA : ClassId) (f : Nat → Int32) (x1 : Int32) (hn : n < 3000) : Met l yX0_add (.code yX0_add cX0_add 2 none :: tb) ({ frames := 0, cells := 0, slots := 0, locals := 0 }) (va_Pc [.ref h0, .int x1] (PW (dC, dI) sz [(h0, .inr (0, [.ref q, .int (nI n), .int 0])), (q, .inl (cA, 3000, .inl f))] [(cA, .int)])) (va_Qv (fun _ : Unit => True) (fun _ T9 => ∃ (f2 : Nat → Int32), QW (dC, dI) (va_A [(h0, .inr (0, [.ref q, .int (nI n), .int 0])), (q, .inl (cA, 3000, .inl f))] sz) [(h0, .inr (0, [.ref q, .int (nI (n + 1)), .int 0])), (q, .inl (cA, 3000, .inl f2))] [(cA, .int)] T9) (va_A [(h0, .inr (0, [.ref q, .int (nI n), .int 0])), (q, .inl (cA, 3000, .inl f))] sz)) 0 0 (va_A [(h0, .inr (0, [.ref q, .int (nI n), .int 0])), (q, .inl (cA, 3000, .inl f))] sz) := by
  refine Met.ofW (cc := cX0_add) (maxL := 2) (ret := none) (by decide) rfl ?_
  intro p e s m args below meth c s₁ B hml hv
  obtain ⟨rfl, hsz, hP, hK, hD0, hE⟩ := hv
  have hx := B.exec
  have hb := B.bytes
  have hr := B.returns
  have hts : ∀ w ∈ tb, w.before _ s = true := fun w h => atoms_spec (ws := .code yX0_add cX0_add 2 none :: tb) B.pre w (List.mem_cons_of_mem _ h)
  have hown : s.vm.findClass RX0 = some m.cls := findClass_of_methodNamed B.named
  have hlocks := B.notSynchronized
  subst hsz
  have hD := hD0.self (sz := s.heap.size)
  generalize hAe : va_A [(h0, .inr (0, [.ref q, .int (nI n), .int 0])), (q, .inl (cA, 3000, .inl f))] s.heap.size = A at hD ⊢
  have hA : ∀ q : Nat, s.heap.size ≤ q → A q := fun q h => by rw [← hAe]; exact Or.inr h
  have hS : va_S A s.heap s.heap [] := va_S.rf
  have hP : va_P (dC, dI) vwCl [(h0, .inr (0, [.ref q, .int (nI n), .int 0])), (q, .inl (cA, 3000, .inl f))] s.heap := hP
  have hl := lv_entry ([.ref h0, .int x1]) (n := 2) (Nat.le_of_ble_eq_true rfl)
  rw [lg_entry_eq]
  generalize (lg_sl ([.ref h0, .int x1]) ++ List.replicate (2 - (lg_sl ([.ref h0, .int x1])).length) Slot.unset).toArray = ls at hl ⊢
  have hl : lv_has ls 2 [(0, .ref h0), (1, .int x1)] := hl
  refine lv_aload_n hx hb dX0_add_0 rfl (lv_at hl 0 rfl) ?_
  refine va_get (D := (dC, dI)) (ci := 0) (v := .int (nI n)) (C := RX0) (T := TX0) (N := 3) hx hb hts it_0 hown hK hP 0 rfl rfl 1 (by decide) (hts _ kt_3) (fun _ h9 => h9) rfl dX0_add_1 ?_
  refine lv_aload_n hx hb dX0_add_4 rfl (lv_at hl 0 rfl) ?_
  refine va_get (D := (dC, dI)) (ci := 0) (v := .ref q) (C := RX0) (T := TX0) (N := 3) hx hb hts it_0 hown hK hP 0 rfl rfl 0 (by decide) (hts _ kt_6) (fun _ h9 => h9) rfl dX0_add_5 ?_
  refine va_alen (v := 3000) hx hb hK hP 1 0 rfl rfl rfl dX0_add_8 ?_
  refine lv_icmp_ge (tgt := 35) hx hb dX0_add_9 (by decide) (fun c_1 => absurd c_1 (show ¬ nI 3000 ≤ nI n from nI_ge hn (by omega))) (fun c_1 => ?_)
  refine lv_aload_n hx hb dX0_add_12 rfl (lv_at hl 0 rfl) ?_
  refine va_get (D := (dC, dI)) (ci := 0) (v := .ref q) (C := RX0) (T := TX0) (N := 3) hx hb hts it_0 hown hK hP 0 rfl rfl 0 (by decide) (hts _ kt_6) (fun _ h9 => h9) rfl dX0_add_13 ?_
  refine lv_aload_n hx hb dX0_add_16 rfl (lv_at hl 0 rfl) ?_
  refine va_get (D := (dC, dI)) (ci := 0) (v := .int (nI n)) (C := RX0) (T := TX0) (N := 3) hx hb hts it_0 hown hK hP 0 rfl rfl 1 (by decide) (hts _ kt_3) (fun _ h9 => h9) rfl dX0_add_17 ?_
  refine lv_iload_n hx hb dX0_add_20 rfl (lv_at hl 1 rfl) ?_
  refine va_iast hx hb hK hP hD hS 1 0 rfl rfl (vp_in_nI (by omega) (by omega)) dX0_add_21 (fun H locs hP hD hS => ?_)
  obtain ⟨f_2, hP, hD⟩ : ∃ f_2 : Nat → Int32, va_P (dC, dI) vwCl [(h0, .inr (0, [.ref q, .int (nI n), .int 0])), (q, .inl (cA, 3000, .inl f_2))] H ∧ va_D A [(h0, .inr (0, [.ref q, .int (nI n), .int 0])), (q, .inl (cA, 3000, .inl f_2))] := ⟨_, hP, hD⟩
  refine lv_aload_n hx hb dX0_add_22 rfl (lv_at hl 0 rfl) ?_
  refine lv_dup hx hb dX0_add_23 rfl ?_
  refine va_get (D := (dC, dI)) (ci := 0) (v := .int (nI n)) (C := RX0) (T := TX0) (N := 3) hx hb hts it_0 hown hK hP 0 rfl rfl 1 (by decide) (hts _ kt_3) (fun _ h9 => h9) rfl dX0_add_24 ?_
  refine lv_iconst (v := 1) hx hb dX0_add_27 (by decide) ?_
  refine lv_iadd hx hb dX0_add_28 ?_
  refine lv_topi (fun x_3 ex_3 => ?_)
  obtain rfl : x_3 = (nI (n + 1)) := ex_3.trans (nI_1 n)
  refine va_put (D := (dC, dI)) (ci := 0) (v := .int (nI (n + 1))) (ty := .int) (C := RX0) (T := TX0) (N := 3) hx hb hts it_0 tyX0 tyX0_ok nmX0 hown hK hP hD hS 0 rfl rfl 1 (by decide) (hts _ kt_3) (fun _ h9 => h9) rfl (by decide +kernel) rfl rfl (Nat.le_of_ble_eq_true rfl) dX0_add_29 (fun H locs hP hD hS => ?_)
  have hP : va_P (dC, dI) vwCl [(h0, .inr (0, [.ref q, .int (nI (n + 1)), .int 0])), (q, .inl (cA, 3000, .inl f_2))] H := hP
  have hD : va_D A [(h0, .inr (0, [.ref q, .int (nI (n + 1)), .int 0])), (q, .inl (cA, 3000, .inl f_2))] := hD
  refine lv_goto (tgt := 40) hx hb dX0_add_32 (by decide) ?_
  have hP9 := hP.sub (ws' := [(h0, .inr (0, [.ref q, .int (nI (n + 1)), .int 0])), (q, .inl (cA, 3000, .inl f_2))]) [0, 1] rfl
  have hD9 := hD.sub (ws' := [(h0, .inr (0, [.ref q, .int (nI (n + 1)), .int 0])), (q, .inl (cA, 3000, .inl f_2))]) [0, 1] (by decide) rfl
  have hK9 := hK.sub (tys' := [(cA, .int)]) [0] rfl
  refine W.widen (k := 0) (n := 0) (by omega) (by omega) ?_
  exact W.vret hx hb hr (fun t ht hW => ⟨⟨(), rfl, trivial, ⟨f_2, QW.mk ht hW hP9 hK9 hD9⟩⟩, hS.F ht⟩) hS.2.2 dX0_add_40
set_option maxHeartbeats 4000000 in
set_option maxRecDepth 100000 in
theorem c_X0_addFour (l : Launch) (dC : Nat → ClassId) (dI : Nat → Nat → Nat) (sz : Nat) (h0 : Nat) (q : Nat) (n : Nat) (cA : ClassId) (f : Nat → Int32) (x1 : Int32) (hn : n + 4 ≤ 3000) : Met l yX0_addFour (.code yX0_addFour cX0_addFour 3 none :: tb) ({ frames := 1, cells := 0, slots := 0, locals := 21 }) (va_Pc [.ref h0, .int x1] (PW (dC, dI) sz [(h0, .inr (0, [.ref q, .int (nI n), .int 0])), (q, .inl (cA, 3000, .inl f))] [(cA, .int)])) (va_Qv (fun _ : Unit => True) (fun _ T9 => ∃ (f2 : Nat → Int32), QW (dC, dI) (va_A [(h0, .inr (0, [.ref q, .int (nI n), .int 0])), (q, .inl (cA, 3000, .inl f))] sz) [(h0, .inr (0, [.ref q, .int (nI (n + 4)), .int 0])), (q, .inl (cA, 3000, .inl f2))] [(cA, .int)] T9) (va_A [(h0, .inr (0, [.ref q, .int (nI n), .int 0])), (q, .inl (cA, 3000, .inl f))] sz)) 0 0 (va_A [(h0, .inr (0, [.ref q, .int (nI n), .int 0])), (q, .inl (cA, 3000, .inl f))] sz) := by
  refine Met.ofW (cc := cX0_addFour) (maxL := 3) (ret := none) (by decide) rfl ?_
  intro p e s m args below meth c s₁ B hml hv
  obtain ⟨rfl, hsz, hP, hK, hD0, hE⟩ := hv
  have hx := B.exec
  have hb := B.bytes
  have hr := B.returns
  have hts : ∀ w ∈ tb, w.before _ s = true := fun w h => atoms_spec (ws := .code yX0_addFour cX0_addFour 3 none :: tb) B.pre w (List.mem_cons_of_mem _ h)
  have hown : s.vm.findClass RX0 = some m.cls := findClass_of_methodNamed B.named
  have hlocks := B.notSynchronized
  subst hsz
  have hD := hD0.self (sz := s.heap.size)
  generalize hAe : va_A [(h0, .inr (0, [.ref q, .int (nI n), .int 0])), (q, .inl (cA, 3000, .inl f))] s.heap.size = A at hD ⊢
  have hA : ∀ q : Nat, s.heap.size ≤ q → A q := fun q h => by rw [← hAe]; exact Or.inr h
  have hS : va_S A s.heap s.heap [] := va_S.rf
  have hP : va_P (dC, dI) vwCl [(h0, .inr (0, [.ref q, .int (nI n), .int 0])), (q, .inl (cA, 3000, .inl f))] s.heap := hP
  have hl := lv_entry ([.ref h0, .int x1]) (n := 3) (Nat.le_of_ble_eq_true rfl)
  rw [lg_entry_eq]
  generalize (lg_sl ([.ref h0, .int x1]) ++ List.replicate (3 - (lg_sl ([.ref h0, .int x1])).length) Slot.unset).toArray = ls at hl ⊢
  have hl : lv_has ls 3 [(0, .ref h0), (1, .int x1)] := hl
  refine lv_bipush (v := 24) hx hb dX0_addFour_0 (by decide) ?_
  refine lv_istore_n (lv' := [(2, .int 24), (0, .ref h0), (1, .int x1)]) hx hb dX0_addFour_2 rfl hl (by decide) rfl (fun ls hl => ?_)
  refine lv_iload_n hx hb dX0_addFour_3 rfl (lv_at hl 0 rfl) ?_
  refine lv_if_lt (tgt := 24) hx hb dX0_addFour_4 (by decide) (fun c_1 => absurd c_1 (by decide)) (fun c_1 => ?_)
  refine lv_aload_n hx hb dX0_addFour_7 rfl (lv_at hl 1 rfl) ?_
  refine lv_iload_n hx hb dX0_addFour_8 rfl (lv_at hl 2 rfl) ?_
  refine lv_iload_n hx hb dX0_addFour_9 rfl (lv_at hl 0 rfl) ?_
  refine lv_iushr hx hb dX0_addFour_10 rfl ?_
  refine lv_topi (fun x_3 _ => ?_)
  refine lv_sipush (v := 255) hx hb dX0_addFour_11 (by decide) ?_
  refine lv_iand hx hb dX0_addFour_14 ?_
  refine lv_topi (fun x_4 _ => ?_)
  have hPc := hP.sub (ws' := [(h0, .inr (0, [.ref q, .int (nI n), .int 0])), (q, .inl (cA, 3000, .inl f))]) [0, 1] rfl
  have hDc := hD.sub (ws' := [(h0, .inr (0, [.ref q, .int (nI n), .int 0])), (q, .inl (cA, 3000, .inl f))]) [0, 1] (by decide) rfl
  have hKc := hK.sub (tys' := [(cA, .int)]) [0] rfl
  have hFc := va_free (wc := [(h0, .inr (0, [.ref q, .int (nI n), .int 0])), (q, .inl (cA, 3000, .inl f))]) hD hS hA [0, 1] rfl
  refine va_callv (va_runV (As := [.int x_4]) (rest := []) ⟨hx, hb, hml, hown, hts⟩ (c_X0_add l dC dI s.heap.size h0 q n cA f x_4 (by omega)) ⟨callB_of 1 hts (gi kt_186) rfl rfl rfl (hts _ kt_10) (hts _ kt_187) (by decide +kernel) ⟨Nat.le_of_ble_eq_true rfl, Nat.le_of_ble_eq_true rfl⟩, (hts _ kt_188), (hts _ kt_189)⟩ ⟨fun a U g mk q => ⟨q.1, PW.calling q.2⟩, va_recv hKc hPc (ci := 0) (q0 := 0) rfl rfl, fun U hU hW => ⟨rfl, PW.mk hU hW hPc hKc hDc hE⟩⟩ rfl rfl hl.1 rfl (lv_room (Nat.le_of_ble_eq_true rfl)) dX0_addFour_15 ⟨by show _ + 0 ≤ 0; omega, by show _ + 0 ≤ 0; omega⟩) hS (fun q _ h => hFc q h) hFc (fun u t H1 locs ht hvm hw hB hz1 hk1 hS => ?_)
  obtain ⟨f2_6, hB1⟩ := hB
  obtain ⟨hP, hD, hK⟩ := QW.join (wr := []) hP hD hK [0, 1] [] rfl rfl (by decide) (by decide) hk1 hFc ht hvm hB1
  generalize H1 = H at hP hS ⊢
  have hK : va_K (dC, dI) vwCl [(cA, .int)] s := hK.sub [0] rfl
  have hP : va_P (dC, dI) vwCl [(h0, .inr (0, [.ref q, .int (nI (n + 1)), .int 0])), (q, .inl (cA, 3000, .inl f2_6))] H := hP
  have hD : va_D A [(h0, .inr (0, [.ref q, .int (nI (n + 1)), .int 0])), (q, .inl (cA, 3000, .inl f2_6))] := hD
  refine lv_iinc (v := 16) (lv' := [(2, .int 16), (0, .ref h0), (1, .int x1)]) hx hb dX0_addFour_18 hl (k := 0) rfl (by decide) (by decide) rfl (fun ls hl => ?_)
  refine lv_goto (tgt := 3) hx hb dX0_addFour_21 (by decide) ?_
  refine lv_iload_n hx hb dX0_addFour_3 rfl (lv_at hl 0 rfl) ?_
  refine lv_if_lt (tgt := 24) hx hb dX0_addFour_4 (by decide) (fun c_7 => absurd c_7 (by decide)) (fun c_7 => ?_)
  refine lv_aload_n hx hb dX0_addFour_7 rfl (lv_at hl 1 rfl) ?_
  refine lv_iload_n hx hb dX0_addFour_8 rfl (lv_at hl 2 rfl) ?_
  refine lv_iload_n hx hb dX0_addFour_9 rfl (lv_at hl 0 rfl) ?_
  refine lv_iushr hx hb dX0_addFour_10 rfl ?_
  refine lv_topi (fun x_9 _ => ?_)
  refine lv_sipush (v := 255) hx hb dX0_addFour_11 (by decide) ?_
  refine lv_iand hx hb dX0_addFour_14 ?_
  refine lv_topi (fun x_10 _ => ?_)
  have hPc := hP.sub (ws' := [(h0, .inr (0, [.ref q, .int (nI (n + 1)), .int 0])), (q, .inl (cA, 3000, .inl f2_6))]) [0, 1] rfl
  have hDc := hD.sub (ws' := [(h0, .inr (0, [.ref q, .int (nI (n + 1)), .int 0])), (q, .inl (cA, 3000, .inl f2_6))]) [0, 1] (by decide) rfl
  have hKc := hK.sub (tys' := [(cA, .int)]) [0] rfl
  have hFc := va_free (wc := [(h0, .inr (0, [.ref q, .int (nI (n + 1)), .int 0])), (q, .inl (cA, 3000, .inl f2_6))]) hD hS hA [0, 1] rfl
  refine va_callv (va_runV (As := [.int x_10]) (rest := []) ⟨hx, hb, hml, hown, hts⟩ (c_X0_add l dC dI H.size h0 q (n + 1) cA f2_6 x_10 (by omega)) ⟨callB_of 1 hts (gi kt_186) rfl rfl rfl (hts _ kt_10) (hts _ kt_187) (by decide +kernel) ⟨Nat.le_of_ble_eq_true rfl, Nat.le_of_ble_eq_true rfl⟩, (hts _ kt_188), (hts _ kt_189)⟩ ⟨fun a U g mk q => ⟨q.1, PW.calling q.2⟩, va_recv hKc hPc (ci := 0) (q0 := 0) rfl rfl, fun U hU hW => ⟨rfl, PW.mk hU hW hPc hKc hDc hE⟩⟩ rfl rfl hl.1 rfl (lv_room (Nat.le_of_ble_eq_true rfl)) dX0_addFour_15 ⟨by show _ + 0 ≤ 0; omega, by show _ + 0 ≤ 0; omega⟩) hS (fun q _ h => hFc q h) hFc (fun u t H1 locs ht hvm hw hB hz1 hk1 hS => ?_)
  obtain ⟨f2_12, hB1⟩ := hB
  obtain ⟨hP, hD, hK⟩ := QW.join (wr := []) hP hD hK [0, 1] [] rfl rfl (by decide) (by decide) hk1 hFc ht hvm hB1
  generalize H1 = H at hP hS ⊢
  have hK : va_K (dC, dI) vwCl [(cA, .int)] s := hK.sub [0] rfl
  have hP : va_P (dC, dI) vwCl [(h0, .inr (0, [.ref q, .int (nI (n + 2)), .int 0])), (q, .inl (cA, 3000, .inl f2_12))] H := hP
  have hD : va_D A [(h0, .inr (0, [.ref q, .int (nI (n + 2)), .int 0])), (q, .inl (cA, 3000, .inl f2_12))] := hD
  refine lv_iinc (v := 8) (lv' := [(2, .int 8), (0, .ref h0), (1, .int x1)]) hx hb dX0_addFour_18 hl (k := 0) rfl (by decide) (by decide) rfl (fun ls hl => ?_)
  refine lv_goto (tgt := 3) hx hb dX0_addFour_21 (by decide) ?_
  refine lv_iload_n hx hb dX0_addFour_3 rfl (lv_at hl 0 rfl) ?_
  refine lv_if_lt (tgt := 24) hx hb dX0_addFour_4 (by decide) (fun c_13 => absurd c_13 (by decide)) (fun c_13 => ?_)
  refine lv_aload_n hx hb dX0_addFour_7 rfl (lv_at hl 1 rfl) ?_
  refine lv_iload_n hx hb dX0_addFour_8 rfl (lv_at hl 2 rfl) ?_
  refine lv_iload_n hx hb dX0_addFour_9 rfl (lv_at hl 0 rfl) ?_
  refine lv_iushr hx hb dX0_addFour_10 rfl ?_
  refine lv_topi (fun x_15 _ => ?_)
  refine lv_sipush (v := 255) hx hb dX0_addFour_11 (by decide) ?_
  refine lv_iand hx hb dX0_addFour_14 ?_
  refine lv_topi (fun x_16 _ => ?_)
  have hPc := hP.sub (ws' := [(h0, .inr (0, [.ref q, .int (nI (n + 2)), .int 0])), (q, .inl (cA, 3000, .inl f2_12))]) [0, 1] rfl
  have hDc := hD.sub (ws' := [(h0, .inr (0, [.ref q, .int (nI (n + 2)), .int 0])), (q, .inl (cA, 3000, .inl f2_12))]) [0, 1] (by decide) rfl
  have hKc := hK.sub (tys' := [(cA, .int)]) [0] rfl
  have hFc := va_free (wc := [(h0, .inr (0, [.ref q, .int (nI (n + 2)), .int 0])), (q, .inl (cA, 3000, .inl f2_12))]) hD hS hA [0, 1] rfl
  refine va_callv (va_runV (As := [.int x_16]) (rest := []) ⟨hx, hb, hml, hown, hts⟩ (c_X0_add l dC dI H.size h0 q (n + 2) cA f2_12 x_16 (by omega)) ⟨callB_of 1 hts (gi kt_186) rfl rfl rfl (hts _ kt_10) (hts _ kt_187) (by decide +kernel) ⟨Nat.le_of_ble_eq_true rfl, Nat.le_of_ble_eq_true rfl⟩, (hts _ kt_188), (hts _ kt_189)⟩ ⟨fun a U g mk q => ⟨q.1, PW.calling q.2⟩, va_recv hKc hPc (ci := 0) (q0 := 0) rfl rfl, fun U hU hW => ⟨rfl, PW.mk hU hW hPc hKc hDc hE⟩⟩ rfl rfl hl.1 rfl (lv_room (Nat.le_of_ble_eq_true rfl)) dX0_addFour_15 ⟨by show _ + 0 ≤ 0; omega, by show _ + 0 ≤ 0; omega⟩) hS (fun q _ h => hFc q h) hFc (fun u t H1 locs ht hvm hw hB hz1 hk1 hS => ?_)
  obtain ⟨f2_18, hB1⟩ := hB
  obtain ⟨hP, hD, hK⟩ := QW.join (wr := []) hP hD hK [0, 1] [] rfl rfl (by decide) (by decide) hk1 hFc ht hvm hB1
  generalize H1 = H at hP hS ⊢
  have hK : va_K (dC, dI) vwCl [(cA, .int)] s := hK.sub [0] rfl
  have hP : va_P (dC, dI) vwCl [(h0, .inr (0, [.ref q, .int (nI (n + 3)), .int 0])), (q, .inl (cA, 3000, .inl f2_18))] H := hP
  have hD : va_D A [(h0, .inr (0, [.ref q, .int (nI (n + 3)), .int 0])), (q, .inl (cA, 3000, .inl f2_18))] := hD
  refine lv_iinc (v := 0) (lv' := [(2, .int 0), (0, .ref h0), (1, .int x1)]) hx hb dX0_addFour_18 hl (k := 0) rfl (by decide) (by decide) rfl (fun ls hl => ?_)
  refine lv_goto (tgt := 3) hx hb dX0_addFour_21 (by decide) ?_
  refine lv_iload_n hx hb dX0_addFour_3 rfl (lv_at hl 0 rfl) ?_
  refine lv_if_lt (tgt := 24) hx hb dX0_addFour_4 (by decide) (fun c_19 => absurd c_19 (by decide)) (fun c_19 => ?_)
  refine lv_aload_n hx hb dX0_addFour_7 rfl (lv_at hl 1 rfl) ?_
  refine lv_iload_n hx hb dX0_addFour_8 rfl (lv_at hl 2 rfl) ?_
  refine lv_iload_n hx hb dX0_addFour_9 rfl (lv_at hl 0 rfl) ?_
  refine lv_iushr hx hb dX0_addFour_10 rfl ?_
  refine lv_topi (fun x_21 _ => ?_)
  refine lv_sipush (v := 255) hx hb dX0_addFour_11 (by decide) ?_
  refine lv_iand hx hb dX0_addFour_14 ?_
  refine lv_topi (fun x_22 _ => ?_)
  have hPc := hP.sub (ws' := [(h0, .inr (0, [.ref q, .int (nI (n + 3)), .int 0])), (q, .inl (cA, 3000, .inl f2_18))]) [0, 1] rfl
  have hDc := hD.sub (ws' := [(h0, .inr (0, [.ref q, .int (nI (n + 3)), .int 0])), (q, .inl (cA, 3000, .inl f2_18))]) [0, 1] (by decide) rfl
  have hKc := hK.sub (tys' := [(cA, .int)]) [0] rfl
  have hFc := va_free (wc := [(h0, .inr (0, [.ref q, .int (nI (n + 3)), .int 0])), (q, .inl (cA, 3000, .inl f2_18))]) hD hS hA [0, 1] rfl
  refine va_callv (va_runV (As := [.int x_22]) (rest := []) ⟨hx, hb, hml, hown, hts⟩ (c_X0_add l dC dI H.size h0 q (n + 3) cA f2_18 x_22 (by omega)) ⟨callB_of 1 hts (gi kt_186) rfl rfl rfl (hts _ kt_10) (hts _ kt_187) (by decide +kernel) ⟨Nat.le_of_ble_eq_true rfl, Nat.le_of_ble_eq_true rfl⟩, (hts _ kt_188), (hts _ kt_189)⟩ ⟨fun a U g mk q => ⟨q.1, PW.calling q.2⟩, va_recv hKc hPc (ci := 0) (q0 := 0) rfl rfl, fun U hU hW => ⟨rfl, PW.mk hU hW hPc hKc hDc hE⟩⟩ rfl rfl hl.1 rfl (lv_room (Nat.le_of_ble_eq_true rfl)) dX0_addFour_15 ⟨by show _ + 0 ≤ 0; omega, by show _ + 0 ≤ 0; omega⟩) hS (fun q _ h => hFc q h) hFc (fun u t H1 locs ht hvm hw hB hz1 hk1 hS => ?_)
  obtain ⟨f2_24, hB1⟩ := hB
  obtain ⟨hP, hD, hK⟩ := QW.join (wr := []) hP hD hK [0, 1] [] rfl rfl (by decide) (by decide) hk1 hFc ht hvm hB1
  generalize H1 = H at hP hS ⊢
  have hK : va_K (dC, dI) vwCl [(cA, .int)] s := hK.sub [0] rfl
  have hP : va_P (dC, dI) vwCl [(h0, .inr (0, [.ref q, .int (nI (n + 4)), .int 0])), (q, .inl (cA, 3000, .inl f2_24))] H := hP
  have hD : va_D A [(h0, .inr (0, [.ref q, .int (nI (n + 4)), .int 0])), (q, .inl (cA, 3000, .inl f2_24))] := hD
  refine lv_iinc (v := (-8)) (lv' := [(2, .int (-8)), (0, .ref h0), (1, .int x1)]) hx hb dX0_addFour_18 hl (k := 0) rfl (by decide) (by decide) rfl (fun ls hl => ?_)
  refine lv_goto (tgt := 3) hx hb dX0_addFour_21 (by decide) ?_
  refine lv_iload_n hx hb dX0_addFour_3 rfl (lv_at hl 0 rfl) ?_
  refine lv_if_lt (tgt := 24) hx hb dX0_addFour_4 (by decide) (fun c_25 => ?_) (fun c_25 => absurd (by decide) c_25)
  have hP9 := hP.sub (ws' := [(h0, .inr (0, [.ref q, .int (nI (n + 4)), .int 0])), (q, .inl (cA, 3000, .inl f2_24))]) [0, 1] rfl
  have hD9 := hD.sub (ws' := [(h0, .inr (0, [.ref q, .int (nI (n + 4)), .int 0])), (q, .inl (cA, 3000, .inl f2_24))]) [0, 1] (by decide) rfl
  have hK9 := hK.sub (tys' := [(cA, .int)]) [0] rfl
  refine W.widen (k := 0) (n := 0) (by omega) (by omega) ?_
  exact W.vret hx hb hr (fun t ht hW => ⟨⟨(), rfl, trivial, ⟨f2_24, QW.mk ht hW hP9 hK9 hD9⟩⟩, hS.F ht⟩) hS.2.2 dX0_addFour_24
