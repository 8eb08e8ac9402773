theorem dX10_isSameNet_0 : decode cX10_isSameNet 0 = .ok (.iload_n 2, 1) := by decide +kernel
theorem dX10_isSameNet_1 : decode cX10_isSameNet 1 = .ok (.ifCond .le 14, 3) := by decide +kernel
theorem dX10_isSameNet_4 : decode cX10_isSameNet 4 = .ok (.iload_n 0, 1) := by decide +kernel
theorem dX10_isSameNet_5 : decode cX10_isSameNet 5 = .ok (.iload_n 1, 1) := by decide +kernel
theorem dX10_isSameNet_6 : decode cX10_isSameNet 6 = .ok (.ixor, 1) := by decide +kernel
theorem dX10_isSameNet_7 : decode cX10_isSameNet 7 = .ok (.bipush 32, 2) := by decide +kernel
theorem dX10_isSameNet_9 : decode cX10_isSameNet 9 = .ok (.iload_n 2, 1) := by decide +kernel
theorem dX10_isSameNet_10 : decode cX10_isSameNet 10 = .ok (.isub, 1) := by decide +kernel
theorem dX10_isSameNet_11 : decode cX10_isSameNet 11 = .ok (.iushr, 1) := by decide +kernel
theorem dX10_isSameNet_12 : decode cX10_isSameNet 12 = .ok (.ifCond .ne 7, 3) := by decide +kernel
theorem dX10_isSameNet_15 : decode cX10_isSameNet 15 = .ok (.iconst 1, 1) := by decide +kernel
theorem dX10_isSameNet_16 : decode cX10_isSameNet 16 = .ok (.goto 4, 3) := by decide +kernel
theorem dX10_isSameNet_19 : decode cX10_isSameNet 19 = .ok (.iconst 0, 1) := by decide +kernel
theorem dX10_isSameNet_20 : decode cX10_isSameNet 20 = .ok (.ireturn, 1) := by decide +kernel
theorem dX2_clear_0 : decode cX2_clear 0 = .ok (.aload_n 0, 1) := by decide +kernel
theorem dX2_clear_1 : decode cX2_clear 1 = .ok (.getfield 17, 3) := by decide +kernel
theorem dX2_clear_4 : decode cX2_clear 4 = .ok (.istore_n 1, 1) := by decide +kernel
theorem dX2_clear_5 : decode cX2_clear 5 = .ok (.aload_n 0, 1) := by decide +kernel
theorem dX2_clear_6 : decode cX2_clear 6 = .ok (.iconst 0, 1) := by decide +kernel
theorem dX2_clear_7 : decode cX2_clear 7 = .ok (.putfield 17, 3) := by decide +kernel
theorem dX2_clear_10 : decode cX2_clear 10 = .ok (.iload_n 1, 1) := by decide +kernel
theorem dX2_clear_11 : decode cX2_clear 11 = .ok (.ireturn, 1) := by decide +kernel
theorem dX2_firstText_0 : decode cX2_firstText 0 = .ok (.iconst 0, 1) := by decide +kernel
theorem dX2_firstText_1 : decode cX2_firstText 1 = .ok (.istore_n 2, 1) := by decide +kernel
theorem dX2_firstText_2 : decode cX2_firstText 2 = .ok (.iload_n 2, 1) := by decide +kernel
theorem dX2_firstText_3 : decode cX2_firstText 3 = .ok (.aload_n 0, 1) := by decide +kernel
theorem dX2_firstText_4 : decode cX2_firstText 4 = .ok (.getfield 17, 3) := by decide +kernel
theorem dX2_firstText_7 : decode cX2_firstText 7 = .ok (.if_icmp .ge 39, 3) := by decide +kernel
theorem dX2_firstText_10 : decode cX2_firstText 10 = .ok (.aload_n 0, 1) := by decide +kernel
theorem dX2_firstText_11 : decode cX2_firstText 11 = .ok (.getfield 13, 3) := by decide +kernel
theorem dX2_firstText_14 : decode cX2_firstText 14 = .ok (.iload_n 2, 1) := by decide +kernel
theorem dX2_firstText_15 : decode cX2_firstText 15 = .ok (.aaload, 1) := by decide +kernel
theorem dX2_firstText_16 : decode cX2_firstText 16 = .ok (.getfield 39, 3) := by decide +kernel
theorem dX2_firstText_19 : decode cX2_firstText 19 = .ok (.ifCond .ne 21, 3) := by decide +kernel
theorem dX2_firstText_22 : decode cX2_firstText 22 = .ok (.aload_n 0, 1) := by decide +kernel
theorem dX2_firstText_23 : decode cX2_firstText 23 = .ok (.getfield 13, 3) := by decide +kernel
theorem dX2_firstText_26 : decode cX2_firstText 26 = .ok (.iload_n 2, 1) := by decide +kernel
theorem dX2_firstText_27 : decode cX2_firstText 27 = .ok (.aaload, 1) := by decide +kernel
theorem dX2_firstText_28 : decode cX2_firstText 28 = .ok (.getfield 45, 3) := by decide +kernel
theorem dX2_firstText_31 : decode cX2_firstText 31 = .ok (.aload_n 1, 1) := by decide +kernel
theorem dX2_firstText_32 : decode cX2_firstText 32 = .ok (.invokevirtual 59, 3) := by decide +kernel
theorem dX2_firstText_35 : decode cX2_firstText 35 = .ok (.ifCond .eq 5, 3) := by decide +kernel
theorem dX2_firstText_38 : decode cX2_firstText 38 = .ok (.iload_n 2, 1) := by decide +kernel
theorem dX2_firstText_39 : decode cX2_firstText 39 = .ok (.ireturn, 1) := by decide +kernel
theorem dX2_firstText_40 : decode cX2_firstText 40 = .ok (.iinc 2 1, 3) := by decide +kernel
theorem dX2_firstText_43 : decode cX2_firstText 43 = .ok (.goto (-41), 3) := by decide +kernel
theorem dX2_firstText_46 : decode cX2_firstText 46 = .ok (.iconst (-1), 1) := by decide +kernel
theorem dX2_firstText_47 : decode cX2_firstText 47 = .ok (.ireturn, 1) := by decide +kernel
theorem dX2_has_0 : decode cX2_has 0 = .ok (.iconst 0, 1) := by decide +kernel
theorem dX2_has_1 : decode cX2_has 1 = .ok (.istore_n 3, 1) := by decide +kernel
theorem dX2_has_2 : decode cX2_has 2 = .ok (.iload_n 3, 1) := by decide +kernel
theorem dX2_has_3 : decode cX2_has 3 = .ok (.aload_n 0, 1) := by decide +kernel
theorem dX2_has_4 : decode cX2_has 4 = .ok (.getfield 17, 3) := by decide +kernel
theorem dX2_has_7 : decode cX2_has 7 = .ok (.if_icmp .ge 40, 3) := by decide +kernel
theorem dX2_has_10 : decode cX2_has 10 = .ok (.aload_n 0, 1) := by decide +kernel
theorem dX2_has_11 : decode cX2_has 11 = .ok (.getfield 13, 3) := by decide +kernel
theorem dX2_has_14 : decode cX2_has 14 = .ok (.iload_n 3, 1) := by decide +kernel
theorem dX2_has_15 : decode cX2_has 15 = .ok (.aaload, 1) := by decide +kernel
theorem dX2_has_16 : decode cX2_has 16 = .ok (.getfield 39, 3) := by decide +kernel
theorem dX2_has_19 : decode cX2_has 19 = .ok (.iload_n 1, 1) := by decide +kernel
theorem dX2_has_20 : decode cX2_has 20 = .ok (.if_icmp .ne 21, 3) := by decide +kernel
theorem dX2_has_23 : decode cX2_has 23 = .ok (.aload_n 0, 1) := by decide +kernel
theorem dX2_has_24 : decode cX2_has 24 = .ok (.getfield 13, 3) := by decide +kernel
theorem dX2_has_27 : decode cX2_has 27 = .ok (.iload_n 3, 1) := by decide +kernel
theorem dX2_has_28 : decode cX2_has 28 = .ok (.aaload, 1) := by decide +kernel
theorem dX2_has_29 : decode cX2_has 29 = .ok (.getfield 45, 3) := by decide +kernel
theorem dX2_has_32 : decode cX2_has 32 = .ok (.aload_n 2, 1) := by decide +kernel
theorem dX2_has_33 : decode cX2_has 33 = .ok (.invokevirtual 59, 3) := by decide +kernel
theorem dX2_has_36 : decode cX2_has 36 = .ok (.ifCond .eq 5, 3) := by decide +kernel
theorem dX2_has_39 : decode cX2_has 39 = .ok (.iconst 1, 1) := by decide +kernel
theorem dX2_has_40 : decode cX2_has 40 = .ok (.ireturn, 1) := by decide +kernel
theorem dX2_has_41 : decode cX2_has 41 = .ok (.iinc 3 1, 3) := by decide +kernel
theorem dX2_has_44 : decode cX2_has 44 = .ok (.goto (-42), 3) := by decide +kernel
theorem dX2_has_47 : decode cX2_has 47 = .ok (.iconst 0, 1) := by decide +kernel
theorem dX2_has_48 : decode cX2_has 48 = .ok (.ireturn, 1) := by decide +kernel
theorem dX2_hasAddress_0 : decode cX2_hasAddress 0 = .ok (.iconst 0, 1) := by decide +kernel
theorem dX2_hasAddress_1 : decode cX2_hasAddress 1 = .ok (.istore 4, 2) := by decide +kernel
theorem dX2_hasAddress_3 : decode cX2_hasAddress 3 = .ok (.iload 4, 2) := by decide +kernel
theorem dX2_hasAddress_5 : decode cX2_hasAddress 5 = .ok (.aload_n 0, 1) := by decide +kernel
theorem dX2_hasAddress_6 : decode cX2_hasAddress 6 = .ok (.getfield 17, 3) := by decide +kernel
theorem dX2_hasAddress_9 : decode cX2_hasAddress 9 = .ok (.if_icmp .ge 63, 3) := by decide +kernel
theorem dX2_hasAddress_12 : decode cX2_hasAddress 12 = .ok (.aload_n 0, 1) := by decide +kernel
theorem dX2_hasAddress_13 : decode cX2_hasAddress 13 = .ok (.getfield 13, 3) := by decide +kernel
theorem dX2_hasAddress_16 : decode cX2_hasAddress 16 = .ok (.iload 4, 2) := by decide +kernel
theorem dX2_hasAddress_18 : decode cX2_hasAddress 18 = .ok (.aaload, 1) := by decide +kernel
theorem dX2_hasAddress_19 : decode cX2_hasAddress 19 = .ok (.getfield 39, 3) := by decide +kernel
theorem dX2_hasAddress_22 : decode cX2_hasAddress 22 = .ok (.iconst 1, 1) := by decide +kernel
theorem dX2_hasAddress_23 : decode cX2_hasAddress 23 = .ok (.if_icmp .ne 43, 3) := by decide +kernel
theorem dX2_hasAddress_26 : decode cX2_hasAddress 26 = .ok (.aload_n 0, 1) := by decide +kernel
theorem dX2_hasAddress_27 : decode cX2_hasAddress 27 = .ok (.getfield 13, 3) := by decide +kernel
theorem dX2_hasAddress_30 : decode cX2_hasAddress 30 = .ok (.iload 4, 2) := by decide +kernel
theorem dX2_hasAddress_32 : decode cX2_hasAddress 32 = .ok (.aaload, 1) := by decide +kernel
theorem dX2_hasAddress_33 : decode cX2_hasAddress 33 = .ok (.getfield 42, 3) := by decide +kernel
theorem dX2_hasAddress_36 : decode cX2_hasAddress 36 = .ok (.iload_n 2, 1) := by decide +kernel
theorem dX2_hasAddress_37 : decode cX2_hasAddress 37 = .ok (.iload_n 3, 1) := by decide +kernel
theorem dX2_hasAddress_38 : decode cX2_hasAddress 38 = .ok (.invokestatic 63, 3) := by decide +kernel
theorem dX2_hasAddress_41 : decode cX2_hasAddress 41 = .ok (.ifCond .ne 6, 3) := by decide +kernel
theorem dX2_hasAddress_44 : decode cX2_hasAddress 44 = .ok (.goto 22, 3) := by decide +kernel
theorem dX2_hasAddress_47 : decode cX2_hasAddress 47 = .ok (.aload_n 0, 1) := by decide +kernel
theorem dX2_hasAddress_48 : decode cX2_hasAddress 48 = .ok (.getfield 13, 3) := by decide +kernel
theorem dX2_hasAddress_51 : decode cX2_hasAddress 51 = .ok (.iload 4, 2) := by decide +kernel
theorem dX2_hasAddress_53 : decode cX2_hasAddress 53 = .ok (.aaload, 1) := by decide +kernel
theorem dX2_hasAddress_54 : decode cX2_hasAddress 54 = .ok (.getfield 45, 3) := by decide +kernel
theorem dX2_hasAddress_57 : decode cX2_hasAddress 57 = .ok (.aload_n 1, 1) := by decide +kernel
theorem dX2_hasAddress_58 : decode cX2_hasAddress 58 = .ok (.invokevirtual 59, 3) := by decide +kernel
theorem dX2_hasAddress_61 : decode cX2_hasAddress 61 = .ok (.ifCond .eq 5, 3) := by decide +kernel
theorem dX2_hasAddress_64 : decode cX2_hasAddress 64 = .ok (.iconst 1, 1) := by decide +kernel
theorem dX2_hasAddress_65 : decode cX2_hasAddress 65 = .ok (.ireturn, 1) := by decide +kernel
theorem dX2_hasAddress_66 : decode cX2_hasAddress 66 = .ok (.iinc 4 1, 3) := by decide +kernel
theorem dX2_hasAddress_69 : decode cX2_hasAddress 69 = .ok (.goto (-66), 3) := by decide +kernel
theorem dX2_hasAddress_72 : decode cX2_hasAddress 72 = .ok (.iconst 0, 1) := by decide +kernel
theorem dX2_hasAddress_73 : decode cX2_hasAddress 73 = .ok (.ireturn, 1) := by decide +kernel
theorem dX2_houseStart_0 : decode cX2_houseStart 0 = .ok (.iconst (-1), 1) := by decide +kernel
theorem dX2_houseStart_1 : decode cX2_houseStart 1 = .ok (.istore_n 2, 1) := by decide +kernel
theorem dX2_houseStart_2 : decode cX2_houseStart 2 = .ok (.iconst 0, 1) := by decide +kernel
theorem dX2_houseStart_3 : decode cX2_houseStart 3 = .ok (.istore_n 3, 1) := by decide +kernel
theorem dX2_houseStart_4 : decode cX2_houseStart 4 = .ok (.iload_n 3, 1) := by decide +kernel
theorem dX2_houseStart_5 : decode cX2_houseStart 5 = .ok (.aload_n 0, 1) := by decide +kernel
theorem dX2_houseStart_6 : decode cX2_houseStart 6 = .ok (.getfield 17, 3) := by decide +kernel
theorem dX2_houseStart_9 : decode cX2_houseStart 9 = .ok (.if_icmp .ge 55, 3) := by decide +kernel
theorem dX2_houseStart_12 : decode cX2_houseStart 12 = .ok (.aload_n 0, 1) := by decide +kernel
theorem dX2_houseStart_13 : decode cX2_houseStart 13 = .ok (.getfield 13, 3) := by decide +kernel
theorem dX2_houseStart_16 : decode cX2_houseStart 16 = .ok (.iload_n 3, 1) := by decide +kernel
theorem dX2_houseStart_17 : decode cX2_houseStart 17 = .ok (.aaload, 1) := by decide +kernel
theorem dX2_houseStart_18 : decode cX2_houseStart 18 = .ok (.getfield 39, 3) := by decide +kernel
theorem dX2_houseStart_21 : decode cX2_houseStart 21 = .ok (.iconst 4, 1) := by decide +kernel
theorem dX2_houseStart_22 : decode cX2_houseStart 22 = .ok (.if_icmp .ne 36, 3) := by decide +kernel
theorem dX2_houseStart_25 : decode cX2_houseStart 25 = .ok (.aload_n 1, 1) := by decide +kernel
theorem dX2_houseStart_26 : decode cX2_houseStart 26 = .ok (.aload_n 0, 1) := by decide +kernel
theorem dX2_houseStart_27 : decode cX2_houseStart 27 = .ok (.getfield 13, 3) := by decide +kernel
theorem dX2_houseStart_30 : decode cX2_houseStart 30 = .ok (.iload_n 3, 1) := by decide +kernel
theorem dX2_houseStart_31 : decode cX2_houseStart 31 = .ok (.aaload, 1) := by decide +kernel
theorem dX2_houseStart_32 : decode cX2_houseStart 32 = .ok (.getfield 45, 3) := by decide +kernel
theorem dX2_houseStart_35 : decode cX2_houseStart 35 = .ok (.invokevirtual 83, 3) := by decide +kernel
theorem dX2_houseStart_38 : decode cX2_houseStart 38 = .ok (.ifCond .eq 20, 3) := by decide +kernel
theorem dX2_houseStart_41 : decode cX2_houseStart 41 = .ok (.iload_n 2, 1) := by decide +kernel
theorem dX2_houseStart_42 : decode cX2_houseStart 42 = .ok (.aload_n 0, 1) := by decide +kernel
theorem dX2_houseStart_43 : decode cX2_houseStart 43 = .ok (.getfield 13, 3) := by decide +kernel
theorem dX2_houseStart_46 : decode cX2_houseStart 46 = .ok (.iload_n 3, 1) := by decide +kernel
theorem dX2_houseStart_47 : decode cX2_houseStart 47 = .ok (.aaload, 1) := by decide +kernel
theorem dX2_houseStart_48 : decode cX2_houseStart 48 = .ok (.getfield 45, 3) := by decide +kernel
theorem dX2_houseStart_51 : decode cX2_houseStart 51 = .ok (.getfield 22, 3) := by decide +kernel
theorem dX2_houseStart_54 : decode cX2_houseStart 54 = .ok (.invokestatic 86, 3) := by decide +kernel
theorem dX2_houseStart_57 : decode cX2_houseStart 57 = .ok (.istore_n 2, 1) := by decide +kernel
theorem dX2_houseStart_58 : decode cX2_houseStart 58 = .ok (.iinc 3 1, 3) := by decide +kernel
theorem dX2_houseStart_61 : decode cX2_houseStart 61 = .ok (.goto (-57), 3) := by decide +kernel
theorem dX2_houseStart_64 : decode cX2_houseStart 64 = .ok (.iload_n 2, 1) := by decide +kernel
theorem dX2_houseStart_65 : decode cX2_houseStart 65 = .ok (.aload_n 1, 1) := by decide +kernel
theorem dX2_houseStart_66 : decode cX2_houseStart 66 = .ok (.getfield 22, 3) := by decide +kernel
theorem dX2_houseStart_69 : decode cX2_houseStart 69 = .ok (.if_icmp .ne 5, 3) := by decide +kernel
theorem dX2_houseStart_72 : decode cX2_houseStart 72 = .ok (.iconst 0, 1) := by decide +kernel
theorem dX2_houseStart_73 : decode cX2_houseStart 73 = .ok (.ireturn, 1) := by decide +kernel
theorem dX2_houseStart_74 : decode cX2_houseStart 74 = .ok (.iload_n 2, 1) := by decide +kernel
theorem dX2_houseStart_75 : decode cX2_houseStart 75 = .ok (.ifCond .ge 17, 3) := by decide +kernel
theorem dX2_houseStart_78 : decode cX2_houseStart 78 = .ok (.aload_n 1, 1) := by decide +kernel
theorem dX2_houseStart_79 : decode cX2_houseStart 79 = .ok (.bipush 46, 2) := by decide +kernel
theorem dX2_houseStart_81 : decode cX2_houseStart 81 = .ok (.iconst 0, 1) := by decide +kernel
theorem dX2_houseStart_82 : decode cX2_houseStart 82 = .ok (.aload_n 1, 1) := by decide +kernel
theorem dX2_houseStart_83 : decode cX2_houseStart 83 = .ok (.getfield 22, 3) := by decide +kernel
theorem dX2_houseStart_86 : decode cX2_houseStart 86 = .ok (.invokevirtual 92, 3) := by decide +kernel
theorem dX2_houseStart_89 : decode cX2_houseStart 89 = .ok (.goto 11, 3) := by decide +kernel
theorem dX2_houseStart_92 : decode cX2_houseStart 92 = .ok (.aload_n 1, 1) := by decide +kernel
theorem dX2_houseStart_93 : decode cX2_houseStart 93 = .ok (.getfield 22, 3) := by decide +kernel
theorem dX2_houseStart_96 : decode cX2_houseStart 96 = .ok (.iload_n 2, 1) := by decide +kernel
theorem dX2_houseStart_97 : decode cX2_houseStart 97 = .ok (.isub, 1) := by decide +kernel
theorem dX2_houseStart_98 : decode cX2_houseStart 98 = .ok (.iconst 1, 1) := by decide +kernel
theorem dX2_houseStart_99 : decode cX2_houseStart 99 = .ok (.isub, 1) := by decide +kernel
theorem dX2_houseStart_100 : decode cX2_houseStart 100 = .ok (.istore_n 3, 1) := by decide +kernel
theorem dX2_houseStart_101 : decode cX2_houseStart 101 = .ok (.aload_n 1, 1) := by decide +kernel
theorem dX2_houseStart_102 : decode cX2_houseStart 102 = .ok (.bipush 46, 2) := by decide +kernel
theorem dX2_houseStart_104 : decode cX2_houseStart 104 = .ok (.iconst 0, 1) := by decide +kernel
theorem dX2_houseStart_105 : decode cX2_houseStart 105 = .ok (.iload_n 3, 1) := by decide +kernel
theorem dX2_houseStart_106 : decode cX2_houseStart 106 = .ok (.invokevirtual 92, 3) := by decide +kernel
theorem dX2_houseStart_109 : decode cX2_houseStart 109 = .ok (.iconst 1, 1) := by decide +kernel
theorem dX2_houseStart_110 : decode cX2_houseStart 110 = .ok (.iadd, 1) := by decide +kernel
theorem dX2_houseStart_111 : decode cX2_houseStart 111 = .ok (.ireturn, 1) := by decide +kernel
theorem dX2_isSameHouse_0 : decode cX2_isSameHouse 0 = .ok (.aload_n 1, 1) := by decide +kernel
theorem dX2_isSameHouse_1 : decode cX2_isSameHouse 1 = .ok (.getfield 22, 3) := by decide +kernel
theorem dX2_isSameHouse_4 : decode cX2_isSameHouse 4 = .ok (.aload_n 0, 1) := by decide +kernel
theorem dX2_isSameHouse_5 : decode cX2_isSameHouse 5 = .ok (.aload_n 1, 1) := by decide +kernel
theorem dX2_isSameHouse_6 : decode cX2_isSameHouse 6 = .ok (.invokevirtual 95, 3) := by decide +kernel
theorem dX2_isSameHouse_9 : decode cX2_isSameHouse 9 = .ok (.isub, 1) := by decide +kernel
theorem dX2_isSameHouse_10 : decode cX2_isSameHouse 10 = .ok (.istore_n 3, 1) := by decide +kernel
theorem dX2_isSameHouse_11 : decode cX2_isSameHouse 11 = .ok (.iload_n 3, 1) := by decide +kernel
theorem dX2_isSameHouse_12 : decode cX2_isSameHouse 12 = .ok (.aload_n 2, 1) := by decide +kernel
theorem dX2_isSameHouse_13 : decode cX2_isSameHouse 13 = .ok (.getfield 22, 3) := by decide +kernel
theorem dX2_isSameHouse_16 : decode cX2_isSameHouse 16 = .ok (.aload_n 0, 1) := by decide +kernel
theorem dX2_isSameHouse_17 : decode cX2_isSameHouse 17 = .ok (.aload_n 2, 1) := by decide +kernel
theorem dX2_isSameHouse_18 : decode cX2_isSameHouse 18 = .ok (.invokevirtual 95, 3) := by decide +kernel
theorem dX2_isSameHouse_21 : decode cX2_isSameHouse 21 = .ok (.isub, 1) := by decide +kernel
theorem dX2_isSameHouse_22 : decode cX2_isSameHouse 22 = .ok (.if_icmp .ne 16, 3) := by decide +kernel
theorem dX2_isSameHouse_25 : decode cX2_isSameHouse 25 = .ok (.aload_n 1, 1) := by decide +kernel
theorem dX2_isSameHouse_26 : decode cX2_isSameHouse 26 = .ok (.aload_n 2, 1) := by decide +kernel
theorem dX2_isSameHouse_27 : decode cX2_isSameHouse 27 = .ok (.iload_n 3, 1) := by decide +kernel
theorem dX2_isSameHouse_28 : decode cX2_isSameHouse 28 = .ok (.invokevirtual 99, 3) := by decide +kernel
theorem dX2_isSameHouse_31 : decode cX2_isSameHouse 31 = .ok (.ifCond .eq 7, 3) := by decide +kernel
theorem dX2_isSameHouse_34 : decode cX2_isSameHouse 34 = .ok (.iconst 1, 1) := by decide +kernel
theorem dX2_isSameHouse_35 : decode cX2_isSameHouse 35 = .ok (.goto 4, 3) := by decide +kernel
theorem dX2_isSameHouse_38 : decode cX2_isSameHouse 38 = .ok (.iconst 0, 1) := by decide +kernel
theorem dX2_isSameHouse_39 : decode cX2_isSameHouse 39 = .ok (.ireturn, 1) := by decide +kernel
theorem dX2_isValue_0 : decode cX2_isValue 0 = .ok (.iload_n 2, 1) := by decide +kernel
theorem dX2_isValue_1 : decode cX2_isValue 1 = .ok (.aload_n 1, 1) := by decide +kernel
theorem dX2_isValue_2 : decode cX2_isValue 2 = .ok (.getfield 22, 3) := by decide +kernel
theorem dX2_isValue_5 : decode cX2_isValue 5 = .ok (.if_icmp .ne 5, 3) := by decide +kernel
theorem dX2_isValue_8 : decode cX2_isValue 8 = .ok (.iconst 0, 1) := by decide +kernel
theorem dX2_isValue_9 : decode cX2_isValue 9 = .ok (.ireturn, 1) := by decide +kernel
theorem dX2_isValue_10 : decode cX2_isValue 10 = .ok (.iload_n 0, 1) := by decide +kernel
theorem dX2_isValue_11 : decode cX2_isValue 11 = .ok (.iconst 2, 1) := by decide +kernel
theorem dX2_isValue_12 : decode cX2_isValue 12 = .ok (.if_icmp .ne 17, 3) := by decide +kernel
theorem dX2_isValue_15 : decode cX2_isValue 15 = .ok (.aload_n 1, 1) := by decide +kernel
theorem dX2_isValue_16 : decode cX2_isValue 16 = .ok (.iload_n 2, 1) := by decide +kernel
theorem dX2_isValue_17 : decode cX2_isValue 17 = .ok (.iconst 1, 1) := by decide +kernel
theorem dX2_isValue_18 : decode cX2_isValue 18 = .ok (.iadd, 1) := by decide +kernel
theorem dX2_isValue_19 : decode cX2_isValue 19 = .ok (.aload_n 1, 1) := by decide +kernel
theorem dX2_isValue_20 : decode cX2_isValue 20 = .ok (.getfield 22, 3) := by decide +kernel
theorem dX2_isValue_23 : decode cX2_isValue 23 = .ok (.invokevirtual 31, 3) := by decide +kernel
theorem dX2_isValue_26 : decode cX2_isValue 26 = .ok (.goto 22, 3) := by decide +kernel
theorem dX2_isValue_29 : decode cX2_isValue 29 = .ok (.aload_n 1, 1) := by decide +kernel
theorem dX2_isValue_30 : decode cX2_isValue 30 = .ok (.getfield 22, 3) := by decide +kernel
theorem dX2_isValue_33 : decode cX2_isValue 33 = .ok (.iload_n 2, 1) := by decide +kernel
theorem dX2_isValue_34 : decode cX2_isValue 34 = .ok (.isub, 1) := by decide +kernel
theorem dX2_isValue_35 : decode cX2_isValue 35 = .ok (.iconst 1, 1) := by decide +kernel
theorem dX2_isValue_36 : decode cX2_isValue 36 = .ok (.isub, 1) := by decide +kernel
theorem dX2_isValue_37 : decode cX2_isValue 37 = .ok (.sipush 700, 3) := by decide +kernel
theorem dX2_isValue_40 : decode cX2_isValue 40 = .ok (.if_icmp .gt 7, 3) := by decide +kernel
theorem dX2_isValue_43 : decode cX2_isValue 43 = .ok (.iconst 1, 1) := by decide +kernel
theorem dX2_isValue_44 : decode cX2_isValue 44 = .ok (.goto 4, 3) := by decide +kernel
theorem dX2_isValue_47 : decode cX2_isValue 47 = .ok (.iconst 0, 1) := by decide +kernel
theorem dX2_isValue_48 : decode cX2_isValue 48 = .ok (.ireturn, 1) := by decide +kernel
theorem kt_83 : Cond.fieldLink RX2 17 "PostGate$Directory" "count" "I" ∈ tb := tb_at (i := 173) (by decide +kernel) (by decide +kernel)
theorem kt_84 : Cond.fieldLink RX2 13 "PostGate$Directory" "entries" "[LPostGate$Entry;" ∈ tb := tb_at (i := 171) (by decide +kernel) (by decide +kernel)
theorem kt_85 : Cond.code yX0_same cX0_same 3 (some .boolean) ∈ tb := tb_at (i := 608) (by decide +kernel) (by decide +kernel)
theorem kt_86 : Cond.methodLink RX2 59 yX0_same ∈ tb := tb_at (i := 605) (by decide +kernel) (by decide +kernel)
theorem kt_87 : Cond.instanceMethod yX0_same ∈ tb := tb_at (i := 606) (by decide +kernel) (by decide +kernel)
theorem kt_88 : Cond.selects RX0 yX0_same yX0_same ∈ tb := tb_at (i := 607) (by decide +kernel) (by decide +kernel)
theorem kt_89 : Cond.code yX10_isSameNet cX10_isSameNet 3 (some .boolean) ∈ tb := tb_at (i := 733) (by decide +kernel) (by decide +kernel)
theorem kt_90 : Cond.initialized RX10 ∈ tb := tb_at (i := 86) (by decide +kernel) (by decide +kernel)
theorem kt_91 : Cond.methodLink RX2 63 yX10_isSameNet ∈ tb := tb_at (i := 778) (by decide +kernel) (by decide +kernel)
theorem kt_92 : Cond.static yX10_isSameNet ∈ tb := tb_at (i := 732) (by decide +kernel) (by decide +kernel)
theorem kt_93 : Cond.code yX0_findLast cX0_findLast 5 (some .int) ∈ tb := tb_at (i := 1114) (by decide +kernel) (by decide +kernel)
theorem kt_94 : Cond.methodLink RX2 92 yX0_findLast ∈ tb := tb_at (i := 1111) (by decide +kernel) (by decide +kernel)
theorem kt_95 : Cond.instanceMethod yX0_findLast ∈ tb := tb_at (i := 1112) (by decide +kernel) (by decide +kernel)
theorem kt_96 : Cond.selects RX0 yX0_findLast yX0_findLast ∈ tb := tb_at (i := 1113) (by decide +kernel) (by decide +kernel)
theorem kt_97 : Cond.code yX0_isUnder cX0_isUnder 2 (some .boolean) ∈ tb := tb_at (i := 1105) (by decide +kernel) (by decide +kernel)
theorem kt_98 : Cond.methodLink RX2 83 yX0_isUnder ∈ tb := tb_at (i := 1102) (by decide +kernel) (by decide +kernel)
theorem kt_99 : Cond.instanceMethod yX0_isUnder ∈ tb := tb_at (i := 1103) (by decide +kernel) (by decide +kernel)
theorem kt_100 : Cond.selects RX0 yX0_isUnder yX0_isUnder ∈ tb := tb_at (i := 1104) (by decide +kernel) (by decide +kernel)
theorem kt_101 : Cond.methodLink RX2 86 Lib.Math.max.name ∈ tb := tb_at (i := 1110) (by decide +kernel) (by decide +kernel)
theorem kt_102 : Cond.code yX2_houseStart cX2_houseStart 4 (some .int) ∈ tb := tb_at (i := 1101) (by decide +kernel) (by decide +kernel)
theorem kt_103 : Cond.initialized RX2 ∈ tb := tb_at (i := 83) (by decide +kernel) (by decide +kernel)
theorem kt_104 : Cond.methodLink RX2 95 yX2_houseStart ∈ tb := tb_at (i := 1178) (by decide +kernel) (by decide +kernel)
theorem kt_105 : Cond.instanceMethod yX2_houseStart ∈ tb := tb_at (i := 1099) (by decide +kernel) (by decide +kernel)
theorem kt_106 : Cond.selects RX2 yX2_houseStart yX2_houseStart ∈ tb := tb_at (i := 1100) (by decide +kernel) (by decide +kernel)
theorem kt_107 : Cond.methodLink RX2 99 yX0_endsLike ∈ tb := tb_at (i := 1179) (by decide +kernel) (by decide +kernel)
theorem kt_108 : Cond.code yX0_isName cX0_isName 7 (some .boolean) ∈ tb := tb_at (i := 523) (by decide +kernel) (by decide +kernel)
theorem kt_109 : Cond.methodLink RX2 31 yX0_isName ∈ tb := tb_at (i := 520) (by decide +kernel) (by decide +kernel)
theorem kt_110 : Cond.instanceMethod yX0_isName ∈ tb := tb_at (i := 521) (by decide +kernel) (by decide +kernel)
theorem kt_111 : Cond.selects RX0 yX0_isName yX0_isName ∈ tb := tb_at (i := 522) (by decide +kernel) (by decide +kernel)
theorem kn_0 : Cond.fieldLinkNest RX2 39 "PostGate$Entry" "sort" "I" "PostGate" ∈ nw := nw_at (i := 78) (by decide +kernel) rfl
theorem kn_1 : Cond.fieldLinkNest RX2 45 "PostGate$Entry" "name" "LPostGate$Bytes;" "PostGate" ∈ nw := nw_at (i := 73) (by decide +kernel) rfl
theorem kn_2 : Cond.fieldLinkNest RX2 42 "PostGate$Entry" "address" "I" "PostGate" ∈ nw := nw_at (i := 81) (by decide +kernel) rfl
theorem kn_3 : Cond.fieldLinkNest RX2 22 "PostGate$Bytes" "size" "I" "PostGate" ∈ nw := nw_at (i := 44) (by decide +kernel) rfl
theorem bitN {r : Int32} (h : r = 0 ∨ r = 1) : narrow .boolean (.int r) = .int r := by
  rcases h with h | h <;> subst h <;> rfl
set_option maxHeartbeats 4000000 in
set_option maxRecDepth 100000 in
theorem s_X10_isSameNet (l : Launch) (dC : Nat → ClassId) (dI : Nat → Nat → Nat) (cs : Nat → ClassId) (ty : TyM) (L : List Nat) (sz : Nat) (F : Nat → va_E) (x1 : Int32) (x2 : Int32) (x3 : Int32) (hW : WT ty L) : Met l yX10_isSameNet (.code yX10_isSameNet cX10_isSameNet 3 (some .boolean) :: tb) ({ frames := 0, cells := 0, slots := 0, locals := 0 }) (va_Pc [.int x1, .int x2, .int x3] (PT (dC, dI) cs ty L F sz)) (va_Qi (fun (r : Int32) (_ : Unit) => (r = 0 ∨ r = 1)) (fun _ T9 => ∃ F2 : Nat → va_E, QT (dC, dI) cs ty L [] F F2 (va_A (va_pl L F) sz) T9) (va_A (va_pl L F) sz)) 0 0 (va_A (va_pl L F) sz) := by
  refine Met.ofW (cc := cX10_isSameNet) (maxL := 3) (ret := (some .boolean)) (by decide) rfl ?_
  intro p e s m args below meth c s₁ B hml hv
  obtain ⟨rfl, hsz, hP, hK, hD0, hE, hO⟩ := hv
  have hx := B.exec
  have hb := B.bytes
  have hr := B.returns
  have hts : ∀ w ∈ tb, w.before _ s = true := fun w h => atoms_spec (ws := .code yX10_isSameNet cX10_isSameNet 3 (some .boolean) :: tb) B.pre w (List.mem_cons_of_mem _ h)
  have hown : s.vm.findClass RX10 = some m.cls := findClass_of_methodNamed B.named
  have hlocks := B.notSynchronized
  subst hsz
  have hD := hD0.self (sz := s.heap.size)
  generalize hAe : va_A (va_pl L F) s.heap.size = A at hD ⊢
  have hA : ∀ q : Nat, s.heap.size ≤ q → A q := fun q h => by rw [← hAe]; exact Or.inr h
  have hS : va_S A s.heap s.heap [] := va_S.rf
  have hR : FR ty [] F F := FR.refl
  have hl := lv_entry ([.int x1, .int x2, .int x3]) (n := 3) (Nat.le_of_ble_eq_true rfl)
  rw [lg_entry_eq]
  generalize (lg_sl ([.int x1, .int x2, .int x3]) ++ List.replicate (3 - (lg_sl ([.int x1, .int x2, .int x3])).length) Slot.unset).toArray = ls at hl ⊢
  have hl : lv_has ls 3 [(0, .int x1), (1, .int x2), (2, .int x3)] := hl
  refine lv_iload_n hx hb dX10_isSameNet_0 rfl (lv_at hl 2 rfl) ?_
  refine lv_if_le (tgt := 15) hx hb dX10_isSameNet_1 (by decide) (fun c_1 => ?_) (fun c_1 => ?_)
  ·
    refine lv_iconst (v := 1) hx hb dX10_isSameNet_15 (by decide) ?_
    refine lv_goto (tgt := 20) hx hb dX10_isSameNet_16 (by decide) ?_
    refine W.widen (k := 0) (n := 0) (by omega) (by omega) ?_
    exact W.zret (v := 1) (ty := .boolean) hx hb hr (by decide) (fun t ht hWm => ⟨⟨1, (), rfl, (by first | exact Or.inl rfl | exact Or.inr rfl), ⟨F, QT.mk ht hP hD hO hR⟩⟩, hS.F ht⟩) hS.2.2 dX10_isSameNet_20
  ·
    refine lv_iload_n hx hb dX10_isSameNet_4 rfl (lv_at hl 0 rfl) ?_
    refine lv_iload_n hx hb dX10_isSameNet_5 rfl (lv_at hl 1 rfl) ?_
    refine lv_ixor hx hb dX10_isSameNet_6 ?_
    refine lv_topi (fun x_2 _ => ?_)
    refine lv_bipush (v := 32) hx hb dX10_isSameNet_7 (by decide) ?_
    refine lv_iload_n hx hb dX10_isSameNet_9 rfl (lv_at hl 2 rfl) ?_
    refine lv_isub hx hb dX10_isSameNet_10 ?_
    refine lv_topi (fun x_3 _ => ?_)
    refine lv_iushr hx hb dX10_isSameNet_11 rfl ?_
    refine lv_topi (fun x_5 _ => ?_)
    refine lv_if_ne (tgt := 19) hx hb dX10_isSameNet_12 (by decide) (fun c_6 => ?_) (fun c_6 => ?_)
    ·
      refine lv_iconst (v := 0) hx hb dX10_isSameNet_19 (by decide) ?_
      refine W.widen (k := 0) (n := 0) (by omega) (by omega) ?_
      exact W.zret (v := 0) (ty := .boolean) hx hb hr (by decide) (fun t ht hWm => ⟨⟨0, (), rfl, (by first | exact Or.inl rfl | exact Or.inr rfl), ⟨F, QT.mk ht hP hD hO hR⟩⟩, hS.F ht⟩) hS.2.2 dX10_isSameNet_20
    ·
      refine lv_iconst (v := 1) hx hb dX10_isSameNet_15 (by decide) ?_
      refine lv_goto (tgt := 20) hx hb dX10_isSameNet_16 (by decide) ?_
      refine W.widen (k := 0) (n := 0) (by omega) (by omega) ?_
      exact W.zret (v := 1) (ty := .boolean) hx hb hr (by decide) (fun t ht hWm => ⟨⟨1, (), rfl, (by first | exact Or.inl rfl | exact Or.inr rfl), ⟨F, QT.mk ht hP hD hO hR⟩⟩, hS.F ht⟩) hS.2.2 dX10_isSameNet_20
set_option maxHeartbeats 4000000 in
set_option maxRecDepth 100000 in
theorem s_X2_clear (l : Launch) (dC : Nat → ClassId) (dI : Nat → Nat → Nat) (cs : Nat → ClassId) (ty : TyM) (L : List Nat) (sz : Nat) (F : Nat → va_E) (h0 : Nat) (ρ : Nat) (ea : Nat) (hW : WT ty L) (hL_h0 : h0 ∈ L) (hT_h0 : ty h0 = (2, ρ, [ea])) : Met l yX2_clear (.code yX2_clear cX2_clear 2 (some .int) :: tb) ({ frames := 0, cells := 0, slots := 0, locals := 0 }) (va_Pc [.ref h0] (PT (dC, dI) cs ty L F sz)) (va_Qi (fun (r : Int32) (_ : Unit) => True) (fun _ T9 => ∃ F2 : Nat → va_E, QT (dC, dI) cs ty L [ρ] F F2 (va_A (va_pl L F) sz) T9) (va_A (va_pl L F) sz)) 0 0 (va_A (va_pl L F) sz) := by
  refine Met.ofW (cc := cX2_clear) (maxL := 2) (ret := (some .int)) (by decide) rfl ?_
  intro p e s m args below meth c s₁ B hml hv
  obtain ⟨rfl, hsz, hP, hK, hD0, hE, hO⟩ := hv
  have hx := B.exec
  have hb := B.bytes
  have hr := B.returns
  have hts : ∀ w ∈ tb, w.before _ s = true := fun w h => atoms_spec (ws := .code yX2_clear cX2_clear 2 (some .int) :: tb) B.pre w (List.mem_cons_of_mem _ h)
  have hown : s.vm.findClass RX2 = some m.cls := findClass_of_methodNamed B.named
  have hlocks := B.notSynchronized
  subst hsz
  have hD := hD0.self (sz := s.heap.size)
  generalize hAe : va_A (va_pl L F) s.heap.size = A at hD ⊢
  have hA : ∀ q : Nat, s.heap.size ≤ q → A q := fun q h => by rw [← hAe]; exact Or.inr h
  have hS : va_S A s.heap s.heap [] := va_S.rf
  have hR : FR ty [ρ] F F := FR.refl
  have hl := lv_entry ([.ref h0]) (n := 2) (Nat.le_of_ble_eq_true rfl)
  rw [lg_entry_eq]
  generalize (lg_sl ([.ref h0]) ++ List.replicate (2 - (lg_sl ([.ref h0])).length) Slot.unset).toArray = ls at hl ⊢
  have hl : lv_has ls 2 [(0, .ref h0)] := hl
  refine lv_aload_n hx hb dX2_clear_0 rfl (lv_at hl 0 rfl) ?_
  obtain ⟨hi_1, ht_2⟩ := hW.dir hL_h0 hT_h0
  obtain ⟨z_3, hF_4, hq_5⟩ := hO.dir hL_h0 hT_h0
  refine pg_get (ci := 2) (v := .int (nI z_3)) (C := RX2) (T := TX2) (N := 2) hx hb hts it_2 hown hK hP hL_h0 hF_4 rfl 1 (by decide) (hts _ kt_83) (fun _ h9 => h9) rfl dX2_clear_1 ?_
  refine lv_istore_n (lv' := [(1, .int (nI z_3)), (0, .ref h0)]) hx hb dX2_clear_4 rfl hl (by decide) rfl (fun ls hl => ?_)
  refine lv_aload_n hx hb dX2_clear_5 rfl (lv_at hl 1 rfl) ?_
  refine lv_iconst (v := 0) hx hb dX2_clear_6 (by decide) ?_
  refine pg_put (ci := 2) (v := .int 0) (ty := .int) (C := RX2) (T := TX2) (N := 2) hx hb hts it_2 tyX2 tyX2_ok nmX2 hown hK hP hD hS hL_h0 hF_4 rfl 1 (by decide) (hts _ kt_83) (fun _ h9 => h9) rfl (by decide +kernel) (rfl) (rfl) (Nat.le_of_ble_eq_true rfl) dX2_clear_7 (fun H locs hP hD hS => ?_)
  obtain ⟨F_6, he_7, hP, hD, hO, hR⟩ : ∃ G, G = va_up F h0 (.inr (2, [.ref ea, .int 0])) ∧ va_P (dC, dI) vwCl (va_pl L G) H ∧ va_D A (va_pl L G) ∧ OK cs ty L G ∧ FR ty [ρ] F G := ⟨_, rfl, hP, hD, hO.up (sh.dir hT_h0 ⟨0, rfl, (by first | omega | assumption | exact Or.inl rfl | exact Or.inr rfl)⟩), hR.up hT_h0 (by simp)⟩
  have hF_8 : F_6 h0 = .inr (2, [.ref ea, .int 0]) := by rw [he_7]; exact up_self
  refine lv_iload_n hx hb dX2_clear_10 rfl (lv_at hl 0 rfl) ?_
  refine W.widen (k := 0) (n := 0) (by omega) (by omega) ?_
  exact W.iret (v := (nI z_3)) hx hb hr (fun t ht hWm => ⟨⟨(nI z_3), (), rfl, trivial, ⟨F_6, QT.mk ht hP hD hO hR⟩⟩, hS.F ht⟩) hS.2.2 dX2_clear_11
set_option maxHeartbeats 4000000 in
set_option maxRecDepth 100000 in
theorem s_X2_has (l : Launch) (dC : Nat → ClassId) (dI : Nat → Nat → Nat) (cs : Nat → ClassId) (ty : TyM) (L : List Nat) (sz : Nat) (F : Nat → va_E) (h0 : Nat) (ρ : Nat) (ea : Nat) (g1 : Nat) (σ : Nat) (r1 : Nat) (n1 : Nat) (x1 : Int32) (hW : WT ty L) (hL_h0 : h0 ∈ L) (hT_h0 : ty h0 = (2, ρ, [ea])) (hL_g1 : g1 ∈ L) (hT_g1 : ty g1 = (0, σ, [r1, n1])) : Met l yX2_has (.code yX2_has cX2_has 4 (some .boolean) :: tb) ({ frames := 1, cells := 0, slots := 0, locals := 22 }) (va_Pc [.ref h0, .int x1, .ref g1] (PT (dC, dI) cs ty L F sz)) (va_Qi (fun (r : Int32) (_ : Unit) => (r = 0 ∨ r = 1)) (fun _ T9 => ∃ F2 : Nat → va_E, QT (dC, dI) cs ty L [] F F2 (va_A (va_pl L F) sz) T9) (va_A (va_pl L F) sz)) 0 0 (va_A (va_pl L F) sz) := by
  refine Met.ofW (cc := cX2_has) (maxL := 4) (ret := (some .boolean)) (by decide) rfl ?_
  intro p e s m args below meth c s₁ B hml hv
  obtain ⟨rfl, hsz, hP, hK, hD0, hE, hO⟩ := hv
  have hx := B.exec
  have hb := B.bytes
  have hr := B.returns
  have hts : ∀ w ∈ tb, w.before _ s = true := fun w h => atoms_spec (ws := .code yX2_has cX2_has 4 (some .boolean) :: tb) B.pre w (List.mem_cons_of_mem _ h)
  have hown : s.vm.findClass RX2 = some m.cls := findClass_of_methodNamed B.named
  have hlocks := B.notSynchronized
  subst hsz
  have hD := hD0.self (sz := s.heap.size)
  generalize hAe : va_A (va_pl L F) s.heap.size = A at hD ⊢
  have hA : ∀ q : Nat, s.heap.size ≤ q → A q := fun q h => by rw [← hAe]; exact Or.inr h
  have hS : va_S A s.heap s.heap [] := va_S.rf
  have hR : FR ty [] F F := FR.refl
  have hl := lv_entry ([.ref h0, .int x1, .ref g1]) (n := 4) (Nat.le_of_ble_eq_true rfl)
  rw [lg_entry_eq]
  generalize (lg_sl ([.ref h0, .int x1, .ref g1]) ++ List.replicate (4 - (lg_sl ([.ref h0, .int x1, .ref g1])).length) Slot.unset).toArray = ls at hl ⊢
  have hl : lv_has ls 4 [(0, .ref h0), (1, .int x1), (2, .ref g1)] := hl
  refine lv_iconst (v := 0) hx hb dX2_has_0 (by decide) ?_
  refine lv_istore_n (lv' := [(3, .int 0), (0, .ref h0), (1, .int x1), (2, .ref g1)]) hx hb dX2_has_1 rfl hl (by decide) rfl (fun ls hl => ?_)
  refine W.widen (k := 0) (n := 0) (by omega) (by omega) ?_
  refine pl_loop (σ := Nat) A (dC, dI) cs ty L [] F 2 4 (fun j => [(3, .int (nI j)), (0, .ref h0), (1, .int x1), (2, .ref g1)]) (fun j => []) (fun j _ => j ≤ 40) (fun j => 40 - j) ?_ 0 F (by omega) hO hR _ _ hP hD hS ls (lv_sub hl [0, 1, 2, 3] rfl)
  rintro j F_1 hv_2 hO hR ih_3 H locs hP hD hS ls hl
  have hl : lv_has ls 4 [(3, .int (nI j)), (0, .ref h0), (1, .int x1), (2, .ref g1)] := hl
  have hv_2 : j ≤ 40 := hv_2
  refine W.eq (g2 := F0 m 2 ls []) rfl ?_
  refine lv_iload_n hx hb dX2_has_2 rfl (lv_at hl 0 rfl) ?_
  refine lv_aload_n hx hb dX2_has_3 rfl (lv_at hl 1 rfl) ?_
  obtain ⟨hi_4, ht_5⟩ := hW.dir hL_h0 hT_h0
  obtain ⟨z_6, hF_7, hq_8⟩ := hO.dir hL_h0 hT_h0
  refine pg_get (ci := 2) (v := .int (nI z_6)) (C := RX2) (T := TX2) (N := 2) hx hb hts it_2 hown hK hP hL_h0 hF_7 rfl 1 (by decide) (hts _ kt_83) (fun _ h9 => h9) rfl dX2_has_4 ?_
  refine lv_icmp_ge (tgt := 47) hx hb dX2_has_7 (by decide) (fun c_9 => ?_) (fun c_9 => ?_)
  ·
    have hi_10 : z_6 ≤ j := leN (N := z_6) c_9
    refine lv_iconst (v := 0) hx hb dX2_has_47 (by decide) ?_
    refine W.widen (k := 0) (n := 0) (by omega) (by omega) ?_
    exact W.zret (v := 0) (ty := .boolean) hx hb hr (by decide) (fun t ht hWm => ⟨⟨0, (), rfl, (by first | exact Or.inl rfl | exact Or.inr rfl), ⟨F_1, QT.mk ht hP hD hO hR⟩⟩, hS.F ht⟩) hS.2.2 dX2_has_48
  ·
    have hi_11 : j < z_6 := ltN (N := z_6) c_9
    have hjz : j < z_6 := ltI (by omega) c_9
    refine lv_aload_n hx hb dX2_has_10 rfl (lv_at hl 1 rfl) ?_
    refine pg_get (ci := 2) (v := .ref ea) (C := RX2) (T := TX2) (N := 2) hx hb hts it_2 hown hK hP hL_h0 hF_7 rfl 0 (by decide) (hts _ kt_84) (fun _ h9 => h9) rfl dX2_has_11 ?_
    refine lv_iload_n hx hb dX2_has_14 rfl (lv_at hl 0 rfl) ?_
    obtain ⟨f_12, hF_13, hq_14⟩ := hO.rentry hi_4 ht_5
    obtain ⟨b_15, x_16, y_17, hbf_18, hi_19, ht_20⟩ := hq_14 j (by omega)
    refine pg_aald (r := b_15) hx hb hK hP hi_4 5 hF_13 rfl (vp_in_nI (by omega) (by omega)) (show f_12 ((nI j) : Int32).toNatClampNeg = _ from by rw [show ((nI j) : Int32) = nI j from rfl, nI_clamp (by omega)]; exact hbf_18) dX2_has_15 ?_
    obtain ⟨hi_21, hi_22, ⟨r_23, ht_24⟩, ⟨r_25, ht_26⟩⟩ := hW.entry hi_19 ht_20
    have ht_24 : ty x_16 = (0, ρ + j + j + j + 101, [r_23, 60]) := ht_24
    have ht_26 : ty y_17 = (0, ρ + j + j + j + 102, [r_25, 700]) := ht_26
    obtain ⟨v0_27, v1_28, hF_29⟩ := hO.entry hi_19 ht_20
    refine pg_getN (ci := 3) (v := .int v0_27) (C := RX3) (T := TX3) (N := 4) hx hb hts it_3 hown hK hP hi_19 hF_29 rfl 2 (by decide) (hE.nest kn_0) (fun _ h9 => h9) rfl dX2_has_16 ?_
    refine lv_iload_n hx hb dX2_has_19 rfl (lv_at hl 2 rfl) ?_
    refine lv_icmp_ne (tgt := 41) hx hb dX2_has_20 (by decide) (fun c_30 => ?_) (fun c_30 => ?_)
    ·
      refine lv_iinc (v := (nI (j + 1))) (lv' := [(3, .int (nI (j + 1))), (0, .ref h0), (1, .int x1), (2, .ref g1)]) hx hb dX2_has_41 hl (k := 0) rfl (nI_1 _) (by decide) rfl (fun ls hl => ?_)
      refine lv_goto (tgt := 2) hx hb dX2_has_44 (by decide) ?_
      refine W.widen (k := 0) (n := 0) (by omega) (by omega) ?_
      exact ih_3 (j + 1) F_1 (by first | omega | exact ⟨by omega, by omega⟩ | trivial) (by show 40 - (j + 1) < 40 - j; omega) hO hR _ _ hP hD hS ls (lv_sub hl [0, 1, 2, 3] rfl)
    ·
      refine lv_aload_n hx hb dX2_has_23 rfl (lv_at hl 1 rfl) ?_
      refine pg_get (ci := 2) (v := .ref ea) (C := RX2) (T := TX2) (N := 2) hx hb hts it_2 hown hK hP hL_h0 hF_7 rfl 0 (by decide) (hts _ kt_84) (fun _ h9 => h9) rfl dX2_has_24 ?_
      refine lv_iload_n hx hb dX2_has_27 rfl (lv_at hl 0 rfl) ?_
      obtain ⟨b_31, x_32, y_33, hbf_34, hi_35, ht_36⟩ := hq_14 j (by omega)
      refine pg_aald (r := b_31) hx hb hK hP hi_4 5 hF_13 rfl (vp_in_nI (by omega) (by omega)) (show f_12 ((nI j) : Int32).toNatClampNeg = _ from by rw [show ((nI j) : Int32) = nI j from rfl, nI_clamp (by omega)]; exact hbf_34) dX2_has_28 ?_
      obtain ⟨hi_37, hi_38, ⟨r_39, ht_40⟩, ⟨r_41, ht_42⟩⟩ := hW.entry hi_35 ht_36
      have ht_40 : ty x_32 = (0, ρ + j + j + j + 101, [r_39, 60]) := ht_40
      have ht_42 : ty y_33 = (0, ρ + j + j + j + 102, [r_41, 700]) := ht_42
      obtain ⟨v0_43, v1_44, hF_45⟩ := hO.entry hi_35 ht_36
      refine pg_getN (ci := 3) (v := .ref x_32) (C := RX3) (T := TX3) (N := 4) hx hb hts it_3 hown hK hP hi_35 hF_45 rfl 0 (by decide) (hE.nest kn_1) (fun _ h9 => h9) rfl dX2_has_29 ?_
      refine lv_aload_n hx hb dX2_has_32 rfl (lv_at hl 3 rfl) ?_
      have hFc := pg_free hD hS hA
      obtain ⟨hi_46, ht_47, hq_48⟩ := hW.bytes hi_37 ht_40
      obtain ⟨z_49, o_50, hF_51, hq_52, hq_53⟩ := hO.bytes hi_37 ht_40
      refine va_calli (va_runV (As := [.ref g1]) (rest := []) ⟨hx, hb, hml, hown, hts⟩ (s_X0_same l dC dI cs ty L H.size F_1 x_32 (ρ + j + j + j + 101) r_39 60 g1 σ r1 n1 hW hi_37 ht_40 hL_g1 hT_g1) ⟨callB_of 1 hts (gi kt_85) rfl rfl rfl (hts _ kt_1) (hts _ kt_86) (by decide +kernel) ⟨Nat.le_of_ble_eq_true rfl, Nat.le_of_ble_eq_true rfl⟩, (hts _ kt_87), (hts _ kt_88)⟩ ⟨fun a U g mk q => ⟨q.1, PT.calling q.2⟩, pg_recv hK hP hi_37 hF_51 (q := (RX0, TX0, 3)) rfl, fun U hU hWm => ⟨rfl, PT.mk hU hWm hP hK hD hE hO⟩⟩ rfl rfl hl.1 rfl (lv_room (Nat.le_of_ble_eq_true rfl)) dX2_has_33 ⟨by show _ + 0 ≤ 0; omega, by show _ + 0 ≤ 0; omega⟩) hS (fun q _ h => hFc q h) hFc (fun r_54 u t H1 locs ht hvm hw hB hz1 hk1 hS => ?_)
      obtain ⟨F_55, hB1⟩ := hB
      obtain ⟨hP, hD, hO, hR⟩ := QT.back hB1 ht hFc hR (fun q h => absurd h List.not_mem_nil)
      have hF_56 : F_55 h0 = .inr (2, [.ref ea, .int (nI z_6)]) := (hB1.2.2.2 h0 List.not_mem_nil).trans hF_7
      have hF_57 : F_55 ea = .inl (cs 21, 40, .inr (.inr (.inr (.inr f_12)))) := (hB1.2.2.2 ea List.not_mem_nil).trans hF_13
      have hF_58 : F_55 b_15 = .inr (3, [.ref x_16, .ref y_17, .int v0_27, .int v1_28]) := (hB1.2.2.2 b_15 List.not_mem_nil).trans hF_29
      have hF_59 : F_55 b_31 = .inr (3, [.ref x_32, .ref y_33, .int v0_43, .int v1_44]) := (hB1.2.2.2 b_31 List.not_mem_nil).trans hF_45
      have hF_60 : F_55 x_32 = .inr (0, [.ref r_39, .int (nI z_49), .int o_50]) := (hB1.2.2.2 x_32 List.not_mem_nil).trans hF_51
      generalize H1 = H at hP hS ⊢
      have hw : (r_54 = 0 ∨ r_54 = 1) := hw
      have hw_61 := hw
      refine lv_if_eq (tgt := 41) hx hb dX2_has_36 (by decide) (fun c_62 => ?_) (fun c_62 => ?_)
      ·
        refine lv_iinc (v := (nI (j + 1))) (lv' := [(3, .int (nI (j + 1))), (0, .ref h0), (1, .int x1), (2, .ref g1)]) hx hb dX2_has_41 hl (k := 0) rfl (nI_1 _) (by decide) rfl (fun ls hl => ?_)
        refine lv_goto (tgt := 2) hx hb dX2_has_44 (by decide) ?_
        refine W.widen (k := 0) (n := 0) (by omega) (by omega) ?_
        exact ih_3 (j + 1) F_55 (by first | omega | exact ⟨by omega, by omega⟩ | trivial) (by show 40 - (j + 1) < 40 - j; omega) hO hR _ _ hP hD hS ls (lv_sub hl [0, 1, 2, 3] rfl)
      ·
        refine lv_iconst (v := 1) hx hb dX2_has_39 (by decide) ?_
        refine W.widen (k := 0) (n := 0) (by omega) (by omega) ?_
        exact W.zret (v := 1) (ty := .boolean) hx hb hr (by decide) (fun t ht hWm => ⟨⟨1, (), rfl, (by first | exact Or.inl rfl | exact Or.inr rfl), ⟨F_55, QT.mk ht hP hD hO hR⟩⟩, hS.F ht⟩) hS.2.2 dX2_has_40
set_option maxHeartbeats 4000000 in
set_option maxRecDepth 100000 in
theorem s_X2_hasAddress (l : Launch) (dC : Nat → ClassId) (dI : Nat → Nat → Nat) (cs : Nat → ClassId) (ty : TyM) (L : List Nat) (sz : Nat) (F : Nat → va_E) (h0 : Nat) (ρ : Nat) (ea : Nat) (g1 : Nat) (σ : Nat) (r1 : Nat) (n1 : Nat) (x2 : Int32) (x3 : Int32) (hW : WT ty L) (hL_h0 : h0 ∈ L) (hT_h0 : ty h0 = (2, ρ, [ea])) (hL_g1 : g1 ∈ L) (hT_g1 : ty g1 = (0, σ, [r1, n1])) : Met l yX2_hasAddress (.code yX2_hasAddress cX2_hasAddress 5 (some .boolean) :: tb) ({ frames := 1, cells := 0, slots := 0, locals := 22 }) (va_Pc [.ref h0, .ref g1, .int x2, .int x3] (PT (dC, dI) cs ty L F sz)) (va_Qi (fun (r : Int32) (_ : Unit) => (r = 0 ∨ r = 1)) (fun _ T9 => ∃ F2 : Nat → va_E, QT (dC, dI) cs ty L [] F F2 (va_A (va_pl L F) sz) T9) (va_A (va_pl L F) sz)) 0 0 (va_A (va_pl L F) sz) := by
  refine Met.ofW (cc := cX2_hasAddress) (maxL := 5) (ret := (some .boolean)) (by decide) rfl ?_
  intro p e s m args below meth c s₁ B hml hv
  obtain ⟨rfl, hsz, hP, hK, hD0, hE, hO⟩ := hv
  have hx := B.exec
  have hb := B.bytes
  have hr := B.returns
  have hts : ∀ w ∈ tb, w.before _ s = true := fun w h => atoms_spec (ws := .code yX2_hasAddress cX2_hasAddress 5 (some .boolean) :: tb) B.pre w (List.mem_cons_of_mem _ h)
  have hown : s.vm.findClass RX2 = some m.cls := findClass_of_methodNamed B.named
  have hlocks := B.notSynchronized
  subst hsz
  have hD := hD0.self (sz := s.heap.size)
  generalize hAe : va_A (va_pl L F) s.heap.size = A at hD ⊢
  have hA : ∀ q : Nat, s.heap.size ≤ q → A q := fun q h => by rw [← hAe]; exact Or.inr h
  have hS : va_S A s.heap s.heap [] := va_S.rf
  have hR : FR ty [] F F := FR.refl
  have hl := lv_entry ([.ref h0, .ref g1, .int x2, .int x3]) (n := 5) (Nat.le_of_ble_eq_true rfl)
  rw [lg_entry_eq]
  generalize (lg_sl ([.ref h0, .ref g1, .int x2, .int x3]) ++ List.replicate (5 - (lg_sl ([.ref h0, .ref g1, .int x2, .int x3])).length) Slot.unset).toArray = ls at hl ⊢
  have hl : lv_has ls 5 [(0, .ref h0), (1, .ref g1), (2, .int x2), (3, .int x3)] := hl
  refine lv_iconst (v := 0) hx hb dX2_hasAddress_0 (by decide) ?_
  refine lv_istore (lv' := [(4, .int 0), (0, .ref h0), (1, .ref g1), (2, .int x2), (3, .int x3)]) hx hb dX2_hasAddress_1 hl (by decide) rfl (fun ls hl => ?_)
  refine W.widen (k := 0) (n := 0) (by omega) (by omega) ?_
  refine pl_loop (σ := Nat) A (dC, dI) cs ty L [] F 3 5 (fun j => [(4, .int (nI j)), (0, .ref h0), (1, .ref g1), (2, .int x2), (3, .int x3)]) (fun j => []) (fun j _ => j ≤ 40) (fun j => 40 - j) ?_ 0 F (by omega) hO hR _ _ hP hD hS ls (lv_sub hl [0, 1, 2, 3, 4] rfl)
  rintro j F_1 hv_2 hO hR ih_3 H locs hP hD hS ls hl
  have hl : lv_has ls 5 [(4, .int (nI j)), (0, .ref h0), (1, .ref g1), (2, .int x2), (3, .int x3)] := hl
  have hv_2 : j ≤ 40 := hv_2
  refine W.eq (g2 := F0 m 3 ls []) rfl ?_
  refine lv_iload hx hb dX2_hasAddress_3 (lv_at hl 0 rfl) ?_
  refine lv_aload_n hx hb dX2_hasAddress_5 rfl (lv_at hl 1 rfl) ?_
  obtain ⟨hi_4, ht_5⟩ := hW.dir hL_h0 hT_h0
  obtain ⟨z_6, hF_7, hq_8⟩ := hO.dir hL_h0 hT_h0
  refine pg_get (ci := 2) (v := .int (nI z_6)) (C := RX2) (T := TX2) (N := 2) hx hb hts it_2 hown hK hP hL_h0 hF_7 rfl 1 (by decide) (hts _ kt_83) (fun _ h9 => h9) rfl dX2_hasAddress_6 ?_
  refine lv_icmp_ge (tgt := 72) hx hb dX2_hasAddress_9 (by decide) (fun c_9 => ?_) (fun c_9 => ?_)
  ·
    have hi_10 : z_6 ≤ j := leN (N := z_6) c_9
    refine lv_iconst (v := 0) hx hb dX2_hasAddress_72 (by decide) ?_
    refine W.widen (k := 0) (n := 0) (by omega) (by omega) ?_
    exact W.zret (v := 0) (ty := .boolean) hx hb hr (by decide) (fun t ht hWm => ⟨⟨0, (), rfl, (by first | exact Or.inl rfl | exact Or.inr rfl), ⟨F_1, QT.mk ht hP hD hO hR⟩⟩, hS.F ht⟩) hS.2.2 dX2_hasAddress_73
  ·
    have hi_11 : j < z_6 := ltN (N := z_6) c_9
    have hjz : j < z_6 := ltI (by omega) c_9
    refine lv_aload_n hx hb dX2_hasAddress_12 rfl (lv_at hl 1 rfl) ?_
    refine pg_get (ci := 2) (v := .ref ea) (C := RX2) (T := TX2) (N := 2) hx hb hts it_2 hown hK hP hL_h0 hF_7 rfl 0 (by decide) (hts _ kt_84) (fun _ h9 => h9) rfl dX2_hasAddress_13 ?_
    refine lv_iload hx hb dX2_hasAddress_16 (lv_at hl 0 rfl) ?_
    obtain ⟨f_12, hF_13, hq_14⟩ := hO.rentry hi_4 ht_5
    obtain ⟨b_15, x_16, y_17, hbf_18, hi_19, ht_20⟩ := hq_14 j (by omega)
    refine pg_aald (r := b_15) hx hb hK hP hi_4 5 hF_13 rfl (vp_in_nI (by omega) (by omega)) (show f_12 ((nI j) : Int32).toNatClampNeg = _ from by rw [show ((nI j) : Int32) = nI j from rfl, nI_clamp (by omega)]; exact hbf_18) dX2_hasAddress_18 ?_
    obtain ⟨hi_21, hi_22, ⟨r_23, ht_24⟩, ⟨r_25, ht_26⟩⟩ := hW.entry hi_19 ht_20
    have ht_24 : ty x_16 = (0, ρ + j + j + j + 101, [r_23, 60]) := ht_24
    have ht_26 : ty y_17 = (0, ρ + j + j + j + 102, [r_25, 700]) := ht_26
    obtain ⟨v0_27, v1_28, hF_29⟩ := hO.entry hi_19 ht_20
    refine pg_getN (ci := 3) (v := .int v0_27) (C := RX3) (T := TX3) (N := 4) hx hb hts it_3 hown hK hP hi_19 hF_29 rfl 2 (by decide) (hE.nest kn_0) (fun _ h9 => h9) rfl dX2_hasAddress_19 ?_
    refine lv_iconst (v := 1) hx hb dX2_hasAddress_22 (by decide) ?_
    refine lv_icmp_ne (tgt := 66) hx hb dX2_hasAddress_23 (by decide) (fun c_30 => ?_) (fun c_30 => ?_)
    ·
      refine lv_iinc (v := (nI (j + 1))) (lv' := [(4, .int (nI (j + 1))), (0, .ref h0), (1, .ref g1), (2, .int x2), (3, .int x3)]) hx hb dX2_hasAddress_66 hl (k := 0) rfl (nI_1 _) (by decide) rfl (fun ls hl => ?_)
      refine lv_goto (tgt := 3) hx hb dX2_hasAddress_69 (by decide) ?_
      refine W.widen (k := 0) (n := 0) (by omega) (by omega) ?_
      exact ih_3 (j + 1) F_1 (by first | omega | exact ⟨by omega, by omega⟩ | trivial) (by show 40 - (j + 1) < 40 - j; omega) hO hR _ _ hP hD hS ls (lv_sub hl [0, 1, 2, 3, 4] rfl)
    ·
      refine lv_aload_n hx hb dX2_hasAddress_26 rfl (lv_at hl 1 rfl) ?_
      refine pg_get (ci := 2) (v := .ref ea) (C := RX2) (T := TX2) (N := 2) hx hb hts it_2 hown hK hP hL_h0 hF_7 rfl 0 (by decide) (hts _ kt_84) (fun _ h9 => h9) rfl dX2_hasAddress_27 ?_
      refine lv_iload hx hb dX2_hasAddress_30 (lv_at hl 0 rfl) ?_
      obtain ⟨b_31, x_32, y_33, hbf_34, hi_35, ht_36⟩ := hq_14 j (by omega)
      refine pg_aald (r := b_31) hx hb hK hP hi_4 5 hF_13 rfl (vp_in_nI (by omega) (by omega)) (show f_12 ((nI j) : Int32).toNatClampNeg = _ from by rw [show ((nI j) : Int32) = nI j from rfl, nI_clamp (by omega)]; exact hbf_34) dX2_hasAddress_32 ?_
      obtain ⟨hi_37, hi_38, ⟨r_39, ht_40⟩, ⟨r_41, ht_42⟩⟩ := hW.entry hi_35 ht_36
      have ht_40 : ty x_32 = (0, ρ + j + j + j + 101, [r_39, 60]) := ht_40
      have ht_42 : ty y_33 = (0, ρ + j + j + j + 102, [r_41, 700]) := ht_42
      obtain ⟨v0_43, v1_44, hF_45⟩ := hO.entry hi_35 ht_36
      refine pg_getN (ci := 3) (v := .int v1_44) (C := RX3) (T := TX3) (N := 4) hx hb hts it_3 hown hK hP hi_35 hF_45 rfl 3 (by decide) (hE.nest kn_2) (fun _ h9 => h9) rfl dX2_hasAddress_33 ?_
      refine lv_iload_n hx hb dX2_hasAddress_36 rfl (lv_at hl 3 rfl) ?_
      refine lv_iload_n hx hb dX2_hasAddress_37 rfl (lv_at hl 4 rfl) ?_
      have hFc := pg_free hD hS hA
      refine va_calli (va_runS (As := [.int v1_44, .int x2, .int x3]) (rest := []) ⟨hx, hb, hml, hown, hts⟩ (s_X10_isSameNet l dC dI cs ty L H.size F_1 v1_44 x2 x3 hW ) ⟨callB_of 3 hts (gi kt_89) rfl rfl rfl (hts _ kt_90) (hts _ kt_91) (by decide +kernel) ⟨Nat.le_of_ble_eq_true rfl, Nat.le_of_ble_eq_true rfl⟩, (hts _ kt_92)⟩ ⟨fun a U g mk q => ⟨q.1, PT.calling q.2⟩, fun U hU hWm => ⟨rfl, PT.mk hU hWm hP hK hD hE hO⟩⟩ rfl rfl hl.1 rfl (lv_room (Nat.le_of_ble_eq_true rfl)) dX2_hasAddress_38 ⟨by show _ + 0 ≤ 0; omega, by show _ + 0 ≤ 0; omega⟩) hS (fun q _ h => hFc q h) hFc (fun r_46 u t H1 locs ht hvm hw hB hz1 hk1 hS => ?_)
      obtain ⟨F_47, hB1⟩ := hB
      obtain ⟨hP, hD, hO, hR⟩ := QT.back hB1 ht hFc hR (fun q h => absurd h List.not_mem_nil)
      have hF_48 : F_47 h0 = .inr (2, [.ref ea, .int (nI z_6)]) := (hB1.2.2.2 h0 List.not_mem_nil).trans hF_7
      have hF_49 : F_47 ea = .inl (cs 21, 40, .inr (.inr (.inr (.inr f_12)))) := (hB1.2.2.2 ea List.not_mem_nil).trans hF_13
      have hF_50 : F_47 b_15 = .inr (3, [.ref x_16, .ref y_17, .int v0_27, .int v1_28]) := (hB1.2.2.2 b_15 List.not_mem_nil).trans hF_29
      have hF_51 : F_47 b_31 = .inr (3, [.ref x_32, .ref y_33, .int v0_43, .int v1_44]) := (hB1.2.2.2 b_31 List.not_mem_nil).trans hF_45
      generalize H1 = H at hP hS ⊢
      have hw : (r_46 = 0 ∨ r_46 = 1) := hw
      have hw_52 := hw
      refine lv_if_ne (tgt := 47) hx hb dX2_hasAddress_41 (by decide) (fun c_53 => ?_) (fun c_53 => ?_)
      ·
        refine lv_aload_n hx hb dX2_hasAddress_47 rfl (lv_at hl 1 rfl) ?_
        refine pg_get (ci := 2) (v := .ref ea) (C := RX2) (T := TX2) (N := 2) hx hb hts it_2 hown hK hP hL_h0 hF_48 rfl 0 (by decide) (hts _ kt_84) (fun _ h9 => h9) rfl dX2_hasAddress_48 ?_
        refine lv_iload hx hb dX2_hasAddress_51 (lv_at hl 0 rfl) ?_
        obtain ⟨b_54, x_55, y_56, hbf_57, hi_58, ht_59⟩ := hq_14 j (by omega)
        refine pg_aald (r := b_54) hx hb hK hP hi_4 5 hF_49 rfl (vp_in_nI (by omega) (by omega)) (show f_12 ((nI j) : Int32).toNatClampNeg = _ from by rw [show ((nI j) : Int32) = nI j from rfl, nI_clamp (by omega)]; exact hbf_57) dX2_hasAddress_53 ?_
        obtain ⟨hi_60, hi_61, ⟨r_62, ht_63⟩, ⟨r_64, ht_65⟩⟩ := hW.entry hi_58 ht_59
        have ht_63 : ty x_55 = (0, ρ + j + j + j + 101, [r_62, 60]) := ht_63
        have ht_65 : ty y_56 = (0, ρ + j + j + j + 102, [r_64, 700]) := ht_65
        obtain ⟨v0_66, v1_67, hF_68⟩ := hO.entry hi_58 ht_59
        refine pg_getN (ci := 3) (v := .ref x_55) (C := RX3) (T := TX3) (N := 4) hx hb hts it_3 hown hK hP hi_58 hF_68 rfl 0 (by decide) (hE.nest kn_1) (fun _ h9 => h9) rfl dX2_hasAddress_54 ?_
        refine lv_aload_n hx hb dX2_hasAddress_57 rfl (lv_at hl 2 rfl) ?_
        have hFc := pg_free hD hS hA
        obtain ⟨hi_69, ht_70, hq_71⟩ := hW.bytes hi_60 ht_63
        obtain ⟨z_72, o_73, hF_74, hq_75, hq_76⟩ := hO.bytes hi_60 ht_63
        refine va_calli (va_runV (As := [.ref g1]) (rest := []) ⟨hx, hb, hml, hown, hts⟩ (s_X0_same l dC dI cs ty L H.size F_47 x_55 (ρ + j + j + j + 101) r_62 60 g1 σ r1 n1 hW hi_60 ht_63 hL_g1 hT_g1) ⟨callB_of 1 hts (gi kt_85) rfl rfl rfl (hts _ kt_1) (hts _ kt_86) (by decide +kernel) ⟨Nat.le_of_ble_eq_true rfl, Nat.le_of_ble_eq_true rfl⟩, (hts _ kt_87), (hts _ kt_88)⟩ ⟨fun a U g mk q => ⟨q.1, PT.calling q.2⟩, pg_recv hK hP hi_60 hF_74 (q := (RX0, TX0, 3)) rfl, fun U hU hWm => ⟨rfl, PT.mk hU hWm hP hK hD hE hO⟩⟩ rfl rfl hl.1 rfl (lv_room (Nat.le_of_ble_eq_true rfl)) dX2_hasAddress_58 ⟨by show _ + 0 ≤ 0; omega, by show _ + 0 ≤ 0; omega⟩) hS (fun q _ h => hFc q h) hFc (fun r_77 u t H1 locs ht hvm hw hB hz1 hk1 hS => ?_)
        obtain ⟨F_78, hB1⟩ := hB
        obtain ⟨hP, hD, hO, hR⟩ := QT.back hB1 ht hFc hR (fun q h => absurd h List.not_mem_nil)
        have hF_79 : F_78 h0 = .inr (2, [.ref ea, .int (nI z_6)]) := (hB1.2.2.2 h0 List.not_mem_nil).trans hF_48
        have hF_80 : F_78 ea = .inl (cs 21, 40, .inr (.inr (.inr (.inr f_12)))) := (hB1.2.2.2 ea List.not_mem_nil).trans hF_49
        have hF_81 : F_78 b_15 = .inr (3, [.ref x_16, .ref y_17, .int v0_27, .int v1_28]) := (hB1.2.2.2 b_15 List.not_mem_nil).trans hF_50
        have hF_82 : F_78 b_31 = .inr (3, [.ref x_32, .ref y_33, .int v0_43, .int v1_44]) := (hB1.2.2.2 b_31 List.not_mem_nil).trans hF_51
        have hF_83 : F_78 b_54 = .inr (3, [.ref x_55, .ref y_56, .int v0_66, .int v1_67]) := (hB1.2.2.2 b_54 List.not_mem_nil).trans hF_68
        have hF_84 : F_78 x_55 = .inr (0, [.ref r_62, .int (nI z_72), .int o_73]) := (hB1.2.2.2 x_55 List.not_mem_nil).trans hF_74
        generalize H1 = H at hP hS ⊢
        have hw : (r_77 = 0 ∨ r_77 = 1) := hw
        have hw_85 := hw
        refine lv_if_eq (tgt := 66) hx hb dX2_hasAddress_61 (by decide) (fun c_86 => ?_) (fun c_86 => ?_)
        ·
          refine lv_iinc (v := (nI (j + 1))) (lv' := [(4, .int (nI (j + 1))), (0, .ref h0), (1, .ref g1), (2, .int x2), (3, .int x3)]) hx hb dX2_hasAddress_66 hl (k := 0) rfl (nI_1 _) (by decide) rfl (fun ls hl => ?_)
          refine lv_goto (tgt := 3) hx hb dX2_hasAddress_69 (by decide) ?_
          refine W.widen (k := 0) (n := 0) (by omega) (by omega) ?_
          exact ih_3 (j + 1) F_78 (by first | omega | exact ⟨by omega, by omega⟩ | trivial) (by show 40 - (j + 1) < 40 - j; omega) hO hR _ _ hP hD hS ls (lv_sub hl [0, 1, 2, 3, 4] rfl)
        ·
          refine lv_iconst (v := 1) hx hb dX2_hasAddress_64 (by decide) ?_
          refine W.widen (k := 0) (n := 0) (by omega) (by omega) ?_
          exact W.zret (v := 1) (ty := .boolean) hx hb hr (by decide) (fun t ht hWm => ⟨⟨1, (), rfl, (by first | exact Or.inl rfl | exact Or.inr rfl), ⟨F_78, QT.mk ht hP hD hO hR⟩⟩, hS.F ht⟩) hS.2.2 dX2_hasAddress_65
      ·
        refine lv_goto (tgt := 66) hx hb dX2_hasAddress_44 (by decide) ?_
        refine lv_iinc (v := (nI (j + 1))) (lv' := [(4, .int (nI (j + 1))), (0, .ref h0), (1, .ref g1), (2, .int x2), (3, .int x3)]) hx hb dX2_hasAddress_66 hl (k := 0) rfl (nI_1 _) (by decide) rfl (fun ls hl => ?_)
        refine lv_goto (tgt := 3) hx hb dX2_hasAddress_69 (by decide) ?_
        refine W.widen (k := 0) (n := 0) (by omega) (by omega) ?_
        exact ih_3 (j + 1) F_47 (by first | omega | exact ⟨by omega, by omega⟩ | trivial) (by show 40 - (j + 1) < 40 - j; omega) hO hR _ _ hP hD hS ls (lv_sub hl [0, 1, 2, 3, 4] rfl)
set_option maxHeartbeats 4000000 in
set_option maxRecDepth 100000 in
theorem s_X2_firstText (l : Launch) (dC : Nat → ClassId) (dI : Nat → Nat → Nat) (cs : Nat → ClassId) (ty : TyM) (L : List Nat) (sz : Nat) (F : Nat → va_E) (h0 : Nat) (ρ : Nat) (ea : Nat) (g1 : Nat) (σ : Nat) (r1 : Nat) (n1 : Nat) (hW : WT ty L) (hL_h0 : h0 ∈ L) (hT_h0 : ty h0 = (2, ρ, [ea])) (hL_g1 : g1 ∈ L) (hT_g1 : ty g1 = (0, σ, [r1, n1])) : Met l yX2_firstText (.code yX2_firstText cX2_firstText 3 (some .int) :: tb) ({ frames := 1, cells := 0, slots := 0, locals := 22 }) (va_Pc [.ref h0, .ref g1] (PT (dC, dI) cs ty L F sz)) (va_Qi (fun (r : Int32) (_ : Unit) => True) (fun _ T9 => ∃ F2 : Nat → va_E, QT (dC, dI) cs ty L [] F F2 (va_A (va_pl L F) sz) T9) (va_A (va_pl L F) sz)) 0 0 (va_A (va_pl L F) sz) := by
  refine Met.ofW (cc := cX2_firstText) (maxL := 3) (ret := (some .int)) (by decide) rfl ?_
  intro p e s m args below meth c s₁ B hml hv
  obtain ⟨rfl, hsz, hP, hK, hD0, hE, hO⟩ := hv
  have hx := B.exec
  have hb := B.bytes
  have hr := B.returns
  have hts : ∀ w ∈ tb, w.before _ s = true := fun w h => atoms_spec (ws := .code yX2_firstText cX2_firstText 3 (some .int) :: tb) B.pre w (List.mem_cons_of_mem _ h)
  have hown : s.vm.findClass RX2 = some m.cls := findClass_of_methodNamed B.named
  have hlocks := B.notSynchronized
  subst hsz
  have hD := hD0.self (sz := s.heap.size)
  generalize hAe : va_A (va_pl L F) s.heap.size = A at hD ⊢
  have hA : ∀ q : Nat, s.heap.size ≤ q → A q := fun q h => by rw [← hAe]; exact Or.inr h
  have hS : va_S A s.heap s.heap [] := va_S.rf
  have hR : FR ty [] F F := FR.refl
  have hl := lv_entry ([.ref h0, .ref g1]) (n := 3) (Nat.le_of_ble_eq_true rfl)
  rw [lg_entry_eq]
  generalize (lg_sl ([.ref h0, .ref g1]) ++ List.replicate (3 - (lg_sl ([.ref h0, .ref g1])).length) Slot.unset).toArray = ls at hl ⊢
  have hl : lv_has ls 3 [(0, .ref h0), (1, .ref g1)] := hl
  refine lv_iconst (v := 0) hx hb dX2_firstText_0 (by decide) ?_
  refine lv_istore_n (lv' := [(2, .int 0), (0, .ref h0), (1, .ref g1)]) hx hb dX2_firstText_1 rfl hl (by decide) rfl (fun ls hl => ?_)
  refine W.widen (k := 0) (n := 0) (by omega) (by omega) ?_
  refine pl_loop (σ := Nat) A (dC, dI) cs ty L [] F 2 3 (fun j => [(2, .int (nI j)), (0, .ref h0), (1, .ref g1)]) (fun j => []) (fun j _ => j ≤ 40) (fun j => 40 - j) ?_ 0 F (by omega) hO hR _ _ hP hD hS ls (lv_sub hl [0, 1, 2] rfl)
  rintro j F_1 hv_2 hO hR ih_3 H locs hP hD hS ls hl
  have hl : lv_has ls 3 [(2, .int (nI j)), (0, .ref h0), (1, .ref g1)] := hl
  have hv_2 : j ≤ 40 := hv_2
  refine W.eq (g2 := F0 m 2 ls []) rfl ?_
  refine lv_iload_n hx hb dX2_firstText_2 rfl (lv_at hl 0 rfl) ?_
  refine lv_aload_n hx hb dX2_firstText_3 rfl (lv_at hl 1 rfl) ?_
  obtain ⟨hi_4, ht_5⟩ := hW.dir hL_h0 hT_h0
  obtain ⟨z_6, hF_7, hq_8⟩ := hO.dir hL_h0 hT_h0
  refine pg_get (ci := 2) (v := .int (nI z_6)) (C := RX2) (T := TX2) (N := 2) hx hb hts it_2 hown hK hP hL_h0 hF_7 rfl 1 (by decide) (hts _ kt_83) (fun _ h9 => h9) rfl dX2_firstText_4 ?_
  refine lv_icmp_ge (tgt := 46) hx hb dX2_firstText_7 (by decide) (fun c_9 => ?_) (fun c_9 => ?_)
  ·
    have hi_10 : z_6 ≤ j := leN (N := z_6) c_9
    refine lv_iconst (v := (-1)) hx hb dX2_firstText_46 (by decide) ?_
    refine W.widen (k := 0) (n := 0) (by omega) (by omega) ?_
    exact W.iret (v := (-1)) hx hb hr (fun t ht hWm => ⟨⟨(-1), (), rfl, trivial, ⟨F_1, QT.mk ht hP hD hO hR⟩⟩, hS.F ht⟩) hS.2.2 dX2_firstText_47
  ·
    have hi_11 : j < z_6 := ltN (N := z_6) c_9
    have hjz : j < z_6 := ltI (by omega) c_9
    refine lv_aload_n hx hb dX2_firstText_10 rfl (lv_at hl 1 rfl) ?_
    refine pg_get (ci := 2) (v := .ref ea) (C := RX2) (T := TX2) (N := 2) hx hb hts it_2 hown hK hP hL_h0 hF_7 rfl 0 (by decide) (hts _ kt_84) (fun _ h9 => h9) rfl dX2_firstText_11 ?_
    refine lv_iload_n hx hb dX2_firstText_14 rfl (lv_at hl 0 rfl) ?_
    obtain ⟨f_12, hF_13, hq_14⟩ := hO.rentry hi_4 ht_5
    obtain ⟨b_15, x_16, y_17, hbf_18, hi_19, ht_20⟩ := hq_14 j (by omega)
    refine pg_aald (r := b_15) hx hb hK hP hi_4 5 hF_13 rfl (vp_in_nI (by omega) (by omega)) (show f_12 ((nI j) : Int32).toNatClampNeg = _ from by rw [show ((nI j) : Int32) = nI j from rfl, nI_clamp (by omega)]; exact hbf_18) dX2_firstText_15 ?_
    obtain ⟨hi_21, hi_22, ⟨r_23, ht_24⟩, ⟨r_25, ht_26⟩⟩ := hW.entry hi_19 ht_20
    have ht_24 : ty x_16 = (0, ρ + j + j + j + 101, [r_23, 60]) := ht_24
    have ht_26 : ty y_17 = (0, ρ + j + j + j + 102, [r_25, 700]) := ht_26
    obtain ⟨v0_27, v1_28, hF_29⟩ := hO.entry hi_19 ht_20
    refine pg_getN (ci := 3) (v := .int v0_27) (C := RX3) (T := TX3) (N := 4) hx hb hts it_3 hown hK hP hi_19 hF_29 rfl 2 (by decide) (hE.nest kn_0) (fun _ h9 => h9) rfl dX2_firstText_16 ?_
    refine lv_if_ne (tgt := 40) hx hb dX2_firstText_19 (by decide) (fun c_30 => ?_) (fun c_30 => ?_)
    ·
      refine lv_iinc (v := (nI (j + 1))) (lv' := [(2, .int (nI (j + 1))), (0, .ref h0), (1, .ref g1)]) hx hb dX2_firstText_40 hl (k := 0) rfl (nI_1 _) (by decide) rfl (fun ls hl => ?_)
      refine lv_goto (tgt := 2) hx hb dX2_firstText_43 (by decide) ?_
      refine W.widen (k := 0) (n := 0) (by omega) (by omega) ?_
      exact ih_3 (j + 1) F_1 (by first | omega | exact ⟨by omega, by omega⟩ | trivial) (by show 40 - (j + 1) < 40 - j; omega) hO hR _ _ hP hD hS ls (lv_sub hl [0, 1, 2] rfl)
    ·
      refine lv_aload_n hx hb dX2_firstText_22 rfl (lv_at hl 1 rfl) ?_
      refine pg_get (ci := 2) (v := .ref ea) (C := RX2) (T := TX2) (N := 2) hx hb hts it_2 hown hK hP hL_h0 hF_7 rfl 0 (by decide) (hts _ kt_84) (fun _ h9 => h9) rfl dX2_firstText_23 ?_
      refine lv_iload_n hx hb dX2_firstText_26 rfl (lv_at hl 0 rfl) ?_
      obtain ⟨b_31, x_32, y_33, hbf_34, hi_35, ht_36⟩ := hq_14 j (by omega)
      refine pg_aald (r := b_31) hx hb hK hP hi_4 5 hF_13 rfl (vp_in_nI (by omega) (by omega)) (show f_12 ((nI j) : Int32).toNatClampNeg = _ from by rw [show ((nI j) : Int32) = nI j from rfl, nI_clamp (by omega)]; exact hbf_34) dX2_firstText_27 ?_
      obtain ⟨hi_37, hi_38, ⟨r_39, ht_40⟩, ⟨r_41, ht_42⟩⟩ := hW.entry hi_35 ht_36
      have ht_40 : ty x_32 = (0, ρ + j + j + j + 101, [r_39, 60]) := ht_40
      have ht_42 : ty y_33 = (0, ρ + j + j + j + 102, [r_41, 700]) := ht_42
      obtain ⟨v0_43, v1_44, hF_45⟩ := hO.entry hi_35 ht_36
      refine pg_getN (ci := 3) (v := .ref x_32) (C := RX3) (T := TX3) (N := 4) hx hb hts it_3 hown hK hP hi_35 hF_45 rfl 0 (by decide) (hE.nest kn_1) (fun _ h9 => h9) rfl dX2_firstText_28 ?_
      refine lv_aload_n hx hb dX2_firstText_31 rfl (lv_at hl 2 rfl) ?_
      have hFc := pg_free hD hS hA
      obtain ⟨hi_46, ht_47, hq_48⟩ := hW.bytes hi_37 ht_40
      obtain ⟨z_49, o_50, hF_51, hq_52, hq_53⟩ := hO.bytes hi_37 ht_40
      refine va_calli (va_runV (As := [.ref g1]) (rest := []) ⟨hx, hb, hml, hown, hts⟩ (s_X0_same l dC dI cs ty L H.size F_1 x_32 (ρ + j + j + j + 101) r_39 60 g1 σ r1 n1 hW hi_37 ht_40 hL_g1 hT_g1) ⟨callB_of 1 hts (gi kt_85) rfl rfl rfl (hts _ kt_1) (hts _ kt_86) (by decide +kernel) ⟨Nat.le_of_ble_eq_true rfl, Nat.le_of_ble_eq_true rfl⟩, (hts _ kt_87), (hts _ kt_88)⟩ ⟨fun a U g mk q => ⟨q.1, PT.calling q.2⟩, pg_recv hK hP hi_37 hF_51 (q := (RX0, TX0, 3)) rfl, fun U hU hWm => ⟨rfl, PT.mk hU hWm hP hK hD hE hO⟩⟩ rfl rfl hl.1 rfl (lv_room (Nat.le_of_ble_eq_true rfl)) dX2_firstText_32 ⟨by show _ + 0 ≤ 0; omega, by show _ + 0 ≤ 0; omega⟩) hS (fun q _ h => hFc q h) hFc (fun r_54 u t H1 locs ht hvm hw hB hz1 hk1 hS => ?_)
      obtain ⟨F_55, hB1⟩ := hB
      obtain ⟨hP, hD, hO, hR⟩ := QT.back hB1 ht hFc hR (fun q h => absurd h List.not_mem_nil)
      have hF_56 : F_55 h0 = .inr (2, [.ref ea, .int (nI z_6)]) := (hB1.2.2.2 h0 List.not_mem_nil).trans hF_7
      have hF_57 : F_55 ea = .inl (cs 21, 40, .inr (.inr (.inr (.inr f_12)))) := (hB1.2.2.2 ea List.not_mem_nil).trans hF_13
      have hF_58 : F_55 b_15 = .inr (3, [.ref x_16, .ref y_17, .int v0_27, .int v1_28]) := (hB1.2.2.2 b_15 List.not_mem_nil).trans hF_29
      have hF_59 : F_55 b_31 = .inr (3, [.ref x_32, .ref y_33, .int v0_43, .int v1_44]) := (hB1.2.2.2 b_31 List.not_mem_nil).trans hF_45
      have hF_60 : F_55 x_32 = .inr (0, [.ref r_39, .int (nI z_49), .int o_50]) := (hB1.2.2.2 x_32 List.not_mem_nil).trans hF_51
      generalize H1 = H at hP hS ⊢
      have hw : (r_54 = 0 ∨ r_54 = 1) := hw
      have hw_61 := hw
      refine lv_if_eq (tgt := 40) hx hb dX2_firstText_35 (by decide) (fun c_62 => ?_) (fun c_62 => ?_)
      ·
        refine lv_iinc (v := (nI (j + 1))) (lv' := [(2, .int (nI (j + 1))), (0, .ref h0), (1, .ref g1)]) hx hb dX2_firstText_40 hl (k := 0) rfl (nI_1 _) (by decide) rfl (fun ls hl => ?_)
        refine lv_goto (tgt := 2) hx hb dX2_firstText_43 (by decide) ?_
        refine W.widen (k := 0) (n := 0) (by omega) (by omega) ?_
        exact ih_3 (j + 1) F_55 (by first | omega | exact ⟨by omega, by omega⟩ | trivial) (by show 40 - (j + 1) < 40 - j; omega) hO hR _ _ hP hD hS ls (lv_sub hl [0, 1, 2] rfl)
      ·
        refine lv_iload_n hx hb dX2_firstText_38 rfl (lv_at hl 0 rfl) ?_
        refine W.widen (k := 0) (n := 0) (by omega) (by omega) ?_
        exact W.iret (v := (nI j)) hx hb hr (fun t ht hWm => ⟨⟨(nI j), (), rfl, trivial, ⟨F_55, QT.mk ht hP hD hO hR⟩⟩, hS.F ht⟩) hS.2.2 dX2_firstText_39
set_option maxHeartbeats 4000000 in
set_option maxRecDepth 100000 in
theorem s_X2_houseStart (l : Launch) (dC : Nat → ClassId) (dI : Nat → Nat → Nat) (cs : Nat → ClassId) (ty : TyM) (L : List Nat) (sz : Nat) (F : Nat → va_E) (h0 : Nat) (ρ : Nat) (ea : Nat) (g1 : Nat) (σ : Nat) (r1 : Nat) (n1 : Nat) (hW : WT ty L) (hL_h0 : h0 ∈ L) (hT_h0 : ty h0 = (2, ρ, [ea])) (hL_g1 : g1 ∈ L) (hT_g1 : ty g1 = (0, σ, [r1, n1])) : Met l yX2_houseStart (.code yX2_houseStart cX2_houseStart 4 (some .int) :: tb) ({ frames := 2, cells := 0, slots := 0, locals := 45 }) (va_Pc [.ref h0, .ref g1] (PT (dC, dI) cs ty L F sz)) (va_Qi (fun (r : Int32) (_ : Unit) => True) (fun _ T9 => ∃ F2 : Nat → va_E, QT (dC, dI) cs ty L [] F F2 (va_A (va_pl L F) sz) T9) (va_A (va_pl L F) sz)) 0 0 (va_A (va_pl L F) sz) := by
  refine Met.ofW (cc := cX2_houseStart) (maxL := 4) (ret := (some .int)) (by decide) rfl ?_
  intro p e s m args below meth c s₁ B hml hv
  obtain ⟨rfl, hsz, hP, hK, hD0, hE, hO⟩ := hv
  have hx := B.exec
  have hb := B.bytes
  have hr := B.returns
  have hts : ∀ w ∈ tb, w.before _ s = true := fun w h => atoms_spec (ws := .code yX2_houseStart cX2_houseStart 4 (some .int) :: tb) B.pre w (List.mem_cons_of_mem _ h)
  have hown : s.vm.findClass RX2 = some m.cls := findClass_of_methodNamed B.named
  have hlocks := B.notSynchronized
  subst hsz
  have hD := hD0.self (sz := s.heap.size)
  generalize hAe : va_A (va_pl L F) s.heap.size = A at hD ⊢
  have hA : ∀ q : Nat, s.heap.size ≤ q → A q := fun q h => by rw [← hAe]; exact Or.inr h
  have hS : va_S A s.heap s.heap [] := va_S.rf
  have hR : FR ty [] F F := FR.refl
  have hl := lv_entry ([.ref h0, .ref g1]) (n := 4) (Nat.le_of_ble_eq_true rfl)
  rw [lg_entry_eq]
  generalize (lg_sl ([.ref h0, .ref g1]) ++ List.replicate (4 - (lg_sl ([.ref h0, .ref g1])).length) Slot.unset).toArray = ls at hl ⊢
  have hl : lv_has ls 4 [(0, .ref h0), (1, .ref g1)] := hl
  refine lv_iconst (v := (-1)) hx hb dX2_houseStart_0 (by decide) ?_
  refine lv_istore_n (lv' := [(2, .int (-1)), (0, .ref h0), (1, .ref g1)]) hx hb dX2_houseStart_1 rfl hl (by decide) rfl (fun ls hl => ?_)
  refine lv_iconst (v := 0) hx hb dX2_houseStart_2 (by decide) ?_
  refine lv_istore_n (lv' := [(3, .int 0), (2, .int (-1)), (0, .ref h0), (1, .ref g1)]) hx hb dX2_houseStart_3 rfl hl (by decide) rfl (fun ls hl => ?_)
  refine W.widen (k := 0) (n := 0) (by omega) (by omega) ?_
  refine pl_loop (σ := Nat × Int32) A (dC, dI) cs ty L [] F 4 4 (fun (j, w2) => [(3, .int (nI j)), (2, .int w2), (0, .ref h0), (1, .ref g1)]) (fun (j, w2) => []) (fun (j, w2) _ => j ≤ 40) (fun (j, w2) => 40 - j) ?_ (0, (-1)) F (by omega) hO hR _ _ hP hD hS ls (lv_sub hl [0, 1, 2, 3] rfl)
  rintro ⟨j, w2⟩ F_1 hv_2 hO hR ih_3 H locs hP hD hS ls hl
  have hl : lv_has ls 4 [(3, .int (nI j)), (2, .int w2), (0, .ref h0), (1, .ref g1)] := hl
  have hv_2 : j ≤ 40 := hv_2
  refine W.eq (g2 := F0 m 4 ls []) rfl ?_
  refine lv_iload_n hx hb dX2_houseStart_4 rfl (lv_at hl 0 rfl) ?_
  refine lv_aload_n hx hb dX2_houseStart_5 rfl (lv_at hl 2 rfl) ?_
  obtain ⟨hi_4, ht_5⟩ := hW.dir hL_h0 hT_h0
  obtain ⟨z_6, hF_7, hq_8⟩ := hO.dir hL_h0 hT_h0
  refine pg_get (ci := 2) (v := .int (nI z_6)) (C := RX2) (T := TX2) (N := 2) hx hb hts it_2 hown hK hP hL_h0 hF_7 rfl 1 (by decide) (hts _ kt_83) (fun _ h9 => h9) rfl dX2_houseStart_6 ?_
  refine lv_icmp_ge (tgt := 64) hx hb dX2_houseStart_9 (by decide) (fun c_9 => ?_) (fun c_9 => ?_)
  ·
    have hi_10 : z_6 ≤ j := leN (N := z_6) c_9
    refine lv_iload_n hx hb dX2_houseStart_64 rfl (lv_at hl 1 rfl) ?_
    refine lv_aload_n hx hb dX2_houseStart_65 rfl (lv_at hl 3 rfl) ?_
    obtain ⟨hi_11, ht_12, hq_13⟩ := hW.bytes hL_g1 hT_g1
    obtain ⟨z_14, o_15, hF_16, hq_17, hq_18⟩ := hO.bytes hL_g1 hT_g1
    refine pg_getN (ci := 0) (v := .int (nI z_14)) (C := RX0) (T := TX0) (N := 3) hx hb hts it_0 hown hK hP hL_g1 hF_16 rfl 1 (by decide) (hE.nest kn_3) (fun _ h9 => h9) rfl dX2_houseStart_66 ?_
    refine lv_icmp_ne (tgt := 74) hx hb dX2_houseStart_69 (by decide) (fun c_19 => ?_) (fun c_19 => ?_)
    ·
      refine lv_iload_n hx hb dX2_houseStart_74 rfl (lv_at hl 1 rfl) ?_
      refine lv_if_ge (tgt := 92) hx hb dX2_houseStart_75 (by decide) (fun c_20 => ?_) (fun c_20 => ?_)
      ·
        refine lv_aload_n hx hb dX2_houseStart_92 rfl (lv_at hl 3 rfl) ?_
        refine pg_getN (ci := 0) (v := .int (nI z_14)) (C := RX0) (T := TX0) (N := 3) hx hb hts it_0 hown hK hP hL_g1 hF_16 rfl 1 (by decide) (hE.nest kn_3) (fun _ h9 => h9) rfl dX2_houseStart_93 ?_
        refine lv_iload_n hx hb dX2_houseStart_96 rfl (lv_at hl 1 rfl) ?_
        refine lv_isub hx hb dX2_houseStart_97 ?_
        refine lv_topi (fun x_21 _ => ?_)
        refine lv_iconst (v := 1) hx hb dX2_houseStart_98 (by decide) ?_
        refine lv_isub hx hb dX2_houseStart_99 ?_
        refine lv_topi (fun x_22 _ => ?_)
        refine lv_istore_n (lv' := [(3, .int x_22), (2, .int w2), (0, .ref h0), (1, .ref g1)]) hx hb dX2_houseStart_100 rfl hl (by decide) rfl (fun ls hl => ?_)
        refine lv_aload_n hx hb dX2_houseStart_101 rfl (lv_at hl 3 rfl) ?_
        refine lv_bipush (v := 46) hx hb dX2_houseStart_102 (by decide) ?_
        refine lv_iconst (v := 0) hx hb dX2_houseStart_104 (by decide) ?_
        refine lv_iload_n hx hb dX2_houseStart_105 rfl (lv_at hl 0 rfl) ?_
        have hFc := pg_free hD hS hA
        refine va_calli (va_runV (As := [.int 46, .int 0, .int x_22]) (rest := []) ⟨hx, hb, hml, hown, hts⟩ (s_X0_findLast l dC dI cs ty L H.size F_1 g1 σ r1 n1 46 0 x_22 hW hL_g1 hT_g1 (by decide)) ⟨callB_of 3 hts (gi kt_93) rfl rfl rfl (hts _ kt_1) (hts _ kt_94) (by decide +kernel) ⟨Nat.le_of_ble_eq_true rfl, Nat.le_of_ble_eq_true rfl⟩, (hts _ kt_95), (hts _ kt_96)⟩ ⟨fun a U g mk q => ⟨q.1, PT.calling q.2⟩, pg_recv hK hP hL_g1 hF_16 (q := (RX0, TX0, 3)) rfl, fun U hU hWm => ⟨rfl, PT.mk hU hWm hP hK hD hE hO⟩⟩ rfl rfl hl.1 rfl (lv_room (Nat.le_of_ble_eq_true rfl)) dX2_houseStart_106 ⟨by show _ + 0 ≤ 0; omega, by show _ + 0 ≤ 0; omega⟩) hS (fun q _ h => hFc q h) hFc (fun r_23 u t H1 locs ht hvm hw hB hz1 hk1 hS => ?_)
        obtain ⟨F_24, hB1⟩ := hB
        obtain ⟨hP, hD, hO, hR⟩ := QT.back hB1 ht hFc hR (fun q h => absurd h List.not_mem_nil)
        have hF_25 : F_24 h0 = .inr (2, [.ref ea, .int (nI z_6)]) := (hB1.2.2.2 h0 List.not_mem_nil).trans hF_7
        have hF_26 : F_24 g1 = .inr (0, [.ref r1, .int (nI z_14), .int o_15]) := (hB1.2.2.2 g1 List.not_mem_nil).trans hF_16
        generalize H1 = H at hP hS ⊢
        have hw : True := hw
        have hw_27 := hw
        refine lv_iconst (v := 1) hx hb dX2_houseStart_109 (by decide) ?_
        refine lv_iadd hx hb dX2_houseStart_110 ?_
        refine lv_topi (fun x_28 _ => ?_)
        refine W.widen (k := 0) (n := 0) (by omega) (by omega) ?_
        exact W.iret (v := x_28) hx hb hr (fun t ht hWm => ⟨⟨x_28, (), rfl, trivial, ⟨F_24, QT.mk ht hP hD hO hR⟩⟩, hS.F ht⟩) hS.2.2 dX2_houseStart_111
      ·
        refine lv_aload_n hx hb dX2_houseStart_78 rfl (lv_at hl 3 rfl) ?_
        refine lv_bipush (v := 46) hx hb dX2_houseStart_79 (by decide) ?_
        refine lv_iconst (v := 0) hx hb dX2_houseStart_81 (by decide) ?_
        refine lv_aload_n hx hb dX2_houseStart_82 rfl (lv_at hl 3 rfl) ?_
        refine pg_getN (ci := 0) (v := .int (nI z_14)) (C := RX0) (T := TX0) (N := 3) hx hb hts it_0 hown hK hP hL_g1 hF_16 rfl 1 (by decide) (hE.nest kn_3) (fun _ h9 => h9) rfl dX2_houseStart_83 ?_
        have hFc := pg_free hD hS hA
        refine va_calli (va_runV (As := [.int 46, .int 0, .int (nI z_14)]) (rest := []) ⟨hx, hb, hml, hown, hts⟩ (s_X0_findLast l dC dI cs ty L H.size F_1 g1 σ r1 n1 46 0 (nI z_14) hW hL_g1 hT_g1 (by decide)) ⟨callB_of 3 hts (gi kt_93) rfl rfl rfl (hts _ kt_1) (hts _ kt_94) (by decide +kernel) ⟨Nat.le_of_ble_eq_true rfl, Nat.le_of_ble_eq_true rfl⟩, (hts _ kt_95), (hts _ kt_96)⟩ ⟨fun a U g mk q => ⟨q.1, PT.calling q.2⟩, pg_recv hK hP hL_g1 hF_16 (q := (RX0, TX0, 3)) rfl, fun U hU hWm => ⟨rfl, PT.mk hU hWm hP hK hD hE hO⟩⟩ rfl rfl hl.1 rfl (lv_room (Nat.le_of_ble_eq_true rfl)) dX2_houseStart_86 ⟨by show _ + 0 ≤ 0; omega, by show _ + 0 ≤ 0; omega⟩) hS (fun q _ h => hFc q h) hFc (fun r_29 u t H1 locs ht hvm hw hB hz1 hk1 hS => ?_)
        obtain ⟨F_30, hB1⟩ := hB
        obtain ⟨hP, hD, hO, hR⟩ := QT.back hB1 ht hFc hR (fun q h => absurd h List.not_mem_nil)
        have hF_31 : F_30 h0 = .inr (2, [.ref ea, .int (nI z_6)]) := (hB1.2.2.2 h0 List.not_mem_nil).trans hF_7
        have hF_32 : F_30 g1 = .inr (0, [.ref r1, .int (nI z_14), .int o_15]) := (hB1.2.2.2 g1 List.not_mem_nil).trans hF_16
        generalize H1 = H at hP hS ⊢
        have hw : True := hw
        have hw_33 := hw
        refine lv_goto (tgt := 100) hx hb dX2_houseStart_89 (by decide) ?_
        refine lv_istore_n (lv' := [(3, .int r_29), (2, .int w2), (0, .ref h0), (1, .ref g1)]) hx hb dX2_houseStart_100 rfl hl (by decide) rfl (fun ls hl => ?_)
        refine lv_aload_n hx hb dX2_houseStart_101 rfl (lv_at hl 3 rfl) ?_
        refine lv_bipush (v := 46) hx hb dX2_houseStart_102 (by decide) ?_
        refine lv_iconst (v := 0) hx hb dX2_houseStart_104 (by decide) ?_
        refine lv_iload_n hx hb dX2_houseStart_105 rfl (lv_at hl 0 rfl) ?_
        have hFc := pg_free hD hS hA
        refine va_calli (va_runV (As := [.int 46, .int 0, .int r_29]) (rest := []) ⟨hx, hb, hml, hown, hts⟩ (s_X0_findLast l dC dI cs ty L H.size F_30 g1 σ r1 n1 46 0 r_29 hW hL_g1 hT_g1 (by decide)) ⟨callB_of 3 hts (gi kt_93) rfl rfl rfl (hts _ kt_1) (hts _ kt_94) (by decide +kernel) ⟨Nat.le_of_ble_eq_true rfl, Nat.le_of_ble_eq_true rfl⟩, (hts _ kt_95), (hts _ kt_96)⟩ ⟨fun a U g mk q => ⟨q.1, PT.calling q.2⟩, pg_recv hK hP hL_g1 hF_32 (q := (RX0, TX0, 3)) rfl, fun U hU hWm => ⟨rfl, PT.mk hU hWm hP hK hD hE hO⟩⟩ rfl rfl hl.1 rfl (lv_room (Nat.le_of_ble_eq_true rfl)) dX2_houseStart_106 ⟨by show _ + 0 ≤ 0; omega, by show _ + 0 ≤ 0; omega⟩) hS (fun q _ h => hFc q h) hFc (fun r_34 u t H1 locs ht hvm hw hB hz1 hk1 hS => ?_)
        obtain ⟨F_35, hB1⟩ := hB
        obtain ⟨hP, hD, hO, hR⟩ := QT.back hB1 ht hFc hR (fun q h => absurd h List.not_mem_nil)
        have hF_36 : F_35 h0 = .inr (2, [.ref ea, .int (nI z_6)]) := (hB1.2.2.2 h0 List.not_mem_nil).trans hF_31
        have hF_37 : F_35 g1 = .inr (0, [.ref r1, .int (nI z_14), .int o_15]) := (hB1.2.2.2 g1 List.not_mem_nil).trans hF_32
        generalize H1 = H at hP hS ⊢
        have hw : True := hw
        have hw_38 := hw
        refine lv_iconst (v := 1) hx hb dX2_houseStart_109 (by decide) ?_
        refine lv_iadd hx hb dX2_houseStart_110 ?_
        refine lv_topi (fun x_39 _ => ?_)
        refine W.widen (k := 0) (n := 0) (by omega) (by omega) ?_
        exact W.iret (v := x_39) hx hb hr (fun t ht hWm => ⟨⟨x_39, (), rfl, trivial, ⟨F_35, QT.mk ht hP hD hO hR⟩⟩, hS.F ht⟩) hS.2.2 dX2_houseStart_111
    ·
      refine lv_iconst (v := 0) hx hb dX2_houseStart_72 (by decide) ?_
      refine W.widen (k := 0) (n := 0) (by omega) (by omega) ?_
      exact W.iret (v := 0) hx hb hr (fun t ht hWm => ⟨⟨0, (), rfl, trivial, ⟨F_1, QT.mk ht hP hD hO hR⟩⟩, hS.F ht⟩) hS.2.2 dX2_houseStart_73
  ·
    have hi_40 : j < z_6 := ltN (N := z_6) c_9
    have hjz : j < z_6 := ltI (by omega) c_9
    refine lv_aload_n hx hb dX2_houseStart_12 rfl (lv_at hl 2 rfl) ?_
    refine pg_get (ci := 2) (v := .ref ea) (C := RX2) (T := TX2) (N := 2) hx hb hts it_2 hown hK hP hL_h0 hF_7 rfl 0 (by decide) (hts _ kt_84) (fun _ h9 => h9) rfl dX2_houseStart_13 ?_
    refine lv_iload_n hx hb dX2_houseStart_16 rfl (lv_at hl 0 rfl) ?_
    obtain ⟨f_41, hF_42, hq_43⟩ := hO.rentry hi_4 ht_5
    obtain ⟨b_44, x_45, y_46, hbf_47, hi_48, ht_49⟩ := hq_43 j (by omega)
    refine pg_aald (r := b_44) hx hb hK hP hi_4 5 hF_42 rfl (vp_in_nI (by omega) (by omega)) (show f_41 ((nI j) : Int32).toNatClampNeg = _ from by rw [show ((nI j) : Int32) = nI j from rfl, nI_clamp (by omega)]; exact hbf_47) dX2_houseStart_17 ?_
    obtain ⟨hi_50, hi_51, ⟨r_52, ht_53⟩, ⟨r_54, ht_55⟩⟩ := hW.entry hi_48 ht_49
    have ht_53 : ty x_45 = (0, ρ + j + j + j + 101, [r_52, 60]) := ht_53
    have ht_55 : ty y_46 = (0, ρ + j + j + j + 102, [r_54, 700]) := ht_55
    obtain ⟨v0_56, v1_57, hF_58⟩ := hO.entry hi_48 ht_49
    refine pg_getN (ci := 3) (v := .int v0_56) (C := RX3) (T := TX3) (N := 4) hx hb hts it_3 hown hK hP hi_48 hF_58 rfl 2 (by decide) (hE.nest kn_0) (fun _ h9 => h9) rfl dX2_houseStart_18 ?_
    refine lv_iconst (v := 4) hx hb dX2_houseStart_21 (by decide) ?_
    refine lv_icmp_ne (tgt := 58) hx hb dX2_houseStart_22 (by decide) (fun c_59 => ?_) (fun c_59 => ?_)
    ·
      refine lv_iinc (v := (nI (j + 1))) (lv' := [(3, .int (nI (j + 1))), (2, .int w2), (0, .ref h0), (1, .ref g1)]) hx hb dX2_houseStart_58 hl (k := 0) rfl (nI_1 _) (by decide) rfl (fun ls hl => ?_)
      refine lv_goto (tgt := 4) hx hb dX2_houseStart_61 (by decide) ?_
      refine W.widen (k := 0) (n := 0) (by omega) (by omega) ?_
      exact ih_3 ((j + 1), w2) F_1 (by first | omega | exact ⟨by omega, by omega⟩ | trivial) (by show 40 - (j + 1) < 40 - j; omega) hO hR _ _ hP hD hS ls (lv_sub hl [0, 1, 2, 3] rfl)
    ·
      refine lv_aload_n hx hb dX2_houseStart_25 rfl (lv_at hl 3 rfl) ?_
      refine lv_aload_n hx hb dX2_houseStart_26 rfl (lv_at hl 2 rfl) ?_
      refine pg_get (ci := 2) (v := .ref ea) (C := RX2) (T := TX2) (N := 2) hx hb hts it_2 hown hK hP hL_h0 hF_7 rfl 0 (by decide) (hts _ kt_84) (fun _ h9 => h9) rfl dX2_houseStart_27 ?_
      refine lv_iload_n hx hb dX2_houseStart_30 rfl (lv_at hl 0 rfl) ?_
      obtain ⟨b_60, x_61, y_62, hbf_63, hi_64, ht_65⟩ := hq_43 j (by omega)
      refine pg_aald (r := b_60) hx hb hK hP hi_4 5 hF_42 rfl (vp_in_nI (by omega) (by omega)) (show f_41 ((nI j) : Int32).toNatClampNeg = _ from by rw [show ((nI j) : Int32) = nI j from rfl, nI_clamp (by omega)]; exact hbf_63) dX2_houseStart_31 ?_
      obtain ⟨hi_66, hi_67, ⟨r_68, ht_69⟩, ⟨r_70, ht_71⟩⟩ := hW.entry hi_64 ht_65
      have ht_69 : ty x_61 = (0, ρ + j + j + j + 101, [r_68, 60]) := ht_69
      have ht_71 : ty y_62 = (0, ρ + j + j + j + 102, [r_70, 700]) := ht_71
      obtain ⟨v0_72, v1_73, hF_74⟩ := hO.entry hi_64 ht_65
      refine pg_getN (ci := 3) (v := .ref x_61) (C := RX3) (T := TX3) (N := 4) hx hb hts it_3 hown hK hP hi_64 hF_74 rfl 0 (by decide) (hE.nest kn_1) (fun _ h9 => h9) rfl dX2_houseStart_32 ?_
      have hFc := pg_free hD hS hA
      obtain ⟨hi_75, ht_76, hq_77⟩ := hW.bytes hL_g1 hT_g1
      obtain ⟨z_78, o_79, hF_80, hq_81, hq_82⟩ := hO.bytes hL_g1 hT_g1
      refine va_calli (va_runV (As := [.ref x_61]) (rest := []) ⟨hx, hb, hml, hown, hts⟩ (s_X0_isUnder l dC dI cs ty L H.size F_1 g1 σ r1 n1 x_61 (ρ + j + j + j + 101) r_68 60 hW hL_g1 hT_g1 hi_66 ht_69) ⟨callB_of 1 hts (gi kt_97) rfl rfl rfl (hts _ kt_1) (hts _ kt_98) (by decide +kernel) ⟨Nat.le_of_ble_eq_true rfl, Nat.le_of_ble_eq_true rfl⟩, (hts _ kt_99), (hts _ kt_100)⟩ ⟨fun a U g mk q => ⟨q.1, PT.calling q.2⟩, pg_recv hK hP hL_g1 hF_80 (q := (RX0, TX0, 3)) rfl, fun U hU hWm => ⟨rfl, PT.mk hU hWm hP hK hD hE hO⟩⟩ rfl rfl hl.1 rfl (lv_room (Nat.le_of_ble_eq_true rfl)) dX2_houseStart_35 ⟨by show _ + 0 ≤ 0; omega, by show _ + 0 ≤ 0; omega⟩) hS (fun q _ h => hFc q h) hFc (fun r_83 u t H1 locs ht hvm hw hB hz1 hk1 hS => ?_)
      obtain ⟨F_84, hB1⟩ := hB
      obtain ⟨hP, hD, hO, hR⟩ := QT.back hB1 ht hFc hR (fun q h => absurd h List.not_mem_nil)
      have hF_85 : F_84 h0 = .inr (2, [.ref ea, .int (nI z_6)]) := (hB1.2.2.2 h0 List.not_mem_nil).trans hF_7
      have hF_86 : F_84 ea = .inl (cs 21, 40, .inr (.inr (.inr (.inr f_41)))) := (hB1.2.2.2 ea List.not_mem_nil).trans hF_42
      have hF_87 : F_84 b_44 = .inr (3, [.ref x_45, .ref y_46, .int v0_56, .int v1_57]) := (hB1.2.2.2 b_44 List.not_mem_nil).trans hF_58
      have hF_88 : F_84 b_60 = .inr (3, [.ref x_61, .ref y_62, .int v0_72, .int v1_73]) := (hB1.2.2.2 b_60 List.not_mem_nil).trans hF_74
      have hF_89 : F_84 g1 = .inr (0, [.ref r1, .int (nI z_78), .int o_79]) := (hB1.2.2.2 g1 List.not_mem_nil).trans hF_80
      generalize H1 = H at hP hS ⊢
      have hw : (r_83 = 0 ∨ r_83 = 1) := hw
      have hw_90 := hw
      refine lv_if_eq (tgt := 58) hx hb dX2_houseStart_38 (by decide) (fun c_91 => ?_) (fun c_91 => ?_)
      ·
        refine lv_iinc (v := (nI (j + 1))) (lv' := [(3, .int (nI (j + 1))), (2, .int w2), (0, .ref h0), (1, .ref g1)]) hx hb dX2_houseStart_58 hl (k := 0) rfl (nI_1 _) (by decide) rfl (fun ls hl => ?_)
        refine lv_goto (tgt := 4) hx hb dX2_houseStart_61 (by decide) ?_
        refine W.widen (k := 0) (n := 0) (by omega) (by omega) ?_
        exact ih_3 ((j + 1), w2) F_84 (by first | omega | exact ⟨by omega, by omega⟩ | trivial) (by show 40 - (j + 1) < 40 - j; omega) hO hR _ _ hP hD hS ls (lv_sub hl [0, 1, 2, 3] rfl)
      ·
        refine lv_iload_n hx hb dX2_houseStart_41 rfl (lv_at hl 1 rfl) ?_
        refine lv_aload_n hx hb dX2_houseStart_42 rfl (lv_at hl 2 rfl) ?_
        refine pg_get (ci := 2) (v := .ref ea) (C := RX2) (T := TX2) (N := 2) hx hb hts it_2 hown hK hP hL_h0 hF_85 rfl 0 (by decide) (hts _ kt_84) (fun _ h9 => h9) rfl dX2_houseStart_43 ?_
        refine lv_iload_n hx hb dX2_houseStart_46 rfl (lv_at hl 0 rfl) ?_
        obtain ⟨b_92, x_93, y_94, hbf_95, hi_96, ht_97⟩ := hq_43 j (by omega)
        refine pg_aald (r := b_92) hx hb hK hP hi_4 5 hF_86 rfl (vp_in_nI (by omega) (by omega)) (show f_41 ((nI j) : Int32).toNatClampNeg = _ from by rw [show ((nI j) : Int32) = nI j from rfl, nI_clamp (by omega)]; exact hbf_95) dX2_houseStart_47 ?_
        obtain ⟨hi_98, hi_99, ⟨r_100, ht_101⟩, ⟨r_102, ht_103⟩⟩ := hW.entry hi_96 ht_97
        have ht_101 : ty x_93 = (0, ρ + j + j + j + 101, [r_100, 60]) := ht_101
        have ht_103 : ty y_94 = (0, ρ + j + j + j + 102, [r_102, 700]) := ht_103
        obtain ⟨v0_104, v1_105, hF_106⟩ := hO.entry hi_96 ht_97
        refine pg_getN (ci := 3) (v := .ref x_93) (C := RX3) (T := TX3) (N := 4) hx hb hts it_3 hown hK hP hi_96 hF_106 rfl 0 (by decide) (hE.nest kn_1) (fun _ h9 => h9) rfl dX2_houseStart_48 ?_
        obtain ⟨hi_107, ht_108, hq_109⟩ := hW.bytes hi_98 ht_101
        obtain ⟨z_110, o_111, hF_112, hq_113, hq_114⟩ := hO.bytes hi_98 ht_101
        refine pg_getN (ci := 0) (v := .int (nI z_110)) (C := RX0) (T := TX0) (N := 3) hx hb hts it_0 hown hK hP hi_98 hF_112 rfl 1 (by decide) (hE.nest kn_3) (fun _ h9 => h9) rfl dX2_houseStart_51 ?_
        refine va_mmax hx hb (by rw [hml]; exact hl.1.symm) hown (hts _ kt_101) (hts _ kt_18) (hts _ kt_19) (hts _ kt_20) (Nat.le_of_ble_eq_true rfl) (Nat.le_of_ble_eq_true rfl) (by show _ ≤ 0; omega) (by show _ ≤ 0; omega) dX2_houseStart_54 ?_
        refine lv_topi (fun x_115 _ => ?_)
        refine lv_istore_n (lv' := [(2, .int x_115), (3, .int (nI j)), (0, .ref h0), (1, .ref g1)]) hx hb dX2_houseStart_57 rfl hl (by decide) rfl (fun ls hl => ?_)
        refine lv_iinc (v := (nI (j + 1))) (lv' := [(3, .int (nI (j + 1))), (2, .int x_115), (0, .ref h0), (1, .ref g1)]) hx hb dX2_houseStart_58 hl (k := 1) rfl (nI_1 _) (by decide) rfl (fun ls hl => ?_)
        refine lv_goto (tgt := 4) hx hb dX2_houseStart_61 (by decide) ?_
        refine W.widen (k := 0) (n := 0) (by omega) (by omega) ?_
        exact ih_3 ((j + 1), x_115) F_84 (by first | omega | exact ⟨by omega, by omega⟩ | trivial) (by show 40 - (j + 1) < 40 - j; omega) hO hR _ _ hP hD hS ls (lv_sub hl [0, 1, 2, 3] rfl)
set_option maxHeartbeats 4000000 in
set_option maxRecDepth 100000 in
theorem s_X2_isSameHouse (l : Launch) (dC : Nat → ClassId) (dI : Nat → Nat → Nat) (cs : Nat → ClassId) (ty : TyM) (L : List Nat) (sz : Nat) (F : Nat → va_E) (h0 : Nat) (ρ : Nat) (ea : Nat) (g1 : Nat) (σ : Nat) (r1 : Nat) (n1 : Nat) (g2 : Nat) (τ : Nat) (r2 : Nat) (n2 : Nat) (hW : WT ty L) (hL_h0 : h0 ∈ L) (hT_h0 : ty h0 = (2, ρ, [ea])) (hL_g1 : g1 ∈ L) (hT_g1 : ty g1 = (0, σ, [r1, n1])) (hL_g2 : g2 ∈ L) (hT_g2 : ty g2 = (0, τ, [r2, n2])) : Met l yX2_isSameHouse (.code yX2_isSameHouse cX2_isSameHouse 4 (some .boolean) :: tb) ({ frames := 3, cells := 0, slots := 0, locals := 68 }) (va_Pc [.ref h0, .ref g1, .ref g2] (PT (dC, dI) cs ty L F sz)) (va_Qi (fun (r : Int32) (_ : Unit) => (r = 0 ∨ r = 1)) (fun _ T9 => ∃ F2 : Nat → va_E, QT (dC, dI) cs ty L [] F F2 (va_A (va_pl L F) sz) T9) (va_A (va_pl L F) sz)) 0 0 (va_A (va_pl L F) sz) := by
  refine Met.ofW (cc := cX2_isSameHouse) (maxL := 4) (ret := (some .boolean)) (by decide) rfl ?_
  intro p e s m args below meth c s₁ B hml hv
  obtain ⟨rfl, hsz, hP, hK, hD0, hE, hO⟩ := hv
  have hx := B.exec
  have hb := B.bytes
  have hr := B.returns
  have hts : ∀ w ∈ tb, w.before _ s = true := fun w h => atoms_spec (ws := .code yX2_isSameHouse cX2_isSameHouse 4 (some .boolean) :: tb) B.pre w (List.mem_cons_of_mem _ h)
  have hown : s.vm.findClass RX2 = some m.cls := findClass_of_methodNamed B.named
  have hlocks := B.notSynchronized
  subst hsz
  have hD := hD0.self (sz := s.heap.size)
  generalize hAe : va_A (va_pl L F) s.heap.size = A at hD ⊢
  have hA : ∀ q : Nat, s.heap.size ≤ q → A q := fun q h => by rw [← hAe]; exact Or.inr h
  have hS : va_S A s.heap s.heap [] := va_S.rf
  have hR : FR ty [] F F := FR.refl
  have hl := lv_entry ([.ref h0, .ref g1, .ref g2]) (n := 4) (Nat.le_of_ble_eq_true rfl)
  rw [lg_entry_eq]
  generalize (lg_sl ([.ref h0, .ref g1, .ref g2]) ++ List.replicate (4 - (lg_sl ([.ref h0, .ref g1, .ref g2])).length) Slot.unset).toArray = ls at hl ⊢
  have hl : lv_has ls 4 [(0, .ref h0), (1, .ref g1), (2, .ref g2)] := hl
  refine lv_aload_n hx hb dX2_isSameHouse_0 rfl (lv_at hl 1 rfl) ?_
  obtain ⟨hi_1, ht_2, hq_3⟩ := hW.bytes hL_g1 hT_g1
  obtain ⟨z_4, o_5, hF_6, hq_7, hq_8⟩ := hO.bytes hL_g1 hT_g1
  refine pg_getN (ci := 0) (v := .int (nI z_4)) (C := RX0) (T := TX0) (N := 3) hx hb hts it_0 hown hK hP hL_g1 hF_6 rfl 1 (by decide) (hE.nest kn_3) (fun _ h9 => h9) rfl dX2_isSameHouse_1 ?_
  refine lv_aload_n hx hb dX2_isSameHouse_4 rfl (lv_at hl 0 rfl) ?_
  refine lv_aload_n hx hb dX2_isSameHouse_5 rfl (lv_at hl 1 rfl) ?_
  have hFc := pg_free hD hS hA
  obtain ⟨hi_9, ht_10⟩ := hW.dir hL_h0 hT_h0
  obtain ⟨z_11, hF_12, hq_13⟩ := hO.dir hL_h0 hT_h0
  refine va_calli (va_runV (As := [.ref g1]) (rest := [.int (nI z_4)]) ⟨hx, hb, hml, hown, hts⟩ (s_X2_houseStart l dC dI cs ty L s.heap.size F h0 ρ ea g1 σ r1 n1 hW hL_h0 hT_h0 hL_g1 hT_g1) ⟨callB_of 1 hts (gi kt_102) rfl rfl rfl (hts _ kt_103) (hts _ kt_104) (by decide +kernel) ⟨Nat.le_of_ble_eq_true rfl, Nat.le_of_ble_eq_true rfl⟩, (hts _ kt_105), (hts _ kt_106)⟩ ⟨fun a U g mk q => ⟨q.1, PT.calling q.2⟩, pg_recv hK hP hL_h0 hF_12 (q := (RX2, TX2, 2)) rfl, fun U hU hWm => ⟨rfl, PT.mk hU hWm hP hK hD hE hO⟩⟩ rfl rfl hl.1 rfl (lv_room (Nat.le_of_ble_eq_true rfl)) dX2_isSameHouse_6 ⟨by show _ + 0 ≤ 0; omega, by show _ + 0 ≤ 0; omega⟩) hS (fun q _ h => hFc q h) hFc (fun r_14 u t H1 locs ht hvm hw hB hz1 hk1 hS => ?_)
  obtain ⟨F_15, hB1⟩ := hB
  obtain ⟨hP, hD, hO, hR⟩ := QT.back hB1 ht hFc hR (fun q h => absurd h List.not_mem_nil)
  have hF_16 : F_15 g1 = .inr (0, [.ref r1, .int (nI z_4), .int o_5]) := (hB1.2.2.2 g1 List.not_mem_nil).trans hF_6
  have hF_17 : F_15 h0 = .inr (2, [.ref ea, .int (nI z_11)]) := (hB1.2.2.2 h0 List.not_mem_nil).trans hF_12
  generalize H1 = H at hP hS ⊢
  have hw : True := hw
  have hw_18 := hw
  refine lv_isub hx hb dX2_isSameHouse_9 ?_
  refine lv_topi (fun x_19 _ => ?_)
  refine lv_istore_n (lv' := [(3, .int x_19), (0, .ref h0), (1, .ref g1), (2, .ref g2)]) hx hb dX2_isSameHouse_10 rfl hl (by decide) rfl (fun ls hl => ?_)
  refine lv_iload_n hx hb dX2_isSameHouse_11 rfl (lv_at hl 0 rfl) ?_
  refine lv_aload_n hx hb dX2_isSameHouse_12 rfl (lv_at hl 3 rfl) ?_
  obtain ⟨hi_20, ht_21, hq_22⟩ := hW.bytes hL_g2 hT_g2
  obtain ⟨z_23, o_24, hF_25, hq_26, hq_27⟩ := hO.bytes hL_g2 hT_g2
  refine pg_getN (ci := 0) (v := .int (nI z_23)) (C := RX0) (T := TX0) (N := 3) hx hb hts it_0 hown hK hP hL_g2 hF_25 rfl 1 (by decide) (hE.nest kn_3) (fun _ h9 => h9) rfl dX2_isSameHouse_13 ?_
  refine lv_aload_n hx hb dX2_isSameHouse_16 rfl (lv_at hl 1 rfl) ?_
  refine lv_aload_n hx hb dX2_isSameHouse_17 rfl (lv_at hl 3 rfl) ?_
  have hFc := pg_free hD hS hA
  refine va_calli (va_runV (As := [.ref g2]) (rest := [.int (nI z_23), .int x_19]) ⟨hx, hb, hml, hown, hts⟩ (s_X2_houseStart l dC dI cs ty L H.size F_15 h0 ρ ea g2 τ r2 n2 hW hL_h0 hT_h0 hL_g2 hT_g2) ⟨callB_of 1 hts (gi kt_102) rfl rfl rfl (hts _ kt_103) (hts _ kt_104) (by decide +kernel) ⟨Nat.le_of_ble_eq_true rfl, Nat.le_of_ble_eq_true rfl⟩, (hts _ kt_105), (hts _ kt_106)⟩ ⟨fun a U g mk q => ⟨q.1, PT.calling q.2⟩, pg_recv hK hP hL_h0 hF_17 (q := (RX2, TX2, 2)) rfl, fun U hU hWm => ⟨rfl, PT.mk hU hWm hP hK hD hE hO⟩⟩ rfl rfl hl.1 rfl (lv_room (Nat.le_of_ble_eq_true rfl)) dX2_isSameHouse_18 ⟨by show _ + 0 ≤ 0; omega, by show _ + 0 ≤ 0; omega⟩) hS (fun q _ h => hFc q h) hFc (fun r_28 u t H1 locs ht hvm hw hB hz1 hk1 hS => ?_)
  obtain ⟨F_29, hB1⟩ := hB
  obtain ⟨hP, hD, hO, hR⟩ := QT.back hB1 ht hFc hR (fun q h => absurd h List.not_mem_nil)
  have hF_30 : F_29 g1 = .inr (0, [.ref r1, .int (nI z_4), .int o_5]) := (hB1.2.2.2 g1 List.not_mem_nil).trans hF_16
  have hF_31 : F_29 h0 = .inr (2, [.ref ea, .int (nI z_11)]) := (hB1.2.2.2 h0 List.not_mem_nil).trans hF_17
  have hF_32 : F_29 g2 = .inr (0, [.ref r2, .int (nI z_23), .int o_24]) := (hB1.2.2.2 g2 List.not_mem_nil).trans hF_25
  generalize H1 = H at hP hS ⊢
  have hw : True := hw
  have hw_33 := hw
  refine lv_isub hx hb dX2_isSameHouse_21 ?_
  refine lv_topi (fun x_34 _ => ?_)
  refine lv_icmp_ne (tgt := 38) hx hb dX2_isSameHouse_22 (by decide) (fun c_35 => ?_) (fun c_35 => ?_)
  ·
    refine lv_iconst (v := 0) hx hb dX2_isSameHouse_38 (by decide) ?_
    refine W.widen (k := 0) (n := 0) (by omega) (by omega) ?_
    exact W.zret (v := 0) (ty := .boolean) hx hb hr (by decide) (fun t ht hWm => ⟨⟨0, (), rfl, (by first | exact Or.inl rfl | exact Or.inr rfl), ⟨F_29, QT.mk ht hP hD hO hR⟩⟩, hS.F ht⟩) hS.2.2 dX2_isSameHouse_39
  ·
    refine lv_aload_n hx hb dX2_isSameHouse_25 rfl (lv_at hl 2 rfl) ?_
    refine lv_aload_n hx hb dX2_isSameHouse_26 rfl (lv_at hl 3 rfl) ?_
    refine lv_iload_n hx hb dX2_isSameHouse_27 rfl (lv_at hl 0 rfl) ?_
    have hFc := pg_free hD hS hA
    refine va_calli (va_runV (As := [.ref g2, .int x_19]) (rest := []) ⟨hx, hb, hml, hown, hts⟩ (s_X0_endsLike l dC dI cs ty L H.size F_29 g1 σ r1 n1 g2 τ r2 n2 x_19 hW hL_g1 hT_g1 hL_g2 hT_g2) ⟨callB_of 2 hts (gi kt_40) rfl rfl rfl (hts _ kt_1) (hts _ kt_107) (by decide +kernel) ⟨Nat.le_of_ble_eq_true rfl, Nat.le_of_ble_eq_true rfl⟩, (hts _ kt_42), (hts _ kt_43)⟩ ⟨fun a U g mk q => ⟨q.1, PT.calling q.2⟩, pg_recv hK hP hL_g1 hF_30 (q := (RX0, TX0, 3)) rfl, fun U hU hWm => ⟨rfl, PT.mk hU hWm hP hK hD hE hO⟩⟩ rfl rfl hl.1 rfl (lv_room (Nat.le_of_ble_eq_true rfl)) dX2_isSameHouse_28 ⟨by show _ + 0 ≤ 0; omega, by show _ + 0 ≤ 0; omega⟩) hS (fun q _ h => hFc q h) hFc (fun r_36 u t H1 locs ht hvm hw hB hz1 hk1 hS => ?_)
    obtain ⟨F_37, hB1⟩ := hB
    obtain ⟨hP, hD, hO, hR⟩ := QT.back hB1 ht hFc hR (fun q h => absurd h List.not_mem_nil)
    have hF_38 : F_37 g1 = .inr (0, [.ref r1, .int (nI z_4), .int o_5]) := (hB1.2.2.2 g1 List.not_mem_nil).trans hF_30
    have hF_39 : F_37 h0 = .inr (2, [.ref ea, .int (nI z_11)]) := (hB1.2.2.2 h0 List.not_mem_nil).trans hF_31
    have hF_40 : F_37 g2 = .inr (0, [.ref r2, .int (nI z_23), .int o_24]) := (hB1.2.2.2 g2 List.not_mem_nil).trans hF_32
    generalize H1 = H at hP hS ⊢
    have hw : (r_36 = 0 ∨ r_36 = 1) := hw
    have hw_41 := hw
    refine lv_if_eq (tgt := 38) hx hb dX2_isSameHouse_31 (by decide) (fun c_42 => ?_) (fun c_42 => ?_)
    ·
      refine lv_iconst (v := 0) hx hb dX2_isSameHouse_38 (by decide) ?_
      refine W.widen (k := 0) (n := 0) (by omega) (by omega) ?_
      exact W.zret (v := 0) (ty := .boolean) hx hb hr (by decide) (fun t ht hWm => ⟨⟨0, (), rfl, (by first | exact Or.inl rfl | exact Or.inr rfl), ⟨F_37, QT.mk ht hP hD hO hR⟩⟩, hS.F ht⟩) hS.2.2 dX2_isSameHouse_39
    ·
      refine lv_iconst (v := 1) hx hb dX2_isSameHouse_34 (by decide) ?_
      refine lv_goto (tgt := 39) hx hb dX2_isSameHouse_35 (by decide) ?_
      refine W.widen (k := 0) (n := 0) (by omega) (by omega) ?_
      exact W.zret (v := 1) (ty := .boolean) hx hb hr (by decide) (fun t ht hWm => ⟨⟨1, (), rfl, (by first | exact Or.inl rfl | exact Or.inr rfl), ⟨F_37, QT.mk ht hP hD hO hR⟩⟩, hS.F ht⟩) hS.2.2 dX2_isSameHouse_39
set_option maxHeartbeats 4000000 in
set_option maxRecDepth 100000 in
theorem s_X2_isValue (l : Launch) (dC : Nat → ClassId) (dI : Nat → Nat → Nat) (cs : Nat → ClassId) (ty : TyM) (L : List Nat) (sz : Nat) (F : Nat → va_E) (g1 : Nat) (σ : Nat) (r1 : Nat) (n1 : Nat) (x1 : Int32) (x3 : Int32) (hW : WT ty L) (hL_g1 : g1 ∈ L) (hT_g1 : ty g1 = (0, σ, [r1, n1])) : Met l yX2_isValue (.code yX2_isValue cX2_isValue 3 (some .boolean) :: tb) ({ frames := 2, cells := 0, slots := 0, locals := 47 }) (va_Pc [.int x1, .ref g1, .int x3] (PT (dC, dI) cs ty L F sz)) (va_Qi (fun (r : Int32) (_ : Unit) => (r = 0 ∨ r = 1)) (fun _ T9 => ∃ F2 : Nat → va_E, QT (dC, dI) cs ty L [] F F2 (va_A (va_pl L F) sz) T9) (va_A (va_pl L F) sz)) 0 0 (va_A (va_pl L F) sz) := by
  refine Met.ofW (cc := cX2_isValue) (maxL := 3) (ret := (some .boolean)) (by decide) rfl ?_
  intro p e s m args below meth c s₁ B hml hv
  obtain ⟨rfl, hsz, hP, hK, hD0, hE, hO⟩ := hv
  have hx := B.exec
  have hb := B.bytes
  have hr := B.returns
  have hts : ∀ w ∈ tb, w.before _ s = true := fun w h => atoms_spec (ws := .code yX2_isValue cX2_isValue 3 (some .boolean) :: tb) B.pre w (List.mem_cons_of_mem _ h)
  have hown : s.vm.findClass RX2 = some m.cls := findClass_of_methodNamed B.named
  have hlocks := B.notSynchronized
  subst hsz
  have hD := hD0.self (sz := s.heap.size)
  generalize hAe : va_A (va_pl L F) s.heap.size = A at hD ⊢
  have hA : ∀ q : Nat, s.heap.size ≤ q → A q := fun q h => by rw [← hAe]; exact Or.inr h
  have hS : va_S A s.heap s.heap [] := va_S.rf
  have hR : FR ty [] F F := FR.refl
  have hl := lv_entry ([.int x1, .ref g1, .int x3]) (n := 3) (Nat.le_of_ble_eq_true rfl)
  rw [lg_entry_eq]
  generalize (lg_sl ([.int x1, .ref g1, .int x3]) ++ List.replicate (3 - (lg_sl ([.int x1, .ref g1, .int x3])).length) Slot.unset).toArray = ls at hl ⊢
  have hl : lv_has ls 3 [(0, .int x1), (1, .ref g1), (2, .int x3)] := hl
  refine lv_iload_n hx hb dX2_isValue_0 rfl (lv_at hl 2 rfl) ?_
  refine lv_aload_n hx hb dX2_isValue_1 rfl (lv_at hl 1 rfl) ?_
  obtain ⟨hi_1, ht_2, hq_3⟩ := hW.bytes hL_g1 hT_g1
  obtain ⟨z_4, o_5, hF_6, hq_7, hq_8⟩ := hO.bytes hL_g1 hT_g1
  refine pg_getN (ci := 0) (v := .int (nI z_4)) (C := RX0) (T := TX0) (N := 3) hx hb hts it_0 hown hK hP hL_g1 hF_6 rfl 1 (by decide) (hE.nest kn_3) (fun _ h9 => h9) rfl dX2_isValue_2 ?_
  refine lv_icmp_ne (tgt := 10) hx hb dX2_isValue_5 (by decide) (fun c_9 => ?_) (fun c_9 => ?_)
  ·
    refine lv_iload_n hx hb dX2_isValue_10 rfl (lv_at hl 0 rfl) ?_
    refine lv_iconst (v := 2) hx hb dX2_isValue_11 (by decide) ?_
    refine lv_icmp_ne (tgt := 29) hx hb dX2_isValue_12 (by decide) (fun c_10 => ?_) (fun c_10 => ?_)
    ·
      refine lv_aload_n hx hb dX2_isValue_29 rfl (lv_at hl 1 rfl) ?_
      refine pg_getN (ci := 0) (v := .int (nI z_4)) (C := RX0) (T := TX0) (N := 3) hx hb hts it_0 hown hK hP hL_g1 hF_6 rfl 1 (by decide) (hE.nest kn_3) (fun _ h9 => h9) rfl dX2_isValue_30 ?_
      refine lv_iload_n hx hb dX2_isValue_33 rfl (lv_at hl 2 rfl) ?_
      refine lv_isub hx hb dX2_isValue_34 ?_
      refine lv_topi (fun x_11 _ => ?_)
      refine lv_iconst (v := 1) hx hb dX2_isValue_35 (by decide) ?_
      refine lv_isub hx hb dX2_isValue_36 ?_
      refine lv_topi (fun x_12 _ => ?_)
      refine lv_sipush (v := 700) hx hb dX2_isValue_37 (by decide) ?_
      refine lv_icmp_gt (tgt := 47) hx hb dX2_isValue_40 (by decide) (fun c_13 => ?_) (fun c_13 => ?_)
      ·
        refine lv_iconst (v := 0) hx hb dX2_isValue_47 (by decide) ?_
        refine W.widen (k := 0) (n := 0) (by omega) (by omega) ?_
        exact W.zret (v := 0) (ty := .boolean) hx hb hr (by decide) (fun t ht hWm => ⟨⟨0, (), rfl, (by first | exact Or.inl rfl | exact Or.inr rfl), ⟨F, QT.mk ht hP hD hO hR⟩⟩, hS.F ht⟩) hS.2.2 dX2_isValue_48
      ·
        refine lv_iconst (v := 1) hx hb dX2_isValue_43 (by decide) ?_
        refine lv_goto (tgt := 48) hx hb dX2_isValue_44 (by decide) ?_
        refine W.widen (k := 0) (n := 0) (by omega) (by omega) ?_
        exact W.zret (v := 1) (ty := .boolean) hx hb hr (by decide) (fun t ht hWm => ⟨⟨1, (), rfl, (by first | exact Or.inl rfl | exact Or.inr rfl), ⟨F, QT.mk ht hP hD hO hR⟩⟩, hS.F ht⟩) hS.2.2 dX2_isValue_48
    ·
      refine lv_aload_n hx hb dX2_isValue_15 rfl (lv_at hl 1 rfl) ?_
      refine lv_iload_n hx hb dX2_isValue_16 rfl (lv_at hl 2 rfl) ?_
      refine lv_iconst (v := 1) hx hb dX2_isValue_17 (by decide) ?_
      refine lv_iadd hx hb dX2_isValue_18 ?_
      refine lv_topi (fun x_14 _ => ?_)
      refine lv_aload_n hx hb dX2_isValue_19 rfl (lv_at hl 1 rfl) ?_
      refine pg_getN (ci := 0) (v := .int (nI z_4)) (C := RX0) (T := TX0) (N := 3) hx hb hts it_0 hown hK hP hL_g1 hF_6 rfl 1 (by decide) (hE.nest kn_3) (fun _ h9 => h9) rfl dX2_isValue_20 ?_
      have hFc := pg_free hD hS hA
      refine va_calli (va_runV (As := [.int x_14, .int (nI z_4)]) (rest := []) ⟨hx, hb, hml, hown, hts⟩ (s_X0_isName l dC dI cs ty L s.heap.size F g1 σ r1 n1 x_14 (nI z_4) hW hL_g1 hT_g1) ⟨callB_of 2 hts (gi kt_108) rfl rfl rfl (hts _ kt_1) (hts _ kt_109) (by decide +kernel) ⟨Nat.le_of_ble_eq_true rfl, Nat.le_of_ble_eq_true rfl⟩, (hts _ kt_110), (hts _ kt_111)⟩ ⟨fun a U g mk q => ⟨q.1, PT.calling q.2⟩, pg_recv hK hP hL_g1 hF_6 (q := (RX0, TX0, 3)) rfl, fun U hU hWm => ⟨rfl, PT.mk hU hWm hP hK hD hE hO⟩⟩ rfl rfl hl.1 rfl (lv_room (Nat.le_of_ble_eq_true rfl)) dX2_isValue_23 ⟨by show _ + 0 ≤ 0; omega, by show _ + 0 ≤ 0; omega⟩) hS (fun q _ h => hFc q h) hFc (fun r_15 u t H1 locs ht hvm hw hB hz1 hk1 hS => ?_)
      obtain ⟨F_16, hB1⟩ := hB
      obtain ⟨hP, hD, hO, hR⟩ := QT.back hB1 ht hFc hR (fun q h => absurd h List.not_mem_nil)
      have hF_17 : F_16 g1 = .inr (0, [.ref r1, .int (nI z_4), .int o_5]) := (hB1.2.2.2 g1 List.not_mem_nil).trans hF_6
      generalize H1 = H at hP hS ⊢
      have hw : (r_15 = 0 ∨ r_15 = 1) := hw
      have hw_18 := hw
      refine lv_goto (tgt := 48) hx hb dX2_isValue_26 (by decide) ?_
      refine W.widen (k := 0) (n := 0) (by omega) (by omega) ?_
      exact W.zret (v := r_15) (ty := .boolean) hx hb hr (bitN hw_18) (fun t ht hWm => ⟨⟨r_15, (), rfl, hw_18, ⟨F_16, QT.mk ht hP hD hO hR⟩⟩, hS.F ht⟩) hS.2.2 dX2_isValue_48
  ·
    refine lv_iconst (v := 0) hx hb dX2_isValue_8 (by decide) ?_
    refine W.widen (k := 0) (n := 0) (by omega) (by omega) ?_
    exact W.zret (v := 0) (ty := .boolean) hx hb hr (by decide) (fun t ht hWm => ⟨⟨0, (), rfl, (by first | exact Or.inl rfl | exact Or.inr rfl), ⟨F, QT.mk ht hP hD hO hR⟩⟩, hS.F ht⟩) hS.2.2 dX2_isValue_9
