theorem dX14_add_0 : decode cX14_add 0 = .ok (.aload_n 0, 1) := by decide +kernel
theorem dX14_add_1 : decode cX14_add 1 = .ok (.getfield 9, 3) := by decide +kernel
theorem dX14_add_4 : decode cX14_add 4 = .ok (.aload_n 0, 1) := by decide +kernel
theorem dX14_add_5 : decode cX14_add 5 = .ok (.getfield 15, 3) := by decide +kernel
theorem dX14_add_8 : decode cX14_add 8 = .ok (.iload_n 1, 1) := by decide +kernel
theorem dX14_add_9 : decode cX14_add 9 = .ok (.i2b, 1) := by decide +kernel
theorem dX14_add_10 : decode cX14_add 10 = .ok (.bastore, 1) := by decide +kernel
theorem dX14_add_11 : decode cX14_add 11 = .ok (.aload_n 0, 1) := by decide +kernel
theorem dX14_add_12 : decode cX14_add 12 = .ok (.dup, 1) := by decide +kernel
theorem dX14_add_13 : decode cX14_add 13 = .ok (.getfield 15, 3) := by decide +kernel
theorem dX14_add_16 : decode cX14_add 16 = .ok (.iconst 1, 1) := by decide +kernel
theorem dX14_add_17 : decode cX14_add 17 = .ok (.iadd, 1) := by decide +kernel
theorem dX14_add_18 : decode cX14_add 18 = .ok (.putfield 15, 3) := by decide +kernel
theorem dX14_add_21 : decode cX14_add 21 = .ok (.return_, 1) := by decide +kernel
theorem dX14_add__0 : decode cX14_add_ 0 = .ok (.aload_n 1, 1) := by decide +kernel
theorem dX14_add__1 : decode cX14_add_ 1 = .ok (.iload_n 2, 1) := by decide +kernel
theorem dX14_add__2 : decode cX14_add_ 2 = .ok (.aload_n 0, 1) := by decide +kernel
theorem dX14_add__3 : decode cX14_add_ 3 = .ok (.getfield 9, 3) := by decide +kernel
theorem dX14_add__6 : decode cX14_add_ 6 = .ok (.aload_n 0, 1) := by decide +kernel
theorem dX14_add__7 : decode cX14_add_ 7 = .ok (.getfield 15, 3) := by decide +kernel
theorem dX14_add__10 : decode cX14_add_ 10 = .ok (.iload_n 3, 1) := by decide +kernel
theorem dX14_add__11 : decode cX14_add_ 11 = .ok (.iload_n 2, 1) := by decide +kernel
theorem dX14_add__12 : decode cX14_add_ 12 = .ok (.isub, 1) := by decide +kernel
theorem dX14_add__13 : decode cX14_add_ 13 = .ok (.invokestatic 19, 3) := by decide +kernel
theorem dX14_add__16 : decode cX14_add_ 16 = .ok (.aload_n 0, 1) := by decide +kernel
theorem dX14_add__17 : decode cX14_add_ 17 = .ok (.dup, 1) := by decide +kernel
theorem dX14_add__18 : decode cX14_add_ 18 = .ok (.getfield 15, 3) := by decide +kernel
theorem dX14_add__21 : decode cX14_add_ 21 = .ok (.iload_n 3, 1) := by decide +kernel
theorem dX14_add__22 : decode cX14_add_ 22 = .ok (.iload_n 2, 1) := by decide +kernel
theorem dX14_add__23 : decode cX14_add_ 23 = .ok (.isub, 1) := by decide +kernel
theorem dX14_add__24 : decode cX14_add_ 24 = .ok (.iadd, 1) := by decide +kernel
theorem dX14_add__25 : decode cX14_add_ 25 = .ok (.putfield 15, 3) := by decide +kernel
theorem dX14_add__28 : decode cX14_add_ 28 = .ok (.return_, 1) := by decide +kernel
theorem dX14_is_0 : decode cX14_is 0 = .ok (.iload_n 3, 1) := by decide +kernel
theorem dX14_is_1 : decode cX14_is 1 = .ok (.iload_n 2, 1) := by decide +kernel
theorem dX14_is_2 : decode cX14_is 2 = .ok (.isub, 1) := by decide +kernel
theorem dX14_is_3 : decode cX14_is 3 = .ok (.aload_n 0, 1) := by decide +kernel
theorem dX14_is_4 : decode cX14_is 4 = .ok (.getfield 15, 3) := by decide +kernel
theorem dX14_is_7 : decode cX14_is 7 = .ok (.if_icmp .eq 5, 3) := by decide +kernel
theorem dX14_is_10 : decode cX14_is 10 = .ok (.iconst 0, 1) := by decide +kernel
theorem dX14_is_11 : decode cX14_is 11 = .ok (.ireturn, 1) := by decide +kernel
theorem dX14_is_12 : decode cX14_is 12 = .ok (.iconst 0, 1) := by decide +kernel
theorem dX14_is_13 : decode cX14_is 13 = .ok (.istore 4, 2) := by decide +kernel
theorem dX14_is_15 : decode cX14_is 15 = .ok (.iload 4, 2) := by decide +kernel
theorem dX14_is_17 : decode cX14_is 17 = .ok (.aload_n 0, 1) := by decide +kernel
theorem dX14_is_18 : decode cX14_is 18 = .ok (.getfield 15, 3) := by decide +kernel
theorem dX14_is_21 : decode cX14_is 21 = .ok (.if_icmp .ge 27, 3) := by decide +kernel
theorem dX14_is_24 : decode cX14_is 24 = .ok (.aload_n 0, 1) := by decide +kernel
theorem dX14_is_25 : decode cX14_is 25 = .ok (.getfield 9, 3) := by decide +kernel
theorem dX14_is_28 : decode cX14_is 28 = .ok (.iload 4, 2) := by decide +kernel
theorem dX14_is_30 : decode cX14_is 30 = .ok (.baload, 1) := by decide +kernel
theorem dX14_is_31 : decode cX14_is 31 = .ok (.aload_n 1, 1) := by decide +kernel
theorem dX14_is_32 : decode cX14_is 32 = .ok (.iload_n 2, 1) := by decide +kernel
theorem dX14_is_33 : decode cX14_is 33 = .ok (.iload 4, 2) := by decide +kernel
theorem dX14_is_35 : decode cX14_is 35 = .ok (.iadd, 1) := by decide +kernel
theorem dX14_is_36 : decode cX14_is 36 = .ok (.baload, 1) := by decide +kernel
theorem dX14_is_37 : decode cX14_is 37 = .ok (.if_icmp .eq 5, 3) := by decide +kernel
theorem dX14_is_40 : decode cX14_is 40 = .ok (.iconst 0, 1) := by decide +kernel
theorem dX14_is_41 : decode cX14_is 41 = .ok (.ireturn, 1) := by decide +kernel
theorem dX14_is_42 : decode cX14_is 42 = .ok (.iinc 4 1, 3) := by decide +kernel
theorem dX14_is_45 : decode cX14_is 45 = .ok (.goto (-30), 3) := by decide +kernel
theorem dX14_is_48 : decode cX14_is 48 = .ok (.iconst 1, 1) := by decide +kernel
theorem dX14_is_49 : decode cX14_is 49 = .ok (.ireturn, 1) := by decide +kernel
theorem dX14_isName_0 : decode cX14_isName 0 = .ok (.aload_n 0, 1) := by decide +kernel
theorem dX14_isName_1 : decode cX14_isName 1 = .ok (.getfield 9, 3) := by decide +kernel
theorem dX14_isName_4 : decode cX14_isName 4 = .ok (.iconst 0, 1) := by decide +kernel
theorem dX14_isName_5 : decode cX14_isName 5 = .ok (.aload_n 0, 1) := by decide +kernel
theorem dX14_isName_6 : decode cX14_isName 6 = .ok (.getfield 15, 3) := by decide +kernel
theorem dX14_isName_9 : decode cX14_isName 9 = .ok (.invokestatic 33, 3) := by decide +kernel
theorem dX14_isName_12 : decode cX14_isName 12 = .ok (.ireturn, 1) := by decide +kernel
theorem dX14_isName__0 : decode cX14_isName_ 0 = .ok (.iload_n 2, 1) := by decide +kernel
theorem dX14_isName__1 : decode cX14_isName_ 1 = .ok (.iload_n 1, 1) := by decide +kernel
theorem dX14_isName__2 : decode cX14_isName_ 2 = .ok (.isub, 1) := by decide +kernel
theorem dX14_isName__3 : decode cX14_isName_ 3 = .ok (.i2l, 1) := by decide +kernel
theorem dX14_isName__4 : decode cX14_isName_ 4 = .ok (.lconst 1, 1) := by decide +kernel
theorem dX14_isName__5 : decode cX14_isName_ 5 = .ok (.ldc2_w 36, 3) := by decide +kernel
theorem dX14_isName__8 : decode cX14_isName_ 8 = .ok (.invokestatic 38, 3) := by decide +kernel
theorem dX14_isName__11 : decode cX14_isName_ 11 = .ok (.ifCond .ne 5, 3) := by decide +kernel
theorem dX14_isName__14 : decode cX14_isName_ 14 = .ok (.iconst 0, 1) := by decide +kernel
theorem dX14_isName__15 : decode cX14_isName_ 15 = .ok (.ireturn, 1) := by decide +kernel
theorem dX14_isName__16 : decode cX14_isName_ 16 = .ok (.iconst 0, 1) := by decide +kernel
theorem dX14_isName__17 : decode cX14_isName_ 17 = .ok (.istore_n 3, 1) := by decide +kernel
theorem dX14_isName__18 : decode cX14_isName_ 18 = .ok (.iload_n 1, 1) := by decide +kernel
theorem dX14_isName__19 : decode cX14_isName_ 19 = .ok (.istore 4, 2) := by decide +kernel
theorem dX14_isName__21 : decode cX14_isName_ 21 = .ok (.iload 4, 2) := by decide +kernel
theorem dX14_isName__23 : decode cX14_isName_ 23 = .ok (.iload_n 2, 1) := by decide +kernel
theorem dX14_isName__24 : decode cX14_isName_ 24 = .ok (.if_icmp .ge 74, 3) := by decide +kernel
theorem dX14_isName__27 : decode cX14_isName_ 27 = .ok (.aload_n 0, 1) := by decide +kernel
theorem dX14_isName__28 : decode cX14_isName_ 28 = .ok (.iload 4, 2) := by decide +kernel
theorem dX14_isName__30 : decode cX14_isName_ 30 = .ok (.baload, 1) := by decide +kernel
theorem dX14_isName__31 : decode cX14_isName_ 31 = .ok (.istore 5, 2) := by decide +kernel
theorem dX14_isName__33 : decode cX14_isName_ 33 = .ok (.iload 5, 2) := by decide +kernel
theorem dX14_isName__35 : decode cX14_isName_ 35 = .ok (.bipush 46, 2) := by decide +kernel
theorem dX14_isName__37 : decode cX14_isName_ 37 = .ok (.if_icmp .ne 14, 3) := by decide +kernel
theorem dX14_isName__40 : decode cX14_isName_ 40 = .ok (.iload_n 3, 1) := by decide +kernel
theorem dX14_isName__41 : decode cX14_isName_ 41 = .ok (.ifCond .ne 5, 3) := by decide +kernel
theorem dX14_isName__44 : decode cX14_isName_ 44 = .ok (.iconst 0, 1) := by decide +kernel
theorem dX14_isName__45 : decode cX14_isName_ 45 = .ok (.ireturn, 1) := by decide +kernel
theorem dX14_isName__46 : decode cX14_isName_ 46 = .ok (.iconst 0, 1) := by decide +kernel
theorem dX14_isName__47 : decode cX14_isName_ 47 = .ok (.istore_n 3, 1) := by decide +kernel
theorem dX14_isName__48 : decode cX14_isName_ 48 = .ok (.goto 44, 3) := by decide +kernel
theorem dX14_isName__51 : decode cX14_isName_ 51 = .ok (.iload 5, 2) := by decide +kernel
theorem dX14_isName__53 : decode cX14_isName_ 53 = .ok (.invokestatic 42, 3) := by decide +kernel
theorem dX14_isName__56 : decode cX14_isName_ 56 = .ok (.ifCond .ne 25, 3) := by decide +kernel
theorem dX14_isName__59 : decode cX14_isName_ 59 = .ok (.iload 5, 2) := by decide +kernel
theorem dX14_isName__61 : decode cX14_isName_ 61 = .ok (.invokestatic 46, 3) := by decide +kernel
theorem dX14_isName__64 : decode cX14_isName_ 64 = .ok (.ifCond .ne 17, 3) := by decide +kernel
theorem dX14_isName__67 : decode cX14_isName_ 67 = .ok (.iload 5, 2) := by decide +kernel
theorem dX14_isName__69 : decode cX14_isName_ 69 = .ok (.bipush 45, 2) := by decide +kernel
theorem dX14_isName__71 : decode cX14_isName_ 71 = .ok (.if_icmp .eq 10, 3) := by decide +kernel
theorem dX14_isName__74 : decode cX14_isName_ 74 = .ok (.iload 5, 2) := by decide +kernel
theorem dX14_isName__76 : decode cX14_isName_ 76 = .ok (.bipush 95, 2) := by decide +kernel
theorem dX14_isName__78 : decode cX14_isName_ 78 = .ok (.if_icmp .ne 9, 3) := by decide +kernel
theorem dX14_isName__81 : decode cX14_isName_ 81 = .ok (.iload_n 3, 1) := by decide +kernel
theorem dX14_isName__82 : decode cX14_isName_ 82 = .ok (.bipush 20, 2) := by decide +kernel
theorem dX14_isName__84 : decode cX14_isName_ 84 = .ok (.if_icmp .ne 5, 3) := by decide +kernel
theorem dX14_isName__87 : decode cX14_isName_ 87 = .ok (.iconst 0, 1) := by decide +kernel
theorem dX14_isName__88 : decode cX14_isName_ 88 = .ok (.ireturn, 1) := by decide +kernel
theorem dX14_isName__89 : decode cX14_isName_ 89 = .ok (.iinc 3 1, 3) := by decide +kernel
theorem dX14_isName__92 : decode cX14_isName_ 92 = .ok (.iinc 4 1, 3) := by decide +kernel
theorem dX14_isName__95 : decode cX14_isName_ 95 = .ok (.goto (-74), 3) := by decide +kernel
theorem dX14_isName__98 : decode cX14_isName_ 98 = .ok (.iload_n 3, 1) := by decide +kernel
theorem dX14_isName__99 : decode cX14_isName_ 99 = .ok (.ifCond .le 7, 3) := by decide +kernel
theorem dX14_isName__102 : decode cX14_isName_ 102 = .ok (.iconst 1, 1) := by decide +kernel
theorem dX14_isName__103 : decode cX14_isName_ 103 = .ok (.goto 4, 3) := by decide +kernel
theorem dX14_isName__106 : decode cX14_isName_ 106 = .ok (.iconst 0, 1) := by decide +kernel
theorem dX14_isName__107 : decode cX14_isName_ 107 = .ok (.ireturn, 1) := by decide +kernel
theorem dX14_isUnder_0 : decode cX14_isUnder 0 = .ok (.aload_n 0, 1) := by decide +kernel
theorem dX14_isUnder_1 : decode cX14_isUnder 1 = .ok (.getfield 15, 3) := by decide +kernel
theorem dX14_isUnder_4 : decode cX14_isUnder 4 = .ok (.aload_n 1, 1) := by decide +kernel
theorem dX14_isUnder_5 : decode cX14_isUnder 5 = .ok (.getfield 15, 3) := by decide +kernel
theorem dX14_isUnder_8 : decode cX14_isUnder 8 = .ok (.if_icmp .lt 48, 3) := by decide +kernel
theorem dX14_isUnder_11 : decode cX14_isUnder 11 = .ok (.aload_n 0, 1) := by decide +kernel
theorem dX14_isUnder_12 : decode cX14_isUnder 12 = .ok (.getfield 15, 3) := by decide +kernel
theorem dX14_isUnder_15 : decode cX14_isUnder 15 = .ok (.aload_n 1, 1) := by decide +kernel
theorem dX14_isUnder_16 : decode cX14_isUnder 16 = .ok (.getfield 15, 3) := by decide +kernel
theorem dX14_isUnder_19 : decode cX14_isUnder 19 = .ok (.if_icmp .le 39, 3) := by decide +kernel
theorem dX14_isUnder_22 : decode cX14_isUnder 22 = .ok (.aload_n 0, 1) := by decide +kernel
theorem dX14_isUnder_23 : decode cX14_isUnder 23 = .ok (.getfield 15, 3) := by decide +kernel
theorem dX14_isUnder_26 : decode cX14_isUnder 26 = .ok (.aload_n 1, 1) := by decide +kernel
theorem dX14_isUnder_27 : decode cX14_isUnder 27 = .ok (.getfield 15, 3) := by decide +kernel
theorem dX14_isUnder_30 : decode cX14_isUnder 30 = .ok (.iconst 1, 1) := by decide +kernel
theorem dX14_isUnder_31 : decode cX14_isUnder 31 = .ok (.iadd, 1) := by decide +kernel
theorem dX14_isUnder_32 : decode cX14_isUnder 32 = .ok (.if_icmp .eq 24, 3) := by decide +kernel
theorem dX14_isUnder_35 : decode cX14_isUnder 35 = .ok (.aload_n 0, 1) := by decide +kernel
theorem dX14_isUnder_36 : decode cX14_isUnder 36 = .ok (.getfield 9, 3) := by decide +kernel
theorem dX14_isUnder_39 : decode cX14_isUnder 39 = .ok (.aload_n 0, 1) := by decide +kernel
theorem dX14_isUnder_40 : decode cX14_isUnder 40 = .ok (.getfield 15, 3) := by decide +kernel
theorem dX14_isUnder_43 : decode cX14_isUnder 43 = .ok (.aload_n 1, 1) := by decide +kernel
theorem dX14_isUnder_44 : decode cX14_isUnder 44 = .ok (.getfield 15, 3) := by decide +kernel
theorem dX14_isUnder_47 : decode cX14_isUnder 47 = .ok (.isub, 1) := by decide +kernel
theorem dX14_isUnder_48 : decode cX14_isUnder 48 = .ok (.iconst 1, 1) := by decide +kernel
theorem dX14_isUnder_49 : decode cX14_isUnder 49 = .ok (.isub, 1) := by decide +kernel
theorem dX14_isUnder_50 : decode cX14_isUnder 50 = .ok (.baload, 1) := by decide +kernel
theorem dX14_isUnder_51 : decode cX14_isUnder 51 = .ok (.bipush 46, 2) := by decide +kernel
theorem dX14_isUnder_53 : decode cX14_isUnder 53 = .ok (.if_icmp .eq 5, 3) := by decide +kernel
theorem dX14_isUnder_56 : decode cX14_isUnder 56 = .ok (.iconst 0, 1) := by decide +kernel
theorem dX14_isUnder_57 : decode cX14_isUnder 57 = .ok (.ireturn, 1) := by decide +kernel
theorem dX14_isUnder_58 : decode cX14_isUnder 58 = .ok (.iconst 0, 1) := by decide +kernel
theorem dX14_isUnder_59 : decode cX14_isUnder 59 = .ok (.istore_n 2, 1) := by decide +kernel
theorem dX14_isUnder_60 : decode cX14_isUnder 60 = .ok (.iload_n 2, 1) := by decide +kernel
theorem dX14_isUnder_61 : decode cX14_isUnder 61 = .ok (.aload_n 1, 1) := by decide +kernel
theorem dX14_isUnder_62 : decode cX14_isUnder 62 = .ok (.getfield 15, 3) := by decide +kernel
theorem dX14_isUnder_65 : decode cX14_isUnder 65 = .ok (.if_icmp .ge 36, 3) := by decide +kernel
theorem dX14_isUnder_68 : decode cX14_isUnder 68 = .ok (.aload_n 0, 1) := by decide +kernel
theorem dX14_isUnder_69 : decode cX14_isUnder 69 = .ok (.getfield 9, 3) := by decide +kernel
theorem dX14_isUnder_72 : decode cX14_isUnder 72 = .ok (.aload_n 0, 1) := by decide +kernel
theorem dX14_isUnder_73 : decode cX14_isUnder 73 = .ok (.getfield 15, 3) := by decide +kernel
theorem dX14_isUnder_76 : decode cX14_isUnder 76 = .ok (.aload_n 1, 1) := by decide +kernel
theorem dX14_isUnder_77 : decode cX14_isUnder 77 = .ok (.getfield 15, 3) := by decide +kernel
theorem dX14_isUnder_80 : decode cX14_isUnder 80 = .ok (.isub, 1) := by decide +kernel
theorem dX14_isUnder_81 : decode cX14_isUnder 81 = .ok (.iload_n 2, 1) := by decide +kernel
theorem dX14_isUnder_82 : decode cX14_isUnder 82 = .ok (.iadd, 1) := by decide +kernel
theorem dX14_isUnder_83 : decode cX14_isUnder 83 = .ok (.baload, 1) := by decide +kernel
theorem dX14_isUnder_84 : decode cX14_isUnder 84 = .ok (.aload_n 1, 1) := by decide +kernel
theorem dX14_isUnder_85 : decode cX14_isUnder 85 = .ok (.getfield 9, 3) := by decide +kernel
theorem dX14_isUnder_88 : decode cX14_isUnder 88 = .ok (.iload_n 2, 1) := by decide +kernel
theorem dX14_isUnder_89 : decode cX14_isUnder 89 = .ok (.baload, 1) := by decide +kernel
theorem dX14_isUnder_90 : decode cX14_isUnder 90 = .ok (.if_icmp .eq 5, 3) := by decide +kernel
theorem dX14_isUnder_93 : decode cX14_isUnder 93 = .ok (.iconst 0, 1) := by decide +kernel
theorem dX14_isUnder_94 : decode cX14_isUnder 94 = .ok (.ireturn, 1) := by decide +kernel
theorem dX14_isUnder_95 : decode cX14_isUnder 95 = .ok (.iinc 2 1, 3) := by decide +kernel
theorem dX14_isUnder_98 : decode cX14_isUnder 98 = .ok (.goto (-38), 3) := by decide +kernel
theorem dX14_isUnder_101 : decode cX14_isUnder 101 = .ok (.iconst 1, 1) := by decide +kernel
theorem dX14_isUnder_102 : decode cX14_isUnder 102 = .ok (.ireturn, 1) := by decide +kernel
theorem dX14_is__0 : decode cX14_is_ 0 = .ok (.aload_n 0, 1) := by decide +kernel
theorem dX14_is__1 : decode cX14_is_ 1 = .ok (.aload_n 1, 1) := by decide +kernel
theorem dX14_is__2 : decode cX14_is_ 2 = .ok (.getfield 9, 3) := by decide +kernel
theorem dX14_is__5 : decode cX14_is_ 5 = .ok (.iconst 0, 1) := by decide +kernel
theorem dX14_is__6 : decode cX14_is_ 6 = .ok (.aload_n 1, 1) := by decide +kernel
theorem dX14_is__7 : decode cX14_is_ 7 = .ok (.getfield 15, 3) := by decide +kernel
theorem dX14_is__10 : decode cX14_is_ 10 = .ok (.invokevirtual 29, 3) := by decide +kernel
theorem dX14_is__13 : decode cX14_is_ 13 = .ok (.ireturn, 1) := by decide +kernel
theorem dX14_set_0 : decode cX14_set 0 = .ok (.aload_n 0, 1) := by decide +kernel
theorem dX14_set_1 : decode cX14_set 1 = .ok (.iconst 0, 1) := by decide +kernel
theorem dX14_set_2 : decode cX14_set 2 = .ok (.putfield 15, 3) := by decide +kernel
theorem dX14_set_5 : decode cX14_set 5 = .ok (.aload_n 0, 1) := by decide +kernel
theorem dX14_set_6 : decode cX14_set 6 = .ok (.aload_n 1, 1) := by decide +kernel
theorem dX14_set_7 : decode cX14_set 7 = .ok (.iload_n 2, 1) := by decide +kernel
theorem dX14_set_8 : decode cX14_set 8 = .ok (.iload_n 3, 1) := by decide +kernel
theorem dX14_set_9 : decode cX14_set 9 = .ok (.invokevirtual 25, 3) := by decide +kernel
theorem dX14_set_12 : decode cX14_set 12 = .ok (.return_, 1) := by decide +kernel
theorem dX15_in_0 : decode cX15_in 0 = .ok (.lload_n 0, 1) := by decide +kernel
theorem dX15_in_1 : decode cX15_in 1 = .ok (.lload_n 2, 1) := by decide +kernel
theorem dX15_in_2 : decode cX15_in 2 = .ok (.lcmp, 1) := by decide +kernel
theorem dX15_in_3 : decode cX15_in 3 = .ok (.ifCond .lt 14, 3) := by decide +kernel
theorem dX15_in_6 : decode cX15_in 6 = .ok (.lload_n 0, 1) := by decide +kernel
theorem dX15_in_7 : decode cX15_in 7 = .ok (.lload 4, 2) := by decide +kernel
theorem dX15_in_9 : decode cX15_in 9 = .ok (.lcmp, 1) := by decide +kernel
theorem dX15_in_10 : decode cX15_in 10 = .ok (.ifCond .gt 7, 3) := by decide +kernel
theorem dX15_in_13 : decode cX15_in 13 = .ok (.iconst 1, 1) := by decide +kernel
theorem dX15_in_14 : decode cX15_in 14 = .ok (.goto 4, 3) := by decide +kernel
theorem dX15_in_17 : decode cX15_in 17 = .ok (.iconst 0, 1) := by decide +kernel
theorem dX15_in_18 : decode cX15_in 18 = .ok (.ireturn, 1) := by decide +kernel
theorem dX15_isDigit_0 : decode cX15_isDigit 0 = .ok (.iload_n 0, 1) := by decide +kernel
theorem dX15_isDigit_1 : decode cX15_isDigit 1 = .ok (.bipush 48, 2) := by decide +kernel
theorem dX15_isDigit_3 : decode cX15_isDigit 3 = .ok (.if_icmp .lt 13, 3) := by decide +kernel
theorem dX15_isDigit_6 : decode cX15_isDigit 6 = .ok (.iload_n 0, 1) := by decide +kernel
theorem dX15_isDigit_7 : decode cX15_isDigit 7 = .ok (.bipush 57, 2) := by decide +kernel
theorem dX15_isDigit_9 : decode cX15_isDigit 9 = .ok (.if_icmp .gt 7, 3) := by decide +kernel
theorem dX15_isDigit_12 : decode cX15_isDigit 12 = .ok (.iconst 1, 1) := by decide +kernel
theorem dX15_isDigit_13 : decode cX15_isDigit 13 = .ok (.goto 4, 3) := by decide +kernel
theorem dX15_isDigit_16 : decode cX15_isDigit 16 = .ok (.iconst 0, 1) := by decide +kernel
theorem dX15_isDigit_17 : decode cX15_isDigit 17 = .ok (.ireturn, 1) := by decide +kernel
theorem dX15_isLetter_0 : decode cX15_isLetter 0 = .ok (.iload_n 0, 1) := by decide +kernel
theorem dX15_isLetter_1 : decode cX15_isLetter 1 = .ok (.invokestatic 3, 3) := by decide +kernel
theorem dX15_isLetter_4 : decode cX15_isLetter 4 = .ok (.ifCond .ne 15, 3) := by decide +kernel
theorem dX15_isLetter_7 : decode cX15_isLetter 7 = .ok (.iload_n 0, 1) := by decide +kernel
theorem dX15_isLetter_8 : decode cX15_isLetter 8 = .ok (.bipush 65, 2) := by decide +kernel
theorem dX15_isLetter_10 : decode cX15_isLetter 10 = .ok (.if_icmp .lt 13, 3) := by decide +kernel
theorem dX15_isLetter_13 : decode cX15_isLetter 13 = .ok (.iload_n 0, 1) := by decide +kernel
theorem dX15_isLetter_14 : decode cX15_isLetter 14 = .ok (.bipush 90, 2) := by decide +kernel
theorem dX15_isLetter_16 : decode cX15_isLetter 16 = .ok (.if_icmp .gt 7, 3) := by decide +kernel
theorem dX15_isLetter_19 : decode cX15_isLetter 19 = .ok (.iconst 1, 1) := by decide +kernel
theorem dX15_isLetter_20 : decode cX15_isLetter 20 = .ok (.goto 4, 3) := by decide +kernel
theorem dX15_isLetter_23 : decode cX15_isLetter 23 = .ok (.iconst 0, 1) := by decide +kernel
theorem dX15_isLetter_24 : decode cX15_isLetter 24 = .ok (.ireturn, 1) := by decide +kernel
theorem dX15_isSmall_0 : decode cX15_isSmall 0 = .ok (.iload_n 0, 1) := by decide +kernel
theorem dX15_isSmall_1 : decode cX15_isSmall 1 = .ok (.bipush 97, 2) := by decide +kernel
theorem dX15_isSmall_3 : decode cX15_isSmall 3 = .ok (.if_icmp .lt 13, 3) := by decide +kernel
theorem dX15_isSmall_6 : decode cX15_isSmall 6 = .ok (.iload_n 0, 1) := by decide +kernel
theorem dX15_isSmall_7 : decode cX15_isSmall 7 = .ok (.bipush 122, 2) := by decide +kernel
theorem dX15_isSmall_9 : decode cX15_isSmall 9 = .ok (.if_icmp .gt 7, 3) := by decide +kernel
theorem dX15_isSmall_12 : decode cX15_isSmall 12 = .ok (.iconst 1, 1) := by decide +kernel
theorem dX15_isSmall_13 : decode cX15_isSmall 13 = .ok (.goto 4, 3) := by decide +kernel
theorem dX15_isSmall_16 : decode cX15_isSmall 16 = .ok (.iconst 0, 1) := by decide +kernel
theorem dX15_isSmall_17 : decode cX15_isSmall 17 = .ok (.ireturn, 1) := by decide +kernel
theorem dX15_isWhite_0 : decode cX15_isWhite 0 = .ok (.iload_n 0, 1) := by decide +kernel
theorem dX15_isWhite_1 : decode cX15_isWhite 1 = .ok (.bipush 32, 2) := by decide +kernel
theorem dX15_isWhite_3 : decode cX15_isWhite 3 = .ok (.if_icmp .eq 9, 3) := by decide +kernel
theorem dX15_isWhite_6 : decode cX15_isWhite 6 = .ok (.iload_n 0, 1) := by decide +kernel
theorem dX15_isWhite_7 : decode cX15_isWhite 7 = .ok (.bipush 9, 2) := by decide +kernel
theorem dX15_isWhite_9 : decode cX15_isWhite 9 = .ok (.if_icmp .ne 7, 3) := by decide +kernel
theorem dX15_isWhite_12 : decode cX15_isWhite 12 = .ok (.iconst 1, 1) := by decide +kernel
theorem dX15_isWhite_13 : decode cX15_isWhite 13 = .ok (.goto 4, 3) := by decide +kernel
theorem dX15_isWhite_16 : decode cX15_isWhite 16 = .ok (.iconst 0, 1) := by decide +kernel
theorem dX15_isWhite_17 : decode cX15_isWhite 17 = .ok (.ireturn, 1) := by decide +kernel
theorem dX15_small_0 : decode cX15_small 0 = .ok (.iload_n 0, 1) := by decide +kernel
theorem dX15_small_1 : decode cX15_small 1 = .ok (.bipush 65, 2) := by decide +kernel
theorem dX15_small_3 : decode cX15_small 3 = .ok (.if_icmp .lt 16, 3) := by decide +kernel
theorem dX15_small_6 : decode cX15_small 6 = .ok (.iload_n 0, 1) := by decide +kernel
theorem dX15_small_7 : decode cX15_small 7 = .ok (.bipush 90, 2) := by decide +kernel
theorem dX15_small_9 : decode cX15_small 9 = .ok (.if_icmp .gt 10, 3) := by decide +kernel
theorem dX15_small_12 : decode cX15_small 12 = .ok (.iload_n 0, 1) := by decide +kernel
theorem dX15_small_13 : decode cX15_small 13 = .ok (.bipush 32, 2) := by decide +kernel
theorem dX15_small_15 : decode cX15_small 15 = .ok (.iadd, 1) := by decide +kernel
theorem dX15_small_16 : decode cX15_small 16 = .ok (.goto 4, 3) := by decide +kernel
theorem dX15_small_19 : decode cX15_small 19 = .ok (.iload_n 0, 1) := by decide +kernel
theorem dX15_small_20 : decode cX15_small 20 = .ok (.ireturn, 1) := by decide +kernel
theorem kt_668 : Cond.code yX15_isSmall cX15_isSmall 1 (some .boolean) ∈ tb := tb_at (i := 1494) (by decide +kernel) (by decide +kernel)
theorem kt_669 : Cond.initialized RX15 ∈ tb := tb_at (i := 93) (by decide +kernel) (by decide +kernel)
theorem kt_670 : Cond.methodLink RX15 3 yX15_isSmall ∈ tb := tb_at (i := 1516) (by decide +kernel) (by decide +kernel)
theorem kt_671 : Cond.static yX15_isSmall ∈ tb := tb_at (i := 1493) (by decide +kernel) (by decide +kernel)
theorem kt_672 : Cond.fieldLink RX14 9 "PostGateModel$Text" "b" "[B" ∈ tb := tb_at (i := 1208) (by decide +kernel) (by decide +kernel)
theorem kt_673 : Cond.fieldLink RX14 15 "PostGateModel$Text" "n" "I" ∈ tb := tb_at (i := 1211) (by decide +kernel) (by decide +kernel)
theorem kt_674 : Cond.methodLink RX14 19 arraycopyName ∈ tb := tb_at (i := 1506) (by decide +kernel) (by decide +kernel)
theorem kt_675 : Cond.code yX14_add_ cX14_add_ 4 none ∈ tb := tb_at (i := 1505) (by decide +kernel) (by decide +kernel)
theorem kt_676 : Cond.initialized RX14 ∈ tb := tb_at (i := 94) (by decide +kernel) (by decide +kernel)
theorem kt_677 : Cond.methodLink RX14 25 yX14_add_ ∈ tb := tb_at (i := 1502) (by decide +kernel) (by decide +kernel)
theorem kt_678 : Cond.instanceMethod yX14_add_ ∈ tb := tb_at (i := 1503) (by decide +kernel) (by decide +kernel)
theorem kt_679 : Cond.selects RX14 yX14_add_ yX14_add_ ∈ tb := tb_at (i := 1504) (by decide +kernel) (by decide +kernel)
theorem kt_680 : Cond.code yX14_is cX14_is 5 (some .boolean) ∈ tb := tb_at (i := 1541) (by decide +kernel) (by decide +kernel)
theorem kt_681 : Cond.methodLink RX14 29 yX14_is ∈ tb := tb_at (i := 1538) (by decide +kernel) (by decide +kernel)
theorem kt_682 : Cond.instanceMethod yX14_is ∈ tb := tb_at (i := 1539) (by decide +kernel) (by decide +kernel)
theorem kt_683 : Cond.selects RX14 yX14_is yX14_is ∈ tb := tb_at (i := 1540) (by decide +kernel) (by decide +kernel)
theorem kt_684 : Cond.constantLong RX14 36 60 ∈ tb := tb_at (i := 1490) (by decide +kernel) (by decide +kernel)
theorem kt_685 : Cond.code yX15_in cX15_in 6 (some .boolean) ∈ tb := tb_at (i := 1477) (by decide +kernel) (by decide +kernel)
theorem kt_686 : Cond.static yX15_in ∈ tb := tb_at (i := 1476) (by decide +kernel) (by decide +kernel)
theorem kt_687 : Cond.code yX15_isDigit cX15_isDigit 1 (some .boolean) ∈ tb := tb_at (i := 1497) (by decide +kernel) (by decide +kernel)
theorem kt_688 : Cond.static yX15_isDigit ∈ tb := tb_at (i := 1496) (by decide +kernel) (by decide +kernel)
theorem kt_689 : Cond.code yX14_isName_ cX14_isName_ 6 (some .boolean) ∈ tb := tb_at (i := 1489) (by decide +kernel) (by decide +kernel)
theorem kt_690 : Cond.methodLink RX14 33 yX14_isName_ ∈ tb := tb_at (i := 1873) (by decide +kernel) (by decide +kernel)
theorem kt_691 : Cond.static yX14_isName_ ∈ tb := tb_at (i := 1488) (by decide +kernel) (by decide +kernel)
theorem kn_38 : Cond.methodLinkNest RX14 38 yX15_in "PostGateModel" ∈ nw := nw_at (i := 1411) (by decide +kernel) rfl
theorem kn_39 : Cond.methodLinkNest RX14 42 yX15_isSmall "PostGateModel" ∈ nw := nw_at (i := 1412) (by decide +kernel) rfl
theorem kn_40 : Cond.methodLinkNest RX14 46 yX15_isDigit "PostGateModel" ∈ nw := nw_at (i := 1415) (by decide +kernel) rfl
theorem sub_eqN {tt a z : Nat} (h : nI tt - nI a = nI z) (ht : tt ≤ 20000) (ha : a ≤ 20000) (hz : z ≤ 20000) : tt = a + z := by
  have h1 := congrArg Int32.toInt h
  rw [pk_sub_toInt (by omega) (by omega), nI_toInt (by omega)] at h1
  omega
theorem sub_geN {tt a z : Nat} (h : ¬ nI tt - nI a < nI z) (ht : tt ≤ 20000) (ha : a ≤ 20000) (hz : z ≤ 20000) : a + z ≤ tt := by
  rw [Int32.lt_iff_toInt_lt, pk_sub_toInt (by omega) (by omega), nI_toInt (by omega)] at h
  omega
theorem sub_ltN {tt a z : Nat} (h : nI tt - nI a < nI z) (ht : tt ≤ 20000) (ha : a ≤ 20000) (hz : z ≤ 20000) : ¬ a + z ≤ tt := by
  rw [Int32.lt_iff_toInt_lt, pk_sub_toInt (by omega) (by omega), nI_toInt (by omega)] at h
  omega
theorem l64 (a x : Int32) : a.toInt64 ≤ x.toInt64 ↔ a ≤ x := by
  rw [Int64.le_iff_toInt_le, Int32.le_iff_toInt_le, Int32.toInt_toInt64, Int32.toInt_toInt64]
theorem in_nat {k lo hi : Nat} {A B : Int64} {r : Int32} (hr : r = (if A ≤ (nI k).toInt64 ∧ (nI k).toInt64 ≤ B then 1 else 0)) (c : ¬ r = 0) (hA : A.toInt = lo) (hB : B.toInt = hi) (hk : k < 2 ^ 31) : lo ≤ k ∧ k ≤ hi := by
  have h : A ≤ (nI k).toInt64 ∧ (nI k).toInt64 ≤ B := by
    rcases Classical.em (A ≤ (nI k).toInt64 ∧ (nI k).toInt64 ≤ B) with q | q
    · exact q
    · rw [if_neg q] at hr
      exact absurd hr c
  rw [Int64.le_iff_toInt_le, Int64.le_iff_toInt_le, Int32.toInt_toInt64, nI_toInt hk, hA, hB] at h
  omega
theorem in_int {x : Int32} {A B : Int64} {r : Int32} (hr : r = (if A ≤ x.toInt64 ∧ x.toInt64 ≤ B then 1 else 0)) (c : ¬ r = 0) : A.toInt ≤ x.toInt ∧ x.toInt ≤ B.toInt := by
  have h : A ≤ x.toInt64 ∧ x.toInt64 ≤ B := by
    rcases Classical.em (A ≤ x.toInt64 ∧ x.toInt64 ≤ B) with q | q
    · exact q
    · rw [if_neg q] at hr
      exact absurd hr c
  rw [Int64.le_iff_toInt_le, Int64.le_iff_toInt_le, Int32.toInt_toInt64] at h
  exact h
theorem in_sub {tt a lo hi : Nat} {A B : Int64} {r : Int32} (hr : r = (if A ≤ (nI tt - nI a).toInt64 ∧ (nI tt - nI a).toInt64 ≤ B then 1 else 0)) (c : ¬ r = 0) (hA : A.toInt = lo) (hB : B.toInt = hi) (ht : tt ≤ 20000) (ha : a ≤ 20000) : a + lo ≤ tt ∧ tt ≤ a + hi := by
  have h := in_int hr c
  rw [pk_sub_toInt (by omega) (by omega), hA, hB] at h
  omega
theorem bit3 {r : Int32} {P : Prop} (h : r = 0 ∨ (r = 1 ∧ P)) : r = 0 ∨ r = 1 := h.imp id And.left
theorem bit1 {r : Int32} {P : Prop} (h : r = 0 ∨ (r = 1 ∧ P)) (c : ¬ r = 0) : P := by
  rcases h with h | h
  · exact absurd h c
  · exact h.2
theorem inbit {r : Int32} {P : Prop} {hd : Decidable P} (h : r = (if P then 1 else 0)) : r = 0 ∨ r = 1 := by
  rw [h]
  split
  · exact Or.inr rfl
  · exact Or.inl rfl
set_option maxHeartbeats 4000000 in
set_option maxRecDepth 100000 in
theorem s_X15_isSmall (l : Launch) (dC : Nat → ClassId) (dI : Nat → Nat → Nat) (cs : Nat → ClassId) (ty : TyM) (gm : Nat → Nat → Nat) (L : List Nat) (sz : Nat) (F : Nat → va_E) (x1 : Int32) (hW : WTm ty gm L) : Met l yX15_isSmall (.code yX15_isSmall cX15_isSmall 1 (some .boolean) :: tb) ({ frames := 0, cells := 0, slots := 0, locals := 0 }) (va_Pc [.int x1] (PTm (dC, dI) cs ty gm L F sz)) (va_Qi (fun (r : Int32) (_ : Unit) => (r = 0 ∨ r = 1)) (fun _ T9 => ∃ F2 : Nat → va_E, QTm (dC, dI) cs ty gm L [] F F2 (va_A (va_pl L F) sz) T9) (va_A (va_pl L F) sz)) 0 0 (va_A (va_pl L F) sz) := by
  refine Met.ofW (cc := cX15_isSmall) (maxL := 1) (ret := (some .boolean)) (by decide) rfl ?_
  intro p e s m args below meth c s₁ B hml hv
  obtain ⟨rfl, hsz, hP, hK, hD0, hE, hO⟩ := hv
  have hx := B.exec
  have hb := B.bytes
  have hr := B.returns
  have hts : ∀ w ∈ tb, w.before _ s = true := fun w h => atoms_spec (ws := .code yX15_isSmall cX15_isSmall 1 (some .boolean) :: tb) B.pre w (List.mem_cons_of_mem _ h)
  have hown : s.vm.findClass RX15 = some m.cls := findClass_of_methodNamed B.named
  have hlocks := B.notSynchronized
  subst hsz
  have hD := hD0.self (sz := s.heap.size)
  generalize hAe : va_A (va_pl L F) s.heap.size = A at hD ⊢
  have hA : ∀ q : Nat, s.heap.size ≤ q → A q := fun q h => by rw [← hAe]; exact Or.inr h
  have hS : va_S A s.heap s.heap [] := va_S.rf
  have hR : FR ty [] F F := FR.refl
  have hl := lv_entry ([.int x1]) (n := 1) (Nat.le_of_ble_eq_true rfl)
  rw [lg_entry_eq]
  generalize (lg_sl ([.int x1]) ++ List.replicate (1 - (lg_sl ([.int x1])).length) Slot.unset).toArray = ls at hl ⊢
  have hl : lv_has ls 1 [(0, .int x1)] := hl
  refine lv_iload_n hx hb dX15_isSmall_0 rfl (lv_at hl 0 rfl) ?_
  refine lv_bipush (v := 97) hx hb dX15_isSmall_1 (by decide) ?_
  refine lv_icmp_lt (tgt := 16) hx hb dX15_isSmall_3 (by decide) (fun c_1 => ?_) (fun c_1 => ?_)
  ·
    refine lv_iconst (v := 0) hx hb dX15_isSmall_16 (by decide) ?_
    refine W.widen (k := 0) (n := 0) (by omega) (by omega) ?_
    exact W.zret (v := 0) (ty := .boolean) hx hb hr (by decide) (fun t ht hWm => ⟨⟨0, (), rfl, (by first | exact Or.inl rfl | exact Or.inr rfl), ⟨F, QTm.mk ht hP hD hO hR⟩⟩, hS.F ht⟩) hS.2.2 dX15_isSmall_17
  ·
    refine lv_iload_n hx hb dX15_isSmall_6 rfl (lv_at hl 0 rfl) ?_
    refine lv_bipush (v := 122) hx hb dX15_isSmall_7 (by decide) ?_
    refine lv_icmp_gt (tgt := 16) hx hb dX15_isSmall_9 (by decide) (fun c_2 => ?_) (fun c_2 => ?_)
    ·
      refine lv_iconst (v := 0) hx hb dX15_isSmall_16 (by decide) ?_
      refine W.widen (k := 0) (n := 0) (by omega) (by omega) ?_
      exact W.zret (v := 0) (ty := .boolean) hx hb hr (by decide) (fun t ht hWm => ⟨⟨0, (), rfl, (by first | exact Or.inl rfl | exact Or.inr rfl), ⟨F, QTm.mk ht hP hD hO hR⟩⟩, hS.F ht⟩) hS.2.2 dX15_isSmall_17
    ·
      refine lv_iconst (v := 1) hx hb dX15_isSmall_12 (by decide) ?_
      refine lv_goto (tgt := 17) hx hb dX15_isSmall_13 (by decide) ?_
      refine W.widen (k := 0) (n := 0) (by omega) (by omega) ?_
      exact W.zret (v := 1) (ty := .boolean) hx hb hr (by decide) (fun t ht hWm => ⟨⟨1, (), rfl, (by first | exact Or.inl rfl | exact Or.inr rfl), ⟨F, QTm.mk ht hP hD hO hR⟩⟩, hS.F ht⟩) hS.2.2 dX15_isSmall_17
set_option maxHeartbeats 4000000 in
set_option maxRecDepth 100000 in
theorem s_X15_isDigit (l : Launch) (dC : Nat → ClassId) (dI : Nat → Nat → Nat) (cs : Nat → ClassId) (ty : TyM) (gm : Nat → Nat → Nat) (L : List Nat) (sz : Nat) (F : Nat → va_E) (x1 : Int32) (hW : WTm ty gm L) : Met l yX15_isDigit (.code yX15_isDigit cX15_isDigit 1 (some .boolean) :: tb) ({ frames := 0, cells := 0, slots := 0, locals := 0 }) (va_Pc [.int x1] (PTm (dC, dI) cs ty gm L F sz)) (va_Qi (fun (r : Int32) (_ : Unit) => (r = 0 ∨ r = 1)) (fun _ T9 => ∃ F2 : Nat → va_E, QTm (dC, dI) cs ty gm L [] F F2 (va_A (va_pl L F) sz) T9) (va_A (va_pl L F) sz)) 0 0 (va_A (va_pl L F) sz) := by
  refine Met.ofW (cc := cX15_isDigit) (maxL := 1) (ret := (some .boolean)) (by decide) rfl ?_
  intro p e s m args below meth c s₁ B hml hv
  obtain ⟨rfl, hsz, hP, hK, hD0, hE, hO⟩ := hv
  have hx := B.exec
  have hb := B.bytes
  have hr := B.returns
  have hts : ∀ w ∈ tb, w.before _ s = true := fun w h => atoms_spec (ws := .code yX15_isDigit cX15_isDigit 1 (some .boolean) :: tb) B.pre w (List.mem_cons_of_mem _ h)
  have hown : s.vm.findClass RX15 = some m.cls := findClass_of_methodNamed B.named
  have hlocks := B.notSynchronized
  subst hsz
  have hD := hD0.self (sz := s.heap.size)
  generalize hAe : va_A (va_pl L F) s.heap.size = A at hD ⊢
  have hA : ∀ q : Nat, s.heap.size ≤ q → A q := fun q h => by rw [← hAe]; exact Or.inr h
  have hS : va_S A s.heap s.heap [] := va_S.rf
  have hR : FR ty [] F F := FR.refl
  have hl := lv_entry ([.int x1]) (n := 1) (Nat.le_of_ble_eq_true rfl)
  rw [lg_entry_eq]
  generalize (lg_sl ([.int x1]) ++ List.replicate (1 - (lg_sl ([.int x1])).length) Slot.unset).toArray = ls at hl ⊢
  have hl : lv_has ls 1 [(0, .int x1)] := hl
  refine lv_iload_n hx hb dX15_isDigit_0 rfl (lv_at hl 0 rfl) ?_
  refine lv_bipush (v := 48) hx hb dX15_isDigit_1 (by decide) ?_
  refine lv_icmp_lt (tgt := 16) hx hb dX15_isDigit_3 (by decide) (fun c_1 => ?_) (fun c_1 => ?_)
  ·
    refine lv_iconst (v := 0) hx hb dX15_isDigit_16 (by decide) ?_
    refine W.widen (k := 0) (n := 0) (by omega) (by omega) ?_
    exact W.zret (v := 0) (ty := .boolean) hx hb hr (by decide) (fun t ht hWm => ⟨⟨0, (), rfl, (by first | exact Or.inl rfl | exact Or.inr rfl), ⟨F, QTm.mk ht hP hD hO hR⟩⟩, hS.F ht⟩) hS.2.2 dX15_isDigit_17
  ·
    refine lv_iload_n hx hb dX15_isDigit_6 rfl (lv_at hl 0 rfl) ?_
    refine lv_bipush (v := 57) hx hb dX15_isDigit_7 (by decide) ?_
    refine lv_icmp_gt (tgt := 16) hx hb dX15_isDigit_9 (by decide) (fun c_2 => ?_) (fun c_2 => ?_)
    ·
      refine lv_iconst (v := 0) hx hb dX15_isDigit_16 (by decide) ?_
      refine W.widen (k := 0) (n := 0) (by omega) (by omega) ?_
      exact W.zret (v := 0) (ty := .boolean) hx hb hr (by decide) (fun t ht hWm => ⟨⟨0, (), rfl, (by first | exact Or.inl rfl | exact Or.inr rfl), ⟨F, QTm.mk ht hP hD hO hR⟩⟩, hS.F ht⟩) hS.2.2 dX15_isDigit_17
    ·
      refine lv_iconst (v := 1) hx hb dX15_isDigit_12 (by decide) ?_
      refine lv_goto (tgt := 17) hx hb dX15_isDigit_13 (by decide) ?_
      refine W.widen (k := 0) (n := 0) (by omega) (by omega) ?_
      exact W.zret (v := 1) (ty := .boolean) hx hb hr (by decide) (fun t ht hWm => ⟨⟨1, (), rfl, (by first | exact Or.inl rfl | exact Or.inr rfl), ⟨F, QTm.mk ht hP hD hO hR⟩⟩, hS.F ht⟩) hS.2.2 dX15_isDigit_17
set_option maxHeartbeats 4000000 in
set_option maxRecDepth 100000 in
theorem s_X15_isWhite (l : Launch) (dC : Nat → ClassId) (dI : Nat → Nat → Nat) (cs : Nat → ClassId) (ty : TyM) (gm : Nat → Nat → Nat) (L : List Nat) (sz : Nat) (F : Nat → va_E) (x1 : Int32) (hW : WTm ty gm L) : Met l yX15_isWhite (.code yX15_isWhite cX15_isWhite 1 (some .boolean) :: tb) ({ frames := 0, cells := 0, slots := 0, locals := 0 }) (va_Pc [.int x1] (PTm (dC, dI) cs ty gm L F sz)) (va_Qi (fun (r : Int32) (_ : Unit) => (r = 0 ∨ r = 1)) (fun _ T9 => ∃ F2 : Nat → va_E, QTm (dC, dI) cs ty gm L [] F F2 (va_A (va_pl L F) sz) T9) (va_A (va_pl L F) sz)) 0 0 (va_A (va_pl L F) sz) := by
  refine Met.ofW (cc := cX15_isWhite) (maxL := 1) (ret := (some .boolean)) (by decide) rfl ?_
  intro p e s m args below meth c s₁ B hml hv
  obtain ⟨rfl, hsz, hP, hK, hD0, hE, hO⟩ := hv
  have hx := B.exec
  have hb := B.bytes
  have hr := B.returns
  have hts : ∀ w ∈ tb, w.before _ s = true := fun w h => atoms_spec (ws := .code yX15_isWhite cX15_isWhite 1 (some .boolean) :: tb) B.pre w (List.mem_cons_of_mem _ h)
  have hown : s.vm.findClass RX15 = some m.cls := findClass_of_methodNamed B.named
  have hlocks := B.notSynchronized
  subst hsz
  have hD := hD0.self (sz := s.heap.size)
  generalize hAe : va_A (va_pl L F) s.heap.size = A at hD ⊢
  have hA : ∀ q : Nat, s.heap.size ≤ q → A q := fun q h => by rw [← hAe]; exact Or.inr h
  have hS : va_S A s.heap s.heap [] := va_S.rf
  have hR : FR ty [] F F := FR.refl
  have hl := lv_entry ([.int x1]) (n := 1) (Nat.le_of_ble_eq_true rfl)
  rw [lg_entry_eq]
  generalize (lg_sl ([.int x1]) ++ List.replicate (1 - (lg_sl ([.int x1])).length) Slot.unset).toArray = ls at hl ⊢
  have hl : lv_has ls 1 [(0, .int x1)] := hl
  refine lv_iload_n hx hb dX15_isWhite_0 rfl (lv_at hl 0 rfl) ?_
  refine lv_bipush (v := 32) hx hb dX15_isWhite_1 (by decide) ?_
  refine lv_icmp_eq (tgt := 12) hx hb dX15_isWhite_3 (by decide) (fun c_1 => ?_) (fun c_1 => ?_)
  ·
    refine lv_iconst (v := 1) hx hb dX15_isWhite_12 (by decide) ?_
    refine lv_goto (tgt := 17) hx hb dX15_isWhite_13 (by decide) ?_
    refine W.widen (k := 0) (n := 0) (by omega) (by omega) ?_
    exact W.zret (v := 1) (ty := .boolean) hx hb hr (by decide) (fun t ht hWm => ⟨⟨1, (), rfl, (by first | exact Or.inl rfl | exact Or.inr rfl), ⟨F, QTm.mk ht hP hD hO hR⟩⟩, hS.F ht⟩) hS.2.2 dX15_isWhite_17
  ·
    refine lv_iload_n hx hb dX15_isWhite_6 rfl (lv_at hl 0 rfl) ?_
    refine lv_bipush (v := 9) hx hb dX15_isWhite_7 (by decide) ?_
    refine lv_icmp_ne (tgt := 16) hx hb dX15_isWhite_9 (by decide) (fun c_2 => ?_) (fun c_2 => ?_)
    ·
      refine lv_iconst (v := 0) hx hb dX15_isWhite_16 (by decide) ?_
      refine W.widen (k := 0) (n := 0) (by omega) (by omega) ?_
      exact W.zret (v := 0) (ty := .boolean) hx hb hr (by decide) (fun t ht hWm => ⟨⟨0, (), rfl, (by first | exact Or.inl rfl | exact Or.inr rfl), ⟨F, QTm.mk ht hP hD hO hR⟩⟩, hS.F ht⟩) hS.2.2 dX15_isWhite_17
    ·
      refine lv_iconst (v := 1) hx hb dX15_isWhite_12 (by decide) ?_
      refine lv_goto (tgt := 17) hx hb dX15_isWhite_13 (by decide) ?_
      refine W.widen (k := 0) (n := 0) (by omega) (by omega) ?_
      exact W.zret (v := 1) (ty := .boolean) hx hb hr (by decide) (fun t ht hWm => ⟨⟨1, (), rfl, (by first | exact Or.inl rfl | exact Or.inr rfl), ⟨F, QTm.mk ht hP hD hO hR⟩⟩, hS.F ht⟩) hS.2.2 dX15_isWhite_17
set_option maxHeartbeats 4000000 in
set_option maxRecDepth 100000 in
theorem s_X15_isLetter (l : Launch) (dC : Nat → ClassId) (dI : Nat → Nat → Nat) (cs : Nat → ClassId) (ty : TyM) (gm : Nat → Nat → Nat) (L : List Nat) (sz : Nat) (F : Nat → va_E) (x1 : Int32) (hW : WTm ty gm L) : Met l yX15_isLetter (.code yX15_isLetter cX15_isLetter 1 (some .boolean) :: tb) ({ frames := 1, cells := 0, slots := 0, locals := 20 }) (va_Pc [.int x1] (PTm (dC, dI) cs ty gm L F sz)) (va_Qi (fun (r : Int32) (_ : Unit) => (r = 0 ∨ r = 1)) (fun _ T9 => ∃ F2 : Nat → va_E, QTm (dC, dI) cs ty gm L [] F F2 (va_A (va_pl L F) sz) T9) (va_A (va_pl L F) sz)) 0 0 (va_A (va_pl L F) sz) := by
  refine Met.ofW (cc := cX15_isLetter) (maxL := 1) (ret := (some .boolean)) (by decide) rfl ?_
  intro p e s m args below meth c s₁ B hml hv
  obtain ⟨rfl, hsz, hP, hK, hD0, hE, hO⟩ := hv
  have hx := B.exec
  have hb := B.bytes
  have hr := B.returns
  have hts : ∀ w ∈ tb, w.before _ s = true := fun w h => atoms_spec (ws := .code yX15_isLetter cX15_isLetter 1 (some .boolean) :: tb) B.pre w (List.mem_cons_of_mem _ h)
  have hown : s.vm.findClass RX15 = some m.cls := findClass_of_methodNamed B.named
  have hlocks := B.notSynchronized
  subst hsz
  have hD := hD0.self (sz := s.heap.size)
  generalize hAe : va_A (va_pl L F) s.heap.size = A at hD ⊢
  have hA : ∀ q : Nat, s.heap.size ≤ q → A q := fun q h => by rw [← hAe]; exact Or.inr h
  have hS : va_S A s.heap s.heap [] := va_S.rf
  have hR : FR ty [] F F := FR.refl
  have hl := lv_entry ([.int x1]) (n := 1) (Nat.le_of_ble_eq_true rfl)
  rw [lg_entry_eq]
  generalize (lg_sl ([.int x1]) ++ List.replicate (1 - (lg_sl ([.int x1])).length) Slot.unset).toArray = ls at hl ⊢
  have hl : lv_has ls 1 [(0, .int x1)] := hl
  refine lv_iload_n hx hb dX15_isLetter_0 rfl (lv_at hl 0 rfl) ?_
  have hFc := pg_free hD hS hA
  refine va_calli (va_runS (As := [.int x1]) (rest := []) ⟨hx, hb, hml, hown, hts⟩ (s_X15_isSmall l dC dI cs ty gm L s.heap.size F x1 hW ) ⟨callB_of 1 hts (gi kt_668) rfl rfl rfl (hts _ kt_669) (hts _ kt_670) (by decide +kernel) ⟨Nat.le_of_ble_eq_true rfl, Nat.le_of_ble_eq_true rfl⟩, (hts _ kt_671)⟩ ⟨fun a U g mk q => ⟨q.1, PTm.calling q.2⟩, fun U hU hWm => ⟨rfl, PTm.mk hU hWm hP hK hD hE hO⟩⟩ rfl rfl hl.1 rfl (lv_room (Nat.le_of_ble_eq_true rfl)) dX15_isLetter_1 ⟨by show _ + 0 ≤ 0; omega, by show _ + 0 ≤ 0; omega⟩) hS (fun q _ h => hFc q h) hFc (fun r_1 u t H1 locs ht hvm hw hB hz1 hk1 hS => ?_)
  obtain ⟨F_2, hB1⟩ := hB
  obtain rfl : F = F_2 := (funext (fun a => hB1.2.2.2 a List.not_mem_nil)).symm
  obtain ⟨hP, hD, hO, hR⟩ := QTm.back hB1 ht hFc hR (fun q h => absurd h List.not_mem_nil)
  generalize H1 = H at hP hS ⊢
  have hw : (r_1 = 0 ∨ r_1 = 1) := hw
  have hw_3 := hw
  refine lv_if_ne (tgt := 19) hx hb dX15_isLetter_4 (by decide) (fun c_4 => ?_) (fun c_4 => ?_)
  ·
    refine lv_iconst (v := 1) hx hb dX15_isLetter_19 (by decide) ?_
    refine lv_goto (tgt := 24) hx hb dX15_isLetter_20 (by decide) ?_
    refine W.widen (k := 0) (n := 0) (by omega) (by omega) ?_
    exact W.zret (v := 1) (ty := .boolean) hx hb hr (by decide) (fun t ht hWm => ⟨⟨1, (), rfl, (by first | exact Or.inl rfl | exact Or.inr rfl), ⟨F, QTm.mk ht hP hD hO hR⟩⟩, hS.F ht⟩) hS.2.2 dX15_isLetter_24
  ·
    refine lv_iload_n hx hb dX15_isLetter_7 rfl (lv_at hl 0 rfl) ?_
    refine lv_bipush (v := 65) hx hb dX15_isLetter_8 (by decide) ?_
    refine lv_icmp_lt (tgt := 23) hx hb dX15_isLetter_10 (by decide) (fun c_5 => ?_) (fun c_5 => ?_)
    ·
      refine lv_iconst (v := 0) hx hb dX15_isLetter_23 (by decide) ?_
      refine W.widen (k := 0) (n := 0) (by omega) (by omega) ?_
      exact W.zret (v := 0) (ty := .boolean) hx hb hr (by decide) (fun t ht hWm => ⟨⟨0, (), rfl, (by first | exact Or.inl rfl | exact Or.inr rfl), ⟨F, QTm.mk ht hP hD hO hR⟩⟩, hS.F ht⟩) hS.2.2 dX15_isLetter_24
    ·
      refine lv_iload_n hx hb dX15_isLetter_13 rfl (lv_at hl 0 rfl) ?_
      refine lv_bipush (v := 90) hx hb dX15_isLetter_14 (by decide) ?_
      refine lv_icmp_gt (tgt := 23) hx hb dX15_isLetter_16 (by decide) (fun c_6 => ?_) (fun c_6 => ?_)
      ·
        refine lv_iconst (v := 0) hx hb dX15_isLetter_23 (by decide) ?_
        refine W.widen (k := 0) (n := 0) (by omega) (by omega) ?_
        exact W.zret (v := 0) (ty := .boolean) hx hb hr (by decide) (fun t ht hWm => ⟨⟨0, (), rfl, (by first | exact Or.inl rfl | exact Or.inr rfl), ⟨F, QTm.mk ht hP hD hO hR⟩⟩, hS.F ht⟩) hS.2.2 dX15_isLetter_24
      ·
        refine lv_iconst (v := 1) hx hb dX15_isLetter_19 (by decide) ?_
        refine lv_goto (tgt := 24) hx hb dX15_isLetter_20 (by decide) ?_
        refine W.widen (k := 0) (n := 0) (by omega) (by omega) ?_
        exact W.zret (v := 1) (ty := .boolean) hx hb hr (by decide) (fun t ht hWm => ⟨⟨1, (), rfl, (by first | exact Or.inl rfl | exact Or.inr rfl), ⟨F, QTm.mk ht hP hD hO hR⟩⟩, hS.F ht⟩) hS.2.2 dX15_isLetter_24
set_option maxHeartbeats 4000000 in
set_option maxRecDepth 100000 in
theorem s_X15_small (l : Launch) (dC : Nat → ClassId) (dI : Nat → Nat → Nat) (cs : Nat → ClassId) (ty : TyM) (gm : Nat → Nat → Nat) (L : List Nat) (sz : Nat) (F : Nat → va_E) (x1 : Int32) (hW : WTm ty gm L) : Met l yX15_small (.code yX15_small cX15_small 1 (some .int) :: tb) ({ frames := 0, cells := 0, slots := 0, locals := 0 }) (va_Pc [.int x1] (PTm (dC, dI) cs ty gm L F sz)) (va_Qi (fun (r : Int32) (_ : Unit) => True) (fun _ T9 => ∃ F2 : Nat → va_E, QTm (dC, dI) cs ty gm L [] F F2 (va_A (va_pl L F) sz) T9) (va_A (va_pl L F) sz)) 0 0 (va_A (va_pl L F) sz) := by
  refine Met.ofW (cc := cX15_small) (maxL := 1) (ret := (some .int)) (by decide) rfl ?_
  intro p e s m args below meth c s₁ B hml hv
  obtain ⟨rfl, hsz, hP, hK, hD0, hE, hO⟩ := hv
  have hx := B.exec
  have hb := B.bytes
  have hr := B.returns
  have hts : ∀ w ∈ tb, w.before _ s = true := fun w h => atoms_spec (ws := .code yX15_small cX15_small 1 (some .int) :: tb) B.pre w (List.mem_cons_of_mem _ h)
  have hown : s.vm.findClass RX15 = some m.cls := findClass_of_methodNamed B.named
  have hlocks := B.notSynchronized
  subst hsz
  have hD := hD0.self (sz := s.heap.size)
  generalize hAe : va_A (va_pl L F) s.heap.size = A at hD ⊢
  have hA : ∀ q : Nat, s.heap.size ≤ q → A q := fun q h => by rw [← hAe]; exact Or.inr h
  have hS : va_S A s.heap s.heap [] := va_S.rf
  have hR : FR ty [] F F := FR.refl
  have hl := lv_entry ([.int x1]) (n := 1) (Nat.le_of_ble_eq_true rfl)
  rw [lg_entry_eq]
  generalize (lg_sl ([.int x1]) ++ List.replicate (1 - (lg_sl ([.int x1])).length) Slot.unset).toArray = ls at hl ⊢
  have hl : lv_has ls 1 [(0, .int x1)] := hl
  refine lv_iload_n hx hb dX15_small_0 rfl (lv_at hl 0 rfl) ?_
  refine lv_bipush (v := 65) hx hb dX15_small_1 (by decide) ?_
  refine lv_icmp_lt (tgt := 19) hx hb dX15_small_3 (by decide) (fun c_1 => ?_) (fun c_1 => ?_)
  ·
    refine lv_iload_n hx hb dX15_small_19 rfl (lv_at hl 0 rfl) ?_
    refine W.widen (k := 0) (n := 0) (by omega) (by omega) ?_
    exact W.iret (v := x1) hx hb hr (fun t ht hWm => ⟨⟨x1, (), rfl, trivial, ⟨F, QTm.mk ht hP hD hO hR⟩⟩, hS.F ht⟩) hS.2.2 dX15_small_20
  ·
    refine lv_iload_n hx hb dX15_small_6 rfl (lv_at hl 0 rfl) ?_
    refine lv_bipush (v := 90) hx hb dX15_small_7 (by decide) ?_
    refine lv_icmp_gt (tgt := 19) hx hb dX15_small_9 (by decide) (fun c_2 => ?_) (fun c_2 => ?_)
    ·
      refine lv_iload_n hx hb dX15_small_19 rfl (lv_at hl 0 rfl) ?_
      refine W.widen (k := 0) (n := 0) (by omega) (by omega) ?_
      exact W.iret (v := x1) hx hb hr (fun t ht hWm => ⟨⟨x1, (), rfl, trivial, ⟨F, QTm.mk ht hP hD hO hR⟩⟩, hS.F ht⟩) hS.2.2 dX15_small_20
    ·
      refine lv_iload_n hx hb dX15_small_12 rfl (lv_at hl 0 rfl) ?_
      refine lv_bipush (v := 32) hx hb dX15_small_13 (by decide) ?_
      refine lv_iadd hx hb dX15_small_15 ?_
      refine lv_topi (fun x_3 _ => ?_)
      refine lv_goto (tgt := 20) hx hb dX15_small_16 (by decide) ?_
      refine W.widen (k := 0) (n := 0) (by omega) (by omega) ?_
      exact W.iret (v := x_3) hx hb hr (fun t ht hWm => ⟨⟨x_3, (), rfl, trivial, ⟨F, QTm.mk ht hP hD hO hR⟩⟩, hS.F ht⟩) hS.2.2 dX15_small_20
set_option maxHeartbeats 4000000 in
set_option maxRecDepth 100000 in
theorem s_X15_in (l : Launch) (dC : Nat → ClassId) (dI : Nat → Nat → Nat) (cs : Nat → ClassId) (ty : TyM) (gm : Nat → Nat → Nat) (L : List Nat) (sz : Nat) (F : Nat → va_E) (x1 : Int64) (x2 : Int64) (x3 : Int64) (hW : WTm ty gm L) : Met l yX15_in (.code yX15_in cX15_in 6 (some .boolean) :: tb) ({ frames := 0, cells := 0, slots := 0, locals := 0 }) (va_Pc [.long x1, .long x2, .long x3] (PTm (dC, dI) cs ty gm L F sz)) (va_Qi (fun (r : Int32) (_ : Unit) => r = (if x2 ≤ x1 ∧ x1 ≤ x3 then 1 else 0)) (fun _ T9 => ∃ F2 : Nat → va_E, QTm (dC, dI) cs ty gm L [] F F2 (va_A (va_pl L F) sz) T9) (va_A (va_pl L F) sz)) 0 0 (va_A (va_pl L F) sz) := by
  refine Met.ofW (cc := cX15_in) (maxL := 6) (ret := (some .boolean)) (by decide) rfl ?_
  intro p e s m args below meth c s₁ B hml hv
  obtain ⟨rfl, hsz, hP, hK, hD0, hE, hO⟩ := hv
  have hx := B.exec
  have hb := B.bytes
  have hr := B.returns
  have hts : ∀ w ∈ tb, w.before _ s = true := fun w h => atoms_spec (ws := .code yX15_in cX15_in 6 (some .boolean) :: tb) B.pre w (List.mem_cons_of_mem _ h)
  have hown : s.vm.findClass RX15 = some m.cls := findClass_of_methodNamed B.named
  have hlocks := B.notSynchronized
  subst hsz
  have hD := hD0.self (sz := s.heap.size)
  generalize hAe : va_A (va_pl L F) s.heap.size = A at hD ⊢
  have hA : ∀ q : Nat, s.heap.size ≤ q → A q := fun q h => by rw [← hAe]; exact Or.inr h
  have hS : va_S A s.heap s.heap [] := va_S.rf
  have hR : FR ty [] F F := FR.refl
  have hl := lv_entry ([.long x1, .long x2, .long x3]) (n := 6) (Nat.le_of_ble_eq_true rfl)
  rw [lg_entry_eq]
  generalize (lg_sl ([.long x1, .long x2, .long x3]) ++ List.replicate (6 - (lg_sl ([.long x1, .long x2, .long x3])).length) Slot.unset).toArray = ls at hl ⊢
  have hl : lv_has ls 6 [(0, .long x1), (2, .long x2), (4, .long x3)] := hl
  refine lv_lload_n hx hb dX15_in_0 rfl (lv_at hl 0 rfl) ?_
  refine lv_lload_n hx hb dX15_in_1 rfl (lv_at hl 1 rfl) ?_
  refine W.lcmp hx hb dX15_in_2 ?_
  refine lv_topi (fun x_1 ex_1 => ?_)
  refine lv_if_lt (tgt := 17) hx hb dX15_in_3 (by decide) (fun c_2 => ?_) (fun c_2 => ?_)
  ·
    refine lv_iconst (v := 0) hx hb dX15_in_17 (by decide) ?_
    refine W.widen (k := 0) (n := 0) (by omega) (by omega) ?_
    exact W.zret (v := 0) (ty := .boolean) hx hb hr (by decide) (fun t ht hWm => ⟨⟨0, (), rfl, (by rw [if_neg]; rintro ⟨h1, -⟩; rw [ex_1, lg_cmp_lt] at c_2; exact absurd h1 (Int64.not_le.mpr c_2)), ⟨F, QTm.mk ht hP hD hO hR⟩⟩, hS.F ht⟩) hS.2.2 dX15_in_18
  ·
    refine lv_lload_n hx hb dX15_in_6 rfl (lv_at hl 0 rfl) ?_
    refine lv_lload hx hb dX15_in_7 (lv_at hl 2 rfl) ?_
    refine W.lcmp hx hb dX15_in_9 ?_
    refine lv_topi (fun x_3 ex_3 => ?_)
    refine lv_if_gt (tgt := 17) hx hb dX15_in_10 (by decide) (fun c_4 => ?_) (fun c_4 => ?_)
    ·
      refine lv_iconst (v := 0) hx hb dX15_in_17 (by decide) ?_
      refine W.widen (k := 0) (n := 0) (by omega) (by omega) ?_
      exact W.zret (v := 0) (ty := .boolean) hx hb hr (by decide) (fun t ht hWm => ⟨⟨0, (), rfl, (by rw [if_neg]; rintro ⟨-, h1⟩; rw [ex_3, lg_cmp_gt] at c_4; exact absurd h1 (Int64.not_le.mpr c_4)), ⟨F, QTm.mk ht hP hD hO hR⟩⟩, hS.F ht⟩) hS.2.2 dX15_in_18
    ·
      refine lv_iconst (v := 1) hx hb dX15_in_13 (by decide) ?_
      refine lv_goto (tgt := 18) hx hb dX15_in_14 (by decide) ?_
      refine W.widen (k := 0) (n := 0) (by omega) (by omega) ?_
      exact W.zret (v := 1) (ty := .boolean) hx hb hr (by decide) (fun t ht hWm => ⟨⟨1, (), rfl, (by rw [if_pos]; rw [ex_1, lg_cmp_lt] at c_2; rw [ex_3, lg_cmp_gt] at c_4; exact ⟨Int64.not_lt.mp c_2, Int64.not_lt.mp c_4⟩), ⟨F, QTm.mk ht hP hD hO hR⟩⟩, hS.F ht⟩) hS.2.2 dX15_in_18
set_option maxHeartbeats 4000000 in
set_option maxRecDepth 100000 in
theorem s_X14_add (l : Launch) (dC : Nat → ClassId) (dI : Nat → Nat → Nat) (cs : Nat → ClassId) (ty : TyM) (gm : Nat → Nat → Nat) (L : List Nat) (sz : Nat) (F : Nat → va_E) (h0 : Nat) (ρ : Nat) (r0 : Nat) (n : Nat) (z : Nat) (x1 : Int32) (hW : WTm ty gm L) (hL_h0 : h0 ∈ L) (hT_h0 : ty h0 = (14, ρ, [r0, n])) (hF0 : F h0 = .inr (14, [.ref r0, .int (nI z)])) (hz : z < n) : Met l yX14_add (.code yX14_add cX14_add 2 none :: tb) ({ frames := 0, cells := 0, slots := 0, locals := 0 }) (va_Pc [.ref h0, .int x1] (PTm (dC, dI) cs ty gm L F sz)) (va_Qv (fun _ : Unit => True) (fun _ T9 => ∃ F2 : Nat → va_E, QTm (dC, dI) cs ty gm L [ρ] F F2 (va_A (va_pl L F) sz) T9 ∧ F2 h0 = .inr (14, [.ref r0, .int (nI (z + 1))])) (va_A (va_pl L F) sz)) 0 0 (va_A (va_pl L F) sz) := by
  refine Met.ofW (cc := cX14_add) (maxL := 2) (ret := none) (by decide) rfl ?_
  intro p e s m args below meth c s₁ B hml hv
  obtain ⟨rfl, hsz, hP, hK, hD0, hE, hO⟩ := hv
  have hx := B.exec
  have hb := B.bytes
  have hr := B.returns
  have hts : ∀ w ∈ tb, w.before _ s = true := fun w h => atoms_spec (ws := .code yX14_add cX14_add 2 none :: tb) B.pre w (List.mem_cons_of_mem _ h)
  have hown : s.vm.findClass RX14 = some m.cls := findClass_of_methodNamed B.named
  have hlocks := B.notSynchronized
  subst hsz
  have hD := hD0.self (sz := s.heap.size)
  generalize hAe : va_A (va_pl L F) s.heap.size = A at hD ⊢
  have hA : ∀ q : Nat, s.heap.size ≤ q → A q := fun q h => by rw [← hAe]; exact Or.inr h
  have hS : va_S A s.heap s.heap [] := va_S.rf
  have hR : FR ty [ρ] F F := FR.refl
  have hl := lv_entry ([.ref h0, .int x1]) (n := 2) (Nat.le_of_ble_eq_true rfl)
  rw [lg_entry_eq]
  generalize (lg_sl ([.ref h0, .int x1]) ++ List.replicate (2 - (lg_sl ([.ref h0, .int x1])).length) Slot.unset).toArray = ls at hl ⊢
  have hl : lv_has ls 2 [(0, .ref h0), (1, .int x1)] := hl
  refine lv_aload_n hx hb dX14_add_0 rfl (lv_at hl 0 rfl) ?_
  obtain ⟨hi_1, ht_2, hq_3⟩ := hW.txt hL_h0 hT_h0
  refine pg_get (ci := 14) (v := .ref r0) (C := RX14) (T := TX14) (N := 2) hx hb hts it_14 hown hK hP hL_h0 hF0 rfl 0 (by decide) (hts _ kt_672) (fun _ h9 => h9) rfl dX14_add_1 ?_
  refine lv_aload_n hx hb dX14_add_4 rfl (lv_at hl 0 rfl) ?_
  refine pg_get (ci := 14) (v := .int (nI z)) (C := RX14) (T := TX14) (N := 2) hx hb hts it_14 hown hK hP hL_h0 hF0 rfl 1 (by decide) (hts _ kt_673) (fun _ h9 => h9) rfl dX14_add_5 ?_
  refine lv_iload_n hx hb dX14_add_8 rfl (lv_at hl 1 rfl) ?_
  refine lv_i2b hx hb dX14_add_9 rfl ?_
  refine lv_topi (fun x_4 _ => ?_)
  obtain ⟨hq_5, hq_6⟩ := hW.octs hi_1 ht_2
  obtain ⟨f_7, hF_8, hq_9⟩ := hO.octs hi_1 ht_2
  refine pg_bast hx hb hK hP hD hS hi_1 1 hF_8 rfl (vp_in_nI (by omega) (by omega)) dX14_add_10 (fun H locs hP hD hS => ?_)
  obtain ⟨F_10, he_11, hP, hD, hO, hR⟩ : ∃ G, G = va_up F r0 (.inl (cs 17, n, .inl (upd f_7 ((nI z)).toNatClampNeg (vp_nar .byte (x_4))))) ∧ va_P (dC, dI) vwCl (va_pl L G) H ∧ va_D A (va_pl L G) ∧ OKm cs ty gm L G ∧ FR ty [ρ] F G := ⟨_, rfl, hP, hD, hO.up (shm.octs ht_2 ⟨_, rfl, bfm_upd hq_9 _ _⟩), hR.up ht_2 (by simp)⟩
  have hF_12 : F_10 r0 = .inl (cs 17, n, .inl (upd f_7 ((nI z)).toNatClampNeg (vp_nar .byte (x_4)))) := by rw [he_11]; exact up_self
  have hF_13 : F_10 h0 = .inr (14, [.ref r0, .int (nI z)]) := by rw [he_11, up_ne (ne_ty hT_h0 ht_2 (by simp))]; exact hF0
  obtain ⟨f_14, hF_12, hq_15⟩ : ∃ f : Nat → Int32, F_10 r0 = .inl (cs 17, n, .inl f) ∧ BFm f := ⟨_, hF_12, bfm_upd hq_9 _ _⟩
  refine lv_aload_n hx hb dX14_add_11 rfl (lv_at hl 0 rfl) ?_
  refine lv_dup hx hb dX14_add_12 rfl ?_
  refine pg_get (ci := 14) (v := .int (nI z)) (C := RX14) (T := TX14) (N := 2) hx hb hts it_14 hown hK hP hL_h0 hF_13 rfl 1 (by decide) (hts _ kt_673) (fun _ h9 => h9) rfl dX14_add_13 ?_
  refine lv_iconst (v := 1) hx hb dX14_add_16 (by decide) ?_
  refine lv_iadd hx hb dX14_add_17 ?_
  refine lv_topi (fun x_16 ex_16 => ?_)
  obtain rfl : x_16 = (nI (z + 1)) := ex_16.trans (nI_add z 1)
  refine pg_put (ci := 14) (v := .int (nI (z + 1))) (ty := .int) (C := RX14) (T := TX14) (N := 2) hx hb hts it_14 tyX14 tyX14_ok nmX14 hown hK hP hD hS hL_h0 hF_13 rfl 1 (by decide) (hts _ kt_673) (fun _ h9 => h9) rfl (by decide +kernel) (rfl) (rfl) (Nat.le_of_ble_eq_true rfl) dX14_add_18 (fun H locs hP hD hS => ?_)
  obtain ⟨F_17, he_18, hP, hD, hO, hR⟩ : ∃ G, G = va_up F_10 h0 (.inr (14, [.ref r0, .int (nI (z + 1))])) ∧ va_P (dC, dI) vwCl (va_pl L G) H ∧ va_D A (va_pl L G) ∧ OKm cs ty gm L G ∧ FR ty [ρ] F G := ⟨_, rfl, hP, hD, hO.up (shm.txt hT_h0 ⟨(z + 1), rfl, (by first | omega | assumption | exact Or.inl rfl | exact Or.inr rfl)⟩), hR.up hT_h0 (by simp)⟩
  have hF_19 : F_17 h0 = .inr (14, [.ref r0, .int (nI (z + 1))]) := by rw [he_18]; exact up_self
  have hF_20 : F_17 r0 = .inl (cs 17, n, .inl f_14) := by rw [he_18, up_ne (ne_ty ht_2 hT_h0 (by simp))]; exact hF_12
  refine W.widen (k := 0) (n := 0) (by omega) (by omega) ?_
  exact W.vret hx hb hr (fun t ht hWm => ⟨⟨(), rfl, trivial, ⟨F_17, QTm.mk ht hP hD hO hR, hF_19⟩⟩, hS.F ht⟩) hS.2.2 dX14_add_21
set_option maxHeartbeats 4000000 in
set_option maxRecDepth 100000 in
theorem s_X14_add_ (l : Launch) (dC : Nat → ClassId) (dI : Nat → Nat → Nat) (cs : Nat → ClassId) (ty : TyM) (gm : Nat → Nat → Nat) (L : List Nat) (sz : Nat) (F : Nat → va_E) (h0 : Nat) (ρ : Nat) (r0 : Nat) (n : Nat) (g1 : Nat) (σ : Nat) (n1 : Nat) (z : Nat) (a : Nat) (tt : Nat) (hW : WTm ty gm L) (hL_h0 : h0 ∈ L) (hT_h0 : ty h0 = (14, ρ, [r0, n])) (hL_g1 : g1 ∈ L) (hT_g1 : ty g1 = (17, σ, [n1])) (hF0 : F h0 = .inr (14, [.ref r0, .int (nI z)])) (hat : a ≤ tt) (htn : tt ≤ n1) (hfit : z + (tt - a) ≤ n) : Met l yX14_add_ (.code yX14_add_ cX14_add_ 4 none :: tb) ({ frames := 1, cells := 0, slots := 0, locals := 48 }) (va_Pc [.ref h0, .ref g1, .int (nI a), .int (nI tt)] (PTm (dC, dI) cs ty gm L F sz)) (va_Qv (fun _ : Unit => True) (fun _ T9 => ∃ F2 : Nat → va_E, QTm (dC, dI) cs ty gm L [ρ] F F2 (va_A (va_pl L F) sz) T9 ∧ F2 h0 = .inr (14, [.ref r0, .int (nI (z + (tt - a)))])) (va_A (va_pl L F) sz)) 0 0 (va_A (va_pl L F) sz) := by
  refine Met.ofW (cc := cX14_add_) (maxL := 4) (ret := none) (by decide) rfl ?_
  intro p e s m args below meth c s₁ B hml hv
  obtain ⟨rfl, hsz, hP, hK, hD0, hE, hO⟩ := hv
  have hx := B.exec
  have hb := B.bytes
  have hr := B.returns
  have hts : ∀ w ∈ tb, w.before _ s = true := fun w h => atoms_spec (ws := .code yX14_add_ cX14_add_ 4 none :: tb) B.pre w (List.mem_cons_of_mem _ h)
  have hown : s.vm.findClass RX14 = some m.cls := findClass_of_methodNamed B.named
  have hlocks := B.notSynchronized
  subst hsz
  have hD := hD0.self (sz := s.heap.size)
  generalize hAe : va_A (va_pl L F) s.heap.size = A at hD ⊢
  have hA : ∀ q : Nat, s.heap.size ≤ q → A q := fun q h => by rw [← hAe]; exact Or.inr h
  have hS : va_S A s.heap s.heap [] := va_S.rf
  have hR : FR ty [ρ] F F := FR.refl
  have hl := lv_entry ([.ref h0, .ref g1, .int (nI a), .int (nI tt)]) (n := 4) (Nat.le_of_ble_eq_true rfl)
  rw [lg_entry_eq]
  generalize (lg_sl ([.ref h0, .ref g1, .int (nI a), .int (nI tt)]) ++ List.replicate (4 - (lg_sl ([.ref h0, .ref g1, .int (nI a), .int (nI tt)])).length) Slot.unset).toArray = ls at hl ⊢
  have hl : lv_has ls 4 [(0, .ref h0), (1, .ref g1), (2, .int (nI a)), (3, .int (nI tt))] := hl
  refine lv_aload_n hx hb dX14_add__0 rfl (lv_at hl 1 rfl) ?_
  refine lv_iload_n hx hb dX14_add__1 rfl (lv_at hl 2 rfl) ?_
  refine lv_aload_n hx hb dX14_add__2 rfl (lv_at hl 0 rfl) ?_
  obtain ⟨hi_1, ht_2, hq_3⟩ := hW.txt hL_h0 hT_h0
  refine pg_get (ci := 14) (v := .ref r0) (C := RX14) (T := TX14) (N := 2) hx hb hts it_14 hown hK hP hL_h0 hF0 rfl 0 (by decide) (hts _ kt_672) (fun _ h9 => h9) rfl dX14_add__3 ?_
  refine lv_aload_n hx hb dX14_add__6 rfl (lv_at hl 0 rfl) ?_
  refine pg_get (ci := 14) (v := .int (nI z)) (C := RX14) (T := TX14) (N := 2) hx hb hts it_14 hown hK hP hL_h0 hF0 rfl 1 (by decide) (hts _ kt_673) (fun _ h9 => h9) rfl dX14_add__7 ?_
  refine lv_iload_n hx hb dX14_add__10 rfl (lv_at hl 3 rfl) ?_
  refine lv_iload_n hx hb dX14_add__11 rfl (lv_at hl 2 rfl) ?_
  refine lv_isub hx hb dX14_add__12 ?_
  refine lv_topi (fun x_4 ex_4 => ?_)
  obtain rfl : x_4 = (nI (tt - a)) := ex_4.trans (pk_sub (a := tt) (b := a) (by omega))
  obtain ⟨hq_5, hq_6⟩ := hW.octs hL_g1 hT_g1
  obtain ⟨f_7, hF_8, hq_9⟩ := hO.octs hL_g1 hT_g1
  obtain ⟨hq_10, hq_11⟩ := hW.octs hi_1 ht_2
  obtain ⟨f_12, hF_13, hq_14⟩ := hO.octs hi_1 ht_2
  refine pg_copyi hx hb (by rw [hml]; exact hl.1.symm) hown (hts _ kt_674) (hts _ kt_29) (hts _ kt_30) (hts _ kt_31) hK hP hD hS hL_g1 hi_1 1 1 hF_8 hF_13 rfl rfl rfl (nI_pos (by omega)) (nI_pos (by omega)) (nI_pos (by omega)) (by rw [nI_clamp (by omega), nI_clamp (by omega)]; omega) (by rw [nI_clamp (by omega), nI_clamp (by omega)]; omega) (fun _ _ => hq_9 _) (Nat.le_of_ble_eq_true rfl) (by decide) dX14_add__13 (fun H locs hP hD hS => ?_)
  obtain ⟨F_15, he_16, hP, hD, hO, hR⟩ : ∃ G, G = va_up F r0 (.inl (cs 17, n, .inl (va_cpy f_7 f_12 ((nI a)).toNatClampNeg ((nI z)).toNatClampNeg ((nI (tt - a))).toNatClampNeg))) ∧ va_P (dC, dI) vwCl (va_pl L G) H ∧ va_D A (va_pl L G) ∧ OKm cs ty gm L G ∧ FR ty [ρ] F G := ⟨_, rfl, hP, hD, hO.up (shm.octs ht_2 ⟨_, rfl, bfm_cpy hq_9 hq_14 _ _ _⟩), hR.up ht_2 (by simp)⟩
  have hF_17 : F_15 r0 = .inl (cs 17, n, .inl (va_cpy f_7 f_12 ((nI a)).toNatClampNeg ((nI z)).toNatClampNeg ((nI (tt - a))).toNatClampNeg)) := by rw [he_16]; exact up_self
  have hF_18 : F_15 h0 = .inr (14, [.ref r0, .int (nI z)]) := by rw [he_16, up_ne (ne_ty hT_h0 ht_2 (by simp))]; exact hF0
  obtain ⟨f_19, hF_17, hq_20⟩ : ∃ f : Nat → Int32, F_15 r0 = .inl (cs 17, n, .inl f) ∧ BFm f := ⟨_, hF_17, bfm_cpy hq_9 hq_14 _ _ _⟩
  refine lv_aload_n hx hb dX14_add__16 rfl (lv_at hl 0 rfl) ?_
  refine lv_dup hx hb dX14_add__17 rfl ?_
  refine pg_get (ci := 14) (v := .int (nI z)) (C := RX14) (T := TX14) (N := 2) hx hb hts it_14 hown hK hP hL_h0 hF_18 rfl 1 (by decide) (hts _ kt_673) (fun _ h9 => h9) rfl dX14_add__18 ?_
  refine lv_iload_n hx hb dX14_add__21 rfl (lv_at hl 3 rfl) ?_
  refine lv_iload_n hx hb dX14_add__22 rfl (lv_at hl 2 rfl) ?_
  refine lv_isub hx hb dX14_add__23 ?_
  refine lv_topi (fun x_21 ex_21 => ?_)
  obtain rfl : x_21 = (nI (tt - a)) := ex_21.trans (pk_sub (a := tt) (b := a) (by omega))
  refine lv_iadd hx hb dX14_add__24 ?_
  refine lv_topi (fun x_22 ex_22 => ?_)
  obtain rfl : x_22 = (nI (z + (tt - a))) := ex_22.trans (nI_add z (tt - a))
  refine pg_put (ci := 14) (v := .int (nI (z + (tt - a)))) (ty := .int) (C := RX14) (T := TX14) (N := 2) hx hb hts it_14 tyX14 tyX14_ok nmX14 hown hK hP hD hS hL_h0 hF_18 rfl 1 (by decide) (hts _ kt_673) (fun _ h9 => h9) rfl (by decide +kernel) (rfl) (rfl) (Nat.le_of_ble_eq_true rfl) dX14_add__25 (fun H locs hP hD hS => ?_)
  obtain ⟨F_23, he_24, hP, hD, hO, hR⟩ : ∃ G, G = va_up F_15 h0 (.inr (14, [.ref r0, .int (nI (z + (tt - a)))])) ∧ va_P (dC, dI) vwCl (va_pl L G) H ∧ va_D A (va_pl L G) ∧ OKm cs ty gm L G ∧ FR ty [ρ] F G := ⟨_, rfl, hP, hD, hO.up (shm.txt hT_h0 ⟨(z + (tt - a)), rfl, (by first | omega | assumption | exact Or.inl rfl | exact Or.inr rfl)⟩), hR.up hT_h0 (by simp)⟩
  have hF_25 : F_23 h0 = .inr (14, [.ref r0, .int (nI (z + (tt - a)))]) := by rw [he_24]; exact up_self
  have hF_26 : F_23 r0 = .inl (cs 17, n, .inl f_19) := by rw [he_24, up_ne (ne_ty ht_2 hT_h0 (by simp))]; exact hF_17
  refine W.widen (k := 0) (n := 0) (by omega) (by omega) ?_
  exact W.vret hx hb hr (fun t ht hWm => ⟨⟨(), rfl, trivial, ⟨F_23, QTm.mk ht hP hD hO hR, hF_25⟩⟩, hS.F ht⟩) hS.2.2 dX14_add__28
set_option maxHeartbeats 4000000 in
set_option maxRecDepth 100000 in
theorem s_X14_set (l : Launch) (dC : Nat → ClassId) (dI : Nat → Nat → Nat) (cs : Nat → ClassId) (ty : TyM) (gm : Nat → Nat → Nat) (L : List Nat) (sz : Nat) (F : Nat → va_E) (h0 : Nat) (ρ : Nat) (r0 : Nat) (n : Nat) (g1 : Nat) (σ : Nat) (n1 : Nat) (a : Nat) (tt : Nat) (hW : WTm ty gm L) (hL_h0 : h0 ∈ L) (hT_h0 : ty h0 = (14, ρ, [r0, n])) (hL_g1 : g1 ∈ L) (hT_g1 : ty g1 = (17, σ, [n1])) (hat : a ≤ tt) (htn : tt ≤ n1) (hfit : tt - a ≤ n) : Met l yX14_set (.code yX14_set cX14_set 4 none :: tb) ({ frames := 2, cells := 0, slots := 0, locals := 71 }) (va_Pc [.ref h0, .ref g1, .int (nI a), .int (nI tt)] (PTm (dC, dI) cs ty gm L F sz)) (va_Qv (fun _ : Unit => True) (fun _ T9 => ∃ F2 : Nat → va_E, QTm (dC, dI) cs ty gm L [ρ] F F2 (va_A (va_pl L F) sz) T9 ∧ F2 h0 = .inr (14, [.ref r0, .int (nI (tt - a))])) (va_A (va_pl L F) sz)) 0 0 (va_A (va_pl L F) sz) := by
  refine Met.ofW (cc := cX14_set) (maxL := 4) (ret := none) (by decide) rfl ?_
  intro p e s m args below meth c s₁ B hml hv
  obtain ⟨rfl, hsz, hP, hK, hD0, hE, hO⟩ := hv
  have hx := B.exec
  have hb := B.bytes
  have hr := B.returns
  have hts : ∀ w ∈ tb, w.before _ s = true := fun w h => atoms_spec (ws := .code yX14_set cX14_set 4 none :: tb) B.pre w (List.mem_cons_of_mem _ h)
  have hown : s.vm.findClass RX14 = some m.cls := findClass_of_methodNamed B.named
  have hlocks := B.notSynchronized
  subst hsz
  have hD := hD0.self (sz := s.heap.size)
  generalize hAe : va_A (va_pl L F) s.heap.size = A at hD ⊢
  have hA : ∀ q : Nat, s.heap.size ≤ q → A q := fun q h => by rw [← hAe]; exact Or.inr h
  have hS : va_S A s.heap s.heap [] := va_S.rf
  have hR : FR ty [ρ] F F := FR.refl
  have hl := lv_entry ([.ref h0, .ref g1, .int (nI a), .int (nI tt)]) (n := 4) (Nat.le_of_ble_eq_true rfl)
  rw [lg_entry_eq]
  generalize (lg_sl ([.ref h0, .ref g1, .int (nI a), .int (nI tt)]) ++ List.replicate (4 - (lg_sl ([.ref h0, .ref g1, .int (nI a), .int (nI tt)])).length) Slot.unset).toArray = ls at hl ⊢
  have hl : lv_has ls 4 [(0, .ref h0), (1, .ref g1), (2, .int (nI a)), (3, .int (nI tt))] := hl
  refine lv_aload_n hx hb dX14_set_0 rfl (lv_at hl 0 rfl) ?_
  refine lv_iconst (v := 0) hx hb dX14_set_1 (by decide) ?_
  obtain ⟨hi_1, ht_2, hq_3⟩ := hW.txt hL_h0 hT_h0
  obtain ⟨z_4, hF_5, hq_6⟩ := hO.txt hL_h0 hT_h0
  refine pg_put (ci := 14) (v := .int 0) (ty := .int) (C := RX14) (T := TX14) (N := 2) hx hb hts it_14 tyX14 tyX14_ok nmX14 hown hK hP hD hS hL_h0 hF_5 rfl 1 (by decide) (hts _ kt_673) (fun _ h9 => h9) rfl (by decide +kernel) (rfl) (rfl) (Nat.le_of_ble_eq_true rfl) dX14_set_2 (fun H locs hP hD hS => ?_)
  obtain ⟨F_7, he_8, hP, hD, hO, hR⟩ : ∃ G, G = va_up F h0 (.inr (14, [.ref r0, .int 0])) ∧ va_P (dC, dI) vwCl (va_pl L G) H ∧ va_D A (va_pl L G) ∧ OKm cs ty gm L G ∧ FR ty [ρ] F G := ⟨_, rfl, hP, hD, hO.up (shm.txt hT_h0 ⟨0, rfl, (by first | omega | assumption | exact Or.inl rfl | exact Or.inr rfl)⟩), hR.up hT_h0 (by simp)⟩
  have hF_9 : F_7 h0 = .inr (14, [.ref r0, .int 0]) := by rw [he_8]; exact up_self
  refine lv_aload_n hx hb dX14_set_5 rfl (lv_at hl 0 rfl) ?_
  refine lv_aload_n hx hb dX14_set_6 rfl (lv_at hl 1 rfl) ?_
  refine lv_iload_n hx hb dX14_set_7 rfl (lv_at hl 2 rfl) ?_
  refine lv_iload_n hx hb dX14_set_8 rfl (lv_at hl 3 rfl) ?_
  obtain ⟨hq_10, hq_11⟩ := hW.octs hL_g1 hT_g1
  have hFc := pg_free hD hS hA
  refine va_callv (va_runV (As := [.ref g1, .int (nI a), .int (nI tt)]) (rest := []) ⟨hx, hb, hml, hown, hts⟩ (s_X14_add_ l dC dI cs ty gm L H.size F_7 h0 ρ r0 n g1 σ n1 0 a tt hW hL_h0 hT_h0 hL_g1 hT_g1 hF_9 (by first | omega | assumption | exact Or.inl rfl) (by first | omega | assumption | exact Or.inl rfl) (by first | omega | assumption | exact Or.inl rfl)) ⟨callB_of 3 hts (gi kt_675) rfl rfl rfl (hts _ kt_676) (hts _ kt_677) (by decide +kernel) ⟨Nat.le_of_ble_eq_true rfl, Nat.le_of_ble_eq_true rfl⟩, (hts _ kt_678), (hts _ kt_679)⟩ ⟨fun a U g mk q => ⟨q.1, PTm.calling q.2⟩, pg_recv hK hP hL_h0 hF_9 (q := (RX14, TX14, 2)) rfl, fun U hU hWm => ⟨rfl, PTm.mk hU hWm hP hK hD hE hO⟩⟩ rfl rfl hl.1 rfl (lv_room (Nat.le_of_ble_eq_true rfl)) dX14_set_9 ⟨by show _ + 0 ≤ 0; omega, by show _ + 0 ≤ 0; omega⟩) hS (fun q _ h => hFc q h) hFc (fun u t H1 locs ht hvm hw hB hz1 hk1 hS => ?_)
  obtain ⟨F_13, hB1, hq_14⟩ := hB
  obtain ⟨hP, hD, hO, hR⟩ := QTm.back hB1 ht hFc hR (fun q h => by simp only [List.mem_cons, List.not_mem_nil, or_false] at h ⊢; omega)
  generalize H1 = H at hP hS ⊢
  refine W.widen (k := 0) (n := 0) (by omega) (by omega) ?_
  exact W.vret hx hb hr (fun t ht hWm => ⟨⟨(), rfl, trivial, ⟨F_13, QTm.mk ht hP hD hO hR, (by rw [hq_14, Nat.zero_add])⟩⟩, hS.F ht⟩) hS.2.2 dX14_set_12
set_option maxHeartbeats 4000000 in
set_option maxRecDepth 100000 in
theorem s_X14_is (l : Launch) (dC : Nat → ClassId) (dI : Nat → Nat → Nat) (cs : Nat → ClassId) (ty : TyM) (gm : Nat → Nat → Nat) (L : List Nat) (sz : Nat) (F : Nat → va_E) (h0 : Nat) (ρ : Nat) (r0 : Nat) (n : Nat) (g1 : Nat) (σ : Nat) (n1 : Nat) (a : Nat) (tt : Nat) (hW : WTm ty gm L) (hL_h0 : h0 ∈ L) (hT_h0 : ty h0 = (14, ρ, [r0, n])) (hL_g1 : g1 ∈ L) (hT_g1 : ty g1 = (17, σ, [n1])) (ha : a ≤ 20000) (htn : tt ≤ n1) : Met l yX14_is (.code yX14_is cX14_is 5 (some .boolean) :: tb) ({ frames := 0, cells := 0, slots := 0, locals := 0 }) (va_Pc [.ref h0, .ref g1, .int (nI a), .int (nI tt)] (PTm (dC, dI) cs ty gm L F sz)) (va_Qi (fun (r : Int32) (_ : Unit) => (r = 0 ∨ r = 1)) (fun _ T9 => ∃ F2 : Nat → va_E, QTm (dC, dI) cs ty gm L [] F F2 (va_A (va_pl L F) sz) T9) (va_A (va_pl L F) sz)) 0 0 (va_A (va_pl L F) sz) := by
  refine Met.ofW (cc := cX14_is) (maxL := 5) (ret := (some .boolean)) (by decide) rfl ?_
  intro p e s m args below meth c s₁ B hml hv
  obtain ⟨rfl, hsz, hP, hK, hD0, hE, hO⟩ := hv
  have hx := B.exec
  have hb := B.bytes
  have hr := B.returns
  have hts : ∀ w ∈ tb, w.before _ s = true := fun w h => atoms_spec (ws := .code yX14_is cX14_is 5 (some .boolean) :: tb) B.pre w (List.mem_cons_of_mem _ h)
  have hown : s.vm.findClass RX14 = some m.cls := findClass_of_methodNamed B.named
  have hlocks := B.notSynchronized
  subst hsz
  have hD := hD0.self (sz := s.heap.size)
  generalize hAe : va_A (va_pl L F) s.heap.size = A at hD ⊢
  have hA : ∀ q : Nat, s.heap.size ≤ q → A q := fun q h => by rw [← hAe]; exact Or.inr h
  have hS : va_S A s.heap s.heap [] := va_S.rf
  have hR : FR ty [] F F := FR.refl
  have hl := lv_entry ([.ref h0, .ref g1, .int (nI a), .int (nI tt)]) (n := 5) (Nat.le_of_ble_eq_true rfl)
  rw [lg_entry_eq]
  generalize (lg_sl ([.ref h0, .ref g1, .int (nI a), .int (nI tt)]) ++ List.replicate (5 - (lg_sl ([.ref h0, .ref g1, .int (nI a), .int (nI tt)])).length) Slot.unset).toArray = ls at hl ⊢
  have hl : lv_has ls 5 [(0, .ref h0), (1, .ref g1), (2, .int (nI a)), (3, .int (nI tt))] := hl
  refine lv_iload_n hx hb dX14_is_0 rfl (lv_at hl 3 rfl) ?_
  refine lv_iload_n hx hb dX14_is_1 rfl (lv_at hl 2 rfl) ?_
  refine lv_isub hx hb dX14_is_2 ?_
  refine lv_topi (fun x_1 ex_1 => ?_)
  obtain rfl : x_1 = ((nI tt) - (nI a)) := ex_1.trans (rfl)
  refine lv_aload_n hx hb dX14_is_3 rfl (lv_at hl 0 rfl) ?_
  obtain ⟨hi_2, ht_3, hq_4⟩ := hW.txt hL_h0 hT_h0
  obtain ⟨z_5, hF_6, hq_7⟩ := hO.txt hL_h0 hT_h0
  refine pg_get (ci := 14) (v := .int (nI z_5)) (C := RX14) (T := TX14) (N := 2) hx hb hts it_14 hown hK hP hL_h0 hF_6 rfl 1 (by decide) (hts _ kt_673) (fun _ h9 => h9) rfl dX14_is_4 ?_
  refine lv_icmp_eq (tgt := 12) hx hb dX14_is_7 (by decide) (fun c_8 => ?_) (fun c_8 => ?_)
  ·
    obtain ⟨hq_9, hq_10⟩ := hW.octs hL_g1 hT_g1
    have htz := sub_eqN c_8 (by omega) (by omega) (by omega)
    refine lv_iconst (v := 0) hx hb dX14_is_12 (by decide) ?_
    refine lv_istore (lv' := [(4, .int 0), (0, .ref h0), (1, .ref g1), (2, .int (nI a)), (3, .int (nI tt))]) hx hb dX14_is_13 hl (by decide) rfl (fun ls hl => ?_)
    refine W.widen (k := 0) (n := 0) (by omega) (by omega) ?_
    refine pl_loopm (σ := Nat) A (dC, dI) cs ty gm L [] F 15 5 (fun j => [(4, .int (nI j)), (0, .ref h0), (1, .ref g1), (2, .int (nI a)), (3, .int (nI tt))]) (fun j => []) (fun j _ => j ≤ 10000) (fun j => 10000 - j) ?_ 0 F (by omega) hO hR _ _ hP hD hS ls (lv_sub hl [0, 1, 2, 3, 4] rfl)
    rintro j F_11 hv_12 hO hR ih_13 H locs hP hD hS ls hl
    have hl : lv_has ls 5 [(4, .int (nI j)), (0, .ref h0), (1, .ref g1), (2, .int (nI a)), (3, .int (nI tt))] := hl
    have hv_12 : j ≤ 10000 := hv_12
    refine W.eq (g2 := F0 m 15 ls []) rfl ?_
    obtain rfl : F = F_11 := (funext (fun a => hR a List.not_mem_nil)).symm
    refine lv_iload hx hb dX14_is_15 (lv_at hl 0 rfl) ?_
    refine lv_aload_n hx hb dX14_is_17 rfl (lv_at hl 1 rfl) ?_
    refine pg_get (ci := 14) (v := .int (nI z_5)) (C := RX14) (T := TX14) (N := 2) hx hb hts it_14 hown hK hP hL_h0 hF_6 rfl 1 (by decide) (hts _ kt_673) (fun _ h9 => h9) rfl dX14_is_18 ?_
    refine lv_icmp_ge (tgt := 48) hx hb dX14_is_21 (by decide) (fun c_14 => ?_) (fun c_14 => ?_)
    ·
      have hi_15 : z_5 ≤ j := leN (N := z_5) c_14
      refine lv_iconst (v := 1) hx hb dX14_is_48 (by decide) ?_
      refine W.widen (k := 0) (n := 0) (by omega) (by omega) ?_
      exact W.zret (v := 1) (ty := .boolean) hx hb hr (by decide) (fun t ht hWm => ⟨⟨1, (), rfl, (by first | exact Or.inl rfl | exact Or.inr rfl), ⟨F, QTm.mk ht hP hD hO hR⟩⟩, hS.F ht⟩) hS.2.2 dX14_is_49
    ·
      have hi_16 : j < z_5 := ltN (N := z_5) c_14
      refine lv_aload_n hx hb dX14_is_24 rfl (lv_at hl 1 rfl) ?_
      refine pg_get (ci := 14) (v := .ref r0) (C := RX14) (T := TX14) (N := 2) hx hb hts it_14 hown hK hP hL_h0 hF_6 rfl 0 (by decide) (hts _ kt_672) (fun _ h9 => h9) rfl dX14_is_25 ?_
      refine lv_iload hx hb dX14_is_28 (lv_at hl 0 rfl) ?_
      obtain ⟨hq_17, hq_18⟩ := hW.octs hi_2 ht_3
      obtain ⟨f_19, hF_20, hq_21⟩ := hO.octs hi_2 ht_3
      refine pg_bald hx hb hK hP hi_2 1 hF_20 rfl (vp_in_nI (by omega) (by omega)) dX14_is_30 ?_
      refine lv_topi (fun x_22 ex_22 => ?_)
      obtain rfl : x_22 = f_19 j := ex_22.trans (congrArg f_19 (show ((nI j) : Int32).toNatClampNeg = j from nI_clamp (by omega)))
      refine lv_aload_n hx hb dX14_is_31 rfl (lv_at hl 2 rfl) ?_
      refine lv_iload_n hx hb dX14_is_32 rfl (lv_at hl 3 rfl) ?_
      refine lv_iload hx hb dX14_is_33 (lv_at hl 0 rfl) ?_
      refine lv_iadd hx hb dX14_is_35 ?_
      refine lv_topi (fun x_23 ex_23 => ?_)
      obtain rfl : x_23 = (nI (a + j)) := ex_23.trans (nI_add a j)
      obtain ⟨f_24, hF_25, hq_26⟩ := hO.octs hL_g1 hT_g1
      refine pg_bald hx hb hK hP hL_g1 1 hF_25 rfl (vp_in_nI (by omega) (by omega)) dX14_is_36 ?_
      refine lv_topi (fun x_27 ex_27 => ?_)
      obtain rfl : x_27 = f_24 (a + j) := ex_27.trans (congrArg f_24 (show ((nI (a + j)) : Int32).toNatClampNeg = (a + j) from nI_clamp (by omega)))
      refine lv_icmp_eq (tgt := 42) hx hb dX14_is_37 (by decide) (fun c_28 => ?_) (fun c_28 => ?_)
      ·
        refine lv_iinc (v := (nI (j + 1))) (lv' := [(4, .int (nI (j + 1))), (0, .ref h0), (1, .ref g1), (2, .int (nI a)), (3, .int (nI tt))]) hx hb dX14_is_42 hl (k := 0) rfl (nI_1 _) (by decide) rfl (fun ls hl => ?_)
        refine lv_goto (tgt := 15) hx hb dX14_is_45 (by decide) ?_
        refine W.widen (k := 0) (n := 0) (by omega) (by omega) ?_
        exact ih_13 (j + 1) F (by first | omega | exact ⟨by omega, by omega⟩ | trivial) (by show 10000 - (j + 1) < 10000 - j; omega) hO hR _ _ hP hD hS ls (lv_sub hl [0, 1, 2, 3, 4] rfl)
      ·
        refine lv_iconst (v := 0) hx hb dX14_is_40 (by decide) ?_
        refine W.widen (k := 0) (n := 0) (by omega) (by omega) ?_
        exact W.zret (v := 0) (ty := .boolean) hx hb hr (by decide) (fun t ht hWm => ⟨⟨0, (), rfl, (by first | exact Or.inl rfl | exact Or.inr rfl), ⟨F, QTm.mk ht hP hD hO hR⟩⟩, hS.F ht⟩) hS.2.2 dX14_is_41
  ·
    refine lv_iconst (v := 0) hx hb dX14_is_10 (by decide) ?_
    refine W.widen (k := 0) (n := 0) (by omega) (by omega) ?_
    exact W.zret (v := 0) (ty := .boolean) hx hb hr (by decide) (fun t ht hWm => ⟨⟨0, (), rfl, (by first | exact Or.inl rfl | exact Or.inr rfl), ⟨F, QTm.mk ht hP hD hO hR⟩⟩, hS.F ht⟩) hS.2.2 dX14_is_11
set_option maxHeartbeats 4000000 in
set_option maxRecDepth 100000 in
theorem s_X14_is_ (l : Launch) (dC : Nat → ClassId) (dI : Nat → Nat → Nat) (cs : Nat → ClassId) (ty : TyM) (gm : Nat → Nat → Nat) (L : List Nat) (sz : Nat) (F : Nat → va_E) (h0 : Nat) (ρ : Nat) (r0 : Nat) (n : Nat) (g1 : Nat) (σ : Nat) (r1 : Nat) (n1 : Nat) (hW : WTm ty gm L) (hL_h0 : h0 ∈ L) (hT_h0 : ty h0 = (14, ρ, [r0, n])) (hL_g1 : g1 ∈ L) (hT_g1 : ty g1 = (14, σ, [r1, n1])) : Met l yX14_is_ (.code yX14_is_ cX14_is_ 2 (some .boolean) :: tb) ({ frames := 1, cells := 0, slots := 0, locals := 24 }) (va_Pc [.ref h0, .ref g1] (PTm (dC, dI) cs ty gm L F sz)) (va_Qi (fun (r : Int32) (_ : Unit) => (r = 0 ∨ r = 1)) (fun _ T9 => ∃ F2 : Nat → va_E, QTm (dC, dI) cs ty gm L [] F F2 (va_A (va_pl L F) sz) T9) (va_A (va_pl L F) sz)) 0 0 (va_A (va_pl L F) sz) := by
  refine Met.ofW (cc := cX14_is_) (maxL := 2) (ret := (some .boolean)) (by decide) rfl ?_
  intro p e s m args below meth c s₁ B hml hv
  obtain ⟨rfl, hsz, hP, hK, hD0, hE, hO⟩ := hv
  have hx := B.exec
  have hb := B.bytes
  have hr := B.returns
  have hts : ∀ w ∈ tb, w.before _ s = true := fun w h => atoms_spec (ws := .code yX14_is_ cX14_is_ 2 (some .boolean) :: tb) B.pre w (List.mem_cons_of_mem _ h)
  have hown : s.vm.findClass RX14 = some m.cls := findClass_of_methodNamed B.named
  have hlocks := B.notSynchronized
  subst hsz
  have hD := hD0.self (sz := s.heap.size)
  generalize hAe : va_A (va_pl L F) s.heap.size = A at hD ⊢
  have hA : ∀ q : Nat, s.heap.size ≤ q → A q := fun q h => by rw [← hAe]; exact Or.inr h
  have hS : va_S A s.heap s.heap [] := va_S.rf
  have hR : FR ty [] F F := FR.refl
  have hl := lv_entry ([.ref h0, .ref g1]) (n := 2) (Nat.le_of_ble_eq_true rfl)
  rw [lg_entry_eq]
  generalize (lg_sl ([.ref h0, .ref g1]) ++ List.replicate (2 - (lg_sl ([.ref h0, .ref g1])).length) Slot.unset).toArray = ls at hl ⊢
  have hl : lv_has ls 2 [(0, .ref h0), (1, .ref g1)] := hl
  refine lv_aload_n hx hb dX14_is__0 rfl (lv_at hl 0 rfl) ?_
  refine lv_aload_n hx hb dX14_is__1 rfl (lv_at hl 1 rfl) ?_
  obtain ⟨hi_1, ht_2, hq_3⟩ := hW.txt hL_g1 hT_g1
  obtain ⟨z_4, hF_5, hq_6⟩ := hO.txt hL_g1 hT_g1
  refine pg_get (ci := 14) (v := .ref r1) (C := RX14) (T := TX14) (N := 2) hx hb hts it_14 hown hK hP hL_g1 hF_5 rfl 0 (by decide) (hts _ kt_672) (fun _ h9 => h9) rfl dX14_is__2 ?_
  refine lv_iconst (v := 0) hx hb dX14_is__5 (by decide) ?_
  refine lv_aload_n hx hb dX14_is__6 rfl (lv_at hl 1 rfl) ?_
  refine pg_get (ci := 14) (v := .int (nI z_4)) (C := RX14) (T := TX14) (N := 2) hx hb hts it_14 hown hK hP hL_g1 hF_5 rfl 1 (by decide) (hts _ kt_673) (fun _ h9 => h9) rfl dX14_is__7 ?_
  refine W.eq (g2 := F0 m 10 ls [.int (nI z_4), .int (nI 0), .ref r1, .ref h0]) rfl ?_
  obtain ⟨hi_7, ht_8, hq_9⟩ := hW.txt hL_h0 hT_h0
  obtain ⟨hq_10, hq_11⟩ := hW.octs hi_1 ht_2
  have hFc := pg_free hD hS hA
  obtain ⟨z_12, hF_13, hq_14⟩ := hO.txt hL_h0 hT_h0
  refine va_calli (va_runV (As := [.ref r1, .int (nI 0), .int (nI z_4)]) (rest := []) ⟨hx, hb, hml, hown, hts⟩ (s_X14_is l dC dI cs ty gm L s.heap.size F h0 ρ r0 n r1 σ n1 0 z_4 hW hL_h0 hT_h0 hi_1 ht_2 (by first | omega | assumption | exact Or.inl rfl) (by first | omega | assumption | exact Or.inl rfl)) ⟨callB_of 3 hts (gi kt_680) rfl rfl rfl (hts _ kt_676) (hts _ kt_681) (by decide +kernel) ⟨Nat.le_of_ble_eq_true rfl, Nat.le_of_ble_eq_true rfl⟩, (hts _ kt_682), (hts _ kt_683)⟩ ⟨fun a U g mk q => ⟨q.1, PTm.calling q.2⟩, pg_recv hK hP hL_h0 hF_13 (q := (RX14, TX14, 2)) rfl, fun U hU hWm => ⟨rfl, PTm.mk hU hWm hP hK hD hE hO⟩⟩ rfl rfl hl.1 rfl (lv_room (Nat.le_of_ble_eq_true rfl)) dX14_is__10 ⟨by show _ + 0 ≤ 0; omega, by show _ + 0 ≤ 0; omega⟩) hS (fun q _ h => hFc q h) hFc (fun r_15 u t H1 locs ht hvm hw hB hz1 hk1 hS => ?_)
  obtain ⟨F_16, hB1⟩ := hB
  obtain rfl : F = F_16 := (funext (fun a => hB1.2.2.2 a List.not_mem_nil)).symm
  obtain ⟨hP, hD, hO, hR⟩ := QTm.back hB1 ht hFc hR (fun q h => absurd h List.not_mem_nil)
  generalize H1 = H at hP hS ⊢
  have hw : (r_15 = 0 ∨ r_15 = 1) := hw
  have hw_17 := hw
  refine W.widen (k := 0) (n := 0) (by omega) (by omega) ?_
  exact W.zret (v := r_15) (ty := .boolean) hx hb hr (bitN hw_17) (fun t ht hWm => ⟨⟨r_15, (), rfl, hw_17, ⟨F, QTm.mk ht hP hD hO hR⟩⟩, hS.F ht⟩) hS.2.2 dX14_is__13
set_option maxHeartbeats 4000000 in
set_option maxRecDepth 100000 in
theorem s_X14_isUnder (l : Launch) (dC : Nat → ClassId) (dI : Nat → Nat → Nat) (cs : Nat → ClassId) (ty : TyM) (gm : Nat → Nat → Nat) (L : List Nat) (sz : Nat) (F : Nat → va_E) (h0 : Nat) (ρ : Nat) (r0 : Nat) (n : Nat) (g1 : Nat) (σ : Nat) (r1 : Nat) (n1 : Nat) (z : Nat) (z1 : Nat) (hW : WTm ty gm L) (hL_h0 : h0 ∈ L) (hT_h0 : ty h0 = (14, ρ, [r0, n])) (hL_g1 : g1 ∈ L) (hT_g1 : ty g1 = (14, σ, [r1, n1])) (hF0 : F h0 = .inr (14, [.ref r0, .int (nI z)])) (hF1 : F g1 = .inr (14, [.ref r1, .int (nI z1)])) (hzn : z ≤ n) (hz1 : z1 ≤ n1) : Met l yX14_isUnder (.code yX14_isUnder cX14_isUnder 3 (some .boolean) :: tb) ({ frames := 0, cells := 0, slots := 0, locals := 0 }) (va_Pc [.ref h0, .ref g1] (PTm (dC, dI) cs ty gm L F sz)) (va_Qi (fun (r : Int32) (_ : Unit) => (r = 0 ∨ (r = 1 ∧ z1 ≤ z))) (fun _ T9 => ∃ F2 : Nat → va_E, QTm (dC, dI) cs ty gm L [] F F2 (va_A (va_pl L F) sz) T9) (va_A (va_pl L F) sz)) 0 0 (va_A (va_pl L F) sz) := by
  refine Met.ofW (cc := cX14_isUnder) (maxL := 3) (ret := (some .boolean)) (by decide) rfl ?_
  intro p e s m args below meth c s₁ B hml hv
  obtain ⟨rfl, hsz, hP, hK, hD0, hE, hO⟩ := hv
  have hx := B.exec
  have hb := B.bytes
  have hr := B.returns
  have hts : ∀ w ∈ tb, w.before _ s = true := fun w h => atoms_spec (ws := .code yX14_isUnder cX14_isUnder 3 (some .boolean) :: tb) B.pre w (List.mem_cons_of_mem _ h)
  have hown : s.vm.findClass RX14 = some m.cls := findClass_of_methodNamed B.named
  have hlocks := B.notSynchronized
  subst hsz
  have hD := hD0.self (sz := s.heap.size)
  generalize hAe : va_A (va_pl L F) s.heap.size = A at hD ⊢
  have hA : ∀ q : Nat, s.heap.size ≤ q → A q := fun q h => by rw [← hAe]; exact Or.inr h
  have hS : va_S A s.heap s.heap [] := va_S.rf
  have hR : FR ty [] F F := FR.refl
  have hl := lv_entry ([.ref h0, .ref g1]) (n := 3) (Nat.le_of_ble_eq_true rfl)
  rw [lg_entry_eq]
  generalize (lg_sl ([.ref h0, .ref g1]) ++ List.replicate (3 - (lg_sl ([.ref h0, .ref g1])).length) Slot.unset).toArray = ls at hl ⊢
  have hl : lv_has ls 3 [(0, .ref h0), (1, .ref g1)] := hl
  obtain ⟨hi_1, ht_2, hq_3⟩ := hW.txt hL_h0 hT_h0
  obtain ⟨hi_4, ht_5, hq_6⟩ := hW.txt hL_g1 hT_g1
  refine lv_aload_n hx hb dX14_isUnder_0 rfl (lv_at hl 0 rfl) ?_
  refine pg_get (ci := 14) (v := .int (nI z)) (C := RX14) (T := TX14) (N := 2) hx hb hts it_14 hown hK hP hL_h0 hF0 rfl 1 (by decide) (hts _ kt_673) (fun _ h9 => h9) rfl dX14_isUnder_1 ?_
  refine lv_aload_n hx hb dX14_isUnder_4 rfl (lv_at hl 1 rfl) ?_
  refine pg_get (ci := 14) (v := .int (nI z1)) (C := RX14) (T := TX14) (N := 2) hx hb hts it_14 hown hK hP hL_g1 hF1 rfl 1 (by decide) (hts _ kt_673) (fun _ h9 => h9) rfl dX14_isUnder_5 ?_
  refine lv_icmp_lt (tgt := 56) hx hb dX14_isUnder_8 (by decide) (fun c_7 => ?_) (fun c_7 => ?_)
  ·
    have hi_8 : z < z1 := ltN (N := z1) (Int32.not_le.mpr c_7)
    refine lv_iconst (v := 0) hx hb dX14_isUnder_56 (by decide) ?_
    refine W.widen (k := 0) (n := 0) (by omega) (by omega) ?_
    exact W.zret (v := 0) (ty := .boolean) hx hb hr (by decide) (fun t ht hWm => ⟨⟨0, (), rfl, Or.inl rfl, ⟨F, QTm.mk ht hP hD hO hR⟩⟩, hS.F ht⟩) hS.2.2 dX14_isUnder_57
  ·
    have hi_9 : z1 ≤ z := leN (N := z1) (Int32.not_lt.mp c_7)
    refine W.widen (k := 0) (n := 0) (by omega) (by omega) ?_
    refine pl_cutm (σ := Unit) A (dC, dI) cs ty gm L [] F 58 3 (fun u0 => [(0, .ref h0), (1, .ref g1)]) (fun u0 => []) (fun u0 _ => z1 ≤ z) ?_ (fun jn_10 => ?_)
    ·
      rintro u0 F_11 hv_12 hO hR H locs hP hD hS ls hl
      have hl : lv_has ls 3 [(0, .ref h0), (1, .ref g1)] := hl
      have hv_12 : z1 ≤ z := hv_12
      refine W.eq (g2 := F0 m 58 ls []) rfl ?_
      obtain rfl : F = F_11 := (funext (fun a => hR a List.not_mem_nil)).symm
      refine lv_iconst (v := 0) hx hb dX14_isUnder_58 (by decide) ?_
      refine lv_istore_n (lv' := [(2, .int 0), (0, .ref h0), (1, .ref g1)]) hx hb dX14_isUnder_59 rfl hl (by decide) rfl (fun ls hl => ?_)
      refine W.widen (k := 0) (n := 0) (by omega) (by omega) ?_
      refine pl_loopm (σ := Nat) A (dC, dI) cs ty gm L [] F 60 3 (fun j => [(2, .int (nI j)), (0, .ref h0), (1, .ref g1)]) (fun j => []) (fun j _ => j ≤ 10000) (fun j => 10000 - j) ?_ 0 F (by omega) hO hR _ _ hP hD hS ls (lv_sub hl [0, 1, 2] rfl)
      rintro j F_13 hv_14 hO hR ih_15 H locs hP hD hS ls hl
      have hl : lv_has ls 3 [(2, .int (nI j)), (0, .ref h0), (1, .ref g1)] := hl
      have hv_14 : j ≤ 10000 := hv_14
      refine W.eq (g2 := F0 m 60 ls []) rfl ?_
      obtain rfl : F = F_13 := (funext (fun a => hR a List.not_mem_nil)).symm
      refine lv_iload_n hx hb dX14_isUnder_60 rfl (lv_at hl 0 rfl) ?_
      refine lv_aload_n hx hb dX14_isUnder_61 rfl (lv_at hl 2 rfl) ?_
      refine pg_get (ci := 14) (v := .int (nI z1)) (C := RX14) (T := TX14) (N := 2) hx hb hts it_14 hown hK hP hL_g1 hF1 rfl 1 (by decide) (hts _ kt_673) (fun _ h9 => h9) rfl dX14_isUnder_62 ?_
      refine lv_icmp_ge (tgt := 101) hx hb dX14_isUnder_65 (by decide) (fun c_16 => ?_) (fun c_16 => ?_)
      ·
        have hi_17 : z1 ≤ j := leN (N := z1) c_16
        refine lv_iconst (v := 1) hx hb dX14_isUnder_101 (by decide) ?_
        refine W.widen (k := 0) (n := 0) (by omega) (by omega) ?_
        exact W.zret (v := 1) (ty := .boolean) hx hb hr (by decide) (fun t ht hWm => ⟨⟨1, (), rfl, (Or.inr ⟨rfl, by omega⟩), ⟨F, QTm.mk ht hP hD hO hR⟩⟩, hS.F ht⟩) hS.2.2 dX14_isUnder_102
      ·
        have hi_18 : j < z1 := ltN (N := z1) c_16
        refine lv_aload_n hx hb dX14_isUnder_68 rfl (lv_at hl 1 rfl) ?_
        refine pg_get (ci := 14) (v := .ref r0) (C := RX14) (T := TX14) (N := 2) hx hb hts it_14 hown hK hP hL_h0 hF0 rfl 0 (by decide) (hts _ kt_672) (fun _ h9 => h9) rfl dX14_isUnder_69 ?_
        refine lv_aload_n hx hb dX14_isUnder_72 rfl (lv_at hl 1 rfl) ?_
        refine pg_get (ci := 14) (v := .int (nI z)) (C := RX14) (T := TX14) (N := 2) hx hb hts it_14 hown hK hP hL_h0 hF0 rfl 1 (by decide) (hts _ kt_673) (fun _ h9 => h9) rfl dX14_isUnder_73 ?_
        refine lv_aload_n hx hb dX14_isUnder_76 rfl (lv_at hl 2 rfl) ?_
        refine pg_get (ci := 14) (v := .int (nI z1)) (C := RX14) (T := TX14) (N := 2) hx hb hts it_14 hown hK hP hL_g1 hF1 rfl 1 (by decide) (hts _ kt_673) (fun _ h9 => h9) rfl dX14_isUnder_77 ?_
        refine lv_isub hx hb dX14_isUnder_80 ?_
        refine lv_topi (fun x_19 ex_19 => ?_)
        obtain rfl : x_19 = (nI (z - z1)) := ex_19.trans (pk_sub (a := z) (b := z1) (by omega))
        refine lv_iload_n hx hb dX14_isUnder_81 rfl (lv_at hl 0 rfl) ?_
        refine lv_iadd hx hb dX14_isUnder_82 ?_
        refine lv_topi (fun x_20 ex_20 => ?_)
        obtain rfl : x_20 = (nI ((z - z1) + j)) := ex_20.trans (nI_add (z - z1) j)
        obtain ⟨hq_21, hq_22⟩ := hW.octs hi_1 ht_2
        obtain ⟨f_23, hF_24, hq_25⟩ := hO.octs hi_1 ht_2
        refine pg_bald hx hb hK hP hi_1 1 hF_24 rfl (vp_in_nI (by omega) (by omega)) dX14_isUnder_83 ?_
        refine lv_topi (fun x_26 ex_26 => ?_)
        obtain rfl : x_26 = f_23 ((z - z1) + j) := ex_26.trans (congrArg f_23 (show ((nI ((z - z1) + j)) : Int32).toNatClampNeg = ((z - z1) + j) from nI_clamp (by omega)))
        refine lv_aload_n hx hb dX14_isUnder_84 rfl (lv_at hl 2 rfl) ?_
        refine pg_get (ci := 14) (v := .ref r1) (C := RX14) (T := TX14) (N := 2) hx hb hts it_14 hown hK hP hL_g1 hF1 rfl 0 (by decide) (hts _ kt_672) (fun _ h9 => h9) rfl dX14_isUnder_85 ?_
        refine lv_iload_n hx hb dX14_isUnder_88 rfl (lv_at hl 0 rfl) ?_
        obtain ⟨hq_27, hq_28⟩ := hW.octs hi_4 ht_5
        obtain ⟨f_29, hF_30, hq_31⟩ := hO.octs hi_4 ht_5
        refine pg_bald hx hb hK hP hi_4 1 hF_30 rfl (vp_in_nI (by omega) (by omega)) dX14_isUnder_89 ?_
        refine lv_topi (fun x_32 ex_32 => ?_)
        obtain rfl : x_32 = f_29 j := ex_32.trans (congrArg f_29 (show ((nI j) : Int32).toNatClampNeg = j from nI_clamp (by omega)))
        refine lv_icmp_eq (tgt := 95) hx hb dX14_isUnder_90 (by decide) (fun c_33 => ?_) (fun c_33 => ?_)
        ·
          refine lv_iinc (v := (nI (j + 1))) (lv' := [(2, .int (nI (j + 1))), (0, .ref h0), (1, .ref g1)]) hx hb dX14_isUnder_95 hl (k := 0) rfl (nI_1 _) (by decide) rfl (fun ls hl => ?_)
          refine lv_goto (tgt := 60) hx hb dX14_isUnder_98 (by decide) ?_
          refine W.widen (k := 0) (n := 0) (by omega) (by omega) ?_
          exact ih_15 (j + 1) F (by first | omega | exact ⟨by omega, by omega⟩ | trivial) (by show 10000 - (j + 1) < 10000 - j; omega) hO hR _ _ hP hD hS ls (lv_sub hl [0, 1, 2] rfl)
        ·
          refine lv_iconst (v := 0) hx hb dX14_isUnder_93 (by decide) ?_
          refine W.widen (k := 0) (n := 0) (by omega) (by omega) ?_
          exact W.zret (v := 0) (ty := .boolean) hx hb hr (by decide) (fun t ht hWm => ⟨⟨0, (), rfl, Or.inl rfl, ⟨F, QTm.mk ht hP hD hO hR⟩⟩, hS.F ht⟩) hS.2.2 dX14_isUnder_94
    ·
      refine lv_aload_n hx hb dX14_isUnder_11 rfl (lv_at hl 0 rfl) ?_
      refine pg_get (ci := 14) (v := .int (nI z)) (C := RX14) (T := TX14) (N := 2) hx hb hts it_14 hown hK hP hL_h0 hF0 rfl 1 (by decide) (hts _ kt_673) (fun _ h9 => h9) rfl dX14_isUnder_12 ?_
      refine lv_aload_n hx hb dX14_isUnder_15 rfl (lv_at hl 1 rfl) ?_
      refine pg_get (ci := 14) (v := .int (nI z1)) (C := RX14) (T := TX14) (N := 2) hx hb hts it_14 hown hK hP hL_g1 hF1 rfl 1 (by decide) (hts _ kt_673) (fun _ h9 => h9) rfl dX14_isUnder_16 ?_
      refine lv_icmp_le (tgt := 58) hx hb dX14_isUnder_19 (by decide) (fun c_34 => ?_) (fun c_34 => ?_)
      ·
        have hi_35 : z ≤ z1 := (nI_leI (a := z) (b := z1) (by omega) (by omega)).mp c_34
        refine W.widen (k := 0) (n := 0) (by omega) (by omega) ?_
        exact jn_10 () F (by omega) hO hR _ _ hP hD hS ls (lv_sub hl [0, 1] rfl)
      ·
        have hi_36 : z1 < z := Nat.not_le.mp (fun q => c_34 ((nI_leI (a := z) (b := z1) (by omega) (by omega)).mpr q))
        refine lv_aload_n hx hb dX14_isUnder_22 rfl (lv_at hl 0 rfl) ?_
        refine pg_get (ci := 14) (v := .int (nI z)) (C := RX14) (T := TX14) (N := 2) hx hb hts it_14 hown hK hP hL_h0 hF0 rfl 1 (by decide) (hts _ kt_673) (fun _ h9 => h9) rfl dX14_isUnder_23 ?_
        refine lv_aload_n hx hb dX14_isUnder_26 rfl (lv_at hl 1 rfl) ?_
        refine pg_get (ci := 14) (v := .int (nI z1)) (C := RX14) (T := TX14) (N := 2) hx hb hts it_14 hown hK hP hL_g1 hF1 rfl 1 (by decide) (hts _ kt_673) (fun _ h9 => h9) rfl dX14_isUnder_27 ?_
        refine lv_iconst (v := 1) hx hb dX14_isUnder_30 (by decide) ?_
        refine lv_iadd hx hb dX14_isUnder_31 ?_
        refine lv_topi (fun x_37 ex_37 => ?_)
        obtain rfl : x_37 = (nI (z1 + 1)) := ex_37.trans (nI_add z1 1)
        refine lv_icmp_eq (tgt := 56) hx hb dX14_isUnder_32 (by decide) (fun c_38 => ?_) (fun c_38 => ?_)
        ·
          have hi_39 : z = (z1 + 1) := (nI_eq (a := z) (b := (z1 + 1)) (by omega) (by omega)).mp c_38
          refine lv_iconst (v := 0) hx hb dX14_isUnder_56 (by decide) ?_
          refine W.widen (k := 0) (n := 0) (by omega) (by omega) ?_
          exact W.zret (v := 0) (ty := .boolean) hx hb hr (by decide) (fun t ht hWm => ⟨⟨0, (), rfl, Or.inl rfl, ⟨F, QTm.mk ht hP hD hO hR⟩⟩, hS.F ht⟩) hS.2.2 dX14_isUnder_57
        ·
          have hi_40 : z ≠ (z1 + 1) := fun q => c_38 (by rw [q])
          refine lv_aload_n hx hb dX14_isUnder_35 rfl (lv_at hl 0 rfl) ?_
          refine pg_get (ci := 14) (v := .ref r0) (C := RX14) (T := TX14) (N := 2) hx hb hts it_14 hown hK hP hL_h0 hF0 rfl 0 (by decide) (hts _ kt_672) (fun _ h9 => h9) rfl dX14_isUnder_36 ?_
          refine lv_aload_n hx hb dX14_isUnder_39 rfl (lv_at hl 0 rfl) ?_
          refine pg_get (ci := 14) (v := .int (nI z)) (C := RX14) (T := TX14) (N := 2) hx hb hts it_14 hown hK hP hL_h0 hF0 rfl 1 (by decide) (hts _ kt_673) (fun _ h9 => h9) rfl dX14_isUnder_40 ?_
          refine lv_aload_n hx hb dX14_isUnder_43 rfl (lv_at hl 1 rfl) ?_
          refine pg_get (ci := 14) (v := .int (nI z1)) (C := RX14) (T := TX14) (N := 2) hx hb hts it_14 hown hK hP hL_g1 hF1 rfl 1 (by decide) (hts _ kt_673) (fun _ h9 => h9) rfl dX14_isUnder_44 ?_
          refine lv_isub hx hb dX14_isUnder_47 ?_
          refine lv_topi (fun x_41 ex_41 => ?_)
          obtain rfl : x_41 = (nI (z - z1)) := ex_41.trans (pk_sub (a := z) (b := z1) (by omega))
          refine lv_iconst (v := 1) hx hb dX14_isUnder_48 (by decide) ?_
          refine lv_isub hx hb dX14_isUnder_49 ?_
          refine lv_topi (fun x_42 ex_42 => ?_)
          obtain rfl : x_42 = (nI ((z - z1) - 1)) := ex_42.trans (pk_sub (a := (z - z1)) (b := 1) (by omega))
          obtain ⟨hq_43, hq_44⟩ := hW.octs hi_1 ht_2
          obtain ⟨f_45, hF_46, hq_47⟩ := hO.octs hi_1 ht_2
          refine pg_bald hx hb hK hP hi_1 1 hF_46 rfl (vp_in_nI (by omega) (by omega)) dX14_isUnder_50 ?_
          refine lv_topi (fun x_48 ex_48 => ?_)
          obtain rfl : x_48 = f_45 ((z - z1) - 1) := ex_48.trans (congrArg f_45 (show ((nI ((z - z1) - 1)) : Int32).toNatClampNeg = ((z - z1) - 1) from nI_clamp (by omega)))
          refine lv_bipush (v := 46) hx hb dX14_isUnder_51 (by decide) ?_
          refine lv_icmp_eq (tgt := 58) hx hb dX14_isUnder_53 (by decide) (fun c_49 => ?_) (fun c_49 => ?_)
          ·
            refine W.widen (k := 0) (n := 0) (by omega) (by omega) ?_
            exact jn_10 () F (by omega) hO hR _ _ hP hD hS ls (lv_sub hl [0, 1] rfl)
          ·
            refine lv_iconst (v := 0) hx hb dX14_isUnder_56 (by decide) ?_
            refine W.widen (k := 0) (n := 0) (by omega) (by omega) ?_
            exact W.zret (v := 0) (ty := .boolean) hx hb hr (by decide) (fun t ht hWm => ⟨⟨0, (), rfl, Or.inl rfl, ⟨F, QTm.mk ht hP hD hO hR⟩⟩, hS.F ht⟩) hS.2.2 dX14_isUnder_57
set_option maxHeartbeats 4000000 in
set_option maxRecDepth 100000 in
theorem s_X14_isName_ (l : Launch) (dC : Nat → ClassId) (dI : Nat → Nat → Nat) (cs : Nat → ClassId) (ty : TyM) (gm : Nat → Nat → Nat) (L : List Nat) (sz : Nat) (F : Nat → va_E) (g1 : Nat) (σ : Nat) (n1 : Nat) (a : Nat) (tt : Nat) (hW : WTm ty gm L) (hL_g1 : g1 ∈ L) (hT_g1 : ty g1 = (17, σ, [n1])) (ha : a ≤ 20000) (htn : tt ≤ n1) : Met l yX14_isName_ (.code yX14_isName_ cX14_isName_ 6 (some .boolean) :: tb) ({ frames := 1, cells := 0, slots := 0, locals := 25 }) (va_Pc [.ref g1, .int (nI a), .int (nI tt)] (PTm (dC, dI) cs ty gm L F sz)) (va_Qi (fun (r : Int32) (_ : Unit) => (r = 0 ∨ (r = 1 ∧ a < tt ∧ tt ≤ a + 60))) (fun _ T9 => ∃ F2 : Nat → va_E, QTm (dC, dI) cs ty gm L [] F F2 (va_A (va_pl L F) sz) T9) (va_A (va_pl L F) sz)) 0 0 (va_A (va_pl L F) sz) := by
  refine Met.ofW (cc := cX14_isName_) (maxL := 6) (ret := (some .boolean)) (by decide) rfl ?_
  intro p e s m args below meth c s₁ B hml hv
  obtain ⟨rfl, hsz, hP, hK, hD0, hE, hO⟩ := hv
  have hx := B.exec
  have hb := B.bytes
  have hr := B.returns
  have hts : ∀ w ∈ tb, w.before _ s = true := fun w h => atoms_spec (ws := .code yX14_isName_ cX14_isName_ 6 (some .boolean) :: tb) B.pre w (List.mem_cons_of_mem _ h)
  have hown : s.vm.findClass RX14 = some m.cls := findClass_of_methodNamed B.named
  have hlocks := B.notSynchronized
  subst hsz
  have hD := hD0.self (sz := s.heap.size)
  generalize hAe : va_A (va_pl L F) s.heap.size = A at hD ⊢
  have hA : ∀ q : Nat, s.heap.size ≤ q → A q := fun q h => by rw [← hAe]; exact Or.inr h
  have hS : va_S A s.heap s.heap [] := va_S.rf
  have hR : FR ty [] F F := FR.refl
  have hl := lv_entry ([.ref g1, .int (nI a), .int (nI tt)]) (n := 6) (Nat.le_of_ble_eq_true rfl)
  rw [lg_entry_eq]
  generalize (lg_sl ([.ref g1, .int (nI a), .int (nI tt)]) ++ List.replicate (6 - (lg_sl ([.ref g1, .int (nI a), .int (nI tt)])).length) Slot.unset).toArray = ls at hl ⊢
  have hl : lv_has ls 6 [(0, .ref g1), (1, .int (nI a)), (2, .int (nI tt))] := hl
  obtain ⟨hq_1, hq_2⟩ := hW.octs hL_g1 hT_g1
  refine lv_iload_n hx hb dX14_isName__0 rfl (lv_at hl 2 rfl) ?_
  refine lv_iload_n hx hb dX14_isName__1 rfl (lv_at hl 1 rfl) ?_
  refine lv_isub hx hb dX14_isName__2 ?_
  refine lv_topi (fun x_3 ex_3 => ?_)
  obtain rfl : x_3 = ((nI tt) - (nI a)) := ex_3.trans (rfl)
  refine lv_i2l (v := ((nI tt) - (nI a)).toInt64) hx hb dX14_isName__3 rfl ?_
  refine lv_lconst (v := 1) hx hb dX14_isName__4 (by decide) ?_
  refine lv_ldc2 (v := 60) hx hb hown (hts _ kt_684) dX14_isName__5 ?_
  have hFc := pg_free hD hS hA
  refine va_calli (va_runSN (As := [.long (((nI tt) - (nI a)).toInt64), .long 1, .long 60]) (rest := []) ⟨hx, hb, hml, hown, hts⟩ (s_X15_in l dC dI cs ty gm L s.heap.size F (((nI tt) - (nI a)).toInt64) 1 60 hW ) ⟨va_cnB 3 hts (gi kt_685) rfl rfl rfl (hE.nestw kn_38) (hts _ kt_669) (by decide +kernel) ⟨Nat.le_of_ble_eq_true rfl, Nat.le_of_ble_eq_true rfl⟩, (hts _ kt_686), trivial⟩ ⟨fun a U g mk q => ⟨q.1, PTm.calling q.2⟩, fun U hU hWm => ⟨rfl, PTm.mk hU hWm hP hK hD hE hO⟩⟩ rfl rfl hl.1 rfl (lv_room (Nat.le_of_ble_eq_true rfl)) dX14_isName__8 ⟨by show _ + 0 ≤ 0; omega, by show _ + 0 ≤ 0; omega⟩) hS (fun q _ h => hFc q h) hFc (fun r_4 u t H1 locs ht hvm hw hB hz1 hk1 hS => ?_)
  obtain ⟨F_5, hB1⟩ := hB
  obtain rfl : F = F_5 := (funext (fun a => hB1.2.2.2 a List.not_mem_nil)).symm
  obtain ⟨hP, hD, hO, hR⟩ := QTm.back hB1 ht hFc hR (fun q h => absurd h List.not_mem_nil)
  generalize H1 = H at hP hS ⊢
  have hw : r_4 = (if 1 ≤ ((nI tt) - (nI a)).toInt64 ∧ ((nI tt) - (nI a)).toInt64 ≤ 60 then 1 else 0) := hw
  have hw_6 := hw
  refine lv_if_ne (tgt := 16) hx hb dX14_isName__11 (by decide) (fun c_7 => ?_) (fun c_7 => ?_)
  ·
    have hin := in_sub (lo := 1) (hi := 60) hw_6 c_7 (by decide) (by decide) (by omega) (by omega)
    refine lv_iconst (v := 0) hx hb dX14_isName__16 (by decide) ?_
    refine lv_istore_n (lv' := [(3, .int 0), (0, .ref g1), (1, .int (nI a)), (2, .int (nI tt))]) hx hb dX14_isName__17 rfl hl (by decide) rfl (fun ls hl => ?_)
    refine lv_iload_n hx hb dX14_isName__18 rfl (lv_at hl 2 rfl) ?_
    refine lv_istore (lv' := [(4, .int (nI a)), (3, .int 0), (0, .ref g1), (1, .int (nI a)), (2, .int (nI tt))]) hx hb dX14_isName__19 hl (by decide) rfl (fun ls hl => ?_)
    refine W.widen (k := 0) (n := 0) (by omega) (by omega) ?_
    refine pl_loopm (σ := Nat × Int32) A (dC, dI) cs ty gm L [] F 21 6 (fun (j, w3) => [(4, .int (nI j)), (3, .int w3), (0, .ref g1), (1, .int (nI a)), (2, .int (nI tt))]) (fun (j, w3) => []) (fun (j, w3) _ => a ≤ j ∧ j ≤ tt) (fun (j, w3) => tt - j) ?_ (a, 0) F (⟨by omega, by omega⟩) hO hR _ _ hP hD hS ls (lv_sub hl [0, 1, 2, 3, 4] rfl)
    rintro ⟨j, w3⟩ F_8 hv_9 hO hR ih_10 H locs hP hD hS ls hl
    have hl : lv_has ls 6 [(4, .int (nI j)), (3, .int w3), (0, .ref g1), (1, .int (nI a)), (2, .int (nI tt))] := hl
    have hv_9 : a ≤ j ∧ j ≤ tt := hv_9
    refine W.eq (g2 := F0 m 21 ls []) rfl ?_
    obtain rfl : F = F_8 := (funext (fun a => hR a List.not_mem_nil)).symm
    obtain ⟨hv1, hv2⟩ := hv_9
    refine lv_iload hx hb dX14_isName__21 (lv_at hl 0 rfl) ?_
    refine lv_iload_n hx hb dX14_isName__23 rfl (lv_at hl 4 rfl) ?_
    refine lv_icmp_ge (tgt := 98) hx hb dX14_isName__24 (by decide) (fun c_11 => ?_) (fun c_11 => ?_)
    ·
      have hi_12 : tt ≤ j := leN (N := tt) c_11
      refine lv_iload_n hx hb dX14_isName__98 rfl (lv_at hl 1 rfl) ?_
      refine lv_if_le (tgt := 106) hx hb dX14_isName__99 (by decide) (fun c_13 => ?_) (fun c_13 => ?_)
      ·
        refine lv_iconst (v := 0) hx hb dX14_isName__106 (by decide) ?_
        refine W.widen (k := 0) (n := 0) (by omega) (by omega) ?_
        exact W.zret (v := 0) (ty := .boolean) hx hb hr (by decide) (fun t ht hWm => ⟨⟨0, (), rfl, Or.inl rfl, ⟨F, QTm.mk ht hP hD hO hR⟩⟩, hS.F ht⟩) hS.2.2 dX14_isName__107
      ·
        refine lv_iconst (v := 1) hx hb dX14_isName__102 (by decide) ?_
        refine lv_goto (tgt := 107) hx hb dX14_isName__103 (by decide) ?_
        refine W.widen (k := 0) (n := 0) (by omega) (by omega) ?_
        exact W.zret (v := 1) (ty := .boolean) hx hb hr (by decide) (fun t ht hWm => ⟨⟨1, (), rfl, (Or.inr ⟨rfl, by omega, by omega⟩), ⟨F, QTm.mk ht hP hD hO hR⟩⟩, hS.F ht⟩) hS.2.2 dX14_isName__107
    ·
      have hi_14 : j < tt := ltN (N := tt) c_11
      refine lv_aload_n hx hb dX14_isName__27 rfl (lv_at hl 2 rfl) ?_
      refine lv_iload hx hb dX14_isName__28 (lv_at hl 0 rfl) ?_
      obtain ⟨f_15, hF_16, hq_17⟩ := hO.octs hL_g1 hT_g1
      refine pg_bald hx hb hK hP hL_g1 1 hF_16 rfl (vp_in_nI (by omega) (by omega)) dX14_isName__30 ?_
      refine lv_topi (fun x_18 ex_18 => ?_)
      obtain rfl : x_18 = f_15 j := ex_18.trans (congrArg f_15 (show ((nI j) : Int32).toNatClampNeg = j from nI_clamp (by omega)))
      refine lv_istore (lv' := [(5, .int (f_15 j)), (4, .int (nI j)), (3, .int w3), (0, .ref g1), (1, .int (nI a)), (2, .int (nI tt))]) hx hb dX14_isName__31 hl (by decide) rfl (fun ls hl => ?_)
      refine lv_iload hx hb dX14_isName__33 (lv_at hl 0 rfl) ?_
      refine lv_bipush (v := 46) hx hb dX14_isName__35 (by decide) ?_
      refine lv_icmp_ne (tgt := 51) hx hb dX14_isName__37 (by decide) (fun c_19 => ?_) (fun c_19 => ?_)
      ·
        refine W.widen (k := 0) (n := 0) (by omega) (by omega) ?_
        refine pl_cutm (σ := Unit) A (dC, dI) cs ty gm L [] F 81 6 (fun u0 => [(5, .int (f_15 j)), (4, .int (nI j)), (3, .int w3), (0, .ref g1), (1, .int (nI a)), (2, .int (nI tt))]) (fun u0 => []) (fun u0 _ => True) ?_ (fun jn_20 => ?_)
        ·
          rintro u0 F_21 hv_22 hO hR H locs hP hD hS ls hl
          have hl : lv_has ls 6 [(5, .int (f_15 j)), (4, .int (nI j)), (3, .int w3), (0, .ref g1), (1, .int (nI a)), (2, .int (nI tt))] := hl
          have hv_22 : True := hv_22
          refine W.eq (g2 := F0 m 81 ls []) rfl ?_
          obtain rfl : F = F_21 := (funext (fun a => hR a List.not_mem_nil)).symm
          refine lv_iload_n hx hb dX14_isName__81 rfl (lv_at hl 2 rfl) ?_
          refine lv_bipush (v := 20) hx hb dX14_isName__82 (by decide) ?_
          refine lv_icmp_ne (tgt := 89) hx hb dX14_isName__84 (by decide) (fun c_23 => ?_) (fun c_23 => ?_)
          ·
            obtain ⟨x_24, ex_24⟩ : ∃ y : Int32, y = w3 + Int32.ofInt 1 := ⟨_, rfl⟩
            refine lv_iinc (v := x_24) (lv' := [(3, .int x_24), (5, .int (f_15 j)), (4, .int (nI j)), (0, .ref g1), (1, .int (nI a)), (2, .int (nI tt))]) hx hb dX14_isName__89 hl (k := 2) rfl (ex_24.symm) (by decide) rfl (fun ls hl => ?_)
            refine lv_iinc (v := (nI (j + 1))) (lv' := [(4, .int (nI (j + 1))), (3, .int x_24), (5, .int (f_15 j)), (0, .ref g1), (1, .int (nI a)), (2, .int (nI tt))]) hx hb dX14_isName__92 hl (k := 2) rfl (nI_1 _) (by decide) rfl (fun ls hl => ?_)
            refine lv_goto (tgt := 21) hx hb dX14_isName__95 (by decide) ?_
            refine W.widen (k := 0) (n := 0) (by omega) (by omega) ?_
            exact ih_10 ((j + 1), x_24) F (⟨by omega, by omega⟩) (by show tt - (j + 1) < tt - j; omega) hO hR _ _ hP hD hS ls (lv_sub hl [0, 1, 3, 4, 5] rfl)
          ·
            refine lv_iconst (v := 0) hx hb dX14_isName__87 (by decide) ?_
            refine W.widen (k := 0) (n := 0) (by omega) (by omega) ?_
            exact W.zret (v := 0) (ty := .boolean) hx hb hr (by decide) (fun t ht hWm => ⟨⟨0, (), rfl, Or.inl rfl, ⟨F, QTm.mk ht hP hD hO hR⟩⟩, hS.F ht⟩) hS.2.2 dX14_isName__88
        ·
          refine lv_iload hx hb dX14_isName__51 (lv_at hl 0 rfl) ?_
          have hFc := pg_free hD hS hA
          refine va_calli (va_runSN (As := [.int (f_15 j)]) (rest := []) ⟨hx, hb, hml, hown, hts⟩ (s_X15_isSmall l dC dI cs ty gm L H.size F (f_15 j) hW ) ⟨va_cnB 1 hts (gi kt_668) rfl rfl rfl (hE.nestw kn_39) (hts _ kt_669) (by decide +kernel) ⟨Nat.le_of_ble_eq_true rfl, Nat.le_of_ble_eq_true rfl⟩, (hts _ kt_671), trivial⟩ ⟨fun a U g mk q => ⟨q.1, PTm.calling q.2⟩, fun U hU hWm => ⟨rfl, PTm.mk hU hWm hP hK hD hE hO⟩⟩ rfl rfl hl.1 rfl (lv_room (Nat.le_of_ble_eq_true rfl)) dX14_isName__53 ⟨by show _ + 0 ≤ 0; omega, by show _ + 0 ≤ 0; omega⟩) hS (fun q _ h => hFc q h) hFc (fun r_25 u t H1 locs ht hvm hw hB hz1 hk1 hS => ?_)
          obtain ⟨F_26, hB1⟩ := hB
          obtain rfl : F = F_26 := (funext (fun a => hB1.2.2.2 a List.not_mem_nil)).symm
          obtain ⟨hP, hD, hO, hR⟩ := QTm.back hB1 ht hFc hR (fun q h => absurd h List.not_mem_nil)
          generalize H1 = H at hP hS ⊢
          have hw : (r_25 = 0 ∨ r_25 = 1) := hw
          have hw_27 := hw
          refine lv_if_ne (tgt := 81) hx hb dX14_isName__56 (by decide) (fun c_28 => ?_) (fun c_28 => ?_)
          ·
            refine W.widen (k := 0) (n := 0) (by omega) (by omega) ?_
            exact jn_20 () F (trivial) hO hR _ _ hP hD hS ls (lv_sub hl [0, 1, 2, 3, 4, 5] rfl)
          ·
            refine lv_iload hx hb dX14_isName__59 (lv_at hl 0 rfl) ?_
            have hFc := pg_free hD hS hA
            refine va_calli (va_runSN (As := [.int (f_15 j)]) (rest := []) ⟨hx, hb, hml, hown, hts⟩ (s_X15_isDigit l dC dI cs ty gm L H.size F (f_15 j) hW ) ⟨va_cnB 1 hts (gi kt_687) rfl rfl rfl (hE.nestw kn_40) (hts _ kt_669) (by decide +kernel) ⟨Nat.le_of_ble_eq_true rfl, Nat.le_of_ble_eq_true rfl⟩, (hts _ kt_688), trivial⟩ ⟨fun a U g mk q => ⟨q.1, PTm.calling q.2⟩, fun U hU hWm => ⟨rfl, PTm.mk hU hWm hP hK hD hE hO⟩⟩ rfl rfl hl.1 rfl (lv_room (Nat.le_of_ble_eq_true rfl)) dX14_isName__61 ⟨by show _ + 0 ≤ 0; omega, by show _ + 0 ≤ 0; omega⟩) hS (fun q _ h => hFc q h) hFc (fun r_29 u t H1 locs ht hvm hw hB hz1 hk1 hS => ?_)
            obtain ⟨F_30, hB1⟩ := hB
            obtain rfl : F = F_30 := (funext (fun a => hB1.2.2.2 a List.not_mem_nil)).symm
            obtain ⟨hP, hD, hO, hR⟩ := QTm.back hB1 ht hFc hR (fun q h => absurd h List.not_mem_nil)
            generalize H1 = H at hP hS ⊢
            have hw : (r_29 = 0 ∨ r_29 = 1) := hw
            have hw_31 := hw
            refine lv_if_ne (tgt := 81) hx hb dX14_isName__64 (by decide) (fun c_32 => ?_) (fun c_32 => ?_)
            ·
              refine W.widen (k := 0) (n := 0) (by omega) (by omega) ?_
              exact jn_20 () F (trivial) hO hR _ _ hP hD hS ls (lv_sub hl [0, 1, 2, 3, 4, 5] rfl)
            ·
              refine lv_iload hx hb dX14_isName__67 (lv_at hl 0 rfl) ?_
              refine lv_bipush (v := 45) hx hb dX14_isName__69 (by decide) ?_
              refine lv_icmp_eq (tgt := 81) hx hb dX14_isName__71 (by decide) (fun c_33 => ?_) (fun c_33 => ?_)
              ·
                refine W.widen (k := 0) (n := 0) (by omega) (by omega) ?_
                exact jn_20 () F (trivial) hO hR _ _ hP hD hS ls (lv_sub hl [0, 1, 2, 3, 4, 5] rfl)
              ·
                refine lv_iload hx hb dX14_isName__74 (lv_at hl 0 rfl) ?_
                refine lv_bipush (v := 95) hx hb dX14_isName__76 (by decide) ?_
                refine lv_icmp_ne (tgt := 87) hx hb dX14_isName__78 (by decide) (fun c_34 => ?_) (fun c_34 => ?_)
                ·
                  refine lv_iconst (v := 0) hx hb dX14_isName__87 (by decide) ?_
                  refine W.widen (k := 0) (n := 0) (by omega) (by omega) ?_
                  exact W.zret (v := 0) (ty := .boolean) hx hb hr (by decide) (fun t ht hWm => ⟨⟨0, (), rfl, Or.inl rfl, ⟨F, QTm.mk ht hP hD hO hR⟩⟩, hS.F ht⟩) hS.2.2 dX14_isName__88
                ·
                  refine W.widen (k := 0) (n := 0) (by omega) (by omega) ?_
                  exact jn_20 () F (trivial) hO hR _ _ hP hD hS ls (lv_sub hl [0, 1, 2, 3, 4, 5] rfl)
      ·
        refine lv_iload_n hx hb dX14_isName__40 rfl (lv_at hl 2 rfl) ?_
        refine lv_if_ne (tgt := 46) hx hb dX14_isName__41 (by decide) (fun c_35 => ?_) (fun c_35 => ?_)
        ·
          refine lv_iconst (v := 0) hx hb dX14_isName__46 (by decide) ?_
          refine lv_istore_n (lv' := [(3, .int 0), (5, .int (f_15 j)), (4, .int (nI j)), (0, .ref g1), (1, .int (nI a)), (2, .int (nI tt))]) hx hb dX14_isName__47 rfl hl (by decide) rfl (fun ls hl => ?_)
          refine lv_goto (tgt := 92) hx hb dX14_isName__48 (by decide) ?_
          refine lv_iinc (v := (nI (j + 1))) (lv' := [(4, .int (nI (j + 1))), (3, .int 0), (5, .int (f_15 j)), (0, .ref g1), (1, .int (nI a)), (2, .int (nI tt))]) hx hb dX14_isName__92 hl (k := 2) rfl (nI_1 _) (by decide) rfl (fun ls hl => ?_)
          refine lv_goto (tgt := 21) hx hb dX14_isName__95 (by decide) ?_
          refine W.widen (k := 0) (n := 0) (by omega) (by omega) ?_
          exact ih_10 ((j + 1), 0) F (⟨by omega, by omega⟩) (by show tt - (j + 1) < tt - j; omega) hO hR _ _ hP hD hS ls (lv_sub hl [0, 1, 3, 4, 5] rfl)
        ·
          refine lv_iconst (v := 0) hx hb dX14_isName__44 (by decide) ?_
          refine W.widen (k := 0) (n := 0) (by omega) (by omega) ?_
          exact W.zret (v := 0) (ty := .boolean) hx hb hr (by decide) (fun t ht hWm => ⟨⟨0, (), rfl, Or.inl rfl, ⟨F, QTm.mk ht hP hD hO hR⟩⟩, hS.F ht⟩) hS.2.2 dX14_isName__45
  ·
    refine lv_iconst (v := 0) hx hb dX14_isName__14 (by decide) ?_
    refine W.widen (k := 0) (n := 0) (by omega) (by omega) ?_
    exact W.zret (v := 0) (ty := .boolean) hx hb hr (by decide) (fun t ht hWm => ⟨⟨0, (), rfl, Or.inl rfl, ⟨F, QTm.mk ht hP hD hO hR⟩⟩, hS.F ht⟩) hS.2.2 dX14_isName__15
set_option maxHeartbeats 4000000 in
set_option maxRecDepth 100000 in
theorem s_X14_isName (l : Launch) (dC : Nat → ClassId) (dI : Nat → Nat → Nat) (cs : Nat → ClassId) (ty : TyM) (gm : Nat → Nat → Nat) (L : List Nat) (sz : Nat) (F : Nat → va_E) (h0 : Nat) (ρ : Nat) (r0 : Nat) (n : Nat) (z : Nat) (hW : WTm ty gm L) (hL_h0 : h0 ∈ L) (hT_h0 : ty h0 = (14, ρ, [r0, n])) (hF0 : F h0 = .inr (14, [.ref r0, .int (nI z)])) (hzn : z ≤ n) : Met l yX14_isName (.code yX14_isName cX14_isName 1 (some .boolean) :: tb) ({ frames := 2, cells := 0, slots := 0, locals := 50 }) (va_Pc [.ref h0] (PTm (dC, dI) cs ty gm L F sz)) (va_Qi (fun (r : Int32) (_ : Unit) => (r = 0 ∨ (r = 1 ∧ 0 < z ∧ z ≤ 60))) (fun _ T9 => ∃ F2 : Nat → va_E, QTm (dC, dI) cs ty gm L [] F F2 (va_A (va_pl L F) sz) T9) (va_A (va_pl L F) sz)) 0 0 (va_A (va_pl L F) sz) := by
  refine Met.ofW (cc := cX14_isName) (maxL := 1) (ret := (some .boolean)) (by decide) rfl ?_
  intro p e s m args below meth c s₁ B hml hv
  obtain ⟨rfl, hsz, hP, hK, hD0, hE, hO⟩ := hv
  have hx := B.exec
  have hb := B.bytes
  have hr := B.returns
  have hts : ∀ w ∈ tb, w.before _ s = true := fun w h => atoms_spec (ws := .code yX14_isName cX14_isName 1 (some .boolean) :: tb) B.pre w (List.mem_cons_of_mem _ h)
  have hown : s.vm.findClass RX14 = some m.cls := findClass_of_methodNamed B.named
  have hlocks := B.notSynchronized
  subst hsz
  have hD := hD0.self (sz := s.heap.size)
  generalize hAe : va_A (va_pl L F) s.heap.size = A at hD ⊢
  have hA : ∀ q : Nat, s.heap.size ≤ q → A q := fun q h => by rw [← hAe]; exact Or.inr h
  have hS : va_S A s.heap s.heap [] := va_S.rf
  have hR : FR ty [] F F := FR.refl
  have hl := lv_entry ([.ref h0]) (n := 1) (Nat.le_of_ble_eq_true rfl)
  rw [lg_entry_eq]
  generalize (lg_sl ([.ref h0]) ++ List.replicate (1 - (lg_sl ([.ref h0])).length) Slot.unset).toArray = ls at hl ⊢
  have hl : lv_has ls 1 [(0, .ref h0)] := hl
  refine lv_aload_n hx hb dX14_isName_0 rfl (lv_at hl 0 rfl) ?_
  obtain ⟨hi_1, ht_2, hq_3⟩ := hW.txt hL_h0 hT_h0
  refine pg_get (ci := 14) (v := .ref r0) (C := RX14) (T := TX14) (N := 2) hx hb hts it_14 hown hK hP hL_h0 hF0 rfl 0 (by decide) (hts _ kt_672) (fun _ h9 => h9) rfl dX14_isName_1 ?_
  refine lv_iconst (v := 0) hx hb dX14_isName_4 (by decide) ?_
  refine lv_aload_n hx hb dX14_isName_5 rfl (lv_at hl 0 rfl) ?_
  refine pg_get (ci := 14) (v := .int (nI z)) (C := RX14) (T := TX14) (N := 2) hx hb hts it_14 hown hK hP hL_h0 hF0 rfl 1 (by decide) (hts _ kt_673) (fun _ h9 => h9) rfl dX14_isName_6 ?_
  refine W.eq (g2 := F0 m 9 ls [.int (nI z), .int (nI 0), .ref r0]) rfl ?_
  obtain ⟨hq_4, hq_5⟩ := hW.octs hi_1 ht_2
  have hFc := pg_free hD hS hA
  refine va_calli (va_runS (As := [.ref r0, .int (nI 0), .int (nI z)]) (rest := []) ⟨hx, hb, hml, hown, hts⟩ (s_X14_isName_ l dC dI cs ty gm L s.heap.size F r0 ρ n 0 z hW hi_1 ht_2 (by first | omega | assumption | exact Or.inl rfl) (by first | omega | assumption | exact Or.inl rfl)) ⟨callB_of 3 hts (gi kt_689) rfl rfl rfl (hts _ kt_676) (hts _ kt_690) (by decide +kernel) ⟨Nat.le_of_ble_eq_true rfl, Nat.le_of_ble_eq_true rfl⟩, (hts _ kt_691)⟩ ⟨fun a U g mk q => ⟨q.1, PTm.calling q.2⟩, fun U hU hWm => ⟨rfl, PTm.mk hU hWm hP hK hD hE hO⟩⟩ rfl rfl hl.1 rfl (lv_room (Nat.le_of_ble_eq_true rfl)) dX14_isName_9 ⟨by show _ + 0 ≤ 0; omega, by show _ + 0 ≤ 0; omega⟩) hS (fun q _ h => hFc q h) hFc (fun r_6 u t H1 locs ht hvm hw hB hz1 hk1 hS => ?_)
  obtain ⟨F_7, hB1⟩ := hB
  obtain rfl : F = F_7 := (funext (fun a => hB1.2.2.2 a List.not_mem_nil)).symm
  obtain ⟨hP, hD, hO, hR⟩ := QTm.back hB1 ht hFc hR (fun q h => absurd h List.not_mem_nil)
  generalize H1 = H at hP hS ⊢
  have hw : (r_6 = 0 ∨ (r_6 = 1 ∧ 0 < z ∧ z ≤ 0 + 60)) := hw
  have hw_8 := hw
  refine W.widen (k := 0) (n := 0) (by omega) (by omega) ?_
  exact W.zret (v := r_6) (ty := .boolean) hx hb hr (bitN (bit3 hw_8)) (fun t ht hWm => ⟨⟨r_6, (), rfl, (hw_8.imp id (fun h => ⟨h.1, h.2.1, Nat.le_trans h.2.2 (by omega)⟩)), ⟨F, QTm.mk ht hP hD hO hR⟩⟩, hS.F ht⟩) hS.2.2 dX14_isName_12
