theorem dX1_addQuad_0 : decode cX1_addQuad 0 = .ok (.bipush 24, 2) := by decide +kernel
theorem dX1_addQuad_2 : decode cX1_addQuad 2 = .ok (.istore_n 1, 1) := by decide +kernel
theorem dX1_addQuad_3 : decode cX1_addQuad 3 = .ok (.iload_n 1, 1) := by decide +kernel
theorem dX1_addQuad_4 : decode cX1_addQuad 4 = .ok (.ifCond .lt 90, 3) := by decide +kernel
theorem dX1_addQuad_7 : decode cX1_addQuad 7 = .ok (.aload_n 0, 1) := by decide +kernel
theorem dX1_addQuad_8 : decode cX1_addQuad 8 = .ok (.getfield 39, 3) := by decide +kernel
theorem dX1_addQuad_11 : decode cX1_addQuad 11 = .ok (.iload_n 1, 1) := by decide +kernel
theorem dX1_addQuad_12 : decode cX1_addQuad 12 = .ok (.iushr, 1) := by decide +kernel
theorem dX1_addQuad_13 : decode cX1_addQuad 13 = .ok (.sipush 255, 3) := by decide +kernel
theorem dX1_addQuad_16 : decode cX1_addQuad 16 = .ok (.iand, 1) := by decide +kernel
theorem dX1_addQuad_17 : decode cX1_addQuad 17 = .ok (.istore_n 2, 1) := by decide +kernel
theorem dX1_addQuad_18 : decode cX1_addQuad 18 = .ok (.iload_n 2, 1) := by decide +kernel
theorem dX1_addQuad_19 : decode cX1_addQuad 19 = .ok (.bipush 100, 2) := by decide +kernel
theorem dX1_addQuad_21 : decode cX1_addQuad 21 = .ok (.if_icmp .lt 17, 3) := by decide +kernel
theorem dX1_addQuad_24 : decode cX1_addQuad 24 = .ok (.aload_n 0, 1) := by decide +kernel
theorem dX1_addQuad_25 : decode cX1_addQuad 25 = .ok (.getfield 26, 3) := by decide +kernel
theorem dX1_addQuad_28 : decode cX1_addQuad 28 = .ok (.bipush 48, 2) := by decide +kernel
theorem dX1_addQuad_30 : decode cX1_addQuad 30 = .ok (.iload_n 2, 1) := by decide +kernel
theorem dX1_addQuad_31 : decode cX1_addQuad 31 = .ok (.bipush 100, 2) := by decide +kernel
theorem dX1_addQuad_33 : decode cX1_addQuad 33 = .ok (.idiv, 1) := by decide +kernel
theorem dX1_addQuad_34 : decode cX1_addQuad 34 = .ok (.iadd, 1) := by decide +kernel
theorem dX1_addQuad_35 : decode cX1_addQuad 35 = .ok (.invokevirtual 98, 3) := by decide +kernel
theorem dX1_addQuad_38 : decode cX1_addQuad 38 = .ok (.iload_n 2, 1) := by decide +kernel
theorem dX1_addQuad_39 : decode cX1_addQuad 39 = .ok (.bipush 10, 2) := by decide +kernel
theorem dX1_addQuad_41 : decode cX1_addQuad 41 = .ok (.if_icmp .lt 20, 3) := by decide +kernel
theorem dX1_addQuad_44 : decode cX1_addQuad 44 = .ok (.aload_n 0, 1) := by decide +kernel
theorem dX1_addQuad_45 : decode cX1_addQuad 45 = .ok (.getfield 26, 3) := by decide +kernel
theorem dX1_addQuad_48 : decode cX1_addQuad 48 = .ok (.bipush 48, 2) := by decide +kernel
theorem dX1_addQuad_50 : decode cX1_addQuad 50 = .ok (.iload_n 2, 1) := by decide +kernel
theorem dX1_addQuad_51 : decode cX1_addQuad 51 = .ok (.bipush 10, 2) := by decide +kernel
theorem dX1_addQuad_53 : decode cX1_addQuad 53 = .ok (.idiv, 1) := by decide +kernel
theorem dX1_addQuad_54 : decode cX1_addQuad 54 = .ok (.bipush 10, 2) := by decide +kernel
theorem dX1_addQuad_56 : decode cX1_addQuad 56 = .ok (.irem, 1) := by decide +kernel
theorem dX1_addQuad_57 : decode cX1_addQuad 57 = .ok (.iadd, 1) := by decide +kernel
theorem dX1_addQuad_58 : decode cX1_addQuad 58 = .ok (.invokevirtual 98, 3) := by decide +kernel
theorem dX1_addQuad_61 : decode cX1_addQuad 61 = .ok (.aload_n 0, 1) := by decide +kernel
theorem dX1_addQuad_62 : decode cX1_addQuad 62 = .ok (.getfield 26, 3) := by decide +kernel
theorem dX1_addQuad_65 : decode cX1_addQuad 65 = .ok (.bipush 48, 2) := by decide +kernel
theorem dX1_addQuad_67 : decode cX1_addQuad 67 = .ok (.iload_n 2, 1) := by decide +kernel
theorem dX1_addQuad_68 : decode cX1_addQuad 68 = .ok (.bipush 10, 2) := by decide +kernel
theorem dX1_addQuad_70 : decode cX1_addQuad 70 = .ok (.irem, 1) := by decide +kernel
theorem dX1_addQuad_71 : decode cX1_addQuad 71 = .ok (.iadd, 1) := by decide +kernel
theorem dX1_addQuad_72 : decode cX1_addQuad 72 = .ok (.invokevirtual 98, 3) := by decide +kernel
theorem dX1_addQuad_75 : decode cX1_addQuad 75 = .ok (.iload_n 1, 1) := by decide +kernel
theorem dX1_addQuad_76 : decode cX1_addQuad 76 = .ok (.ifCond .le 12, 3) := by decide +kernel
theorem dX1_addQuad_79 : decode cX1_addQuad 79 = .ok (.aload_n 0, 1) := by decide +kernel
theorem dX1_addQuad_80 : decode cX1_addQuad 80 = .ok (.getfield 26, 3) := by decide +kernel
theorem dX1_addQuad_83 : decode cX1_addQuad 83 = .ok (.bipush 46, 2) := by decide +kernel
theorem dX1_addQuad_85 : decode cX1_addQuad 85 = .ok (.invokevirtual 98, 3) := by decide +kernel
theorem dX1_addQuad_88 : decode cX1_addQuad 88 = .ok (.iinc 1 (-8), 3) := by decide +kernel
theorem dX1_addQuad_91 : decode cX1_addQuad 91 = .ok (.goto (-88), 3) := by decide +kernel
theorem dX1_addQuad_94 : decode cX1_addQuad 94 = .ok (.return_, 1) := by decide +kernel
theorem dX1_isCountedOut_0 : decode cX1_isCountedOut 0 = .ok (.aload_n 0, 1) := by decide +kernel
theorem dX1_isCountedOut_1 : decode cX1_isCountedOut 1 = .ok (.dup, 1) := by decide +kernel
theorem dX1_isCountedOut_2 : decode cX1_isCountedOut 2 = .ok (.getfield 47, 3) := by decide +kernel
theorem dX1_isCountedOut_5 : decode cX1_isCountedOut 5 = .ok (.iconst 1, 1) := by decide +kernel
theorem dX1_isCountedOut_6 : decode cX1_isCountedOut 6 = .ok (.iadd, 1) := by decide +kernel
theorem dX1_isCountedOut_7 : decode cX1_isCountedOut 7 = .ok (.putfield 47, 3) := by decide +kernel
theorem dX1_isCountedOut_10 : decode cX1_isCountedOut 10 = .ok (.aload_n 0, 1) := by decide +kernel
theorem dX1_isCountedOut_11 : decode cX1_isCountedOut 11 = .ok (.getfield 47, 3) := by decide +kernel
theorem dX1_isCountedOut_14 : decode cX1_isCountedOut 14 = .ok (.bipush 10, 2) := by decide +kernel
theorem dX1_isCountedOut_16 : decode cX1_isCountedOut 16 = .ok (.if_icmp .le 7, 3) := by decide +kernel
theorem dX1_isCountedOut_19 : decode cX1_isCountedOut 19 = .ok (.iconst 1, 1) := by decide +kernel
theorem dX1_isCountedOut_20 : decode cX1_isCountedOut 20 = .ok (.goto 4, 3) := by decide +kernel
theorem dX1_isCountedOut_23 : decode cX1_isCountedOut 23 = .ok (.iconst 0, 1) := by decide +kernel
theorem dX1_isCountedOut_24 : decode cX1_isCountedOut 24 = .ok (.ireturn, 1) := by decide +kernel
theorem dX1_isLocal_0 : decode cX1_isLocal 0 = .ok (.iconst 0, 1) := by decide +kernel
theorem dX1_isLocal_1 : decode cX1_isLocal 1 = .ok (.istore_n 2, 1) := by decide +kernel
theorem dX1_isLocal_2 : decode cX1_isLocal 2 = .ok (.iload_n 2, 1) := by decide +kernel
theorem dX1_isLocal_3 : decode cX1_isLocal 3 = .ok (.iload_n 1, 1) := by decide +kernel
theorem dX1_isLocal_4 : decode cX1_isLocal 4 = .ok (.if_icmp .ge 67, 3) := by decide +kernel
theorem dX1_isLocal_7 : decode cX1_isLocal 7 = .ok (.aload_n 0, 1) := by decide +kernel
theorem dX1_isLocal_8 : decode cX1_isLocal 8 = .ok (.iload_n 2, 1) := by decide +kernel
theorem dX1_isLocal_9 : decode cX1_isLocal 9 = .ok (.invokevirtual 87, 3) := by decide +kernel
theorem dX1_isLocal_12 : decode cX1_isLocal 12 = .ok (.istore_n 3, 1) := by decide +kernel
theorem dX1_isLocal_13 : decode cX1_isLocal 13 = .ok (.iload_n 3, 1) := by decide +kernel
theorem dX1_isLocal_14 : decode cX1_isLocal 14 = .ok (.bipush 46, 2) := by decide +kernel
theorem dX1_isLocal_16 : decode cX1_isLocal 16 = .ok (.if_icmp .eq 21, 3) := by decide +kernel
theorem dX1_isLocal_19 : decode cX1_isLocal 19 = .ok (.iload_n 3, 1) := by decide +kernel
theorem dX1_isLocal_20 : decode cX1_isLocal 20 = .ok (.bipush 45, 2) := by decide +kernel
theorem dX1_isLocal_22 : decode cX1_isLocal 22 = .ok (.if_icmp .eq 15, 3) := by decide +kernel
theorem dX1_isLocal_25 : decode cX1_isLocal 25 = .ok (.iload_n 3, 1) := by decide +kernel
theorem dX1_isLocal_26 : decode cX1_isLocal 26 = .ok (.bipush 95, 2) := by decide +kernel
theorem dX1_isLocal_28 : decode cX1_isLocal 28 = .ok (.if_icmp .eq 9, 3) := by decide +kernel
theorem dX1_isLocal_31 : decode cX1_isLocal 31 = .ok (.iload_n 3, 1) := by decide +kernel
theorem dX1_isLocal_32 : decode cX1_isLocal 32 = .ok (.bipush 43, 2) := by decide +kernel
theorem dX1_isLocal_34 : decode cX1_isLocal 34 = .ok (.if_icmp .ne 7, 3) := by decide +kernel
theorem dX1_isLocal_37 : decode cX1_isLocal 37 = .ok (.iconst 1, 1) := by decide +kernel
theorem dX1_isLocal_38 : decode cX1_isLocal 38 = .ok (.goto 4, 3) := by decide +kernel
theorem dX1_isLocal_41 : decode cX1_isLocal 41 = .ok (.iconst 0, 1) := by decide +kernel
theorem dX1_isLocal_42 : decode cX1_isLocal 42 = .ok (.istore 4, 2) := by decide +kernel
theorem dX1_isLocal_44 : decode cX1_isLocal 44 = .ok (.iload 4, 2) := by decide +kernel
theorem dX1_isLocal_46 : decode cX1_isLocal 46 = .ok (.ifCond .ne 19, 3) := by decide +kernel
theorem dX1_isLocal_49 : decode cX1_isLocal 49 = .ok (.iload_n 3, 1) := by decide +kernel
theorem dX1_isLocal_50 : decode cX1_isLocal 50 = .ok (.invokestatic 91, 3) := by decide +kernel
theorem dX1_isLocal_53 : decode cX1_isLocal 53 = .ok (.ifCond .ne 12, 3) := by decide +kernel
theorem dX1_isLocal_56 : decode cX1_isLocal 56 = .ok (.iload_n 3, 1) := by decide +kernel
theorem dX1_isLocal_57 : decode cX1_isLocal 57 = .ok (.invokestatic 95, 3) := by decide +kernel
theorem dX1_isLocal_60 : decode cX1_isLocal 60 = .ok (.ifCond .ne 5, 3) := by decide +kernel
theorem dX1_isLocal_63 : decode cX1_isLocal 63 = .ok (.iconst 0, 1) := by decide +kernel
theorem dX1_isLocal_64 : decode cX1_isLocal 64 = .ok (.ireturn, 1) := by decide +kernel
theorem dX1_isLocal_65 : decode cX1_isLocal 65 = .ok (.iinc 2 1, 3) := by decide +kernel
theorem dX1_isLocal_68 : decode cX1_isLocal 68 = .ok (.goto (-66), 3) := by decide +kernel
theorem dX1_isLocal_71 : decode cX1_isLocal 71 = .ok (.iload_n 1, 1) := by decide +kernel
theorem dX1_isLocal_72 : decode cX1_isLocal 72 = .ok (.iconst 1, 1) := by decide +kernel
theorem dX1_isLocal_73 : decode cX1_isLocal 73 = .ok (.if_icmp .lt 13, 3) := by decide +kernel
theorem dX1_isLocal_76 : decode cX1_isLocal 76 = .ok (.iload_n 1, 1) := by decide +kernel
theorem dX1_isLocal_77 : decode cX1_isLocal 77 = .ok (.bipush 30, 2) := by decide +kernel
theorem dX1_isLocal_79 : decode cX1_isLocal 79 = .ok (.if_icmp .gt 7, 3) := by decide +kernel
theorem dX1_isLocal_82 : decode cX1_isLocal 82 = .ok (.iconst 1, 1) := by decide +kernel
theorem dX1_isLocal_83 : decode cX1_isLocal 83 = .ok (.goto 4, 3) := by decide +kernel
theorem dX1_isLocal_86 : decode cX1_isLocal 86 = .ok (.iconst 0, 1) := by decide +kernel
theorem dX1_isLocal_87 : decode cX1_isLocal 87 = .ok (.ireturn, 1) := by decide +kernel
theorem dX1_startsTerm_0 : decode cX1_startsTerm 0 = .ok (.aload_n 0, 1) := by decide +kernel
theorem dX1_startsTerm_1 : decode cX1_startsTerm 1 = .ok (.iload_n 1, 1) := by decide +kernel
theorem dX1_startsTerm_2 : decode cX1_startsTerm 2 = .ok (.iconst 1, 1) := by decide +kernel
theorem dX1_startsTerm_3 : decode cX1_startsTerm 3 = .ok (.isub, 1) := by decide +kernel
theorem dX1_startsTerm_4 : decode cX1_startsTerm 4 = .ok (.invokevirtual 87, 3) := by decide +kernel
theorem dX1_startsTerm_7 : decode cX1_startsTerm 7 = .ok (.bipush 32, 2) := by decide +kernel
theorem dX1_startsTerm_9 : decode cX1_startsTerm 9 = .ok (.if_icmp .ne 17, 3) := by decide +kernel
theorem dX1_startsTerm_12 : decode cX1_startsTerm 12 = .ok (.aload_n 0, 1) := by decide +kernel
theorem dX1_startsTerm_13 : decode cX1_startsTerm 13 = .ok (.iload_n 1, 1) := by decide +kernel
theorem dX1_startsTerm_14 : decode cX1_startsTerm 14 = .ok (.invokevirtual 87, 3) := by decide +kernel
theorem dX1_startsTerm_17 : decode cX1_startsTerm 17 = .ok (.bipush 32, 2) := by decide +kernel
theorem dX1_startsTerm_19 : decode cX1_startsTerm 19 = .ok (.if_icmp .eq 7, 3) := by decide +kernel
theorem dX1_startsTerm_22 : decode cX1_startsTerm 22 = .ok (.iconst 1, 1) := by decide +kernel
theorem dX1_startsTerm_23 : decode cX1_startsTerm 23 = .ok (.goto 4, 3) := by decide +kernel
theorem dX1_startsTerm_26 : decode cX1_startsTerm 26 = .ok (.iconst 0, 1) := by decide +kernel
theorem dX1_startsTerm_27 : decode cX1_startsTerm 27 = .ok (.ireturn, 1) := by decide +kernel
theorem dX1_takeSender_0 : decode cX1_takeSender 0 = .ok (.aload_n 2, 1) := by decide +kernel
theorem dX1_takeSender_1 : decode cX1_takeSender 1 = .ok (.bipush 64, 2) := by decide +kernel
theorem dX1_takeSender_3 : decode cX1_takeSender 3 = .ok (.iconst 0, 1) := by decide +kernel
theorem dX1_takeSender_4 : decode cX1_takeSender 4 = .ok (.aload_n 2, 1) := by decide +kernel
theorem dX1_takeSender_5 : decode cX1_takeSender 5 = .ok (.getfield 58, 3) := by decide +kernel
theorem dX1_takeSender_8 : decode cX1_takeSender 8 = .ok (.invokevirtual 61, 3) := by decide +kernel
theorem dX1_takeSender_11 : decode cX1_takeSender 11 = .ok (.istore_n 3, 1) := by decide +kernel
theorem dX1_takeSender_12 : decode cX1_takeSender 12 = .ok (.aload_n 2, 1) := by decide +kernel
theorem dX1_takeSender_13 : decode cX1_takeSender 13 = .ok (.iload_n 3, 1) := by decide +kernel
theorem dX1_takeSender_14 : decode cX1_takeSender 14 = .ok (.invokestatic 65, 3) := by decide +kernel
theorem dX1_takeSender_17 : decode cX1_takeSender 17 = .ok (.ifCond .eq 17, 3) := by decide +kernel
theorem dX1_takeSender_20 : decode cX1_takeSender 20 = .ok (.aload_n 2, 1) := by decide +kernel
theorem dX1_takeSender_21 : decode cX1_takeSender 21 = .ok (.iload_n 3, 1) := by decide +kernel
theorem dX1_takeSender_22 : decode cX1_takeSender 22 = .ok (.iconst 1, 1) := by decide +kernel
theorem dX1_takeSender_23 : decode cX1_takeSender 23 = .ok (.iadd, 1) := by decide +kernel
theorem dX1_takeSender_24 : decode cX1_takeSender 24 = .ok (.aload_n 2, 1) := by decide +kernel
theorem dX1_takeSender_25 : decode cX1_takeSender 25 = .ok (.getfield 58, 3) := by decide +kernel
theorem dX1_takeSender_28 : decode cX1_takeSender 28 = .ok (.invokevirtual 69, 3) := by decide +kernel
theorem dX1_takeSender_31 : decode cX1_takeSender 31 = .ok (.ifCond .ne 5, 3) := by decide +kernel
theorem dX1_takeSender_34 : decode cX1_takeSender 34 = .ok (.iconst 0, 1) := by decide +kernel
theorem dX1_takeSender_35 : decode cX1_takeSender 35 = .ok (.ireturn, 1) := by decide +kernel
theorem dX1_takeSender_36 : decode cX1_takeSender 36 = .ok (.aload_n 0, 1) := by decide +kernel
theorem dX1_takeSender_37 : decode cX1_takeSender 37 = .ok (.getfield 16, 3) := by decide +kernel
theorem dX1_takeSender_40 : decode cX1_takeSender 40 = .ok (.aload_n 2, 1) := by decide +kernel
theorem dX1_takeSender_41 : decode cX1_takeSender 41 = .ok (.invokevirtual 73, 3) := by decide +kernel
theorem dX1_takeSender_44 : decode cX1_takeSender 44 = .ok (.aload_n 0, 1) := by decide +kernel
theorem dX1_takeSender_45 : decode cX1_takeSender 45 = .ok (.getfield 20, 3) := by decide +kernel
theorem dX1_takeSender_48 : decode cX1_takeSender 48 = .ok (.invokevirtual 77, 3) := by decide +kernel
theorem dX1_takeSender_51 : decode cX1_takeSender 51 = .ok (.aload_n 0, 1) := by decide +kernel
theorem dX1_takeSender_52 : decode cX1_takeSender 52 = .ok (.getfield 20, 3) := by decide +kernel
theorem dX1_takeSender_55 : decode cX1_takeSender 55 = .ok (.aload_n 2, 1) := by decide +kernel
theorem dX1_takeSender_56 : decode cX1_takeSender 56 = .ok (.iconst 0, 1) := by decide +kernel
theorem dX1_takeSender_57 : decode cX1_takeSender 57 = .ok (.iload_n 3, 1) := by decide +kernel
theorem dX1_takeSender_58 : decode cX1_takeSender 58 = .ok (.invokevirtual 80, 3) := by decide +kernel
theorem dX1_takeSender_61 : decode cX1_takeSender 61 = .ok (.aload_n 0, 1) := by decide +kernel
theorem dX1_takeSender_62 : decode cX1_takeSender 62 = .ok (.getfield 23, 3) := by decide +kernel
theorem dX1_takeSender_65 : decode cX1_takeSender 65 = .ok (.invokevirtual 77, 3) := by decide +kernel
theorem dX1_takeSender_68 : decode cX1_takeSender 68 = .ok (.aload_n 0, 1) := by decide +kernel
theorem dX1_takeSender_69 : decode cX1_takeSender 69 = .ok (.getfield 23, 3) := by decide +kernel
theorem dX1_takeSender_72 : decode cX1_takeSender 72 = .ok (.aload_n 2, 1) := by decide +kernel
theorem dX1_takeSender_73 : decode cX1_takeSender 73 = .ok (.iload_n 3, 1) := by decide +kernel
theorem dX1_takeSender_74 : decode cX1_takeSender 74 = .ok (.iconst 1, 1) := by decide +kernel
theorem dX1_takeSender_75 : decode cX1_takeSender 75 = .ok (.iadd, 1) := by decide +kernel
theorem dX1_takeSender_76 : decode cX1_takeSender 76 = .ok (.aload_n 2, 1) := by decide +kernel
theorem dX1_takeSender_77 : decode cX1_takeSender 77 = .ok (.getfield 58, 3) := by decide +kernel
theorem dX1_takeSender_80 : decode cX1_takeSender 80 = .ok (.invokevirtual 80, 3) := by decide +kernel
theorem dX1_takeSender_83 : decode cX1_takeSender 83 = .ok (.aload_n 0, 1) := by decide +kernel
theorem dX1_takeSender_84 : decode cX1_takeSender 84 = .ok (.iload_n 1, 1) := by decide +kernel
theorem dX1_takeSender_85 : decode cX1_takeSender 85 = .ok (.putfield 39, 3) := by decide +kernel
theorem dX1_takeSender_88 : decode cX1_takeSender 88 = .ok (.aload_n 0, 1) := by decide +kernel
theorem dX1_takeSender_89 : decode cX1_takeSender 89 = .ok (.getfield 26, 3) := by decide +kernel
theorem dX1_takeSender_92 : decode cX1_takeSender 92 = .ok (.invokevirtual 77, 3) := by decide +kernel
theorem dX1_takeSender_95 : decode cX1_takeSender 95 = .ok (.aload_n 0, 1) := by decide +kernel
theorem dX1_takeSender_96 : decode cX1_takeSender 96 = .ok (.invokevirtual 84, 3) := by decide +kernel
theorem dX1_takeSender_99 : decode cX1_takeSender 99 = .ok (.aload_n 0, 1) := by decide +kernel
theorem dX1_takeSender_100 : decode cX1_takeSender 100 = .ok (.iconst 1, 1) := by decide +kernel
theorem dX1_takeSender_101 : decode cX1_takeSender 101 = .ok (.putfield 43, 3) := by decide +kernel
theorem dX1_takeSender_104 : decode cX1_takeSender 104 = .ok (.iconst 1, 1) := by decide +kernel
theorem dX1_takeSender_105 : decode cX1_takeSender 105 = .ok (.ireturn, 1) := by decide +kernel
theorem kt_301 : Cond.methodLink RX1 87 yX0_at ∈ tb := tb_at (i := 572) (by decide +kernel) (by decide +kernel)
theorem kt_302 : Cond.methodLink RX1 91 yX0_isSmall ∈ tb := tb_at (i := 573) (by decide +kernel) (by decide +kernel)
theorem kt_303 : Cond.methodLink RX1 95 yX0_isDigit ∈ tb := tb_at (i := 574) (by decide +kernel) (by decide +kernel)
theorem kt_304 : Cond.fieldLink RX1 47 "PostGate$Checker" "counted" "I" ∈ tb := tb_at (i := 232) (by decide +kernel) (by decide +kernel)
theorem kt_305 : Cond.fieldLink RX1 39 "PostGate$Checker" "address" "I" ∈ tb := tb_at (i := 229) (by decide +kernel) (by decide +kernel)
theorem kt_306 : Cond.fieldLink RX1 26 "PostGate$Checker" "quad" "LPostGate$Bytes;" ∈ tb := tb_at (i := 226) (by decide +kernel) (by decide +kernel)
theorem kt_307 : Cond.methodLink RX1 98 yX0_add ∈ tb := tb_at (i := 588) (by decide +kernel) (by decide +kernel)
theorem kt_308 : Cond.methodLink RX1 61 yX0_find ∈ tb := tb_at (i := 568) (by decide +kernel) (by decide +kernel)
theorem kt_309 : Cond.code yX1_isLocal cX1_isLocal 5 (some .boolean) ∈ tb := tb_at (i := 571) (by decide +kernel) (by decide +kernel)
theorem kt_310 : Cond.initialized RX1 ∈ tb := tb_at (i := 85) (by decide +kernel) (by decide +kernel)
theorem kt_311 : Cond.methodLink RX1 65 yX1_isLocal ∈ tb := tb_at (i := 569) (by decide +kernel) (by decide +kernel)
theorem kt_312 : Cond.static yX1_isLocal ∈ tb := tb_at (i := 570) (by decide +kernel) (by decide +kernel)
theorem kt_313 : Cond.methodLink RX1 69 yX0_isName ∈ tb := tb_at (i := 575) (by decide +kernel) (by decide +kernel)
theorem kt_314 : Cond.fieldLink RX1 16 "PostGate$Checker" "whole" "LPostGate$Bytes;" ∈ tb := tb_at (i := 222) (by decide +kernel) (by decide +kernel)
theorem kt_315 : Cond.methodLink RX1 73 yX0_copy ∈ tb := tb_at (i := 576) (by decide +kernel) (by decide +kernel)
theorem kt_316 : Cond.fieldLink RX1 20 "PostGate$Checker" "local" "LPostGate$Bytes;" ∈ tb := tb_at (i := 223) (by decide +kernel) (by decide +kernel)
theorem kt_317 : Cond.methodLink RX1 77 yX0_clear ∈ tb := tb_at (i := 582) (by decide +kernel) (by decide +kernel)
theorem kt_318 : Cond.methodLink RX1 80 yX0_addRange ∈ tb := tb_at (i := 583) (by decide +kernel) (by decide +kernel)
theorem kt_319 : Cond.fieldLink RX1 23 "PostGate$Checker" "domain" "LPostGate$Bytes;" ∈ tb := tb_at (i := 224) (by decide +kernel) (by decide +kernel)
theorem kt_320 : Cond.code yX1_addQuad cX1_addQuad 3 none ∈ tb := tb_at (i := 587) (by decide +kernel) (by decide +kernel)
theorem kt_321 : Cond.methodLink RX1 84 yX1_addQuad ∈ tb := tb_at (i := 584) (by decide +kernel) (by decide +kernel)
theorem kt_322 : Cond.instanceMethod yX1_addQuad ∈ tb := tb_at (i := 586) (by decide +kernel) (by decide +kernel)
theorem kt_323 : Cond.selects RX1 yX1_addQuad yX1_addQuad ∈ tb := tb_at (i := 0) (by decide +kernel) (by decide +kernel)
theorem kt_324 : Cond.fieldLink RX1 43 "PostGate$Checker" "isReady" "Z" ∈ tb := tb_at (i := 230) (by decide +kernel) (by decide +kernel)
theorem kn_7 : Cond.fieldLinkNest RX1 58 "PostGate$Bytes" "size" "I" "PostGate" ∈ nw := nw_at (i := 42) (by decide +kernel) rfl
set_option maxHeartbeats 4000000 in
set_option maxRecDepth 100000 in
theorem s_X1_isLocal (l : Launch) (dC : Nat → ClassId) (dI : Nat → Nat → Nat) (cs : Nat → ClassId) (ty : TyM) (L : List Nat) (sz : Nat) (F : Nat → va_E) (g1 : Nat) (σ : Nat) (r1 : Nat) (n1 : Nat) (x2 : Int32) (hW : WT ty L) (hL_g1 : g1 ∈ L) (hT_g1 : ty g1 = (0, σ, [r1, n1])) : Met l yX1_isLocal (.code yX1_isLocal cX1_isLocal 5 (some .boolean) :: tb) ({ frames := 1, cells := 0, slots := 0, locals := 21 }) (va_Pc [.ref g1, .int x2] (PT (dC, dI) cs ty L F sz)) (va_Qi (fun (r : Int32) (_ : Unit) => (r = 0 ∨ r = 1)) (fun _ T9 => ∃ F2 : Nat → va_E, QT (dC, dI) cs ty L [] F F2 (va_A (va_pl L F) sz) T9) (va_A (va_pl L F) sz)) 0 0 (va_A (va_pl L F) sz) := by
  refine Met.ofW (cc := cX1_isLocal) (maxL := 5) (ret := (some .boolean)) (by decide) rfl ?_
  intro p e s m args below meth c s₁ B hml hv
  obtain ⟨rfl, hsz, hP, hK, hD0, hE, hO⟩ := hv
  have hx := B.exec
  have hb := B.bytes
  have hr := B.returns
  have hts : ∀ w ∈ tb, w.before _ s = true := fun w h => atoms_spec (ws := .code yX1_isLocal cX1_isLocal 5 (some .boolean) :: tb) B.pre w (List.mem_cons_of_mem _ h)
  have hown : s.vm.findClass RX1 = some m.cls := findClass_of_methodNamed B.named
  have hlocks := B.notSynchronized
  subst hsz
  have hD := hD0.self (sz := s.heap.size)
  generalize hAe : va_A (va_pl L F) s.heap.size = A at hD ⊢
  have hA : ∀ q : Nat, s.heap.size ≤ q → A q := fun q h => by rw [← hAe]; exact Or.inr h
  have hS : va_S A s.heap s.heap [] := va_S.rf
  have hR : FR ty [] F F := FR.refl
  have hl := lv_entry ([.ref g1, .int x2]) (n := 5) (Nat.le_of_ble_eq_true rfl)
  rw [lg_entry_eq]
  generalize (lg_sl ([.ref g1, .int x2]) ++ List.replicate (5 - (lg_sl ([.ref g1, .int x2])).length) Slot.unset).toArray = ls at hl ⊢
  have hl : lv_has ls 5 [(0, .ref g1), (1, .int x2)] := hl
  refine lv_iconst (v := 0) hx hb dX1_isLocal_0 (by decide) ?_
  refine lv_istore_n (lv' := [(2, .int 0), (0, .ref g1), (1, .int x2)]) hx hb dX1_isLocal_1 rfl hl (by decide) rfl (fun ls hl => ?_)
  refine W.widen (k := 0) (n := 0) (by omega) (by omega) ?_
  refine pl_loop (σ := Int32) A (dC, dI) cs ty L [] F 2 5 (fun i1 => [(2, .int i1), (0, .ref g1), (1, .int x2)]) (fun i1 => []) (fun i1 _ => True) (fun i1 => ((x2).toInt - i1.toInt).toNat) ?_ 0 F (trivial) hO hR _ _ hP hD hS ls (lv_sub hl [0, 1, 2] rfl)
  rintro i1 F_1 hv_2 hO hR ih_3 H locs hP hD hS ls hl
  have hl : lv_has ls 5 [(2, .int i1), (0, .ref g1), (1, .int x2)] := hl
  have hv_2 : True := hv_2
  refine W.eq (g2 := F0 m 2 ls []) rfl ?_
  refine lv_iload_n hx hb dX1_isLocal_2 rfl (lv_at hl 0 rfl) ?_
  refine lv_iload_n hx hb dX1_isLocal_3 rfl (lv_at hl 2 rfl) ?_
  refine lv_icmp_ge (tgt := 71) hx hb dX1_isLocal_4 (by decide) (fun c_4 => ?_) (fun c_4 => ?_)
  ·
    refine lv_iload_n hx hb dX1_isLocal_71 rfl (lv_at hl 2 rfl) ?_
    refine lv_iconst (v := 1) hx hb dX1_isLocal_72 (by decide) ?_
    refine lv_icmp_lt (tgt := 86) hx hb dX1_isLocal_73 (by decide) (fun c_5 => ?_) (fun c_5 => ?_)
    ·
      refine lv_iconst (v := 0) hx hb dX1_isLocal_86 (by decide) ?_
      refine W.widen (k := 0) (n := 0) (by omega) (by omega) ?_
      exact W.zret (v := 0) (ty := .boolean) hx hb hr (by decide) (fun t ht hWm => ⟨⟨0, (), rfl, (by first | exact Or.inl rfl | exact Or.inr rfl), ⟨F_1, QT.mk ht hP hD hO hR⟩⟩, hS.F ht⟩) hS.2.2 dX1_isLocal_87
    ·
      refine lv_iload_n hx hb dX1_isLocal_76 rfl (lv_at hl 2 rfl) ?_
      refine lv_bipush (v := 30) hx hb dX1_isLocal_77 (by decide) ?_
      refine lv_icmp_gt (tgt := 86) hx hb dX1_isLocal_79 (by decide) (fun c_6 => ?_) (fun c_6 => ?_)
      ·
        refine lv_iconst (v := 0) hx hb dX1_isLocal_86 (by decide) ?_
        refine W.widen (k := 0) (n := 0) (by omega) (by omega) ?_
        exact W.zret (v := 0) (ty := .boolean) hx hb hr (by decide) (fun t ht hWm => ⟨⟨0, (), rfl, (by first | exact Or.inl rfl | exact Or.inr rfl), ⟨F_1, QT.mk ht hP hD hO hR⟩⟩, hS.F ht⟩) hS.2.2 dX1_isLocal_87
      ·
        refine lv_iconst (v := 1) hx hb dX1_isLocal_82 (by decide) ?_
        refine lv_goto (tgt := 87) hx hb dX1_isLocal_83 (by decide) ?_
        refine W.widen (k := 0) (n := 0) (by omega) (by omega) ?_
        exact W.zret (v := 1) (ty := .boolean) hx hb hr (by decide) (fun t ht hWm => ⟨⟨1, (), rfl, (by first | exact Or.inl rfl | exact Or.inr rfl), ⟨F_1, QT.mk ht hP hD hO hR⟩⟩, hS.F ht⟩) hS.2.2 dX1_isLocal_87
  ·
    refine lv_aload_n hx hb dX1_isLocal_7 rfl (lv_at hl 1 rfl) ?_
    refine lv_iload_n hx hb dX1_isLocal_8 rfl (lv_at hl 0 rfl) ?_
    have hFc := pg_free hD hS hA
    obtain ⟨hi_7, ht_8, hq_9⟩ := hW.bytes hL_g1 hT_g1
    obtain ⟨z_10, o_11, hF_12, hq_13, hq_14⟩ := hO.bytes hL_g1 hT_g1
    refine va_calli (va_runV (As := [.int i1]) (rest := []) ⟨hx, hb, hml, hown, hts⟩ (s_X0_at l dC dI cs ty L H.size F_1 g1 σ r1 n1 i1 hW hL_g1 hT_g1) ⟨callB_of 1 hts (gi kt_21) rfl rfl rfl (hts _ kt_1) (hts _ kt_301) (by decide +kernel) ⟨Nat.le_of_ble_eq_true rfl, Nat.le_of_ble_eq_true rfl⟩, (hts _ kt_23), (hts _ kt_24)⟩ ⟨fun a U g mk q => ⟨q.1, PT.calling q.2⟩, pg_recv hK hP hL_g1 hF_12 (q := (RX0, TX0, 3)) rfl, fun U hU hWm => ⟨rfl, PT.mk hU hWm hP hK hD hE hO⟩⟩ rfl rfl hl.1 rfl (lv_room (Nat.le_of_ble_eq_true rfl)) dX1_isLocal_9 ⟨by show _ + 0 ≤ 0; omega, by show _ + 0 ≤ 0; omega⟩) hS (fun q _ h => hFc q h) hFc (fun r_15 u t H1 locs ht hvm hw hB hz1 hk1 hS => ?_)
    obtain ⟨F_16, hB1⟩ := hB
    obtain ⟨hP, hD, hO, hR⟩ := QT.back hB1 ht hFc hR (fun q h => absurd h List.not_mem_nil)
    have hF_17 : F_16 g1 = .inr (0, [.ref r1, .int (nI z_10), .int o_11]) := (hB1.2.2.2 g1 List.not_mem_nil).trans hF_12
    generalize H1 = H at hP hS ⊢
    have hw : True := hw
    have hw_18 := hw
    refine lv_istore_n (lv' := [(3, .int r_15), (2, .int i1), (0, .ref g1), (1, .int x2)]) hx hb dX1_isLocal_12 rfl hl (by decide) rfl (fun ls hl => ?_)
    refine W.widen (k := 0) (n := 0) (by omega) (by omega) ?_
    refine pl_cut (σ := Int32) A (dC, dI) cs ty L [] F 42 5 (fun s0 => [(3, .int r_15), (2, .int i1), (0, .ref g1), (1, .int x2)]) (fun s0 => [.int s0]) (fun s0 _ => True) ?_ (fun jn_19 => ?_)
    ·
      rintro s0 F_20 hv_21 hO hR H locs hP hD hS ls hl
      have hl : lv_has ls 5 [(3, .int r_15), (2, .int i1), (0, .ref g1), (1, .int x2)] := hl
      have hv_21 : True := hv_21
      refine W.eq (g2 := F0 m 42 ls [.int s0]) rfl ?_
      refine lv_istore (lv' := [(4, .int s0), (3, .int r_15), (2, .int i1), (0, .ref g1), (1, .int x2)]) hx hb dX1_isLocal_42 hl (by decide) rfl (fun ls hl => ?_)
      refine lv_iload hx hb dX1_isLocal_44 (lv_at hl 0 rfl) ?_
      refine lv_if_ne (tgt := 65) hx hb dX1_isLocal_46 (by decide) (fun c_22 => ?_) (fun c_22 => ?_)
      ·
        obtain ⟨x_23, ex_23⟩ : ∃ y : Int32, y = i1 + Int32.ofInt 1 := ⟨_, rfl⟩
        refine lv_iinc (v := x_23) (lv' := [(2, .int x_23), (4, .int s0), (3, .int r_15), (0, .ref g1), (1, .int x2)]) hx hb dX1_isLocal_65 hl (k := 2) rfl (ex_23.symm) (by decide) rfl (fun ls hl => ?_)
        refine lv_goto (tgt := 2) hx hb dX1_isLocal_68 (by decide) ?_
        refine W.widen (k := 0) (n := 0) (by omega) (by omega) ?_
        exact ih_3 x_23 F_20 (trivial) (by show ((x2).toInt - x_23.toInt).toNat < ((x2).toInt - i1.toInt).toNat; exact incN ex_23 c_4) hO hR _ _ hP hD hS ls (lv_sub hl [0, 3, 4] rfl)
      ·
        refine lv_iload_n hx hb dX1_isLocal_49 rfl (lv_at hl 1 rfl) ?_
        have hFc := pg_free hD hS hA
        refine va_calli (va_runS (As := [.int r_15]) (rest := []) ⟨hx, hb, hml, hown, hts⟩ (s_X0_isSmall l dC dI cs ty L H.size F_20 r_15 hW ) ⟨callB_of 1 hts (gi kt_4) rfl rfl rfl (hts _ kt_1) (hts _ kt_302) (by decide +kernel) ⟨Nat.le_of_ble_eq_true rfl, Nat.le_of_ble_eq_true rfl⟩, (hts _ kt_6)⟩ ⟨fun a U g mk q => ⟨q.1, PT.calling q.2⟩, fun U hU hWm => ⟨rfl, PT.mk hU hWm hP hK hD hE hO⟩⟩ rfl rfl hl.1 rfl (lv_room (Nat.le_of_ble_eq_true rfl)) dX1_isLocal_50 ⟨by show _ + 0 ≤ 0; omega, by show _ + 0 ≤ 0; omega⟩) hS (fun q _ h => hFc q h) hFc (fun r_24 u t H1 locs ht hvm hw hB hz1 hk1 hS => ?_)
        obtain ⟨F_25, hB1⟩ := hB
        obtain ⟨hP, hD, hO, hR⟩ := QT.back hB1 ht hFc hR (fun q h => absurd h List.not_mem_nil)
        generalize H1 = H at hP hS ⊢
        have hw : (r_24 = 0 ∨ r_24 = 1) := hw
        have hw_26 := hw
        refine lv_if_ne (tgt := 65) hx hb dX1_isLocal_53 (by decide) (fun c_27 => ?_) (fun c_27 => ?_)
        ·
          obtain ⟨x_28, ex_28⟩ : ∃ y : Int32, y = i1 + Int32.ofInt 1 := ⟨_, rfl⟩
          refine lv_iinc (v := x_28) (lv' := [(2, .int x_28), (4, .int s0), (3, .int r_15), (0, .ref g1), (1, .int x2)]) hx hb dX1_isLocal_65 hl (k := 2) rfl (ex_28.symm) (by decide) rfl (fun ls hl => ?_)
          refine lv_goto (tgt := 2) hx hb dX1_isLocal_68 (by decide) ?_
          refine W.widen (k := 0) (n := 0) (by omega) (by omega) ?_
          exact ih_3 x_28 F_25 (trivial) (by show ((x2).toInt - x_28.toInt).toNat < ((x2).toInt - i1.toInt).toNat; exact incN ex_28 c_4) hO hR _ _ hP hD hS ls (lv_sub hl [0, 3, 4] rfl)
        ·
          refine lv_iload_n hx hb dX1_isLocal_56 rfl (lv_at hl 1 rfl) ?_
          have hFc := pg_free hD hS hA
          refine va_calli (va_runS (As := [.int r_15]) (rest := []) ⟨hx, hb, hml, hown, hts⟩ (s_X0_isDigit l dC dI cs ty L H.size F_25 r_15 hW ) ⟨callB_of 1 hts (gi kt_7) rfl rfl rfl (hts _ kt_1) (hts _ kt_303) (by decide +kernel) ⟨Nat.le_of_ble_eq_true rfl, Nat.le_of_ble_eq_true rfl⟩, (hts _ kt_9)⟩ ⟨fun a U g mk q => ⟨q.1, PT.calling q.2⟩, fun U hU hWm => ⟨rfl, PT.mk hU hWm hP hK hD hE hO⟩⟩ rfl rfl hl.1 rfl (lv_room (Nat.le_of_ble_eq_true rfl)) dX1_isLocal_57 ⟨by show _ + 0 ≤ 0; omega, by show _ + 0 ≤ 0; omega⟩) hS (fun q _ h => hFc q h) hFc (fun r_29 u t H1 locs ht hvm hw hB hz1 hk1 hS => ?_)
          obtain ⟨F_30, hB1⟩ := hB
          obtain ⟨hP, hD, hO, hR⟩ := QT.back hB1 ht hFc hR (fun q h => absurd h List.not_mem_nil)
          generalize H1 = H at hP hS ⊢
          have hw : (r_29 = 0 ∨ r_29 = 1) := hw
          have hw_31 := hw
          refine lv_if_ne (tgt := 65) hx hb dX1_isLocal_60 (by decide) (fun c_32 => ?_) (fun c_32 => ?_)
          ·
            obtain ⟨x_33, ex_33⟩ : ∃ y : Int32, y = i1 + Int32.ofInt 1 := ⟨_, rfl⟩
            refine lv_iinc (v := x_33) (lv' := [(2, .int x_33), (4, .int s0), (3, .int r_15), (0, .ref g1), (1, .int x2)]) hx hb dX1_isLocal_65 hl (k := 2) rfl (ex_33.symm) (by decide) rfl (fun ls hl => ?_)
            refine lv_goto (tgt := 2) hx hb dX1_isLocal_68 (by decide) ?_
            refine W.widen (k := 0) (n := 0) (by omega) (by omega) ?_
            exact ih_3 x_33 F_30 (trivial) (by show ((x2).toInt - x_33.toInt).toNat < ((x2).toInt - i1.toInt).toNat; exact incN ex_33 c_4) hO hR _ _ hP hD hS ls (lv_sub hl [0, 3, 4] rfl)
          ·
            refine lv_iconst (v := 0) hx hb dX1_isLocal_63 (by decide) ?_
            refine W.widen (k := 0) (n := 0) (by omega) (by omega) ?_
            exact W.zret (v := 0) (ty := .boolean) hx hb hr (by decide) (fun t ht hWm => ⟨⟨0, (), rfl, (by first | exact Or.inl rfl | exact Or.inr rfl), ⟨F_30, QT.mk ht hP hD hO hR⟩⟩, hS.F ht⟩) hS.2.2 dX1_isLocal_64
    ·
      refine lv_iload_n hx hb dX1_isLocal_13 rfl (lv_at hl 0 rfl) ?_
      refine lv_bipush (v := 46) hx hb dX1_isLocal_14 (by decide) ?_
      refine lv_icmp_eq (tgt := 37) hx hb dX1_isLocal_16 (by decide) (fun c_34 => ?_) (fun c_34 => ?_)
      ·
        refine lv_iconst (v := 1) hx hb dX1_isLocal_37 (by decide) ?_
        refine lv_goto (tgt := 42) hx hb dX1_isLocal_38 (by decide) ?_
        refine W.widen (k := 0) (n := 0) (by omega) (by omega) ?_
        exact jn_19 1 F_16 (trivial) hO hR _ _ hP hD hS ls (lv_sub hl [0, 1, 2, 3] rfl)
      ·
        refine lv_iload_n hx hb dX1_isLocal_19 rfl (lv_at hl 0 rfl) ?_
        refine lv_bipush (v := 45) hx hb dX1_isLocal_20 (by decide) ?_
        refine lv_icmp_eq (tgt := 37) hx hb dX1_isLocal_22 (by decide) (fun c_35 => ?_) (fun c_35 => ?_)
        ·
          refine lv_iconst (v := 1) hx hb dX1_isLocal_37 (by decide) ?_
          refine lv_goto (tgt := 42) hx hb dX1_isLocal_38 (by decide) ?_
          refine W.widen (k := 0) (n := 0) (by omega) (by omega) ?_
          exact jn_19 1 F_16 (trivial) hO hR _ _ hP hD hS ls (lv_sub hl [0, 1, 2, 3] rfl)
        ·
          refine lv_iload_n hx hb dX1_isLocal_25 rfl (lv_at hl 0 rfl) ?_
          refine lv_bipush (v := 95) hx hb dX1_isLocal_26 (by decide) ?_
          refine lv_icmp_eq (tgt := 37) hx hb dX1_isLocal_28 (by decide) (fun c_36 => ?_) (fun c_36 => ?_)
          ·
            refine lv_iconst (v := 1) hx hb dX1_isLocal_37 (by decide) ?_
            refine lv_goto (tgt := 42) hx hb dX1_isLocal_38 (by decide) ?_
            refine W.widen (k := 0) (n := 0) (by omega) (by omega) ?_
            exact jn_19 1 F_16 (trivial) hO hR _ _ hP hD hS ls (lv_sub hl [0, 1, 2, 3] rfl)
          ·
            refine lv_iload_n hx hb dX1_isLocal_31 rfl (lv_at hl 0 rfl) ?_
            refine lv_bipush (v := 43) hx hb dX1_isLocal_32 (by decide) ?_
            refine lv_icmp_ne (tgt := 41) hx hb dX1_isLocal_34 (by decide) (fun c_37 => ?_) (fun c_37 => ?_)
            ·
              refine lv_iconst (v := 0) hx hb dX1_isLocal_41 (by decide) ?_
              refine W.widen (k := 0) (n := 0) (by omega) (by omega) ?_
              exact jn_19 0 F_16 (trivial) hO hR _ _ hP hD hS ls (lv_sub hl [0, 1, 2, 3] rfl)
            ·
              refine lv_iconst (v := 1) hx hb dX1_isLocal_37 (by decide) ?_
              refine lv_goto (tgt := 42) hx hb dX1_isLocal_38 (by decide) ?_
              refine W.widen (k := 0) (n := 0) (by omega) (by omega) ?_
              exact jn_19 1 F_16 (trivial) hO hR _ _ hP hD hS ls (lv_sub hl [0, 1, 2, 3] rfl)
set_option maxHeartbeats 4000000 in
set_option maxRecDepth 100000 in
theorem s_X1_startsTerm (l : Launch) (dC : Nat → ClassId) (dI : Nat → Nat → Nat) (cs : Nat → ClassId) (ty : TyM) (L : List Nat) (sz : Nat) (F : Nat → va_E) (g1 : Nat) (σ : Nat) (r1 : Nat) (n1 : Nat) (x2 : Int32) (hW : WT ty L) (hL_g1 : g1 ∈ L) (hT_g1 : ty g1 = (0, σ, [r1, n1])) : Met l yX1_startsTerm (.code yX1_startsTerm cX1_startsTerm 2 (some .boolean) :: tb) ({ frames := 1, cells := 0, slots := 0, locals := 21 }) (va_Pc [.ref g1, .int x2] (PT (dC, dI) cs ty L F sz)) (va_Qi (fun (r : Int32) (_ : Unit) => (r = 0 ∨ r = 1)) (fun _ T9 => ∃ F2 : Nat → va_E, QT (dC, dI) cs ty L [] F F2 (va_A (va_pl L F) sz) T9) (va_A (va_pl L F) sz)) 0 0 (va_A (va_pl L F) sz) := by
  refine Met.ofW (cc := cX1_startsTerm) (maxL := 2) (ret := (some .boolean)) (by decide) rfl ?_
  intro p e s m args below meth c s₁ B hml hv
  obtain ⟨rfl, hsz, hP, hK, hD0, hE, hO⟩ := hv
  have hx := B.exec
  have hb := B.bytes
  have hr := B.returns
  have hts : ∀ w ∈ tb, w.before _ s = true := fun w h => atoms_spec (ws := .code yX1_startsTerm cX1_startsTerm 2 (some .boolean) :: tb) B.pre w (List.mem_cons_of_mem _ h)
  have hown : s.vm.findClass RX1 = some m.cls := findClass_of_methodNamed B.named
  have hlocks := B.notSynchronized
  subst hsz
  have hD := hD0.self (sz := s.heap.size)
  generalize hAe : va_A (va_pl L F) s.heap.size = A at hD ⊢
  have hA : ∀ q : Nat, s.heap.size ≤ q → A q := fun q h => by rw [← hAe]; exact Or.inr h
  have hS : va_S A s.heap s.heap [] := va_S.rf
  have hR : FR ty [] F F := FR.refl
  have hl := lv_entry ([.ref g1, .int x2]) (n := 2) (Nat.le_of_ble_eq_true rfl)
  rw [lg_entry_eq]
  generalize (lg_sl ([.ref g1, .int x2]) ++ List.replicate (2 - (lg_sl ([.ref g1, .int x2])).length) Slot.unset).toArray = ls at hl ⊢
  have hl : lv_has ls 2 [(0, .ref g1), (1, .int x2)] := hl
  refine lv_aload_n hx hb dX1_startsTerm_0 rfl (lv_at hl 0 rfl) ?_
  refine lv_iload_n hx hb dX1_startsTerm_1 rfl (lv_at hl 1 rfl) ?_
  refine lv_iconst (v := 1) hx hb dX1_startsTerm_2 (by decide) ?_
  refine lv_isub hx hb dX1_startsTerm_3 ?_
  refine lv_topi (fun x_1 _ => ?_)
  have hFc := pg_free hD hS hA
  obtain ⟨hi_2, ht_3, hq_4⟩ := hW.bytes hL_g1 hT_g1
  obtain ⟨z_5, o_6, hF_7, hq_8, hq_9⟩ := hO.bytes hL_g1 hT_g1
  refine va_calli (va_runV (As := [.int x_1]) (rest := []) ⟨hx, hb, hml, hown, hts⟩ (s_X0_at l dC dI cs ty L s.heap.size F g1 σ r1 n1 x_1 hW hL_g1 hT_g1) ⟨callB_of 1 hts (gi kt_21) rfl rfl rfl (hts _ kt_1) (hts _ kt_301) (by decide +kernel) ⟨Nat.le_of_ble_eq_true rfl, Nat.le_of_ble_eq_true rfl⟩, (hts _ kt_23), (hts _ kt_24)⟩ ⟨fun a U g mk q => ⟨q.1, PT.calling q.2⟩, pg_recv hK hP hL_g1 hF_7 (q := (RX0, TX0, 3)) rfl, fun U hU hWm => ⟨rfl, PT.mk hU hWm hP hK hD hE hO⟩⟩ rfl rfl hl.1 rfl (lv_room (Nat.le_of_ble_eq_true rfl)) dX1_startsTerm_4 ⟨by show _ + 0 ≤ 0; omega, by show _ + 0 ≤ 0; omega⟩) hS (fun q _ h => hFc q h) hFc (fun r_10 u t H1 locs ht hvm hw hB hz1 hk1 hS => ?_)
  obtain ⟨F_11, hB1⟩ := hB
  obtain ⟨hP, hD, hO, hR⟩ := QT.back hB1 ht hFc hR (fun q h => absurd h List.not_mem_nil)
  have hF_12 : F_11 g1 = .inr (0, [.ref r1, .int (nI z_5), .int o_6]) := (hB1.2.2.2 g1 List.not_mem_nil).trans hF_7
  generalize H1 = H at hP hS ⊢
  have hw : True := hw
  have hw_13 := hw
  refine lv_bipush (v := 32) hx hb dX1_startsTerm_7 (by decide) ?_
  refine lv_icmp_ne (tgt := 26) hx hb dX1_startsTerm_9 (by decide) (fun c_14 => ?_) (fun c_14 => ?_)
  ·
    refine lv_iconst (v := 0) hx hb dX1_startsTerm_26 (by decide) ?_
    refine W.widen (k := 0) (n := 0) (by omega) (by omega) ?_
    exact W.zret (v := 0) (ty := .boolean) hx hb hr (by decide) (fun t ht hWm => ⟨⟨0, (), rfl, (by first | exact Or.inl rfl | exact Or.inr rfl), ⟨F_11, QT.mk ht hP hD hO hR⟩⟩, hS.F ht⟩) hS.2.2 dX1_startsTerm_27
  ·
    refine lv_aload_n hx hb dX1_startsTerm_12 rfl (lv_at hl 0 rfl) ?_
    refine lv_iload_n hx hb dX1_startsTerm_13 rfl (lv_at hl 1 rfl) ?_
    have hFc := pg_free hD hS hA
    refine va_calli (va_runV (As := [.int x2]) (rest := []) ⟨hx, hb, hml, hown, hts⟩ (s_X0_at l dC dI cs ty L H.size F_11 g1 σ r1 n1 x2 hW hL_g1 hT_g1) ⟨callB_of 1 hts (gi kt_21) rfl rfl rfl (hts _ kt_1) (hts _ kt_301) (by decide +kernel) ⟨Nat.le_of_ble_eq_true rfl, Nat.le_of_ble_eq_true rfl⟩, (hts _ kt_23), (hts _ kt_24)⟩ ⟨fun a U g mk q => ⟨q.1, PT.calling q.2⟩, pg_recv hK hP hL_g1 hF_12 (q := (RX0, TX0, 3)) rfl, fun U hU hWm => ⟨rfl, PT.mk hU hWm hP hK hD hE hO⟩⟩ rfl rfl hl.1 rfl (lv_room (Nat.le_of_ble_eq_true rfl)) dX1_startsTerm_14 ⟨by show _ + 0 ≤ 0; omega, by show _ + 0 ≤ 0; omega⟩) hS (fun q _ h => hFc q h) hFc (fun r_15 u t H1 locs ht hvm hw hB hz1 hk1 hS => ?_)
    obtain ⟨F_16, hB1⟩ := hB
    obtain ⟨hP, hD, hO, hR⟩ := QT.back hB1 ht hFc hR (fun q h => absurd h List.not_mem_nil)
    have hF_17 : F_16 g1 = .inr (0, [.ref r1, .int (nI z_5), .int o_6]) := (hB1.2.2.2 g1 List.not_mem_nil).trans hF_12
    generalize H1 = H at hP hS ⊢
    have hw : True := hw
    have hw_18 := hw
    refine lv_bipush (v := 32) hx hb dX1_startsTerm_17 (by decide) ?_
    refine lv_icmp_eq (tgt := 26) hx hb dX1_startsTerm_19 (by decide) (fun c_19 => ?_) (fun c_19 => ?_)
    ·
      refine lv_iconst (v := 0) hx hb dX1_startsTerm_26 (by decide) ?_
      refine W.widen (k := 0) (n := 0) (by omega) (by omega) ?_
      exact W.zret (v := 0) (ty := .boolean) hx hb hr (by decide) (fun t ht hWm => ⟨⟨0, (), rfl, (by first | exact Or.inl rfl | exact Or.inr rfl), ⟨F_16, QT.mk ht hP hD hO hR⟩⟩, hS.F ht⟩) hS.2.2 dX1_startsTerm_27
    ·
      refine lv_iconst (v := 1) hx hb dX1_startsTerm_22 (by decide) ?_
      refine lv_goto (tgt := 27) hx hb dX1_startsTerm_23 (by decide) ?_
      refine W.widen (k := 0) (n := 0) (by omega) (by omega) ?_
      exact W.zret (v := 1) (ty := .boolean) hx hb hr (by decide) (fun t ht hWm => ⟨⟨1, (), rfl, (by first | exact Or.inl rfl | exact Or.inr rfl), ⟨F_16, QT.mk ht hP hD hO hR⟩⟩, hS.F ht⟩) hS.2.2 dX1_startsTerm_27
set_option maxHeartbeats 4000000 in
set_option maxRecDepth 100000 in
theorem s_X1_isCountedOut (l : Launch) (dC : Nat → ClassId) (dI : Nat → Nat → Nat) (cs : Nat → ClassId) (ty : TyM) (L : List Nat) (sz : Nat) (F : Nat → va_E) (h0 : Nat) (ρ : Nat) (d : Nat) (δ : Nat) (ea : Nat) (w0 : Nat) (w1 : Nat) (w2 : Nat) (w3 : Nat) (nm : Nat) (te : Nat) (hW : WT ty L) (hL_h0 : h0 ∈ L) (hT_h0 : ty h0 = (1, ρ, [d, δ, ea, w0, w1, w2, w3, nm, te])) : Met l yX1_isCountedOut (.code yX1_isCountedOut cX1_isCountedOut 1 (some .boolean) :: tb) ({ frames := 0, cells := 0, slots := 0, locals := 0 }) (va_Pc [.ref h0] (PT (dC, dI) cs ty L F sz)) (va_Qi (fun (r : Int32) (_ : Unit) => (r = 0 ∨ r = 1)) (fun _ T9 => ∃ F2 : Nat → va_E, QT (dC, dI) cs ty L [ρ] F F2 (va_A (va_pl L F) sz) T9) (va_A (va_pl L F) sz)) 0 0 (va_A (va_pl L F) sz) := by
  refine Met.ofW (cc := cX1_isCountedOut) (maxL := 1) (ret := (some .boolean)) (by decide) rfl ?_
  intro p e s m args below meth c s₁ B hml hv
  obtain ⟨rfl, hsz, hP, hK, hD0, hE, hO⟩ := hv
  have hx := B.exec
  have hb := B.bytes
  have hr := B.returns
  have hts : ∀ w ∈ tb, w.before _ s = true := fun w h => atoms_spec (ws := .code yX1_isCountedOut cX1_isCountedOut 1 (some .boolean) :: tb) B.pre w (List.mem_cons_of_mem _ h)
  have hown : s.vm.findClass RX1 = some m.cls := findClass_of_methodNamed B.named
  have hlocks := B.notSynchronized
  subst hsz
  have hD := hD0.self (sz := s.heap.size)
  generalize hAe : va_A (va_pl L F) s.heap.size = A at hD ⊢
  have hA : ∀ q : Nat, s.heap.size ≤ q → A q := fun q h => by rw [← hAe]; exact Or.inr h
  have hS : va_S A s.heap s.heap [] := va_S.rf
  have hR : FR ty [ρ] F F := FR.refl
  have hl := lv_entry ([.ref h0]) (n := 1) (Nat.le_of_ble_eq_true rfl)
  rw [lg_entry_eq]
  generalize (lg_sl ([.ref h0]) ++ List.replicate (1 - (lg_sl ([.ref h0])).length) Slot.unset).toArray = ls at hl ⊢
  have hl : lv_has ls 1 [(0, .ref h0)] := hl
  refine lv_aload_n hx hb dX1_isCountedOut_0 rfl (lv_at hl 0 rfl) ?_
  refine lv_dup hx hb dX1_isCountedOut_1 rfl ?_
  obtain ⟨hi_1, ht_2, hi_3, ⟨r_4, ht_5⟩, hi_6, ⟨r_7, ht_8⟩, hi_9, ⟨r_10, ht_11⟩, hi_12, ⟨r_13, ht_14⟩, hi_15, ht_16, hi_17, ht_18⟩ := hW.chk hL_h0 hT_h0
  obtain ⟨v0_19, v1_20, v2_21, v3_22, hF_23⟩ := hO.chk hL_h0 hT_h0
  refine pg_get (ci := 1) (v := .int v2_21) (C := RX1) (T := TX1) (N := 11) hx hb hts it_1 hown hK hP hL_h0 hF_23 rfl 9 (by decide) (hts _ kt_304) (fun _ h9 => h9) rfl dX1_isCountedOut_2 ?_
  refine lv_iconst (v := 1) hx hb dX1_isCountedOut_5 (by decide) ?_
  refine lv_iadd hx hb dX1_isCountedOut_6 ?_
  refine lv_topi (fun x_24 _ => ?_)
  refine pg_put (ci := 1) (v := .int x_24) (ty := .int) (C := RX1) (T := TX1) (N := 11) hx hb hts it_1 tyX1 tyX1_ok nmX1 hown hK hP hD hS hL_h0 hF_23 rfl 9 (by decide) (hts _ kt_304) (fun _ h9 => h9) rfl (by decide +kernel) (rfl) (rfl) (Nat.le_of_ble_eq_true rfl) dX1_isCountedOut_7 (fun H locs hP hD hS => ?_)
  obtain ⟨F_25, he_26, hP, hD, hO, hR⟩ : ∃ G, G = va_up F h0 (.inr (1, [.ref d, .ref w0, .ref w1, .ref w2, .ref w3, .ref nm, .ref te, .int v0_19, .int v1_20, .int x_24, .int v3_22])) ∧ va_P (dC, dI) vwCl (va_pl L G) H ∧ va_D A (va_pl L G) ∧ OK cs ty L G ∧ FR ty [ρ] F G := ⟨_, rfl, hP, hD, hO.up (sh.chk hT_h0 ⟨v0_19, v1_20, x_24, v3_22, rfl⟩), hR.up hT_h0 (by simp)⟩
  have hF_27 : F_25 h0 = .inr (1, [.ref d, .ref w0, .ref w1, .ref w2, .ref w3, .ref nm, .ref te, .int v0_19, .int v1_20, .int x_24, .int v3_22]) := by rw [he_26]; exact up_self
  refine lv_aload_n hx hb dX1_isCountedOut_10 rfl (lv_at hl 0 rfl) ?_
  refine pg_get (ci := 1) (v := .int x_24) (C := RX1) (T := TX1) (N := 11) hx hb hts it_1 hown hK hP hL_h0 hF_27 rfl 9 (by decide) (hts _ kt_304) (fun _ h9 => h9) rfl dX1_isCountedOut_11 ?_
  refine lv_bipush (v := 10) hx hb dX1_isCountedOut_14 (by decide) ?_
  refine lv_icmp_le (tgt := 23) hx hb dX1_isCountedOut_16 (by decide) (fun c_28 => ?_) (fun c_28 => ?_)
  ·
    refine lv_iconst (v := 0) hx hb dX1_isCountedOut_23 (by decide) ?_
    refine W.widen (k := 0) (n := 0) (by omega) (by omega) ?_
    exact W.zret (v := 0) (ty := .boolean) hx hb hr (by decide) (fun t ht hWm => ⟨⟨0, (), rfl, (by first | exact Or.inl rfl | exact Or.inr rfl), ⟨F_25, QT.mk ht hP hD hO hR⟩⟩, hS.F ht⟩) hS.2.2 dX1_isCountedOut_24
  ·
    refine lv_iconst (v := 1) hx hb dX1_isCountedOut_19 (by decide) ?_
    refine lv_goto (tgt := 24) hx hb dX1_isCountedOut_20 (by decide) ?_
    refine W.widen (k := 0) (n := 0) (by omega) (by omega) ?_
    exact W.zret (v := 1) (ty := .boolean) hx hb hr (by decide) (fun t ht hWm => ⟨⟨1, (), rfl, (by first | exact Or.inl rfl | exact Or.inr rfl), ⟨F_25, QT.mk ht hP hD hO hR⟩⟩, hS.F ht⟩) hS.2.2 dX1_isCountedOut_24
theorem dec8 {i x : Int32} (ex : x = i + Int32.ofInt (-8)) (c : ¬ i < 0) : (x.toInt + 8).toNat < (i.toInt + 8).toNat := by
  have h0 : (0 : Int32).toInt = 0 := by decide
  have h1 : 0 ≤ i.toInt := by
    rw [Int32.lt_iff_toInt_lt, h0] at c
    omega
  have h2 := i.toInt_lt
  have h3 : x.toInt = i.toInt - 8 := by
    rw [ex, Int32.toInt_add, show (Int32.ofInt (-8)).toInt = -8 from by decide]
    exact Int.bmod_eq_of_le (by omega) (by omega)
  omega
set_option maxHeartbeats 4000000 in
set_option maxRecDepth 100000 in
theorem s_X1_addQuad (l : Launch) (dC : Nat → ClassId) (dI : Nat → Nat → Nat) (cs : Nat → ClassId) (ty : TyM) (L : List Nat) (sz : Nat) (F : Nat → va_E) (h0 : Nat) (ρ : Nat) (d : Nat) (δ : Nat) (ea : Nat) (w0 : Nat) (w1 : Nat) (w2 : Nat) (w3 : Nat) (nm : Nat) (te : Nat) (hW : WT ty L) (hL_h0 : h0 ∈ L) (hT_h0 : ty h0 = (1, ρ, [d, δ, ea, w0, w1, w2, w3, nm, te])) : Met l yX1_addQuad (.code yX1_addQuad cX1_addQuad 3 none :: tb) ({ frames := 1, cells := 0, slots := 0, locals := 21 }) (va_Pc [.ref h0] (PT (dC, dI) cs ty L F sz)) (va_Qv (fun _ : Unit => True) (fun _ T9 => ∃ F2 : Nat → va_E, QT (dC, dI) cs ty L [ρ + 1] F F2 (va_A (va_pl L F) sz) T9) (va_A (va_pl L F) sz)) 0 0 (va_A (va_pl L F) sz) := by
  refine Met.ofW (cc := cX1_addQuad) (maxL := 3) (ret := none) (by decide) rfl ?_
  intro p e s m args below meth c s₁ B hml hv
  obtain ⟨rfl, hsz, hP, hK, hD0, hE, hO⟩ := hv
  have hx := B.exec
  have hb := B.bytes
  have hr := B.returns
  have hts : ∀ w ∈ tb, w.before _ s = true := fun w h => atoms_spec (ws := .code yX1_addQuad cX1_addQuad 3 none :: tb) B.pre w (List.mem_cons_of_mem _ h)
  have hown : s.vm.findClass RX1 = some m.cls := findClass_of_methodNamed B.named
  have hlocks := B.notSynchronized
  subst hsz
  have hD := hD0.self (sz := s.heap.size)
  generalize hAe : va_A (va_pl L F) s.heap.size = A at hD ⊢
  have hA : ∀ q : Nat, s.heap.size ≤ q → A q := fun q h => by rw [← hAe]; exact Or.inr h
  have hS : va_S A s.heap s.heap [] := va_S.rf
  have hR : FR ty [ρ + 1] F F := FR.refl
  have hl := lv_entry ([.ref h0]) (n := 3) (Nat.le_of_ble_eq_true rfl)
  rw [lg_entry_eq]
  generalize (lg_sl ([.ref h0]) ++ List.replicate (3 - (lg_sl ([.ref h0])).length) Slot.unset).toArray = ls at hl ⊢
  have hl : lv_has ls 3 [(0, .ref h0)] := hl
  refine lv_bipush (v := 24) hx hb dX1_addQuad_0 (by decide) ?_
  refine lv_istore_n (lv' := [(1, .int 24), (0, .ref h0)]) hx hb dX1_addQuad_2 rfl hl (by decide) rfl (fun ls hl => ?_)
  refine W.widen (k := 0) (n := 0) (by omega) (by omega) ?_
  refine pl_loop (σ := Int32) A (dC, dI) cs ty L [ρ + 1] F 3 3 (fun i1 => [(1, .int i1), (0, .ref h0)]) (fun i1 => []) (fun i1 _ => True) (fun i1 => (i1.toInt + 8).toNat) ?_ 24 F (trivial) hO hR _ _ hP hD hS ls (lv_sub hl [0, 1] rfl)
  rintro i1 F_1 hv_2 hO hR ih_3 H locs hP hD hS ls hl
  have hl : lv_has ls 3 [(1, .int i1), (0, .ref h0)] := hl
  have hv_2 : True := hv_2
  refine W.eq (g2 := F0 m 3 ls []) rfl ?_
  refine lv_iload_n hx hb dX1_addQuad_3 rfl (lv_at hl 0 rfl) ?_
  refine lv_if_lt (tgt := 94) hx hb dX1_addQuad_4 (by decide) (fun c_4 => ?_) (fun c_4 => ?_)
  ·
    refine W.widen (k := 0) (n := 0) (by omega) (by omega) ?_
    exact W.vret hx hb hr (fun t ht hWm => ⟨⟨(), rfl, trivial, ⟨F_1, QT.mk ht hP hD hO hR⟩⟩, hS.F ht⟩) hS.2.2 dX1_addQuad_94
  ·
    have hc4 := c_4
    refine lv_aload_n hx hb dX1_addQuad_7 rfl (lv_at hl 1 rfl) ?_
    obtain ⟨hi_5, ht_6, hi_7, ⟨r_8, ht_9⟩, hi_10, ⟨r_11, ht_12⟩, hi_13, ⟨r_14, ht_15⟩, hi_16, ⟨r_17, ht_18⟩, hi_19, ht_20, hi_21, ht_22⟩ := hW.chk hL_h0 hT_h0
    obtain ⟨v0_23, v1_24, v2_25, v3_26, hF_27⟩ := hO.chk hL_h0 hT_h0
    refine pg_get (ci := 1) (v := .int v0_23) (C := RX1) (T := TX1) (N := 11) hx hb hts it_1 hown hK hP hL_h0 hF_27 rfl 7 (by decide) (hts _ kt_305) (fun _ h9 => h9) rfl dX1_addQuad_8 ?_
    refine lv_iload_n hx hb dX1_addQuad_11 rfl (lv_at hl 0 rfl) ?_
    refine lv_iushr hx hb dX1_addQuad_12 rfl ?_
    refine lv_topi (fun x_29 _ => ?_)
    refine lv_sipush (v := 255) hx hb dX1_addQuad_13 (by decide) ?_
    refine lv_iand hx hb dX1_addQuad_16 ?_
    refine lv_topi (fun x_30 _ => ?_)
    refine lv_istore_n (lv' := [(2, .int x_30), (1, .int i1), (0, .ref h0)]) hx hb dX1_addQuad_17 rfl hl (by decide) rfl (fun ls hl => ?_)
    refine W.widen (k := 0) (n := 0) (by omega) (by omega) ?_
    refine pl_cut (σ := Unit) A (dC, dI) cs ty L [ρ + 1] F 38 3 (fun u0 => [(2, .int x_30), (1, .int i1), (0, .ref h0)]) (fun u0 => []) (fun u0 _ => True) ?_ (fun jn_31 => ?_)
    ·
      rintro u0 F_32 hv_33 hO hR H locs hP hD hS ls hl
      have hl : lv_has ls 3 [(2, .int x_30), (1, .int i1), (0, .ref h0)] := hl
      have hv_33 : True := hv_33
      refine W.eq (g2 := F0 m 38 ls []) rfl ?_
      refine W.widen (k := 0) (n := 0) (by omega) (by omega) ?_
      refine pl_cut (σ := Unit) A (dC, dI) cs ty L [ρ + 1] F 61 3 (fun u0 => [(2, .int x_30), (1, .int i1), (0, .ref h0)]) (fun u0 => []) (fun u0 _ => True) ?_ (fun jn_34 => ?_)
      ·
        rintro u0 F_35 hv_36 hO hR H locs hP hD hS ls hl
        have hl : lv_has ls 3 [(2, .int x_30), (1, .int i1), (0, .ref h0)] := hl
        have hv_36 : True := hv_36
        refine W.eq (g2 := F0 m 61 ls []) rfl ?_
        refine lv_aload_n hx hb dX1_addQuad_61 rfl (lv_at hl 2 rfl) ?_
        obtain ⟨v0_37, v1_38, v2_39, v3_40, hF_41⟩ := hO.chk hL_h0 hT_h0
        refine pg_get (ci := 1) (v := .ref w3) (C := RX1) (T := TX1) (N := 11) hx hb hts it_1 hown hK hP hL_h0 hF_41 rfl 4 (by decide) (hts _ kt_306) (fun _ h9 => h9) rfl dX1_addQuad_62 ?_
        refine lv_bipush (v := 48) hx hb dX1_addQuad_65 (by decide) ?_
        refine lv_iload_n hx hb dX1_addQuad_67 rfl (lv_at hl 0 rfl) ?_
        refine lv_bipush (v := 10) hx hb dX1_addQuad_68 (by decide) ?_
        refine lv_irem hx hb dX1_addQuad_70 (by decide) ?_
        refine lv_topi (fun x_42 _ => ?_)
        refine lv_iadd hx hb dX1_addQuad_71 ?_
        refine lv_topi (fun x_43 _ => ?_)
        have hFc := pg_free hD hS hA
        obtain ⟨hi_44, ht_45, hq_46⟩ := hW.bytes hi_16 ht_18
        obtain ⟨z_47, o_48, hF_49, hq_50, hq_51⟩ := hO.bytes hi_16 ht_18
        refine va_callv (va_runV (As := [.int x_43]) (rest := []) ⟨hx, hb, hml, hown, hts⟩ (s_X0_add l dC dI cs ty L H.size F_35 w3 (ρ + 1) r_17 15 x_43 hW hi_16 ht_18) ⟨callB_of 1 hts (gi kt_13) rfl rfl rfl (hts _ kt_1) (hts _ kt_307) (by decide +kernel) ⟨Nat.le_of_ble_eq_true rfl, Nat.le_of_ble_eq_true rfl⟩, (hts _ kt_15), (hts _ kt_16)⟩ ⟨fun a U g mk q => ⟨q.1, PT.calling q.2⟩, pg_recv hK hP hi_16 hF_49 (q := (RX0, TX0, 3)) rfl, fun U hU hWm => ⟨rfl, PT.mk hU hWm hP hK hD hE hO⟩⟩ rfl rfl hl.1 rfl (lv_room (Nat.le_of_ble_eq_true rfl)) dX1_addQuad_72 ⟨by show _ + 0 ≤ 0; omega, by show _ + 0 ≤ 0; omega⟩) hS (fun q _ h => hFc q h) hFc (fun u t H1 locs ht hvm hw hB hz1 hk1 hS => ?_)
        obtain ⟨F_53, hB1⟩ := hB
        obtain ⟨hP, hD, hO, hR⟩ := QT.back hB1 ht hFc hR (fun q h => by simp only [List.mem_cons, List.not_mem_nil, or_false] at h ⊢; omega)
        have hF_54 : F_53 h0 = .inr (1, [.ref d, .ref w0, .ref w1, .ref w2, .ref w3, .ref nm, .ref te, .int v0_37, .int v1_38, .int v2_39, .int v3_40]) := (hB1.2.2.2 h0 (by rw [hT_h0]; simp)).trans hF_41
        generalize H1 = H at hP hS ⊢
        refine lv_iload_n hx hb dX1_addQuad_75 rfl (lv_at hl 1 rfl) ?_
        refine lv_if_le (tgt := 88) hx hb dX1_addQuad_76 (by decide) (fun c_55 => ?_) (fun c_55 => ?_)
        ·
          obtain ⟨x_56, ex_56⟩ : ∃ y : Int32, y = i1 + Int32.ofInt (-8) := ⟨_, rfl⟩
          refine lv_iinc (v := x_56) (lv' := [(1, .int x_56), (2, .int x_30), (0, .ref h0)]) hx hb dX1_addQuad_88 hl (k := 1) rfl (ex_56.symm) (by decide) rfl (fun ls hl => ?_)
          refine lv_goto (tgt := 3) hx hb dX1_addQuad_91 (by decide) ?_
          refine W.widen (k := 0) (n := 0) (by omega) (by omega) ?_
          exact ih_3 x_56 F_53 (trivial) (by show (x_56.toInt + 8).toNat < (i1.toInt + 8).toNat; exact dec8 ex_56 hc4) hO hR _ _ hP hD hS ls (lv_sub hl [0, 2] rfl)
        ·
          refine lv_aload_n hx hb dX1_addQuad_79 rfl (lv_at hl 2 rfl) ?_
          refine pg_get (ci := 1) (v := .ref w3) (C := RX1) (T := TX1) (N := 11) hx hb hts it_1 hown hK hP hL_h0 hF_54 rfl 4 (by decide) (hts _ kt_306) (fun _ h9 => h9) rfl dX1_addQuad_80 ?_
          refine lv_bipush (v := 46) hx hb dX1_addQuad_83 (by decide) ?_
          have hFc := pg_free hD hS hA
          obtain ⟨z_57, o_58, hF_59, hq_60, hq_61⟩ := hO.bytes hi_16 ht_18
          refine va_callv (va_runV (As := [.int 46]) (rest := []) ⟨hx, hb, hml, hown, hts⟩ (s_X0_add l dC dI cs ty L H.size F_53 w3 (ρ + 1) r_17 15 46 hW hi_16 ht_18) ⟨callB_of 1 hts (gi kt_13) rfl rfl rfl (hts _ kt_1) (hts _ kt_307) (by decide +kernel) ⟨Nat.le_of_ble_eq_true rfl, Nat.le_of_ble_eq_true rfl⟩, (hts _ kt_15), (hts _ kt_16)⟩ ⟨fun a U g mk q => ⟨q.1, PT.calling q.2⟩, pg_recv hK hP hi_16 hF_59 (q := (RX0, TX0, 3)) rfl, fun U hU hWm => ⟨rfl, PT.mk hU hWm hP hK hD hE hO⟩⟩ rfl rfl hl.1 rfl (lv_room (Nat.le_of_ble_eq_true rfl)) dX1_addQuad_85 ⟨by show _ + 0 ≤ 0; omega, by show _ + 0 ≤ 0; omega⟩) hS (fun q _ h => hFc q h) hFc (fun u t H1 locs ht hvm hw hB hz1 hk1 hS => ?_)
          obtain ⟨F_63, hB1⟩ := hB
          obtain ⟨hP, hD, hO, hR⟩ := QT.back hB1 ht hFc hR (fun q h => by simp only [List.mem_cons, List.not_mem_nil, or_false] at h ⊢; omega)
          have hF_64 : F_63 h0 = .inr (1, [.ref d, .ref w0, .ref w1, .ref w2, .ref w3, .ref nm, .ref te, .int v0_37, .int v1_38, .int v2_39, .int v3_40]) := (hB1.2.2.2 h0 (by rw [hT_h0]; simp)).trans hF_54
          generalize H1 = H at hP hS ⊢
          obtain ⟨x_65, ex_65⟩ : ∃ y : Int32, y = i1 + Int32.ofInt (-8) := ⟨_, rfl⟩
          refine lv_iinc (v := x_65) (lv' := [(1, .int x_65), (2, .int x_30), (0, .ref h0)]) hx hb dX1_addQuad_88 hl (k := 1) rfl (ex_65.symm) (by decide) rfl (fun ls hl => ?_)
          refine lv_goto (tgt := 3) hx hb dX1_addQuad_91 (by decide) ?_
          refine W.widen (k := 0) (n := 0) (by omega) (by omega) ?_
          exact ih_3 x_65 F_63 (trivial) (by show (x_65.toInt + 8).toNat < (i1.toInt + 8).toNat; exact dec8 ex_65 hc4) hO hR _ _ hP hD hS ls (lv_sub hl [0, 2] rfl)
      ·
        refine lv_iload_n hx hb dX1_addQuad_38 rfl (lv_at hl 0 rfl) ?_
        refine lv_bipush (v := 10) hx hb dX1_addQuad_39 (by decide) ?_
        refine lv_icmp_lt (tgt := 61) hx hb dX1_addQuad_41 (by decide) (fun c_66 => ?_) (fun c_66 => ?_)
        ·
          refine W.widen (k := 0) (n := 0) (by omega) (by omega) ?_
          exact jn_34 () F_32 (trivial) hO hR _ _ hP hD hS ls (lv_sub hl [0, 1, 2] rfl)
        ·
          refine lv_aload_n hx hb dX1_addQuad_44 rfl (lv_at hl 2 rfl) ?_
          obtain ⟨v0_67, v1_68, v2_69, v3_70, hF_71⟩ := hO.chk hL_h0 hT_h0
          refine pg_get (ci := 1) (v := .ref w3) (C := RX1) (T := TX1) (N := 11) hx hb hts it_1 hown hK hP hL_h0 hF_71 rfl 4 (by decide) (hts _ kt_306) (fun _ h9 => h9) rfl dX1_addQuad_45 ?_
          refine lv_bipush (v := 48) hx hb dX1_addQuad_48 (by decide) ?_
          refine lv_iload_n hx hb dX1_addQuad_50 rfl (lv_at hl 0 rfl) ?_
          refine lv_bipush (v := 10) hx hb dX1_addQuad_51 (by decide) ?_
          refine lv_idiv hx hb dX1_addQuad_53 (by decide) ?_
          refine lv_topi (fun x_72 _ => ?_)
          refine lv_bipush (v := 10) hx hb dX1_addQuad_54 (by decide) ?_
          refine lv_irem hx hb dX1_addQuad_56 (by decide) ?_
          refine lv_topi (fun x_73 _ => ?_)
          refine lv_iadd hx hb dX1_addQuad_57 ?_
          refine lv_topi (fun x_74 _ => ?_)
          have hFc := pg_free hD hS hA
          obtain ⟨hi_75, ht_76, hq_77⟩ := hW.bytes hi_16 ht_18
          obtain ⟨z_78, o_79, hF_80, hq_81, hq_82⟩ := hO.bytes hi_16 ht_18
          refine va_callv (va_runV (As := [.int x_74]) (rest := []) ⟨hx, hb, hml, hown, hts⟩ (s_X0_add l dC dI cs ty L H.size F_32 w3 (ρ + 1) r_17 15 x_74 hW hi_16 ht_18) ⟨callB_of 1 hts (gi kt_13) rfl rfl rfl (hts _ kt_1) (hts _ kt_307) (by decide +kernel) ⟨Nat.le_of_ble_eq_true rfl, Nat.le_of_ble_eq_true rfl⟩, (hts _ kt_15), (hts _ kt_16)⟩ ⟨fun a U g mk q => ⟨q.1, PT.calling q.2⟩, pg_recv hK hP hi_16 hF_80 (q := (RX0, TX0, 3)) rfl, fun U hU hWm => ⟨rfl, PT.mk hU hWm hP hK hD hE hO⟩⟩ rfl rfl hl.1 rfl (lv_room (Nat.le_of_ble_eq_true rfl)) dX1_addQuad_58 ⟨by show _ + 0 ≤ 0; omega, by show _ + 0 ≤ 0; omega⟩) hS (fun q _ h => hFc q h) hFc (fun u t H1 locs ht hvm hw hB hz1 hk1 hS => ?_)
          obtain ⟨F_84, hB1⟩ := hB
          obtain ⟨hP, hD, hO, hR⟩ := QT.back hB1 ht hFc hR (fun q h => by simp only [List.mem_cons, List.not_mem_nil, or_false] at h ⊢; omega)
          have hF_85 : F_84 h0 = .inr (1, [.ref d, .ref w0, .ref w1, .ref w2, .ref w3, .ref nm, .ref te, .int v0_67, .int v1_68, .int v2_69, .int v3_70]) := (hB1.2.2.2 h0 (by rw [hT_h0]; simp)).trans hF_71
          generalize H1 = H at hP hS ⊢
          refine W.widen (k := 0) (n := 0) (by omega) (by omega) ?_
          exact jn_34 () F_84 (trivial) hO hR _ _ hP hD hS ls (lv_sub hl [0, 1, 2] rfl)
    ·
      refine lv_iload_n hx hb dX1_addQuad_18 rfl (lv_at hl 0 rfl) ?_
      refine lv_bipush (v := 100) hx hb dX1_addQuad_19 (by decide) ?_
      refine lv_icmp_lt (tgt := 38) hx hb dX1_addQuad_21 (by decide) (fun c_86 => ?_) (fun c_86 => ?_)
      ·
        refine W.widen (k := 0) (n := 0) (by omega) (by omega) ?_
        exact jn_31 () F_1 (trivial) hO hR _ _ hP hD hS ls (lv_sub hl [0, 1, 2] rfl)
      ·
        refine lv_aload_n hx hb dX1_addQuad_24 rfl (lv_at hl 2 rfl) ?_
        refine pg_get (ci := 1) (v := .ref w3) (C := RX1) (T := TX1) (N := 11) hx hb hts it_1 hown hK hP hL_h0 hF_27 rfl 4 (by decide) (hts _ kt_306) (fun _ h9 => h9) rfl dX1_addQuad_25 ?_
        refine lv_bipush (v := 48) hx hb dX1_addQuad_28 (by decide) ?_
        refine lv_iload_n hx hb dX1_addQuad_30 rfl (lv_at hl 0 rfl) ?_
        refine lv_bipush (v := 100) hx hb dX1_addQuad_31 (by decide) ?_
        refine lv_idiv hx hb dX1_addQuad_33 (by decide) ?_
        refine lv_topi (fun x_87 _ => ?_)
        refine lv_iadd hx hb dX1_addQuad_34 ?_
        refine lv_topi (fun x_88 _ => ?_)
        have hFc := pg_free hD hS hA
        obtain ⟨hi_89, ht_90, hq_91⟩ := hW.bytes hi_16 ht_18
        obtain ⟨z_92, o_93, hF_94, hq_95, hq_96⟩ := hO.bytes hi_16 ht_18
        refine va_callv (va_runV (As := [.int x_88]) (rest := []) ⟨hx, hb, hml, hown, hts⟩ (s_X0_add l dC dI cs ty L H.size F_1 w3 (ρ + 1) r_17 15 x_88 hW hi_16 ht_18) ⟨callB_of 1 hts (gi kt_13) rfl rfl rfl (hts _ kt_1) (hts _ kt_307) (by decide +kernel) ⟨Nat.le_of_ble_eq_true rfl, Nat.le_of_ble_eq_true rfl⟩, (hts _ kt_15), (hts _ kt_16)⟩ ⟨fun a U g mk q => ⟨q.1, PT.calling q.2⟩, pg_recv hK hP hi_16 hF_94 (q := (RX0, TX0, 3)) rfl, fun U hU hWm => ⟨rfl, PT.mk hU hWm hP hK hD hE hO⟩⟩ rfl rfl hl.1 rfl (lv_room (Nat.le_of_ble_eq_true rfl)) dX1_addQuad_35 ⟨by show _ + 0 ≤ 0; omega, by show _ + 0 ≤ 0; omega⟩) hS (fun q _ h => hFc q h) hFc (fun u t H1 locs ht hvm hw hB hz1 hk1 hS => ?_)
        obtain ⟨F_98, hB1⟩ := hB
        obtain ⟨hP, hD, hO, hR⟩ := QT.back hB1 ht hFc hR (fun q h => by simp only [List.mem_cons, List.not_mem_nil, or_false] at h ⊢; omega)
        have hF_99 : F_98 h0 = .inr (1, [.ref d, .ref w0, .ref w1, .ref w2, .ref w3, .ref nm, .ref te, .int v0_23, .int v1_24, .int v2_25, .int v3_26]) := (hB1.2.2.2 h0 (by rw [hT_h0]; simp)).trans hF_27
        generalize H1 = H at hP hS ⊢
        refine W.widen (k := 0) (n := 0) (by omega) (by omega) ?_
        exact jn_31 () F_98 (trivial) hO hR _ _ hP hD hS ls (lv_sub hl [0, 1, 2] rfl)
set_option maxHeartbeats 4000000 in
set_option maxRecDepth 100000 in
theorem s_X1_takeSender (l : Launch) (dC : Nat → ClassId) (dI : Nat → Nat → Nat) (cs : Nat → ClassId) (ty : TyM) (L : List Nat) (sz : Nat) (F : Nat → va_E) (h0 : Nat) (ρ : Nat) (d : Nat) (δ : Nat) (ea : Nat) (w0 : Nat) (w1 : Nat) (w2 : Nat) (w3 : Nat) (nm : Nat) (te : Nat) (g1 : Nat) (σ : Nat) (r1 : Nat) (n1 : Nat) (x1 : Int32) (hW : WT ty L) (hL_h0 : h0 ∈ L) (hT_h0 : ty h0 = (1, ρ, [d, δ, ea, w0, w1, w2, w3, nm, te])) (hL_g1 : g1 ∈ L) (hT_g1 : ty g1 = (0, σ, [r1, n1])) : Met l yX1_takeSender (.code yX1_takeSender cX1_takeSender 4 (some .boolean) :: tb) ({ frames := 3, cells := 0, slots := 0, locals := 95 }) (va_Pc [.ref h0, .int x1, .ref g1] (PT (dC, dI) cs ty L F sz)) (va_Qi (fun (r : Int32) (_ : Unit) => (r = 0 ∨ r = 1)) (fun _ T9 => ∃ F2 : Nat → va_E, QT (dC, dI) cs ty L [ρ, ρ + 1] F F2 (va_A (va_pl L F) sz) T9) (va_A (va_pl L F) sz)) 0 0 (va_A (va_pl L F) sz) := by
  refine Met.ofW (cc := cX1_takeSender) (maxL := 4) (ret := (some .boolean)) (by decide) rfl ?_
  intro p e s m args below meth c s₁ B hml hv
  obtain ⟨rfl, hsz, hP, hK, hD0, hE, hO⟩ := hv
  have hx := B.exec
  have hb := B.bytes
  have hr := B.returns
  have hts : ∀ w ∈ tb, w.before _ s = true := fun w h => atoms_spec (ws := .code yX1_takeSender cX1_takeSender 4 (some .boolean) :: tb) B.pre w (List.mem_cons_of_mem _ h)
  have hown : s.vm.findClass RX1 = some m.cls := findClass_of_methodNamed B.named
  have hlocks := B.notSynchronized
  subst hsz
  have hD := hD0.self (sz := s.heap.size)
  generalize hAe : va_A (va_pl L F) s.heap.size = A at hD ⊢
  have hA : ∀ q : Nat, s.heap.size ≤ q → A q := fun q h => by rw [← hAe]; exact Or.inr h
  have hS : va_S A s.heap s.heap [] := va_S.rf
  have hR : FR ty [ρ, ρ + 1] F F := FR.refl
  have hl := lv_entry ([.ref h0, .int x1, .ref g1]) (n := 4) (Nat.le_of_ble_eq_true rfl)
  rw [lg_entry_eq]
  generalize (lg_sl ([.ref h0, .int x1, .ref g1]) ++ List.replicate (4 - (lg_sl ([.ref h0, .int x1, .ref g1])).length) Slot.unset).toArray = ls at hl ⊢
  have hl : lv_has ls 4 [(0, .ref h0), (1, .int x1), (2, .ref g1)] := hl
  refine lv_aload_n hx hb dX1_takeSender_0 rfl (lv_at hl 2 rfl) ?_
  refine lv_bipush (v := 64) hx hb dX1_takeSender_1 (by decide) ?_
  refine lv_iconst (v := 0) hx hb dX1_takeSender_3 (by decide) ?_
  refine lv_aload_n hx hb dX1_takeSender_4 rfl (lv_at hl 2 rfl) ?_
  obtain ⟨hi_1, ht_2, hq_3⟩ := hW.bytes hL_g1 hT_g1
  obtain ⟨z_4, o_5, hF_6, hq_7, hq_8⟩ := hO.bytes hL_g1 hT_g1
  refine pg_getN (ci := 0) (v := .int (nI z_4)) (C := RX0) (T := TX0) (N := 3) hx hb hts it_0 hown hK hP hL_g1 hF_6 rfl 1 (by decide) (hE.nest kn_7) (fun _ h9 => h9) rfl dX1_takeSender_5 ?_
  have hFc := pg_free hD hS hA
  refine va_calli (va_runV (As := [.int 64, .int 0, .int (nI z_4)]) (rest := []) ⟨hx, hb, hml, hown, hts⟩ (s_X0_find l dC dI cs ty L s.heap.size F g1 σ r1 n1 64 0 (nI z_4) hW hL_g1 hT_g1) ⟨callB_of 3 hts (gi kt_122) rfl rfl rfl (hts _ kt_1) (hts _ kt_308) (by decide +kernel) ⟨Nat.le_of_ble_eq_true rfl, Nat.le_of_ble_eq_true rfl⟩, (hts _ kt_124), (hts _ kt_125)⟩ ⟨fun a U g mk q => ⟨q.1, PT.calling q.2⟩, pg_recv hK hP hL_g1 hF_6 (q := (RX0, TX0, 3)) rfl, fun U hU hWm => ⟨rfl, PT.mk hU hWm hP hK hD hE hO⟩⟩ rfl rfl hl.1 rfl (lv_room (Nat.le_of_ble_eq_true rfl)) dX1_takeSender_8 ⟨by show _ + 0 ≤ 0; omega, by show _ + 0 ≤ 0; omega⟩) hS (fun q _ h => hFc q h) hFc (fun r_9 u t H1 locs ht hvm hw hB hz1 hk1 hS => ?_)
  obtain ⟨F_10, hB1⟩ := hB
  obtain ⟨hP, hD, hO, hR⟩ := QT.back hB1 ht hFc hR (fun q h => absurd h List.not_mem_nil)
  have hF_11 : F_10 g1 = .inr (0, [.ref r1, .int (nI z_4), .int o_5]) := (hB1.2.2.2 g1 List.not_mem_nil).trans hF_6
  generalize H1 = H at hP hS ⊢
  have hw : (r_9 = (nI z_4) ∨ ∃ j : Nat, j < n1 ∧ r_9 = nI j) := hw
  have hw_12 := hw
  have hsg := fndp hw_12 (nI_pos (by omega)) (by omega)
  refine lv_istore_n (lv' := [(3, .int r_9), (0, .ref h0), (1, .int x1), (2, .ref g1)]) hx hb dX1_takeSender_11 rfl hl (by decide) rfl (fun ls hl => ?_)
  refine lv_aload_n hx hb dX1_takeSender_12 rfl (lv_at hl 3 rfl) ?_
  refine lv_iload_n hx hb dX1_takeSender_13 rfl (lv_at hl 0 rfl) ?_
  have hFc := pg_free hD hS hA
  refine va_calli (va_runS (As := [.ref g1, .int r_9]) (rest := []) ⟨hx, hb, hml, hown, hts⟩ (s_X1_isLocal l dC dI cs ty L H.size F_10 g1 σ r1 n1 r_9 hW hL_g1 hT_g1) ⟨callB_of 2 hts (gi kt_309) rfl rfl rfl (hts _ kt_310) (hts _ kt_311) (by decide +kernel) ⟨Nat.le_of_ble_eq_true rfl, Nat.le_of_ble_eq_true rfl⟩, (hts _ kt_312)⟩ ⟨fun a U g mk q => ⟨q.1, PT.calling q.2⟩, fun U hU hWm => ⟨rfl, PT.mk hU hWm hP hK hD hE hO⟩⟩ rfl rfl hl.1 rfl (lv_room (Nat.le_of_ble_eq_true rfl)) dX1_takeSender_14 ⟨by show _ + 0 ≤ 0; omega, by show _ + 0 ≤ 0; omega⟩) hS (fun q _ h => hFc q h) hFc (fun r_13 u t H1 locs ht hvm hw hB hz1 hk1 hS => ?_)
  obtain ⟨F_14, hB1⟩ := hB
  obtain ⟨hP, hD, hO, hR⟩ := QT.back hB1 ht hFc hR (fun q h => absurd h List.not_mem_nil)
  have hF_15 : F_14 g1 = .inr (0, [.ref r1, .int (nI z_4), .int o_5]) := (hB1.2.2.2 g1 List.not_mem_nil).trans hF_11
  generalize H1 = H at hP hS ⊢
  have hw : (r_13 = 0 ∨ r_13 = 1) := hw
  have hw_16 := hw
  refine lv_if_eq (tgt := 34) hx hb dX1_takeSender_17 (by decide) (fun c_17 => ?_) (fun c_17 => ?_)
  ·
    refine lv_iconst (v := 0) hx hb dX1_takeSender_34 (by decide) ?_
    refine W.widen (k := 0) (n := 0) (by omega) (by omega) ?_
    exact W.zret (v := 0) (ty := .boolean) hx hb hr (by decide) (fun t ht hWm => ⟨⟨0, (), rfl, (by first | exact Or.inl rfl | exact Or.inr rfl), ⟨F_14, QT.mk ht hP hD hO hR⟩⟩, hS.F ht⟩) hS.2.2 dX1_takeSender_35
  ·
    refine lv_aload_n hx hb dX1_takeSender_20 rfl (lv_at hl 3 rfl) ?_
    refine lv_iload_n hx hb dX1_takeSender_21 rfl (lv_at hl 0 rfl) ?_
    refine lv_iconst (v := 1) hx hb dX1_takeSender_22 (by decide) ?_
    refine lv_iadd hx hb dX1_takeSender_23 ?_
    refine lv_topi (fun x_18 _ => ?_)
    refine lv_aload_n hx hb dX1_takeSender_24 rfl (lv_at hl 3 rfl) ?_
    refine pg_getN (ci := 0) (v := .int (nI z_4)) (C := RX0) (T := TX0) (N := 3) hx hb hts it_0 hown hK hP hL_g1 hF_15 rfl 1 (by decide) (hE.nest kn_7) (fun _ h9 => h9) rfl dX1_takeSender_25 ?_
    have hFc := pg_free hD hS hA
    refine va_calli (va_runV (As := [.int x_18, .int (nI z_4)]) (rest := []) ⟨hx, hb, hml, hown, hts⟩ (s_X0_isName l dC dI cs ty L H.size F_14 g1 σ r1 n1 x_18 (nI z_4) hW hL_g1 hT_g1) ⟨callB_of 2 hts (gi kt_108) rfl rfl rfl (hts _ kt_1) (hts _ kt_313) (by decide +kernel) ⟨Nat.le_of_ble_eq_true rfl, Nat.le_of_ble_eq_true rfl⟩, (hts _ kt_110), (hts _ kt_111)⟩ ⟨fun a U g mk q => ⟨q.1, PT.calling q.2⟩, pg_recv hK hP hL_g1 hF_15 (q := (RX0, TX0, 3)) rfl, fun U hU hWm => ⟨rfl, PT.mk hU hWm hP hK hD hE hO⟩⟩ rfl rfl hl.1 rfl (lv_room (Nat.le_of_ble_eq_true rfl)) dX1_takeSender_28 ⟨by show _ + 0 ≤ 0; omega, by show _ + 0 ≤ 0; omega⟩) hS (fun q _ h => hFc q h) hFc (fun r_19 u t H1 locs ht hvm hw hB hz1 hk1 hS => ?_)
    obtain ⟨F_20, hB1⟩ := hB
    obtain ⟨hP, hD, hO, hR⟩ := QT.back hB1 ht hFc hR (fun q h => absurd h List.not_mem_nil)
    have hF_21 : F_20 g1 = .inr (0, [.ref r1, .int (nI z_4), .int o_5]) := (hB1.2.2.2 g1 List.not_mem_nil).trans hF_15
    generalize H1 = H at hP hS ⊢
    have hw : (r_19 = 0 ∨ r_19 = 1) := hw
    have hw_22 := hw
    refine lv_if_ne (tgt := 36) hx hb dX1_takeSender_31 (by decide) (fun c_23 => ?_) (fun c_23 => ?_)
    ·
      refine lv_aload_n hx hb dX1_takeSender_36 rfl (lv_at hl 1 rfl) ?_
      obtain ⟨hi_24, ht_25, hi_26, ⟨r_27, ht_28⟩, hi_29, ⟨r_30, ht_31⟩, hi_32, ⟨r_33, ht_34⟩, hi_35, ⟨r_36, ht_37⟩, hi_38, ht_39, hi_40, ht_41⟩ := hW.chk hL_h0 hT_h0
      obtain ⟨v0_42, v1_43, v2_44, v3_45, hF_46⟩ := hO.chk hL_h0 hT_h0
      refine pg_get (ci := 1) (v := .ref w0) (C := RX1) (T := TX1) (N := 11) hx hb hts it_1 hown hK hP hL_h0 hF_46 rfl 1 (by decide) (hts _ kt_314) (fun _ h9 => h9) rfl dX1_takeSender_37 ?_
      refine lv_aload_n hx hb dX1_takeSender_40 rfl (lv_at hl 3 rfl) ?_
      have hFc := pg_free hD hS hA
      obtain ⟨hi_47, ht_48, hq_49⟩ := hW.bytes hi_26 ht_28
      obtain ⟨z_50, o_51, hF_52, hq_53, hq_54⟩ := hO.bytes hi_26 ht_28
      refine va_callv (va_runV (As := [.ref g1]) (rest := []) ⟨hx, hb, hml, hown, hts⟩ (s_X0_copy l dC dI cs ty L H.size F_20 w0 (ρ + 1) r_27 91 g1 σ r1 n1 hW hi_26 ht_28 hL_g1 hT_g1) ⟨callB_of 1 hts (gi kt_221) rfl rfl rfl (hts _ kt_1) (hts _ kt_315) (by decide +kernel) ⟨Nat.le_of_ble_eq_true rfl, Nat.le_of_ble_eq_true rfl⟩, (hts _ kt_223), (hts _ kt_224)⟩ ⟨fun a U g mk q => ⟨q.1, PT.calling q.2⟩, pg_recv hK hP hi_26 hF_52 (q := (RX0, TX0, 3)) rfl, fun U hU hWm => ⟨rfl, PT.mk hU hWm hP hK hD hE hO⟩⟩ rfl rfl hl.1 rfl (lv_room (Nat.le_of_ble_eq_true rfl)) dX1_takeSender_41 ⟨by show _ + 0 ≤ 0; omega, by show _ + 0 ≤ 0; omega⟩) hS (fun q _ h => hFc q h) hFc (fun u t H1 locs ht hvm hw hB hz1 hk1 hS => ?_)
      obtain ⟨F_56, hB1⟩ := hB
      obtain ⟨hP, hD, hO, hR⟩ := QT.back hB1 ht hFc hR (fun q h => by simp only [List.mem_cons, List.not_mem_nil, or_false] at h ⊢; omega)
      have hF_57 : F_56 h0 = .inr (1, [.ref d, .ref w0, .ref w1, .ref w2, .ref w3, .ref nm, .ref te, .int v0_42, .int v1_43, .int v2_44, .int v3_45]) := (hB1.2.2.2 h0 (by rw [hT_h0]; simp)).trans hF_46
      generalize H1 = H at hP hS ⊢
      refine lv_aload_n hx hb dX1_takeSender_44 rfl (lv_at hl 1 rfl) ?_
      refine pg_get (ci := 1) (v := .ref w1) (C := RX1) (T := TX1) (N := 11) hx hb hts it_1 hown hK hP hL_h0 hF_57 rfl 2 (by decide) (hts _ kt_316) (fun _ h9 => h9) rfl dX1_takeSender_45 ?_
      have hFc := pg_free hD hS hA
      obtain ⟨hi_58, ht_59, hq_60⟩ := hW.bytes hi_29 ht_31
      obtain ⟨z_61, o_62, hF_63, hq_64, hq_65⟩ := hO.bytes hi_29 ht_31
      refine va_callv (va_runV (As := []) (rest := []) ⟨hx, hb, hml, hown, hts⟩ (s_X0_clear l dC dI cs ty L H.size F_56 w1 (ρ + 1) r_30 30 hW hi_29 ht_31) ⟨callB_of 0 hts (gi kt_32) rfl rfl rfl (hts _ kt_1) (hts _ kt_317) (by decide +kernel) ⟨Nat.le_of_ble_eq_true rfl, Nat.le_of_ble_eq_true rfl⟩, (hts _ kt_34), (hts _ kt_35)⟩ ⟨fun a U g mk q => ⟨q.1, PT.calling q.2⟩, pg_recv hK hP hi_29 hF_63 (q := (RX0, TX0, 3)) rfl, fun U hU hWm => ⟨rfl, PT.mk hU hWm hP hK hD hE hO⟩⟩ rfl rfl hl.1 rfl (lv_room (Nat.le_of_ble_eq_true rfl)) dX1_takeSender_48 ⟨by show _ + 0 ≤ 0; omega, by show _ + 0 ≤ 0; omega⟩) hS (fun q _ h => hFc q h) hFc (fun u t H1 locs ht hvm hw hB hz1 hk1 hS => ?_)
      obtain ⟨F_67, hB1, hq_68⟩ := hB
      obtain ⟨hP, hD, hO, hR⟩ := QT.back hB1 ht hFc hR (fun q h => by simp only [List.mem_cons, List.not_mem_nil, or_false] at h ⊢; omega)
      have hF_69 : F_67 h0 = .inr (1, [.ref d, .ref w0, .ref w1, .ref w2, .ref w3, .ref nm, .ref te, .int v0_42, .int v1_43, .int v2_44, .int v3_45]) := (hB1.2.2.2 h0 (by rw [hT_h0]; simp)).trans hF_57
      generalize H1 = H at hP hS ⊢
      refine lv_aload_n hx hb dX1_takeSender_51 rfl (lv_at hl 1 rfl) ?_
      refine pg_get (ci := 1) (v := .ref w1) (C := RX1) (T := TX1) (N := 11) hx hb hts it_1 hown hK hP hL_h0 hF_69 rfl 2 (by decide) (hts _ kt_316) (fun _ h9 => h9) rfl dX1_takeSender_52 ?_
      refine lv_aload_n hx hb dX1_takeSender_55 rfl (lv_at hl 3 rfl) ?_
      refine lv_iconst (v := 0) hx hb dX1_takeSender_56 (by decide) ?_
      refine lv_iload_n hx hb dX1_takeSender_57 rfl (lv_at hl 0 rfl) ?_
      have hFc := pg_free hD hS hA
      refine va_callv (va_runV (As := [.ref g1, .int 0, .int r_9]) (rest := []) ⟨hx, hb, hml, hown, hts⟩ (s_X0_addRange l dC dI cs ty L H.size F_67 w1 (ρ + 1) r_30 30 g1 σ r1 n1 0 r_9 hW hi_29 ht_31 hL_g1 hT_g1 (hsg)) ⟨callB_of 3 hts (gi kt_36) rfl rfl rfl (hts _ kt_1) (hts _ kt_318) (by decide +kernel) ⟨Nat.le_of_ble_eq_true rfl, Nat.le_of_ble_eq_true rfl⟩, (hts _ kt_38), (hts _ kt_39)⟩ ⟨fun a U g mk q => ⟨q.1, PT.calling q.2⟩, pg_recv hK hP hi_29 hq_68 (q := (RX0, TX0, 3)) rfl, fun U hU hWm => ⟨rfl, PT.mk hU hWm hP hK hD hE hO⟩⟩ rfl rfl hl.1 rfl (lv_room (Nat.le_of_ble_eq_true rfl)) dX1_takeSender_58 ⟨by show _ + 0 ≤ 0; omega, by show _ + 0 ≤ 0; omega⟩) hS (fun q _ h => hFc q h) hFc (fun u t H1 locs ht hvm hw hB hz1 hk1 hS => ?_)
      obtain ⟨F_71, hB1⟩ := hB
      obtain ⟨hP, hD, hO, hR⟩ := QT.back hB1 ht hFc hR (fun q h => by simp only [List.mem_cons, List.not_mem_nil, or_false] at h ⊢; omega)
      have hF_72 : F_71 h0 = .inr (1, [.ref d, .ref w0, .ref w1, .ref w2, .ref w3, .ref nm, .ref te, .int v0_42, .int v1_43, .int v2_44, .int v3_45]) := (hB1.2.2.2 h0 (by rw [hT_h0]; simp)).trans hF_69
      generalize H1 = H at hP hS ⊢
      refine lv_aload_n hx hb dX1_takeSender_61 rfl (lv_at hl 1 rfl) ?_
      refine pg_get (ci := 1) (v := .ref w2) (C := RX1) (T := TX1) (N := 11) hx hb hts it_1 hown hK hP hL_h0 hF_72 rfl 3 (by decide) (hts _ kt_319) (fun _ h9 => h9) rfl dX1_takeSender_62 ?_
      have hFc := pg_free hD hS hA
      obtain ⟨hi_73, ht_74, hq_75⟩ := hW.bytes hi_32 ht_34
      obtain ⟨z_76, o_77, hF_78, hq_79, hq_80⟩ := hO.bytes hi_32 ht_34
      refine va_callv (va_runV (As := []) (rest := []) ⟨hx, hb, hml, hown, hts⟩ (s_X0_clear l dC dI cs ty L H.size F_71 w2 (ρ + 1) r_33 60 hW hi_32 ht_34) ⟨callB_of 0 hts (gi kt_32) rfl rfl rfl (hts _ kt_1) (hts _ kt_317) (by decide +kernel) ⟨Nat.le_of_ble_eq_true rfl, Nat.le_of_ble_eq_true rfl⟩, (hts _ kt_34), (hts _ kt_35)⟩ ⟨fun a U g mk q => ⟨q.1, PT.calling q.2⟩, pg_recv hK hP hi_32 hF_78 (q := (RX0, TX0, 3)) rfl, fun U hU hWm => ⟨rfl, PT.mk hU hWm hP hK hD hE hO⟩⟩ rfl rfl hl.1 rfl (lv_room (Nat.le_of_ble_eq_true rfl)) dX1_takeSender_65 ⟨by show _ + 0 ≤ 0; omega, by show _ + 0 ≤ 0; omega⟩) hS (fun q _ h => hFc q h) hFc (fun u t H1 locs ht hvm hw hB hz1 hk1 hS => ?_)
      obtain ⟨F_82, hB1, hq_83⟩ := hB
      obtain ⟨hP, hD, hO, hR⟩ := QT.back hB1 ht hFc hR (fun q h => by simp only [List.mem_cons, List.not_mem_nil, or_false] at h ⊢; omega)
      have hF_84 : F_82 h0 = .inr (1, [.ref d, .ref w0, .ref w1, .ref w2, .ref w3, .ref nm, .ref te, .int v0_42, .int v1_43, .int v2_44, .int v3_45]) := (hB1.2.2.2 h0 (by rw [hT_h0]; simp)).trans hF_72
      generalize H1 = H at hP hS ⊢
      refine lv_aload_n hx hb dX1_takeSender_68 rfl (lv_at hl 1 rfl) ?_
      refine pg_get (ci := 1) (v := .ref w2) (C := RX1) (T := TX1) (N := 11) hx hb hts it_1 hown hK hP hL_h0 hF_84 rfl 3 (by decide) (hts _ kt_319) (fun _ h9 => h9) rfl dX1_takeSender_69 ?_
      refine lv_aload_n hx hb dX1_takeSender_72 rfl (lv_at hl 3 rfl) ?_
      refine lv_iload_n hx hb dX1_takeSender_73 rfl (lv_at hl 0 rfl) ?_
      refine lv_iconst (v := 1) hx hb dX1_takeSender_74 (by decide) ?_
      refine lv_iadd hx hb dX1_takeSender_75 ?_
      refine lv_topi (fun x_85 _ => ?_)
      refine lv_aload_n hx hb dX1_takeSender_76 rfl (lv_at hl 3 rfl) ?_
      obtain ⟨z_86, o_87, hF_88, hq_89, hq_90⟩ := hO.bytes hL_g1 hT_g1
      refine pg_getN (ci := 0) (v := .int (nI z_86)) (C := RX0) (T := TX0) (N := 3) hx hb hts it_0 hown hK hP hL_g1 hF_88 rfl 1 (by decide) (hE.nest kn_7) (fun _ h9 => h9) rfl dX1_takeSender_77 ?_
      have hFc := pg_free hD hS hA
      refine va_callv (va_runV (As := [.ref g1, .int x_85, .int (nI z_86)]) (rest := []) ⟨hx, hb, hml, hown, hts⟩ (s_X0_addRange l dC dI cs ty L H.size F_82 w2 (ρ + 1) r_33 60 g1 σ r1 n1 x_85 (nI z_86) hW hi_32 ht_34 hL_g1 hT_g1 (nI_pos (by omega))) ⟨callB_of 3 hts (gi kt_36) rfl rfl rfl (hts _ kt_1) (hts _ kt_318) (by decide +kernel) ⟨Nat.le_of_ble_eq_true rfl, Nat.le_of_ble_eq_true rfl⟩, (hts _ kt_38), (hts _ kt_39)⟩ ⟨fun a U g mk q => ⟨q.1, PT.calling q.2⟩, pg_recv hK hP hi_32 hq_83 (q := (RX0, TX0, 3)) rfl, fun U hU hWm => ⟨rfl, PT.mk hU hWm hP hK hD hE hO⟩⟩ rfl rfl hl.1 rfl (lv_room (Nat.le_of_ble_eq_true rfl)) dX1_takeSender_80 ⟨by show _ + 0 ≤ 0; omega, by show _ + 0 ≤ 0; omega⟩) hS (fun q _ h => hFc q h) hFc (fun u t H1 locs ht hvm hw hB hz1 hk1 hS => ?_)
      obtain ⟨F_92, hB1⟩ := hB
      obtain ⟨hP, hD, hO, hR⟩ := QT.back hB1 ht hFc hR (fun q h => by simp only [List.mem_cons, List.not_mem_nil, or_false] at h ⊢; omega)
      have hF_93 : F_92 h0 = .inr (1, [.ref d, .ref w0, .ref w1, .ref w2, .ref w3, .ref nm, .ref te, .int v0_42, .int v1_43, .int v2_44, .int v3_45]) := (hB1.2.2.2 h0 (by rw [hT_h0]; simp)).trans hF_84
      generalize H1 = H at hP hS ⊢
      refine lv_aload_n hx hb dX1_takeSender_83 rfl (lv_at hl 1 rfl) ?_
      refine lv_iload_n hx hb dX1_takeSender_84 rfl (lv_at hl 2 rfl) ?_
      refine pg_put (ci := 1) (v := .int x1) (ty := .int) (C := RX1) (T := TX1) (N := 11) hx hb hts it_1 tyX1 tyX1_ok nmX1 hown hK hP hD hS hL_h0 hF_93 rfl 7 (by decide) (hts _ kt_305) (fun _ h9 => h9) rfl (by decide +kernel) (rfl) (rfl) (Nat.le_of_ble_eq_true rfl) dX1_takeSender_85 (fun H locs hP hD hS => ?_)
      obtain ⟨F_94, he_95, hP, hD, hO, hR⟩ : ∃ G, G = va_up F_92 h0 (.inr (1, [.ref d, .ref w0, .ref w1, .ref w2, .ref w3, .ref nm, .ref te, .int x1, .int v1_43, .int v2_44, .int v3_45])) ∧ va_P (dC, dI) vwCl (va_pl L G) H ∧ va_D A (va_pl L G) ∧ OK cs ty L G ∧ FR ty [ρ, ρ + 1] F G := ⟨_, rfl, hP, hD, hO.up (sh.chk hT_h0 ⟨x1, v1_43, v2_44, v3_45, rfl⟩), hR.up hT_h0 (by simp)⟩
      have hF_96 : F_94 h0 = .inr (1, [.ref d, .ref w0, .ref w1, .ref w2, .ref w3, .ref nm, .ref te, .int x1, .int v1_43, .int v2_44, .int v3_45]) := by rw [he_95]; exact up_self
      refine lv_aload_n hx hb dX1_takeSender_88 rfl (lv_at hl 1 rfl) ?_
      refine pg_get (ci := 1) (v := .ref w3) (C := RX1) (T := TX1) (N := 11) hx hb hts it_1 hown hK hP hL_h0 hF_96 rfl 4 (by decide) (hts _ kt_306) (fun _ h9 => h9) rfl dX1_takeSender_89 ?_
      have hFc := pg_free hD hS hA
      obtain ⟨hi_97, ht_98, hq_99⟩ := hW.bytes hi_35 ht_37
      obtain ⟨z_100, o_101, hF_102, hq_103, hq_104⟩ := hO.bytes hi_35 ht_37
      refine va_callv (va_runV (As := []) (rest := []) ⟨hx, hb, hml, hown, hts⟩ (s_X0_clear l dC dI cs ty L H.size F_94 w3 (ρ + 1) r_36 15 hW hi_35 ht_37) ⟨callB_of 0 hts (gi kt_32) rfl rfl rfl (hts _ kt_1) (hts _ kt_317) (by decide +kernel) ⟨Nat.le_of_ble_eq_true rfl, Nat.le_of_ble_eq_true rfl⟩, (hts _ kt_34), (hts _ kt_35)⟩ ⟨fun a U g mk q => ⟨q.1, PT.calling q.2⟩, pg_recv hK hP hi_35 hF_102 (q := (RX0, TX0, 3)) rfl, fun U hU hWm => ⟨rfl, PT.mk hU hWm hP hK hD hE hO⟩⟩ rfl rfl hl.1 rfl (lv_room (Nat.le_of_ble_eq_true rfl)) dX1_takeSender_92 ⟨by show _ + 0 ≤ 0; omega, by show _ + 0 ≤ 0; omega⟩) hS (fun q _ h => hFc q h) hFc (fun u t H1 locs ht hvm hw hB hz1 hk1 hS => ?_)
      obtain ⟨F_106, hB1, hq_107⟩ := hB
      obtain ⟨hP, hD, hO, hR⟩ := QT.back hB1 ht hFc hR (fun q h => by simp only [List.mem_cons, List.not_mem_nil, or_false] at h ⊢; omega)
      have hF_108 : F_106 h0 = .inr (1, [.ref d, .ref w0, .ref w1, .ref w2, .ref w3, .ref nm, .ref te, .int x1, .int v1_43, .int v2_44, .int v3_45]) := (hB1.2.2.2 h0 (by rw [hT_h0]; simp)).trans hF_96
      generalize H1 = H at hP hS ⊢
      refine lv_aload_n hx hb dX1_takeSender_95 rfl (lv_at hl 1 rfl) ?_
      have hFc := pg_free hD hS hA
      refine va_callv (va_runV (As := []) (rest := []) ⟨hx, hb, hml, hown, hts⟩ (s_X1_addQuad l dC dI cs ty L H.size F_106 h0 ρ d δ ea w0 w1 w2 w3 nm te hW hL_h0 hT_h0) ⟨callB_of 0 hts (gi kt_320) rfl rfl rfl (hts _ kt_310) (hts _ kt_321) (by decide +kernel) ⟨Nat.le_of_ble_eq_true rfl, Nat.le_of_ble_eq_true rfl⟩, (hts _ kt_322), (hts _ kt_323)⟩ ⟨fun a U g mk q => ⟨q.1, PT.calling q.2⟩, pg_recv hK hP hL_h0 hF_108 (q := (RX1, TX1, 11)) rfl, fun U hU hWm => ⟨rfl, PT.mk hU hWm hP hK hD hE hO⟩⟩ rfl rfl hl.1 rfl (lv_room (Nat.le_of_ble_eq_true rfl)) dX1_takeSender_96 ⟨by show _ + 0 ≤ 0; omega, by show _ + 0 ≤ 0; omega⟩) hS (fun q _ h => hFc q h) hFc (fun u t H1 locs ht hvm hw hB hz1 hk1 hS => ?_)
      obtain ⟨F_110, hB1⟩ := hB
      obtain ⟨hP, hD, hO, hR⟩ := QT.back hB1 ht hFc hR (fun q h => by simp only [List.mem_cons, List.not_mem_nil, or_false] at h ⊢; omega)
      have hF_111 : F_110 h0 = .inr (1, [.ref d, .ref w0, .ref w1, .ref w2, .ref w3, .ref nm, .ref te, .int x1, .int v1_43, .int v2_44, .int v3_45]) := (hB1.2.2.2 h0 (by rw [hT_h0]; simp)).trans hF_108
      generalize H1 = H at hP hS ⊢
      refine lv_aload_n hx hb dX1_takeSender_99 rfl (lv_at hl 1 rfl) ?_
      refine lv_iconst (v := 1) hx hb dX1_takeSender_100 (by decide) ?_
      refine pg_put (ci := 1) (v := .int 1) (ty := .boolean) (C := RX1) (T := TX1) (N := 11) hx hb hts it_1 tyX1 tyX1_ok nmX1 hown hK hP hD hS hL_h0 hF_111 rfl 8 (by decide) (hts _ kt_324) (fun _ h9 => h9) rfl (by decide +kernel) (rfl) (rfl) (Nat.le_of_ble_eq_true rfl) dX1_takeSender_101 (fun H locs hP hD hS => ?_)
      obtain ⟨F_112, he_113, hP, hD, hO, hR⟩ : ∃ G, G = va_up F_110 h0 (.inr (1, [.ref d, .ref w0, .ref w1, .ref w2, .ref w3, .ref nm, .ref te, .int x1, .int 1, .int v2_44, .int v3_45])) ∧ va_P (dC, dI) vwCl (va_pl L G) H ∧ va_D A (va_pl L G) ∧ OK cs ty L G ∧ FR ty [ρ, ρ + 1] F G := ⟨_, rfl, hP, hD, hO.up (sh.chk hT_h0 ⟨x1, 1, v2_44, v3_45, rfl⟩), hR.up hT_h0 (by simp)⟩
      have hF_114 : F_112 h0 = .inr (1, [.ref d, .ref w0, .ref w1, .ref w2, .ref w3, .ref nm, .ref te, .int x1, .int 1, .int v2_44, .int v3_45]) := by rw [he_113]; exact up_self
      refine lv_iconst (v := 1) hx hb dX1_takeSender_104 (by decide) ?_
      refine W.widen (k := 0) (n := 0) (by omega) (by omega) ?_
      exact W.zret (v := 1) (ty := .boolean) hx hb hr (by decide) (fun t ht hWm => ⟨⟨1, (), rfl, (by first | exact Or.inl rfl | exact Or.inr rfl), ⟨F_112, QT.mk ht hP hD hO hR⟩⟩, hS.F ht⟩) hS.2.2 dX1_takeSender_105
    ·
      refine lv_iconst (v := 0) hx hb dX1_takeSender_34 (by decide) ?_
      refine W.widen (k := 0) (n := 0) (by omega) (by omega) ?_
      exact W.zret (v := 0) (ty := .boolean) hx hb hr (by decide) (fun t ht hWm => ⟨⟨0, (), rfl, (by first | exact Or.inl rfl | exact Or.inr rfl), ⟨F_20, QT.mk ht hP hD hO hR⟩⟩, hS.F ht⟩) hS.2.2 dX1_takeSender_35
