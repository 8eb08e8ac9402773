theorem dX1_addMacro_0 : decode cX1_addMacro 0 = .ok (.aload_n 0, 1) := by decide +kernel
theorem dX1_addMacro_1 : decode cX1_addMacro 1 = .ok (.getfield 29, 3) := by decide +kernel
theorem dX1_addMacro_4 : decode cX1_addMacro 4 = .ok (.iload 4, 2) := by decide +kernel
theorem dX1_addMacro_6 : decode cX1_addMacro 6 = .ok (.iconst 1, 1) := by decide +kernel
theorem dX1_addMacro_7 : decode cX1_addMacro 7 = .ok (.iadd, 1) := by decide +kernel
theorem dX1_addMacro_8 : decode cX1_addMacro 8 = .ok (.aaload, 1) := by decide +kernel
theorem dX1_addMacro_9 : decode cX1_addMacro 9 = .ok (.astore 5, 2) := by decide +kernel
theorem dX1_addMacro_11 : decode cX1_addMacro 11 = .ok (.aload_n 1, 1) := by decide +kernel
theorem dX1_addMacro_12 : decode cX1_addMacro 12 = .ok (.iload_n 2, 1) := by decide +kernel
theorem dX1_addMacro_13 : decode cX1_addMacro 13 = .ok (.iconst 1, 1) := by decide +kernel
theorem dX1_addMacro_14 : decode cX1_addMacro 14 = .ok (.iadd, 1) := by decide +kernel
theorem dX1_addMacro_15 : decode cX1_addMacro 15 = .ok (.invokevirtual 87, 3) := by decide +kernel
theorem dX1_addMacro_18 : decode cX1_addMacro 18 = .ok (.lookupswitch 64 #[(37, 34), (45, 54), (95, 44)], 34) := by decide +kernel
theorem dX1_addMacro_52 : decode cX1_addMacro 52 = .ok (.aload 5, 2) := by decide +kernel
theorem dX1_addMacro_54 : decode cX1_addMacro 54 = .ok (.bipush 37, 2) := by decide +kernel
theorem dX1_addMacro_56 : decode cX1_addMacro 56 = .ok (.invokevirtual 98, 3) := by decide +kernel
theorem dX1_addMacro_59 : decode cX1_addMacro 59 = .ok (.goto 95, 3) := by decide +kernel
theorem dX1_addMacro_62 : decode cX1_addMacro 62 = .ok (.aload 5, 2) := by decide +kernel
theorem dX1_addMacro_64 : decode cX1_addMacro 64 = .ok (.bipush 32, 2) := by decide +kernel
theorem dX1_addMacro_66 : decode cX1_addMacro 66 = .ok (.invokevirtual 98, 3) := by decide +kernel
theorem dX1_addMacro_69 : decode cX1_addMacro 69 = .ok (.goto 85, 3) := by decide +kernel
theorem dX1_addMacro_72 : decode cX1_addMacro 72 = .ok (.aload 5, 2) := by decide +kernel
theorem dX1_addMacro_74 : decode cX1_addMacro 74 = .ok (.ldc 218, 2) := by decide +kernel
theorem dX1_addMacro_76 : decode cX1_addMacro 76 = .ok (.invokevirtual 220, 3) := by decide +kernel
theorem dX1_addMacro_79 : decode cX1_addMacro 79 = .ok (.goto 75, 3) := by decide +kernel
theorem dX1_addMacro_82 : decode cX1_addMacro 82 = .ok (.aload_n 1, 1) := by decide +kernel
theorem dX1_addMacro_83 : decode cX1_addMacro 83 = .ok (.iload_n 2, 1) := by decide +kernel
theorem dX1_addMacro_84 : decode cX1_addMacro 84 = .ok (.iconst 3, 1) := by decide +kernel
theorem dX1_addMacro_85 : decode cX1_addMacro 85 = .ok (.iadd, 1) := by decide +kernel
theorem dX1_addMacro_86 : decode cX1_addMacro 86 = .ok (.invokevirtual 87, 3) := by decide +kernel
theorem dX1_addMacro_89 : decode cX1_addMacro 89 = .ok (.bipush 48, 2) := by decide +kernel
theorem dX1_addMacro_91 : decode cX1_addMacro 91 = .ok (.isub, 1) := by decide +kernel
theorem dX1_addMacro_92 : decode cX1_addMacro 92 = .ok (.istore 6, 2) := by decide +kernel
theorem dX1_addMacro_94 : decode cX1_addMacro 94 = .ok (.aload_n 1, 1) := by decide +kernel
theorem dX1_addMacro_95 : decode cX1_addMacro 95 = .ok (.iload_n 2, 1) := by decide +kernel
theorem dX1_addMacro_96 : decode cX1_addMacro 96 = .ok (.iload_n 3, 1) := by decide +kernel
theorem dX1_addMacro_97 : decode cX1_addMacro 97 = .ok (.iadd, 1) := by decide +kernel
theorem dX1_addMacro_98 : decode cX1_addMacro 98 = .ok (.iconst 2, 1) := by decide +kernel
theorem dX1_addMacro_99 : decode cX1_addMacro 99 = .ok (.isub, 1) := by decide +kernel
theorem dX1_addMacro_100 : decode cX1_addMacro 100 = .ok (.invokevirtual 87, 3) := by decide +kernel
theorem dX1_addMacro_103 : decode cX1_addMacro 103 = .ok (.bipush 114, 2) := by decide +kernel
theorem dX1_addMacro_105 : decode cX1_addMacro 105 = .ok (.if_icmp .ne 7, 3) := by decide +kernel
theorem dX1_addMacro_108 : decode cX1_addMacro 108 = .ok (.iconst 1, 1) := by decide +kernel
theorem dX1_addMacro_109 : decode cX1_addMacro 109 = .ok (.goto 4, 3) := by decide +kernel
theorem dX1_addMacro_112 : decode cX1_addMacro 112 = .ok (.iconst 0, 1) := by decide +kernel
theorem dX1_addMacro_113 : decode cX1_addMacro 113 = .ok (.istore 7, 2) := by decide +kernel
theorem dX1_addMacro_115 : decode cX1_addMacro 115 = .ok (.aload_n 0, 1) := by decide +kernel
theorem dX1_addMacro_116 : decode cX1_addMacro 116 = .ok (.aload_n 1, 1) := by decide +kernel
theorem dX1_addMacro_117 : decode cX1_addMacro 117 = .ok (.iload_n 2, 1) := by decide +kernel
theorem dX1_addMacro_118 : decode cX1_addMacro 118 = .ok (.iconst 2, 1) := by decide +kernel
theorem dX1_addMacro_119 : decode cX1_addMacro 119 = .ok (.iadd, 1) := by decide +kernel
theorem dX1_addMacro_120 : decode cX1_addMacro 120 = .ok (.invokevirtual 87, 3) := by decide +kernel
theorem dX1_addMacro_123 : decode cX1_addMacro 123 = .ok (.iload 4, 2) := by decide +kernel
theorem dX1_addMacro_125 : decode cX1_addMacro 125 = .ok (.invokevirtual 224, 3) := by decide +kernel
theorem dX1_addMacro_128 : decode cX1_addMacro 128 = .ok (.iload 6, 2) := by decide +kernel
theorem dX1_addMacro_130 : decode cX1_addMacro 130 = .ok (.iconst 1, 1) := by decide +kernel
theorem dX1_addMacro_131 : decode cX1_addMacro 131 = .ok (.if_icmp .lt 15, 3) := by decide +kernel
theorem dX1_addMacro_134 : decode cX1_addMacro 134 = .ok (.iload 6, 2) := by decide +kernel
theorem dX1_addMacro_136 : decode cX1_addMacro 136 = .ok (.bipush 9, 2) := by decide +kernel
theorem dX1_addMacro_138 : decode cX1_addMacro 138 = .ok (.if_icmp .gt 8, 3) := by decide +kernel
theorem dX1_addMacro_141 : decode cX1_addMacro 141 = .ok (.iload 6, 2) := by decide +kernel
theorem dX1_addMacro_143 : decode cX1_addMacro 143 = .ok (.goto 4, 3) := by decide +kernel
theorem dX1_addMacro_146 : decode cX1_addMacro 146 = .ok (.iconst 0, 1) := by decide +kernel
theorem dX1_addMacro_147 : decode cX1_addMacro 147 = .ok (.iload 7, 2) := by decide +kernel
theorem dX1_addMacro_149 : decode cX1_addMacro 149 = .ok (.aload 5, 2) := by decide +kernel
theorem dX1_addMacro_151 : decode cX1_addMacro 151 = .ok (.invokestatic 228, 3) := by decide +kernel
theorem dX1_addMacro_154 : decode cX1_addMacro 154 = .ok (.return_, 1) := by decide +kernel
theorem dX1_expand_0 : decode cX1_expand 0 = .ok (.aload_n 0, 1) := by decide +kernel
theorem dX1_expand_1 : decode cX1_expand 1 = .ok (.getfield 35, 3) := by decide +kernel
theorem dX1_expand_4 : decode cX1_expand 4 = .ok (.iload_n 2, 1) := by decide +kernel
theorem dX1_expand_5 : decode cX1_expand 5 = .ok (.aaload, 1) := by decide +kernel
theorem dX1_expand_6 : decode cX1_expand 6 = .ok (.astore_n 3, 1) := by decide +kernel
theorem dX1_expand_7 : decode cX1_expand 7 = .ok (.aload_n 0, 1) := by decide +kernel
theorem dX1_expand_8 : decode cX1_expand 8 = .ok (.getfield 29, 3) := by decide +kernel
theorem dX1_expand_11 : decode cX1_expand 11 = .ok (.iload_n 2, 1) := by decide +kernel
theorem dX1_expand_12 : decode cX1_expand 12 = .ok (.iconst 1, 1) := by decide +kernel
theorem dX1_expand_13 : decode cX1_expand 13 = .ok (.iadd, 1) := by decide +kernel
theorem dX1_expand_14 : decode cX1_expand 14 = .ok (.aaload, 1) := by decide +kernel
theorem dX1_expand_15 : decode cX1_expand 15 = .ok (.astore 4, 2) := by decide +kernel
theorem dX1_expand_17 : decode cX1_expand 17 = .ok (.aload_n 3, 1) := by decide +kernel
theorem dX1_expand_18 : decode cX1_expand 18 = .ok (.getfield 198, 3) := by decide +kernel
theorem dX1_expand_21 : decode cX1_expand 21 = .ok (.aload_n 3, 1) := by decide +kernel
theorem dX1_expand_22 : decode cX1_expand 22 = .ok (.getfield 201, 3) := by decide +kernel
theorem dX1_expand_25 : decode cX1_expand 25 = .ok (.if_icmp .ne 15, 3) := by decide +kernel
theorem dX1_expand_28 : decode cX1_expand 28 = .ok (.aload 4, 2) := by decide +kernel
theorem dX1_expand_30 : decode cX1_expand 30 = .ok (.aload_n 0, 1) := by decide +kernel
theorem dX1_expand_31 : decode cX1_expand 31 = .ok (.getfield 29, 3) := by decide +kernel
theorem dX1_expand_34 : decode cX1_expand 34 = .ok (.iload_n 2, 1) := by decide +kernel
theorem dX1_expand_35 : decode cX1_expand 35 = .ok (.aaload, 1) := by decide +kernel
theorem dX1_expand_36 : decode cX1_expand 36 = .ok (.invokevirtual 73, 3) := by decide +kernel
theorem dX1_expand_39 : decode cX1_expand 39 = .ok (.return_, 1) := by decide +kernel
theorem dX1_expand_40 : decode cX1_expand 40 = .ok (.aload 4, 2) := by decide +kernel
theorem dX1_expand_42 : decode cX1_expand 42 = .ok (.invokevirtual 77, 3) := by decide +kernel
theorem dX1_expand_45 : decode cX1_expand 45 = .ok (.iconst 1, 1) := by decide +kernel
theorem dX1_expand_46 : decode cX1_expand 46 = .ok (.istore 5, 2) := by decide +kernel
theorem dX1_expand_48 : decode cX1_expand 48 = .ok (.aload_n 3, 1) := by decide +kernel
theorem dX1_expand_49 : decode cX1_expand 49 = .ok (.getfield 198, 3) := by decide +kernel
theorem dX1_expand_52 : decode cX1_expand 52 = .ok (.istore 6, 2) := by decide +kernel
theorem dX1_expand_54 : decode cX1_expand 54 = .ok (.iload 6, 2) := by decide +kernel
theorem dX1_expand_56 : decode cX1_expand 56 = .ok (.aload_n 3, 1) := by decide +kernel
theorem dX1_expand_57 : decode cX1_expand 57 = .ok (.getfield 201, 3) := by decide +kernel
theorem dX1_expand_60 : decode cX1_expand 60 = .ok (.if_icmp .ge 62, 3) := by decide +kernel
theorem dX1_expand_63 : decode cX1_expand 63 = .ok (.aload_n 1, 1) := by decide +kernel
theorem dX1_expand_64 : decode cX1_expand 64 = .ok (.iload 6, 2) := by decide +kernel
theorem dX1_expand_66 : decode cX1_expand 66 = .ok (.aload_n 3, 1) := by decide +kernel
theorem dX1_expand_67 : decode cX1_expand 67 = .ok (.getfield 201, 3) := by decide +kernel
theorem dX1_expand_70 : decode cX1_expand 70 = .ok (.invokestatic 204, 3) := by decide +kernel
theorem dX1_expand_73 : decode cX1_expand 73 = .ok (.istore 7, 2) := by decide +kernel
theorem dX1_expand_75 : decode cX1_expand 75 = .ok (.iload 7, 2) := by decide +kernel
theorem dX1_expand_77 : decode cX1_expand 77 = .ok (.ifCond .ne 17, 3) := by decide +kernel
theorem dX1_expand_80 : decode cX1_expand 80 = .ok (.aload 4, 2) := by decide +kernel
theorem dX1_expand_82 : decode cX1_expand 82 = .ok (.aload_n 1, 1) := by decide +kernel
theorem dX1_expand_83 : decode cX1_expand 83 = .ok (.iload 6, 2) := by decide +kernel
theorem dX1_expand_85 : decode cX1_expand 85 = .ok (.invokevirtual 87, 3) := by decide +kernel
theorem dX1_expand_88 : decode cX1_expand 88 = .ok (.invokevirtual 98, 3) := by decide +kernel
theorem dX1_expand_91 : decode cX1_expand 91 = .ok (.goto 13, 3) := by decide +kernel
theorem dX1_expand_94 : decode cX1_expand 94 = .ok (.aload_n 0, 1) := by decide +kernel
theorem dX1_expand_95 : decode cX1_expand 95 = .ok (.aload_n 1, 1) := by decide +kernel
theorem dX1_expand_96 : decode cX1_expand 96 = .ok (.iload 6, 2) := by decide +kernel
theorem dX1_expand_98 : decode cX1_expand 98 = .ok (.iload 7, 2) := by decide +kernel
theorem dX1_expand_100 : decode cX1_expand 100 = .ok (.iload_n 2, 1) := by decide +kernel
theorem dX1_expand_101 : decode cX1_expand 101 = .ok (.invokevirtual 208, 3) := by decide +kernel
theorem dX1_expand_104 : decode cX1_expand 104 = .ok (.iconst 1, 1) := by decide +kernel
theorem dX1_expand_105 : decode cX1_expand 105 = .ok (.iload 7, 2) := by decide +kernel
theorem dX1_expand_107 : decode cX1_expand 107 = .ok (.invokestatic 212, 3) := by decide +kernel
theorem dX1_expand_110 : decode cX1_expand 110 = .ok (.istore 5, 2) := by decide +kernel
theorem dX1_expand_112 : decode cX1_expand 112 = .ok (.iload 6, 2) := by decide +kernel
theorem dX1_expand_114 : decode cX1_expand 114 = .ok (.iload 5, 2) := by decide +kernel
theorem dX1_expand_116 : decode cX1_expand 116 = .ok (.iadd, 1) := by decide +kernel
theorem dX1_expand_117 : decode cX1_expand 117 = .ok (.istore 6, 2) := by decide +kernel
theorem dX1_expand_119 : decode cX1_expand 119 = .ok (.goto (-65), 3) := by decide +kernel
theorem dX1_expand_122 : decode cX1_expand 122 = .ok (.return_, 1) := by decide +kernel
theorem dX1_look_0 : decode cX1_look 0 = .ok (.aload_n 0, 1) := by decide +kernel
theorem dX1_look_1 : decode cX1_look 1 = .ok (.getfield 53, 3) := by decide +kernel
theorem dX1_look_4 : decode cX1_look 4 = .ok (.iconst 3, 1) := by decide +kernel
theorem dX1_look_5 : decode cX1_look 5 = .ok (.aload_n 2, 1) := by decide +kernel
theorem dX1_look_6 : decode cX1_look 6 = .ok (.invokevirtual 106, 3) := by decide +kernel
theorem dX1_look_9 : decode cX1_look 9 = .ok (.ifCond .eq 5, 3) := by decide +kernel
theorem dX1_look_12 : decode cX1_look 12 = .ok (.iconst 5, 1) := by decide +kernel
theorem dX1_look_13 : decode cX1_look 13 = .ok (.ireturn, 1) := by decide +kernel
theorem dX1_look_14 : decode cX1_look 14 = .ok (.aload_n 0, 1) := by decide +kernel
theorem dX1_look_15 : decode cX1_look 15 = .ok (.getfield 53, 3) := by decide +kernel
theorem dX1_look_18 : decode cX1_look 18 = .ok (.aload_n 1, 1) := by decide +kernel
theorem dX1_look_19 : decode cX1_look 19 = .ok (.getfield 149, 3) := by decide +kernel
theorem dX1_look_22 : decode cX1_look 22 = .ok (.iconst 4, 1) := by decide +kernel
theorem dX1_look_23 : decode cX1_look 23 = .ok (.if_icmp .ne 7, 3) := by decide +kernel
theorem dX1_look_26 : decode cX1_look 26 = .ok (.iconst 2, 1) := by decide +kernel
theorem dX1_look_27 : decode cX1_look 27 = .ok (.goto 4, 3) := by decide +kernel
theorem dX1_look_30 : decode cX1_look 30 = .ok (.iconst 1, 1) := by decide +kernel
theorem dX1_look_31 : decode cX1_look 31 = .ok (.aload_n 2, 1) := by decide +kernel
theorem dX1_look_32 : decode cX1_look 32 = .ok (.invokevirtual 106, 3) := by decide +kernel
theorem dX1_look_35 : decode cX1_look 35 = .ok (.ifCond .ne 28, 3) := by decide +kernel
theorem dX1_look_38 : decode cX1_look 38 = .ok (.aload_n 0, 1) := by decide +kernel
theorem dX1_look_39 : decode cX1_look 39 = .ok (.dup, 1) := by decide +kernel
theorem dX1_look_40 : decode cX1_look 40 = .ok (.getfield 50, 3) := by decide +kernel
theorem dX1_look_43 : decode cX1_look 43 = .ok (.iconst 1, 1) := by decide +kernel
theorem dX1_look_44 : decode cX1_look 44 = .ok (.iadd, 1) := by decide +kernel
theorem dX1_look_45 : decode cX1_look 45 = .ok (.putfield 50, 3) := by decide +kernel
theorem dX1_look_48 : decode cX1_look 48 = .ok (.aload_n 0, 1) := by decide +kernel
theorem dX1_look_49 : decode cX1_look 49 = .ok (.getfield 50, 3) := by decide +kernel
theorem dX1_look_52 : decode cX1_look 52 = .ok (.iconst 2, 1) := by decide +kernel
theorem dX1_look_53 : decode cX1_look 53 = .ok (.if_icmp .le 8, 3) := by decide +kernel
theorem dX1_look_56 : decode cX1_look 56 = .ok (.bipush 6, 2) := by decide +kernel
theorem dX1_look_58 : decode cX1_look 58 = .ok (.goto 4, 3) := by decide +kernel
theorem dX1_look_61 : decode cX1_look 61 = .ok (.iconst 0, 1) := by decide +kernel
theorem dX1_look_62 : decode cX1_look 62 = .ok (.ireturn, 1) := by decide +kernel
theorem dX1_look_63 : decode cX1_look 63 = .ok (.aload_n 1, 1) := by decide +kernel
theorem dX1_look_64 : decode cX1_look 64 = .ok (.getfield 149, 3) := by decide +kernel
theorem dX1_look_67 : decode cX1_look 67 = .ok (.iconst 4, 1) := by decide +kernel
theorem dX1_look_68 : decode cX1_look 68 = .ok (.if_icmp .ne 13, 3) := by decide +kernel
theorem dX1_look_71 : decode cX1_look 71 = .ok (.aload_n 0, 1) := by decide +kernel
theorem dX1_look_72 : decode cX1_look 72 = .ok (.aload_n 2, 1) := by decide +kernel
theorem dX1_look_73 : decode cX1_look 73 = .ok (.aload_n 1, 1) := by decide +kernel
theorem dX1_look_74 : decode cX1_look 74 = .ok (.getfield 161, 3) := by decide +kernel
theorem dX1_look_77 : decode cX1_look 77 = .ok (.invokevirtual 172, 3) := by decide +kernel
theorem dX1_look_80 : decode cX1_look 80 = .ok (.ireturn, 1) := by decide +kernel
theorem dX1_look_81 : decode cX1_look 81 = .ok (.aload_n 1, 1) := by decide +kernel
theorem dX1_look_82 : decode cX1_look 82 = .ok (.getfield 149, 3) := by decide +kernel
theorem dX1_look_85 : decode cX1_look 85 = .ok (.bipush 6, 2) := by decide +kernel
theorem dX1_look_87 : decode cX1_look 87 = .ok (.if_icmp .eq 22, 3) := by decide +kernel
theorem dX1_look_90 : decode cX1_look 90 = .ok (.aload_n 0, 1) := by decide +kernel
theorem dX1_look_91 : decode cX1_look 91 = .ok (.getfield 53, 3) := by decide +kernel
theorem dX1_look_94 : decode cX1_look 94 = .ok (.aload_n 2, 1) := by decide +kernel
theorem dX1_look_95 : decode cX1_look 95 = .ok (.aload_n 0, 1) := by decide +kernel
theorem dX1_look_96 : decode cX1_look 96 = .ok (.getfield 39, 3) := by decide +kernel
theorem dX1_look_99 : decode cX1_look 99 = .ok (.aload_n 1, 1) := by decide +kernel
theorem dX1_look_100 : decode cX1_look 100 = .ok (.getfield 161, 3) := by decide +kernel
theorem dX1_look_103 : decode cX1_look 103 = .ok (.invokevirtual 175, 3) := by decide +kernel
theorem dX1_look_106 : decode cX1_look 106 = .ok (.ifCond .eq 7, 3) := by decide +kernel
theorem dX1_look_109 : decode cX1_look 109 = .ok (.iconst 2, 1) := by decide +kernel
theorem dX1_look_110 : decode cX1_look 110 = .ok (.goto 4, 3) := by decide +kernel
theorem dX1_look_113 : decode cX1_look 113 = .ok (.iconst 0, 1) := by decide +kernel
theorem dX1_look_114 : decode cX1_look 114 = .ok (.ireturn, 1) := by decide +kernel
theorem dX1_lookAtExchanges_0 : decode cX1_lookAtExchanges 0 = .ok (.iconst 0, 1) := by decide +kernel
theorem dX1_lookAtExchanges_1 : decode cX1_lookAtExchanges 1 = .ok (.istore_n 3, 1) := by decide +kernel
theorem dX1_lookAtExchanges_2 : decode cX1_lookAtExchanges 2 = .ok (.iload_n 3, 1) := by decide +kernel
theorem dX1_lookAtExchanges_3 : decode cX1_lookAtExchanges 3 = .ok (.aload_n 0, 1) := by decide +kernel
theorem dX1_lookAtExchanges_4 : decode cX1_lookAtExchanges 4 = .ok (.getfield 53, 3) := by decide +kernel
theorem dX1_lookAtExchanges_7 : decode cX1_lookAtExchanges 7 = .ok (.getfield 179, 3) := by decide +kernel
theorem dX1_lookAtExchanges_10 : decode cX1_lookAtExchanges 10 = .ok (.if_icmp .ge 91, 3) := by decide +kernel
theorem dX1_lookAtExchanges_13 : decode cX1_lookAtExchanges 13 = .ok (.aload_n 0, 1) := by decide +kernel
theorem dX1_lookAtExchanges_14 : decode cX1_lookAtExchanges 14 = .ok (.getfield 53, 3) := by decide +kernel
theorem dX1_lookAtExchanges_17 : decode cX1_lookAtExchanges 17 = .ok (.getfield 182, 3) := by decide +kernel
theorem dX1_lookAtExchanges_20 : decode cX1_lookAtExchanges 20 = .ok (.iload_n 3, 1) := by decide +kernel
theorem dX1_lookAtExchanges_21 : decode cX1_lookAtExchanges 21 = .ok (.aaload, 1) := by decide +kernel
theorem dX1_lookAtExchanges_22 : decode cX1_lookAtExchanges 22 = .ok (.getfield 186, 3) := by decide +kernel
theorem dX1_lookAtExchanges_25 : decode cX1_lookAtExchanges 25 = .ok (.iconst 2, 1) := by decide +kernel
theorem dX1_lookAtExchanges_26 : decode cX1_lookAtExchanges 26 = .ok (.if_icmp .ne 69, 3) := by decide +kernel
theorem dX1_lookAtExchanges_29 : decode cX1_lookAtExchanges 29 = .ok (.aload_n 0, 1) := by decide +kernel
theorem dX1_lookAtExchanges_30 : decode cX1_lookAtExchanges 30 = .ok (.getfield 53, 3) := by decide +kernel
theorem dX1_lookAtExchanges_33 : decode cX1_lookAtExchanges 33 = .ok (.getfield 182, 3) := by decide +kernel
theorem dX1_lookAtExchanges_36 : decode cX1_lookAtExchanges 36 = .ok (.iload_n 3, 1) := by decide +kernel
theorem dX1_lookAtExchanges_37 : decode cX1_lookAtExchanges 37 = .ok (.aaload, 1) := by decide +kernel
theorem dX1_lookAtExchanges_38 : decode cX1_lookAtExchanges 38 = .ok (.getfield 191, 3) := by decide +kernel
theorem dX1_lookAtExchanges_41 : decode cX1_lookAtExchanges 41 = .ok (.aload_n 1, 1) := by decide +kernel
theorem dX1_lookAtExchanges_42 : decode cX1_lookAtExchanges 42 = .ok (.invokevirtual 194, 3) := by decide +kernel
theorem dX1_lookAtExchanges_45 : decode cX1_lookAtExchanges 45 = .ok (.ifCond .ne 6, 3) := by decide +kernel
theorem dX1_lookAtExchanges_48 : decode cX1_lookAtExchanges 48 = .ok (.goto 47, 3) := by decide +kernel
theorem dX1_lookAtExchanges_51 : decode cX1_lookAtExchanges 51 = .ok (.aload_n 0, 1) := by decide +kernel
theorem dX1_lookAtExchanges_52 : decode cX1_lookAtExchanges 52 = .ok (.getfield 53, 3) := by decide +kernel
theorem dX1_lookAtExchanges_55 : decode cX1_lookAtExchanges 55 = .ok (.iload_n 3, 1) := by decide +kernel
theorem dX1_lookAtExchanges_56 : decode cX1_lookAtExchanges 56 = .ok (.invokevirtual 116, 3) := by decide +kernel
theorem dX1_lookAtExchanges_59 : decode cX1_lookAtExchanges 59 = .ok (.astore 4, 2) := by decide +kernel
theorem dX1_lookAtExchanges_61 : decode cX1_lookAtExchanges 61 = .ok (.aload_n 0, 1) := by decide +kernel
theorem dX1_lookAtExchanges_62 : decode cX1_lookAtExchanges 62 = .ok (.getfield 53, 3) := by decide +kernel
theorem dX1_lookAtExchanges_65 : decode cX1_lookAtExchanges 65 = .ok (.iconst 3, 1) := by decide +kernel
theorem dX1_lookAtExchanges_66 : decode cX1_lookAtExchanges 66 = .ok (.aload 4, 2) := by decide +kernel
theorem dX1_lookAtExchanges_68 : decode cX1_lookAtExchanges 68 = .ok (.invokevirtual 106, 3) := by decide +kernel
theorem dX1_lookAtExchanges_71 : decode cX1_lookAtExchanges 71 = .ok (.ifCond .eq 5, 3) := by decide +kernel
theorem dX1_lookAtExchanges_74 : decode cX1_lookAtExchanges 74 = .ok (.iconst 5, 1) := by decide +kernel
theorem dX1_lookAtExchanges_75 : decode cX1_lookAtExchanges 75 = .ok (.ireturn, 1) := by decide +kernel
theorem dX1_lookAtExchanges_76 : decode cX1_lookAtExchanges 76 = .ok (.aload_n 0, 1) := by decide +kernel
theorem dX1_lookAtExchanges_77 : decode cX1_lookAtExchanges 77 = .ok (.getfield 53, 3) := by decide +kernel
theorem dX1_lookAtExchanges_80 : decode cX1_lookAtExchanges 80 = .ok (.aload 4, 2) := by decide +kernel
theorem dX1_lookAtExchanges_82 : decode cX1_lookAtExchanges 82 = .ok (.aload_n 0, 1) := by decide +kernel
theorem dX1_lookAtExchanges_83 : decode cX1_lookAtExchanges 83 = .ok (.getfield 39, 3) := by decide +kernel
theorem dX1_lookAtExchanges_86 : decode cX1_lookAtExchanges 86 = .ok (.iload_n 2, 1) := by decide +kernel
theorem dX1_lookAtExchanges_87 : decode cX1_lookAtExchanges 87 = .ok (.invokevirtual 175, 3) := by decide +kernel
theorem dX1_lookAtExchanges_90 : decode cX1_lookAtExchanges 90 = .ok (.ifCond .eq 5, 3) := by decide +kernel
theorem dX1_lookAtExchanges_93 : decode cX1_lookAtExchanges 93 = .ok (.iconst 2, 1) := by decide +kernel
theorem dX1_lookAtExchanges_94 : decode cX1_lookAtExchanges 94 = .ok (.ireturn, 1) := by decide +kernel
theorem dX1_lookAtExchanges_95 : decode cX1_lookAtExchanges 95 = .ok (.iinc 3 1, 3) := by decide +kernel
theorem dX1_lookAtExchanges_98 : decode cX1_lookAtExchanges 98 = .ok (.goto (-96), 3) := by decide +kernel
theorem dX1_lookAtExchanges_101 : decode cX1_lookAtExchanges 101 = .ok (.iconst 0, 1) := by decide +kernel
theorem dX1_lookAtExchanges_102 : decode cX1_lookAtExchanges 102 = .ok (.ireturn, 1) := by decide +kernel
theorem kt_339 : Cond.code yX0_addText cX0_addText 3 none ∈ tb := tb_at (i := 751) (by decide +kernel) (by decide +kernel)
theorem kt_340 : Cond.methodLink RX1 220 yX0_addText ∈ tb := tb_at (i := 748) (by decide +kernel) (by decide +kernel)
theorem kt_341 : Cond.instanceMethod yX0_addText ∈ tb := tb_at (i := 749) (by decide +kernel) (by decide +kernel)
theorem kt_342 : Cond.selects RX0 yX0_addText yX0_addText ∈ tb := tb_at (i := 750) (by decide +kernel) (by decide +kernel)
theorem kt_343 : Cond.code yX1_pieceOf cX1_pieceOf 3 (some (.object "PostGate$Bytes")) ∈ tb := tb_at (i := 755) (by decide +kernel) (by decide +kernel)
theorem kt_344 : Cond.methodLink RX1 224 yX1_pieceOf ∈ tb := tb_at (i := 752) (by decide +kernel) (by decide +kernel)
theorem kt_345 : Cond.instanceMethod yX1_pieceOf ∈ tb := tb_at (i := 754) (by decide +kernel) (by decide +kernel)
theorem kt_346 : Cond.selects RX1 yX1_pieceOf yX1_pieceOf ∈ tb := tb_at (i := 9) (by decide +kernel) (by decide +kernel)
theorem kt_347 : Cond.code yX1_addParts cX1_addParts 8 none ∈ tb := tb_at (i := 758) (by decide +kernel) (by decide +kernel)
theorem kt_348 : Cond.methodLink RX1 228 yX1_addParts ∈ tb := tb_at (i := 756) (by decide +kernel) (by decide +kernel)
theorem kt_349 : Cond.static yX1_addParts ∈ tb := tb_at (i := 757) (by decide +kernel) (by decide +kernel)
theorem kt_350 : Cond.fieldLink RX1 35 "PostGate$Checker" "terms" "[LPostGate$Term;" ∈ tb := tb_at (i := 228) (by decide +kernel) (by decide +kernel)
theorem kt_351 : Cond.methodLink RX1 204 yX10_macroLength ∈ tb := tb_at (i := 742) (by decide +kernel) (by decide +kernel)
theorem kt_352 : Cond.code yX1_addMacro cX1_addMacro 8 none ∈ tb := tb_at (i := 746) (by decide +kernel) (by decide +kernel)
theorem kt_353 : Cond.methodLink RX1 208 yX1_addMacro ∈ tb := tb_at (i := 743) (by decide +kernel) (by decide +kernel)
theorem kt_354 : Cond.instanceMethod yX1_addMacro ∈ tb := tb_at (i := 745) (by decide +kernel) (by decide +kernel)
theorem kt_355 : Cond.selects RX1 yX1_addMacro yX1_addMacro ∈ tb := tb_at (i := 8) (by decide +kernel) (by decide +kernel)
theorem kt_356 : Cond.methodLink RX1 212 Lib.Math.max.name ∈ tb := tb_at (i := 764) (by decide +kernel) (by decide +kernel)
theorem kt_357 : Cond.fieldLink RX1 53 "PostGate$Checker" "directory" "LPostGate$Directory;" ∈ tb := tb_at (i := 221) (by decide +kernel) (by decide +kernel)
theorem kt_358 : Cond.methodLink RX1 194 yX0_same ∈ tb := tb_at (i := 773) (by decide +kernel) (by decide +kernel)
theorem kt_359 : Cond.code yX2_valueAt cX2_valueAt 2 (some (.object "PostGate$Bytes")) ∈ tb := tb_at (i := 675) (by decide +kernel) (by decide +kernel)
theorem kt_360 : Cond.methodLink RX1 116 yX2_valueAt ∈ tb := tb_at (i := 672) (by decide +kernel) (by decide +kernel)
theorem kt_361 : Cond.instanceMethod yX2_valueAt ∈ tb := tb_at (i := 673) (by decide +kernel) (by decide +kernel)
theorem kt_362 : Cond.selects RX2 yX2_valueAt yX2_valueAt ∈ tb := tb_at (i := 674) (by decide +kernel) (by decide +kernel)
theorem kt_363 : Cond.code yX2_has cX2_has 4 (some .boolean) ∈ tb := tb_at (i := 604) (by decide +kernel) (by decide +kernel)
theorem kt_364 : Cond.methodLink RX1 106 yX2_has ∈ tb := tb_at (i := 601) (by decide +kernel) (by decide +kernel)
theorem kt_365 : Cond.instanceMethod yX2_has ∈ tb := tb_at (i := 602) (by decide +kernel) (by decide +kernel)
theorem kt_366 : Cond.selects RX2 yX2_has yX2_has ∈ tb := tb_at (i := 603) (by decide +kernel) (by decide +kernel)
theorem kt_367 : Cond.code yX2_hasAddress cX2_hasAddress 5 (some .boolean) ∈ tb := tb_at (i := 777) (by decide +kernel) (by decide +kernel)
theorem kt_368 : Cond.methodLink RX1 175 yX2_hasAddress ∈ tb := tb_at (i := 774) (by decide +kernel) (by decide +kernel)
theorem kt_369 : Cond.instanceMethod yX2_hasAddress ∈ tb := tb_at (i := 775) (by decide +kernel) (by decide +kernel)
theorem kt_370 : Cond.selects RX2 yX2_hasAddress yX2_hasAddress ∈ tb := tb_at (i := 776) (by decide +kernel) (by decide +kernel)
theorem kt_371 : Cond.code yX1_lookAtExchanges cX1_lookAtExchanges 5 (some .int) ∈ tb := tb_at (i := 772) (by decide +kernel) (by decide +kernel)
theorem kt_372 : Cond.methodLink RX1 172 yX1_lookAtExchanges ∈ tb := tb_at (i := 769) (by decide +kernel) (by decide +kernel)
theorem kt_373 : Cond.instanceMethod yX1_lookAtExchanges ∈ tb := tb_at (i := 771) (by decide +kernel) (by decide +kernel)
theorem kt_374 : Cond.selects RX1 yX1_lookAtExchanges yX1_lookAtExchanges ∈ tb := tb_at (i := 11) (by decide +kernel) (by decide +kernel)
theorem kt_375 : Cond.fieldLink RX1 50 "PostGate$Checker" "voids" "I" ∈ tb := tb_at (i := 234) (by decide +kernel) (by decide +kernel)
theorem kn_9 : Cond.fieldLinkNest RX1 198 "PostGate$Term" "start" "I" "PostGate" ∈ nw := nw_at (i := 121) (by decide +kernel) rfl
theorem kn_10 : Cond.fieldLinkNest RX1 201 "PostGate$Term" "stop" "I" "PostGate" ∈ nw := nw_at (i := 123) (by decide +kernel) rfl
theorem kn_11 : Cond.fieldLinkNest RX1 179 "PostGate$Directory" "count" "I" "PostGate" ∈ nw := nw_at (i := 94) (by decide +kernel) rfl
theorem kn_12 : Cond.fieldLinkNest RX1 182 "PostGate$Directory" "entries" "[LPostGate$Entry;" "PostGate" ∈ nw := nw_at (i := 92) (by decide +kernel) rfl
theorem kn_13 : Cond.fieldLinkNest RX1 186 "PostGate$Entry" "sort" "I" "PostGate" ∈ nw := nw_at (i := 79) (by decide +kernel) rfl
theorem kn_14 : Cond.fieldLinkNest RX1 191 "PostGate$Entry" "name" "LPostGate$Bytes;" "PostGate" ∈ nw := nw_at (i := 74) (by decide +kernel) rfl
theorem kn_15 : Cond.fieldLinkNest RX1 161 "PostGate$Term" "bits" "I" "PostGate" ∈ nw := nw_at (i := 125) (by decide +kernel) rfl
set_option maxHeartbeats 4000000 in
set_option maxRecDepth 100000 in
theorem s_X1_addMacro (l : Launch) (dC : Nat → ClassId) (dI : Nat → Nat → Nat) (cs : Nat → ClassId) (ty : TyM) (L : List Nat) (sz : Nat) (F : Nat → va_E) (h0 : Nat) (ρ : Nat) (d : Nat) (δ : Nat) (ea : Nat) (w0 : Nat) (w1 : Nat) (w2 : Nat) (w3 : Nat) (nm : Nat) (te : Nat) (g1 : Nat) (σ : Nat) (r1 : Nat) (n1 : Nat) (lv : Nat) (x2 : Int32) (x3 : Int32) (hW : WT ty L) (hL_h0 : h0 ∈ L) (hT_h0 : ty h0 = (1, ρ, [d, δ, ea, w0, w1, w2, w3, nm, te])) (hL_g1 : g1 ∈ L) (hT_g1 : ty g1 = (0, σ, [r1, n1])) (hlv : lv ≤ 10) : Met l yX1_addMacro (.code yX1_addMacro cX1_addMacro 8 none :: tb) ({ frames := 5, cells := 0, slots := 0, locals := 107 }) (va_Pc [.ref h0, .ref g1, .int x2, .int x3, .int (nI lv)] (PTE (dC, dI) cs ty L F sz [])) (va_Qv (fun _ : Unit => True) (fun _ T9 => ∃ F2 : Nat → va_E, QT (dC, dI) cs ty L [ρ + 1] F F2 (va_A (va_pl L F) sz) T9) (va_A (va_pl L F) sz)) 0 0 (va_A (va_pl L F) sz) := by
  refine Met.ofW (cc := cX1_addMacro) (maxL := 8) (ret := none) (by decide) rfl ?_
  intro p e s m args below meth c s₁ B hml hv
  obtain ⟨rfl, ⟨hsz, hP, hK, hD0, hE, hO⟩, hG, hX⟩ := hv
  have hx := B.exec
  have hb := B.bytes
  have hr := B.returns
  have hts : ∀ w ∈ tb, w.before _ s = true := fun w h => atoms_spec (ws := .code yX1_addMacro cX1_addMacro 8 none :: tb) B.pre w (List.mem_cons_of_mem _ h)
  have hown : s.vm.findClass RX1 = some m.cls := findClass_of_methodNamed B.named
  have hlocks := B.notSynchronized
  subst hsz
  have hD := hD0.self (sz := s.heap.size)
  generalize hAe : va_A (va_pl L F) s.heap.size = A at hD hG hX ⊢
  have hA : ∀ q : Nat, s.heap.size ≤ q → A q := fun q h => by rw [← hAe]; exact Or.inr h
  have hS : va_S A s.heap s.heap [] := va_S.rf
  have hR : FR ty [ρ + 1] F F := FR.refl
  have hl := lv_entry ([.ref h0, .ref g1, .int x2, .int x3, .int (nI lv)]) (n := 8) (Nat.le_of_ble_eq_true rfl)
  rw [lg_entry_eq]
  generalize (lg_sl ([.ref h0, .ref g1, .int x2, .int x3, .int (nI lv)]) ++ List.replicate (8 - (lg_sl ([.ref h0, .ref g1, .int x2, .int x3, .int (nI lv)])).length) Slot.unset).toArray = ls at hl ⊢
  have hl : lv_has ls 8 [(0, .ref h0), (1, .ref g1), (2, .int x2), (3, .int x3), (4, .int (nI lv))] := hl
  refine lv_aload_n hx hb dX1_addMacro_0 rfl (lv_at hl 0 rfl) ?_
  obtain ⟨hi_1, ht_2, hi_3, ⟨r_4, ht_5⟩, hi_6, ⟨r_7, ht_8⟩, hi_9, ⟨r_10, ht_11⟩, hi_12, ⟨r_13, ht_14⟩, hi_15, ht_16, hi_17, ht_18⟩ := hW.chk hL_h0 hT_h0
  obtain ⟨v0_19, v1_20, v2_21, v3_22, hF_23⟩ := hO.chk hL_h0 hT_h0
  refine pg_get (ci := 1) (v := .ref nm) (C := RX1) (T := TX1) (N := 11) hx hb hts it_1 hown hK hP hL_h0 hF_23 rfl 5 (by decide) (hts _ kt_338) (fun _ h9 => h9) rfl dX1_addMacro_1 ?_
  refine lv_iload hx hb dX1_addMacro_4 (lv_at hl 4 rfl) ?_
  refine lv_iconst (v := 1) hx hb dX1_addMacro_6 (by decide) ?_
  refine lv_iadd hx hb dX1_addMacro_7 ?_
  refine lv_topi (fun x_24 ex_24 => ?_)
  obtain rfl : x_24 = (nI (lv + 1)) := ex_24.trans (nI_1 lv)
  obtain ⟨f_25, hF_26, hq_27⟩ := hO.rbytes hi_15 ht_16
  obtain ⟨b_28, r_29, hbf_30, hi_31, ht_32⟩ := hq_27 (lv + 1) (by omega)
  refine pg_aald (r := b_28) hx hb hK hP hi_15 4 hF_26 rfl (vp_in_nI (by omega) (by omega)) (show f_25 ((nI (lv + 1)) : Int32).toNatClampNeg = _ from by rw [show ((nI (lv + 1)) : Int32) = nI (lv + 1) from rfl, nI_clamp (by omega)]; exact hbf_30) dX1_addMacro_8 ?_
  refine lv_astore (lv' := [(5, .ref b_28), (0, .ref h0), (1, .ref g1), (2, .int x2), (3, .int x3), (4, .int (nI lv))]) hx hb dX1_addMacro_9 hl (by decide) rfl (fun ls hl => ?_)
  refine lv_aload_n hx hb dX1_addMacro_11 rfl (lv_at hl 2 rfl) ?_
  refine lv_iload_n hx hb dX1_addMacro_12 rfl (lv_at hl 3 rfl) ?_
  refine lv_iconst (v := 1) hx hb dX1_addMacro_13 (by decide) ?_
  refine lv_iadd hx hb dX1_addMacro_14 ?_
  refine lv_topi (fun x_33 _ => ?_)
  have hFc := pg_free hD hS hA
  obtain ⟨hi_34, ht_35, hq_36⟩ := hW.bytes hL_g1 hT_g1
  obtain ⟨z_37, o_38, hF_39, hq_40, hq_41⟩ := hO.bytes hL_g1 hT_g1
  refine va_calli (va_runV (As := [.int x_33]) (rest := []) ⟨hx, hb, hml, hown, hts⟩ (s_X0_at l dC dI cs ty L s.heap.size F g1 σ r1 n1 x_33 hW hL_g1 hT_g1) ⟨callB_of 1 hts (gi kt_21) rfl rfl rfl (hts _ kt_1) (hts _ kt_301) (by decide +kernel) ⟨Nat.le_of_ble_eq_true rfl, Nat.le_of_ble_eq_true rfl⟩, (hts _ kt_23), (hts _ kt_24)⟩ ⟨fun a U g mk q => ⟨q.1, PT.calling q.2⟩, pg_recv hK hP hL_g1 hF_39 (q := (RX0, TX0, 3)) rfl, fun U hU hWm => ⟨rfl, PT.mk hU hWm hP hK hD hE hO⟩⟩ rfl rfl hl.1 rfl (lv_room (Nat.le_of_ble_eq_true rfl)) dX1_addMacro_15 ⟨by show _ + 0 ≤ 0; omega, by show _ + 0 ≤ 0; omega⟩) hS (fun q _ h => hFc q h) hFc (fun r_42 u t H1 locs ht hvm hw hB hz1 hk1 hS => ?_)
  obtain ⟨F_43, hB1⟩ := hB
  obtain ⟨hP, hD, hO, hR⟩ := QT.back hB1 ht hFc hR (fun q h => absurd h List.not_mem_nil)
  have hF_44 : F_43 h0 = .inr (1, [.ref d, .ref w0, .ref w1, .ref w2, .ref w3, .ref nm, .ref te, .int v0_19, .int v1_20, .int v2_21, .int v3_22]) := (hB1.2.2.2 h0 List.not_mem_nil).trans hF_23
  have hF_45 : F_43 nm = .inl (cs 20, 12, .inr (.inr (.inr (.inr f_25)))) := (hB1.2.2.2 nm List.not_mem_nil).trans hF_26
  have hF_46 : F_43 g1 = .inr (0, [.ref r1, .int (nI z_37), .int o_38]) := (hB1.2.2.2 g1 List.not_mem_nil).trans hF_39
  generalize H1 = H at hP hS ⊢
  have hw : True := hw
  have hw_47 := hw
  by_cases c_48 : r_42 = 37
  ·
    refine lv_lookup (off := 34) (tgt := 52) hx hb dX1_addMacro_18 (by decide) (by rw [c_48]; decide) (by decide) ?_
    refine lv_aload hx hb dX1_addMacro_52 (lv_at hl 0 rfl) ?_
    refine lv_bipush (v := 37) hx hb dX1_addMacro_54 (by decide) ?_
    have hFc := pg_free hD hS hA
    obtain ⟨hi_49, ht_50, hq_51⟩ := hW.bytes hi_31 ht_32
    obtain ⟨z_52, o_53, hF_54, hq_55, hq_56⟩ := hO.bytes hi_31 ht_32
    refine va_callv (va_runV (As := [.int 37]) (rest := []) ⟨hx, hb, hml, hown, hts⟩ (s_X0_add l dC dI cs ty L H.size F_43 b_28 (ρ + 1) r_29 60 37 hW hi_31 ht_32) ⟨callB_of 1 hts (gi kt_13) rfl rfl rfl (hts _ kt_1) (hts _ kt_307) (by decide +kernel) ⟨Nat.le_of_ble_eq_true rfl, Nat.le_of_ble_eq_true rfl⟩, (hts _ kt_15), (hts _ kt_16)⟩ ⟨fun a U g mk q => ⟨q.1, PT.calling q.2⟩, pg_recv hK hP hi_31 hF_54 (q := (RX0, TX0, 3)) rfl, fun U hU hWm => ⟨rfl, PT.mk hU hWm hP hK hD hE hO⟩⟩ rfl rfl hl.1 rfl (lv_room (Nat.le_of_ble_eq_true rfl)) dX1_addMacro_56 ⟨by show _ + 0 ≤ 0; omega, by show _ + 0 ≤ 0; omega⟩) hS (fun q _ h => hFc q h) hFc (fun u t H1 locs ht hvm hw hB hz1 hk1 hS => ?_)
    obtain ⟨F_58, hB1⟩ := hB
    obtain ⟨hP, hD, hO, hR⟩ := QT.back hB1 ht hFc hR (fun q h => by simp only [List.mem_cons, List.not_mem_nil, or_false] at h ⊢; omega)
    have hF_59 : F_58 h0 = .inr (1, [.ref d, .ref w0, .ref w1, .ref w2, .ref w3, .ref nm, .ref te, .int v0_19, .int v1_20, .int v2_21, .int v3_22]) := (hB1.2.2.2 h0 (by rw [hT_h0]; simp)).trans hF_44
    generalize H1 = H at hP hS ⊢
    refine lv_goto (tgt := 154) hx hb dX1_addMacro_59 (by decide) ?_
    refine W.widen (k := 0) (n := 0) (by omega) (by omega) ?_
    exact W.vret hx hb hr (fun t ht hWm => ⟨⟨(), rfl, trivial, ⟨F_58, QT.mk ht hP hD hO hR⟩⟩, hS.F ht⟩) hS.2.2 dX1_addMacro_154
  ·
    by_cases c_60 : r_42 = 45
    ·
      refine lv_lookup (off := 54) (tgt := 72) hx hb dX1_addMacro_18 (by decide) (by rw [c_60]; decide) (by decide) ?_
      refine lv_aload hx hb dX1_addMacro_72 (lv_at hl 0 rfl) ?_
      obtain ⟨q_61, v_62, hr_q_61, hXc_q_61⟩ := hG.2.2.2.2 ("PostGate$Checker", 218, "%20", [37, 50, 48]) (by decide +kernel)
      have hXc_q_61 : SXc q_61 v_62 3 (cct [37, 50, 48]) A s s.heap := hXc_q_61
      have hX_q_61 : SX q_61 v_62 3 A s s.heap := hXc_q_61.sx
      obtain ⟨xo_q_61, xc_q_61, xv_q_61, xt_q_61, xn_q_61⟩ := id hXc_q_61
      have hr_q_61 : vk_R "PostGate$Checker" 218 "%20" q_61 s := hr_q_61
      refine va_ldcS hx hb hown hr_q_61 dX1_addMacro_74 ?_
      have hFc := pg_free hD hS hA
      obtain ⟨hi_63, ht_64, hq_65⟩ := hW.bytes hi_31 ht_32
      obtain ⟨z_66, o_67, hF_68, hq_69, hq_70⟩ := hO.bytes hi_31 ht_32
      refine va_callv (va_runV (As := [.ref q_61]) (rest := []) ⟨hx, hb, hml, hown, hts⟩ (s_X0_addText l dC dI cs ty L H.size F_43 b_28 (ρ + 1) r_29 60 q_61 v_62 3 hW hi_31 ht_32) ⟨callB_of 1 hts (gi kt_339) rfl rfl rfl (hts _ kt_1) (hts _ kt_340) (by decide +kernel) ⟨Nat.le_of_ble_eq_true rfl, Nat.le_of_ble_eq_true rfl⟩, (hts _ kt_341), (hts _ kt_342)⟩ ⟨fun a U g mk q => ⟨q.1, PTE.calling q.2⟩, pg_recv hK hP hi_31 hF_68 (q := (RX0, TX0, 3)) rfl, fun U hU hWm => ⟨rfl, PTE.mk hU hWm hP hK hD hE hO hG (fun x hx => by rw [List.mem_singleton] at hx; subst hx; exact hX_q_61) hS hFc⟩⟩ rfl rfl hl.1 rfl (lv_room (Nat.le_of_ble_eq_true rfl)) dX1_addMacro_76 ⟨by show _ + 0 ≤ 0; omega, by show _ + 0 ≤ 0; omega⟩) hS (fun q _ h => hFc q h) hFc (fun u t H1 locs ht hvm hw hB hz1 hk1 hS => ?_)
      obtain ⟨F_72, hB1⟩ := hB
      obtain ⟨hP, hD, hO, hR⟩ := QT.back hB1 ht hFc hR (fun q h => by simp only [List.mem_cons, List.not_mem_nil, or_false] at h ⊢; omega)
      have hF_73 : F_72 h0 = .inr (1, [.ref d, .ref w0, .ref w1, .ref w2, .ref w3, .ref nm, .ref te, .int v0_19, .int v1_20, .int v2_21, .int v3_22]) := (hB1.2.2.2 h0 (by rw [hT_h0]; simp)).trans hF_44
      generalize H1 = H at hP hS ⊢
      refine lv_goto (tgt := 154) hx hb dX1_addMacro_79 (by decide) ?_
      refine W.widen (k := 0) (n := 0) (by omega) (by omega) ?_
      exact W.vret hx hb hr (fun t ht hWm => ⟨⟨(), rfl, trivial, ⟨F_72, QT.mk ht hP hD hO hR⟩⟩, hS.F ht⟩) hS.2.2 dX1_addMacro_154
    ·
      by_cases c_74 : r_42 = 95
      ·
        refine lv_lookup (off := 44) (tgt := 62) hx hb dX1_addMacro_18 (by decide) (by rw [c_74]; decide) (by decide) ?_
        refine lv_aload hx hb dX1_addMacro_62 (lv_at hl 0 rfl) ?_
        refine lv_bipush (v := 32) hx hb dX1_addMacro_64 (by decide) ?_
        have hFc := pg_free hD hS hA
        obtain ⟨hi_75, ht_76, hq_77⟩ := hW.bytes hi_31 ht_32
        obtain ⟨z_78, o_79, hF_80, hq_81, hq_82⟩ := hO.bytes hi_31 ht_32
        refine va_callv (va_runV (As := [.int 32]) (rest := []) ⟨hx, hb, hml, hown, hts⟩ (s_X0_add l dC dI cs ty L H.size F_43 b_28 (ρ + 1) r_29 60 32 hW hi_31 ht_32) ⟨callB_of 1 hts (gi kt_13) rfl rfl rfl (hts _ kt_1) (hts _ kt_307) (by decide +kernel) ⟨Nat.le_of_ble_eq_true rfl, Nat.le_of_ble_eq_true rfl⟩, (hts _ kt_15), (hts _ kt_16)⟩ ⟨fun a U g mk q => ⟨q.1, PT.calling q.2⟩, pg_recv hK hP hi_31 hF_80 (q := (RX0, TX0, 3)) rfl, fun U hU hWm => ⟨rfl, PT.mk hU hWm hP hK hD hE hO⟩⟩ rfl rfl hl.1 rfl (lv_room (Nat.le_of_ble_eq_true rfl)) dX1_addMacro_66 ⟨by show _ + 0 ≤ 0; omega, by show _ + 0 ≤ 0; omega⟩) hS (fun q _ h => hFc q h) hFc (fun u t H1 locs ht hvm hw hB hz1 hk1 hS => ?_)
        obtain ⟨F_84, hB1⟩ := hB
        obtain ⟨hP, hD, hO, hR⟩ := QT.back hB1 ht hFc hR (fun q h => by simp only [List.mem_cons, List.not_mem_nil, or_false] at h ⊢; omega)
        have hF_85 : F_84 h0 = .inr (1, [.ref d, .ref w0, .ref w1, .ref w2, .ref w3, .ref nm, .ref te, .int v0_19, .int v1_20, .int v2_21, .int v3_22]) := (hB1.2.2.2 h0 (by rw [hT_h0]; simp)).trans hF_44
        generalize H1 = H at hP hS ⊢
        refine lv_goto (tgt := 154) hx hb dX1_addMacro_69 (by decide) ?_
        refine W.widen (k := 0) (n := 0) (by omega) (by omega) ?_
        exact W.vret hx hb hr (fun t ht hWm => ⟨⟨(), rfl, trivial, ⟨F_84, QT.mk ht hP hD hO hR⟩⟩, hS.F ht⟩) hS.2.2 dX1_addMacro_154
      ·
        refine lv_lookup (off := 64) (tgt := 82) hx hb dX1_addMacro_18 (by decide) (lk3 _ _ _ _ _ _ _ (fun h => c_48 (Int32.toInt_inj.mp h)) (fun h => c_60 (Int32.toInt_inj.mp h)) (fun h => c_74 (Int32.toInt_inj.mp h))) (by decide) ?_
        refine lv_aload_n hx hb dX1_addMacro_82 rfl (lv_at hl 2 rfl) ?_
        refine lv_iload_n hx hb dX1_addMacro_83 rfl (lv_at hl 3 rfl) ?_
        refine lv_iconst (v := 3) hx hb dX1_addMacro_84 (by decide) ?_
        refine lv_iadd hx hb dX1_addMacro_85 ?_
        refine lv_topi (fun x_86 _ => ?_)
        have hFc := pg_free hD hS hA
        refine va_calli (va_runV (As := [.int x_86]) (rest := []) ⟨hx, hb, hml, hown, hts⟩ (s_X0_at l dC dI cs ty L H.size F_43 g1 σ r1 n1 x_86 hW hL_g1 hT_g1) ⟨callB_of 1 hts (gi kt_21) rfl rfl rfl (hts _ kt_1) (hts _ kt_301) (by decide +kernel) ⟨Nat.le_of_ble_eq_true rfl, Nat.le_of_ble_eq_true rfl⟩, (hts _ kt_23), (hts _ kt_24)⟩ ⟨fun a U g mk q => ⟨q.1, PT.calling q.2⟩, pg_recv hK hP hL_g1 hF_46 (q := (RX0, TX0, 3)) rfl, fun U hU hWm => ⟨rfl, PT.mk hU hWm hP hK hD hE hO⟩⟩ rfl rfl hl.1 rfl (lv_room (Nat.le_of_ble_eq_true rfl)) dX1_addMacro_86 ⟨by show _ + 0 ≤ 0; omega, by show _ + 0 ≤ 0; omega⟩) hS (fun q _ h => hFc q h) hFc (fun r_87 u t H1 locs ht hvm hw hB hz1 hk1 hS => ?_)
        obtain ⟨F_88, hB1⟩ := hB
        obtain ⟨hP, hD, hO, hR⟩ := QT.back hB1 ht hFc hR (fun q h => absurd h List.not_mem_nil)
        have hF_89 : F_88 h0 = .inr (1, [.ref d, .ref w0, .ref w1, .ref w2, .ref w3, .ref nm, .ref te, .int v0_19, .int v1_20, .int v2_21, .int v3_22]) := (hB1.2.2.2 h0 List.not_mem_nil).trans hF_44
        have hF_90 : F_88 nm = .inl (cs 20, 12, .inr (.inr (.inr (.inr f_25)))) := (hB1.2.2.2 nm List.not_mem_nil).trans hF_45
        have hF_91 : F_88 g1 = .inr (0, [.ref r1, .int (nI z_37), .int o_38]) := (hB1.2.2.2 g1 List.not_mem_nil).trans hF_46
        generalize H1 = H at hP hS ⊢
        have hw : True := hw
        have hw_92 := hw
        refine lv_bipush (v := 48) hx hb dX1_addMacro_89 (by decide) ?_
        refine lv_isub hx hb dX1_addMacro_91 ?_
        refine lv_topi (fun x_93 _ => ?_)
        refine lv_istore (lv' := [(6, .int x_93), (5, .ref b_28), (0, .ref h0), (1, .ref g1), (2, .int x2), (3, .int x3), (4, .int (nI lv))]) hx hb dX1_addMacro_92 hl (by decide) rfl (fun ls hl => ?_)
        refine W.widen (k := 0) (n := 0) (by omega) (by omega) ?_
        refine pl_cut (σ := Int32) A (dC, dI) cs ty L [ρ + 1] F 113 8 (fun s7 => [(6, .int x_93), (5, .ref b_28), (0, .ref h0), (1, .ref g1), (2, .int x2), (3, .int x3), (4, .int (nI lv))]) (fun s7 => [.int s7]) (fun s7 _ => True) ?_ (fun jn_94 => ?_)
        ·
          rintro s7 F_95 hv_96 hO hR H locs hP hD hS ls hl
          have hl : lv_has ls 8 [(6, .int x_93), (5, .ref b_28), (0, .ref h0), (1, .ref g1), (2, .int x2), (3, .int x3), (4, .int (nI lv))] := hl
          have hv_96 : True := hv_96
          refine W.eq (g2 := F0 m 113 ls [.int s7]) rfl ?_
          refine lv_istore (lv' := [(7, .int s7), (6, .int x_93), (5, .ref b_28), (0, .ref h0), (1, .ref g1), (2, .int x2), (3, .int x3), (4, .int (nI lv))]) hx hb dX1_addMacro_113 hl (by decide) rfl (fun ls hl => ?_)
          refine lv_aload_n hx hb dX1_addMacro_115 rfl (lv_at hl 3 rfl) ?_
          refine lv_aload_n hx hb dX1_addMacro_116 rfl (lv_at hl 4 rfl) ?_
          refine lv_iload_n hx hb dX1_addMacro_117 rfl (lv_at hl 5 rfl) ?_
          refine lv_iconst (v := 2) hx hb dX1_addMacro_118 (by decide) ?_
          refine lv_iadd hx hb dX1_addMacro_119 ?_
          refine lv_topi (fun x_97 _ => ?_)
          have hFc := pg_free hD hS hA
          obtain ⟨z_98, o_99, hF_100, hq_101, hq_102⟩ := hO.bytes hL_g1 hT_g1
          refine va_calli (va_runV (As := [.int x_97]) (rest := [.ref h0]) ⟨hx, hb, hml, hown, hts⟩ (s_X0_at l dC dI cs ty L H.size F_95 g1 σ r1 n1 x_97 hW hL_g1 hT_g1) ⟨callB_of 1 hts (gi kt_21) rfl rfl rfl (hts _ kt_1) (hts _ kt_301) (by decide +kernel) ⟨Nat.le_of_ble_eq_true rfl, Nat.le_of_ble_eq_true rfl⟩, (hts _ kt_23), (hts _ kt_24)⟩ ⟨fun a U g mk q => ⟨q.1, PT.calling q.2⟩, pg_recv hK hP hL_g1 hF_100 (q := (RX0, TX0, 3)) rfl, fun U hU hWm => ⟨rfl, PT.mk hU hWm hP hK hD hE hO⟩⟩ rfl rfl hl.1 rfl (lv_room (Nat.le_of_ble_eq_true rfl)) dX1_addMacro_120 ⟨by show _ + 0 ≤ 0; omega, by show _ + 0 ≤ 0; omega⟩) hS (fun q _ h => hFc q h) hFc (fun r_103 u t H1 locs ht hvm hw hB hz1 hk1 hS => ?_)
          obtain ⟨F_104, hB1⟩ := hB
          obtain ⟨hP, hD, hO, hR⟩ := QT.back hB1 ht hFc hR (fun q h => absurd h List.not_mem_nil)
          have hF_105 : F_104 g1 = .inr (0, [.ref r1, .int (nI z_98), .int o_99]) := (hB1.2.2.2 g1 List.not_mem_nil).trans hF_100
          generalize H1 = H at hP hS ⊢
          have hw : True := hw
          have hw_106 := hw
          refine lv_iload hx hb dX1_addMacro_123 (lv_at hl 7 rfl) ?_
          have hFc := pg_free hD hS hA
          obtain ⟨v0_107, v1_108, v2_109, v3_110, hF_111⟩ := hO.chk hL_h0 hT_h0
          refine va_callr (va_runV (As := [.int r_103, .int (nI lv)]) (rest := []) ⟨hx, hb, hml, hown, hts⟩ (s_X1_pieceOf l dC dI cs ty L H.size F_104 h0 ρ d δ ea w0 w1 w2 w3 nm te lv r_103 hW hL_h0 hT_h0 (by omega)) ⟨callB_of 2 hts (gi kt_343) rfl rfl rfl (hts _ kt_310) (hts _ kt_344) (by decide +kernel) ⟨Nat.le_of_ble_eq_true rfl, Nat.le_of_ble_eq_true rfl⟩, (hts _ kt_345), (hts _ kt_346)⟩ ⟨fun a U g mk q => ⟨q.1, PT.calling q.2⟩, pg_recv hK hP hL_h0 hF_111 (q := (RX1, TX1, 11)) rfl, fun U hU hWm => ⟨rfl, PT.mk hU hWm hP hK hD hE hO⟩⟩ rfl rfl hl.1 rfl (lv_room (Nat.le_of_ble_eq_true rfl)) dX1_addMacro_125 ⟨by show _ + 0 ≤ 0; omega, by show _ + 0 ≤ 0; omega⟩) hS (fun q _ h => hFc q h) hFc (fun u r_112 t H1 locs ht hvm hw hB hz1 hk1 hS => ?_)
          obtain ⟨F_113, vr_114, vn_115, hB1, hq_116, hq_117⟩ := hB
          obtain ⟨hP, hD, hO, hR⟩ := QT.back hB1 ht hFc hR (fun q h => absurd h List.not_mem_nil)
          have hF_118 : F_113 g1 = .inr (0, [.ref r1, .int (nI z_98), .int o_99]) := (hB1.2.2.2 g1 List.not_mem_nil).trans hF_105
          have hF_119 : F_113 h0 = .inr (1, [.ref d, .ref w0, .ref w1, .ref w2, .ref w3, .ref nm, .ref te, .int v0_107, .int v1_108, .int v2_109, .int v3_110]) := (hB1.2.2.2 h0 List.not_mem_nil).trans hF_111
          generalize H1 = H at hP hS ⊢
          refine W.widen (k := 0) (n := 0) (by omega) (by omega) ?_
          refine pl_cut (σ := Int32) A (dC, dI) cs ty L [ρ + 1] F 147 8 (fun s8 => [(7, .int s7), (6, .int x_93), (5, .ref b_28), (0, .ref h0), (1, .ref g1), (2, .int x2), (3, .int x3), (4, .int (nI lv))]) (fun s8 => [.int s8, .ref r_112]) (fun s8 _ => True) ?_ (fun jn_120 => ?_)
          ·
            rintro s8 F_121 hv_122 hO hR H locs hP hD hS ls hl
            have hl : lv_has ls 8 [(7, .int s7), (6, .int x_93), (5, .ref b_28), (0, .ref h0), (1, .ref g1), (2, .int x2), (3, .int x3), (4, .int (nI lv))] := hl
            have hv_122 : True := hv_122
            refine W.eq (g2 := F0 m 147 ls [.int s8, .ref r_112]) rfl ?_
            refine lv_iload hx hb dX1_addMacro_147 (lv_at hl 0 rfl) ?_
            refine lv_aload hx hb dX1_addMacro_149 (lv_at hl 2 rfl) ?_
            have hFc := pg_free hD hS hA
            refine va_callv (va_runS (As := [.ref r_112, .int s8, .int s7, .ref b_28]) (rest := []) ⟨hx, hb, hml, hown, hts⟩ (s_X1_addParts l dC dI cs ty L H.size F_121 r_112 (ρ + 1) vr_114 vn_115 b_28 (ρ + 1) r_29 60 s8 s7 hW hq_116 hq_117 hi_31 ht_32) ⟨callB_of 4 hts (gi kt_347) rfl rfl rfl (hts _ kt_310) (hts _ kt_348) (by decide +kernel) ⟨Nat.le_of_ble_eq_true rfl, Nat.le_of_ble_eq_true rfl⟩, (hts _ kt_349)⟩ ⟨fun a U g mk q => ⟨q.1, PT.calling q.2⟩, fun U hU hWm => ⟨rfl, PT.mk hU hWm hP hK hD hE hO⟩⟩ rfl rfl hl.1 rfl (lv_room (Nat.le_of_ble_eq_true rfl)) dX1_addMacro_151 ⟨by show _ + 0 ≤ 0; omega, by show _ + 0 ≤ 0; omega⟩) hS (fun q _ h => hFc q h) hFc (fun u t H1 locs ht hvm hw hB hz1 hk1 hS => ?_)
            obtain ⟨F_124, hB1⟩ := hB
            obtain ⟨hP, hD, hO, hR⟩ := QT.back hB1 ht hFc hR (fun q h => by simp only [List.mem_cons, List.not_mem_nil, or_false] at h ⊢; omega)
            generalize H1 = H at hP hS ⊢
            refine W.widen (k := 0) (n := 0) (by omega) (by omega) ?_
            exact W.vret hx hb hr (fun t ht hWm => ⟨⟨(), rfl, trivial, ⟨F_124, QT.mk ht hP hD hO hR⟩⟩, hS.F ht⟩) hS.2.2 dX1_addMacro_154
          ·
            refine lv_iload hx hb dX1_addMacro_128 (lv_at hl 1 rfl) ?_
            refine lv_iconst (v := 1) hx hb dX1_addMacro_130 (by decide) ?_
            refine lv_icmp_lt (tgt := 146) hx hb dX1_addMacro_131 (by decide) (fun c_125 => ?_) (fun c_125 => ?_)
            ·
              refine lv_iconst (v := 0) hx hb dX1_addMacro_146 (by decide) ?_
              refine W.widen (k := 0) (n := 0) (by omega) (by omega) ?_
              exact jn_120 0 F_113 (trivial) hO hR _ _ hP hD hS ls (lv_sub hl [0, 1, 2, 3, 4, 5, 6, 7] rfl)
            ·
              refine lv_iload hx hb dX1_addMacro_134 (lv_at hl 1 rfl) ?_
              refine lv_bipush (v := 9) hx hb dX1_addMacro_136 (by decide) ?_
              refine lv_icmp_gt (tgt := 146) hx hb dX1_addMacro_138 (by decide) (fun c_126 => ?_) (fun c_126 => ?_)
              ·
                refine lv_iconst (v := 0) hx hb dX1_addMacro_146 (by decide) ?_
                refine W.widen (k := 0) (n := 0) (by omega) (by omega) ?_
                exact jn_120 0 F_113 (trivial) hO hR _ _ hP hD hS ls (lv_sub hl [0, 1, 2, 3, 4, 5, 6, 7] rfl)
              ·
                refine lv_iload hx hb dX1_addMacro_141 (lv_at hl 1 rfl) ?_
                refine lv_goto (tgt := 147) hx hb dX1_addMacro_143 (by decide) ?_
                refine W.widen (k := 0) (n := 0) (by omega) (by omega) ?_
                exact jn_120 x_93 F_113 (trivial) hO hR _ _ hP hD hS ls (lv_sub hl [0, 1, 2, 3, 4, 5, 6, 7] rfl)
        ·
          refine lv_aload_n hx hb dX1_addMacro_94 rfl (lv_at hl 3 rfl) ?_
          refine lv_iload_n hx hb dX1_addMacro_95 rfl (lv_at hl 4 rfl) ?_
          refine lv_iload_n hx hb dX1_addMacro_96 rfl (lv_at hl 5 rfl) ?_
          refine lv_iadd hx hb dX1_addMacro_97 ?_
          refine lv_topi (fun x_127 _ => ?_)
          refine lv_iconst (v := 2) hx hb dX1_addMacro_98 (by decide) ?_
          refine lv_isub hx hb dX1_addMacro_99 ?_
          refine lv_topi (fun x_128 _ => ?_)
          have hFc := pg_free hD hS hA
          refine va_calli (va_runV (As := [.int x_128]) (rest := []) ⟨hx, hb, hml, hown, hts⟩ (s_X0_at l dC dI cs ty L H.size F_88 g1 σ r1 n1 x_128 hW hL_g1 hT_g1) ⟨callB_of 1 hts (gi kt_21) rfl rfl rfl (hts _ kt_1) (hts _ kt_301) (by decide +kernel) ⟨Nat.le_of_ble_eq_true rfl, Nat.le_of_ble_eq_true rfl⟩, (hts _ kt_23), (hts _ kt_24)⟩ ⟨fun a U g mk q => ⟨q.1, PT.calling q.2⟩, pg_recv hK hP hL_g1 hF_91 (q := (RX0, TX0, 3)) rfl, fun U hU hWm => ⟨rfl, PT.mk hU hWm hP hK hD hE hO⟩⟩ rfl rfl hl.1 rfl (lv_room (Nat.le_of_ble_eq_true rfl)) dX1_addMacro_100 ⟨by show _ + 0 ≤ 0; omega, by show _ + 0 ≤ 0; omega⟩) hS (fun q _ h => hFc q h) hFc (fun r_129 u t H1 locs ht hvm hw hB hz1 hk1 hS => ?_)
          obtain ⟨F_130, hB1⟩ := hB
          obtain ⟨hP, hD, hO, hR⟩ := QT.back hB1 ht hFc hR (fun q h => absurd h List.not_mem_nil)
          have hF_131 : F_130 h0 = .inr (1, [.ref d, .ref w0, .ref w1, .ref w2, .ref w3, .ref nm, .ref te, .int v0_19, .int v1_20, .int v2_21, .int v3_22]) := (hB1.2.2.2 h0 List.not_mem_nil).trans hF_89
          have hF_132 : F_130 nm = .inl (cs 20, 12, .inr (.inr (.inr (.inr f_25)))) := (hB1.2.2.2 nm List.not_mem_nil).trans hF_90
          have hF_133 : F_130 g1 = .inr (0, [.ref r1, .int (nI z_37), .int o_38]) := (hB1.2.2.2 g1 List.not_mem_nil).trans hF_91
          generalize H1 = H at hP hS ⊢
          have hw : True := hw
          have hw_134 := hw
          refine lv_bipush (v := 114) hx hb dX1_addMacro_103 (by decide) ?_
          refine lv_icmp_ne (tgt := 112) hx hb dX1_addMacro_105 (by decide) (fun c_135 => ?_) (fun c_135 => ?_)
          ·
            refine lv_iconst (v := 0) hx hb dX1_addMacro_112 (by decide) ?_
            refine W.widen (k := 0) (n := 0) (by omega) (by omega) ?_
            exact jn_94 0 F_130 (trivial) hO hR _ _ hP hD hS ls (lv_sub hl [0, 1, 2, 3, 4, 5, 6] rfl)
          ·
            refine lv_iconst (v := 1) hx hb dX1_addMacro_108 (by decide) ?_
            refine lv_goto (tgt := 113) hx hb dX1_addMacro_109 (by decide) ?_
            refine W.widen (k := 0) (n := 0) (by omega) (by omega) ?_
            exact jn_94 1 F_130 (trivial) hO hR _ _ hP hD hS ls (lv_sub hl [0, 1, 2, 3, 4, 5, 6] rfl)
set_option maxHeartbeats 4000000 in
set_option maxRecDepth 100000 in
theorem s_X1_expand (l : Launch) (dC : Nat → ClassId) (dI : Nat → Nat → Nat) (cs : Nat → ClassId) (ty : TyM) (L : List Nat) (sz : Nat) (F : Nat → va_E) (h0 : Nat) (ρ : Nat) (d : Nat) (δ : Nat) (ea : Nat) (w0 : Nat) (w1 : Nat) (w2 : Nat) (w3 : Nat) (nm : Nat) (te : Nat) (g1 : Nat) (σ : Nat) (r1 : Nat) (n1 : Nat) (lv : Nat) (hW : WT ty L) (hL_h0 : h0 ∈ L) (hT_h0 : ty h0 = (1, ρ, [d, δ, ea, w0, w1, w2, w3, nm, te])) (hL_g1 : g1 ∈ L) (hT_g1 : ty g1 = (0, σ, [r1, n1])) (hlv : lv ≤ 10) : Met l yX1_expand (.code yX1_expand cX1_expand 8 none :: tb) ({ frames := 6, cells := 0, slots := 0, locals := 134 }) (va_Pc [.ref h0, .ref g1, .int (nI lv)] (PTE (dC, dI) cs ty L F sz [])) (va_Qv (fun _ : Unit => True) (fun _ T9 => ∃ F2 : Nat → va_E, QT (dC, dI) cs ty L [ρ + 1] F F2 (va_A (va_pl L F) sz) T9) (va_A (va_pl L F) sz)) 0 0 (va_A (va_pl L F) sz) := by
  refine Met.ofW (cc := cX1_expand) (maxL := 8) (ret := none) (by decide) rfl ?_
  intro p e s m args below meth c s₁ B hml hv
  obtain ⟨rfl, ⟨hsz, hP, hK, hD0, hE, hO⟩, hG, hX⟩ := hv
  have hx := B.exec
  have hb := B.bytes
  have hr := B.returns
  have hts : ∀ w ∈ tb, w.before _ s = true := fun w h => atoms_spec (ws := .code yX1_expand cX1_expand 8 none :: tb) B.pre w (List.mem_cons_of_mem _ h)
  have hown : s.vm.findClass RX1 = some m.cls := findClass_of_methodNamed B.named
  have hlocks := B.notSynchronized
  subst hsz
  have hD := hD0.self (sz := s.heap.size)
  generalize hAe : va_A (va_pl L F) s.heap.size = A at hD hG hX ⊢
  have hA : ∀ q : Nat, s.heap.size ≤ q → A q := fun q h => by rw [← hAe]; exact Or.inr h
  have hS : va_S A s.heap s.heap [] := va_S.rf
  have hR : FR ty [ρ + 1] F F := FR.refl
  have hl := lv_entry ([.ref h0, .ref g1, .int (nI lv)]) (n := 8) (Nat.le_of_ble_eq_true rfl)
  rw [lg_entry_eq]
  generalize (lg_sl ([.ref h0, .ref g1, .int (nI lv)]) ++ List.replicate (8 - (lg_sl ([.ref h0, .ref g1, .int (nI lv)])).length) Slot.unset).toArray = ls at hl ⊢
  have hl : lv_has ls 8 [(0, .ref h0), (1, .ref g1), (2, .int (nI lv))] := hl
  refine lv_aload_n hx hb dX1_expand_0 rfl (lv_at hl 0 rfl) ?_
  obtain ⟨hi_1, ht_2, hi_3, ⟨r_4, ht_5⟩, hi_6, ⟨r_7, ht_8⟩, hi_9, ⟨r_10, ht_11⟩, hi_12, ⟨r_13, ht_14⟩, hi_15, ht_16, hi_17, ht_18⟩ := hW.chk hL_h0 hT_h0
  obtain ⟨v0_19, v1_20, v2_21, v3_22, hF_23⟩ := hO.chk hL_h0 hT_h0
  refine pg_get (ci := 1) (v := .ref te) (C := RX1) (T := TX1) (N := 11) hx hb hts it_1 hown hK hP hL_h0 hF_23 rfl 6 (by decide) (hts _ kt_350) (fun _ h9 => h9) rfl dX1_expand_1 ?_
  refine lv_iload_n hx hb dX1_expand_4 rfl (lv_at hl 2 rfl) ?_
  obtain ⟨f_24, hF_25, hq_26⟩ := hO.rterm hi_17 ht_18
  obtain ⟨b_27, hbf_28, hi_29, ht_30⟩ := hq_26 lv (by omega)
  refine pg_aald (r := b_27) hx hb hK hP hi_17 6 hF_25 rfl (vp_in_nI (by omega) (by omega)) (show f_24 ((nI lv) : Int32).toNatClampNeg = _ from by rw [show ((nI lv) : Int32) = nI lv from rfl, nI_clamp (by omega)]; exact hbf_28) dX1_expand_5 ?_
  refine lv_astore_n (lv' := [(3, .ref b_27), (0, .ref h0), (1, .ref g1), (2, .int (nI lv))]) hx hb dX1_expand_6 rfl hl (by decide) rfl (fun ls hl => ?_)
  refine lv_aload_n hx hb dX1_expand_7 rfl (lv_at hl 1 rfl) ?_
  refine pg_get (ci := 1) (v := .ref nm) (C := RX1) (T := TX1) (N := 11) hx hb hts it_1 hown hK hP hL_h0 hF_23 rfl 5 (by decide) (hts _ kt_338) (fun _ h9 => h9) rfl dX1_expand_8 ?_
  refine lv_iload_n hx hb dX1_expand_11 rfl (lv_at hl 3 rfl) ?_
  refine lv_iconst (v := 1) hx hb dX1_expand_12 (by decide) ?_
  refine lv_iadd hx hb dX1_expand_13 ?_
  refine lv_topi (fun x_31 ex_31 => ?_)
  obtain rfl : x_31 = (nI (lv + 1)) := ex_31.trans (nI_1 lv)
  obtain ⟨f_32, hF_33, hq_34⟩ := hO.rbytes hi_15 ht_16
  obtain ⟨b_35, r_36, hbf_37, hi_38, ht_39⟩ := hq_34 (lv + 1) (by omega)
  refine pg_aald (r := b_35) hx hb hK hP hi_15 4 hF_33 rfl (vp_in_nI (by omega) (by omega)) (show f_32 ((nI (lv + 1)) : Int32).toNatClampNeg = _ from by rw [show ((nI (lv + 1)) : Int32) = nI (lv + 1) from rfl, nI_clamp (by omega)]; exact hbf_37) dX1_expand_14 ?_
  refine lv_astore (lv' := [(4, .ref b_35), (3, .ref b_27), (0, .ref h0), (1, .ref g1), (2, .int (nI lv))]) hx hb dX1_expand_15 hl (by decide) rfl (fun ls hl => ?_)
  refine lv_aload_n hx hb dX1_expand_17 rfl (lv_at hl 1 rfl) ?_
  obtain ⟨v0_40, v1_41, v2_42, z_43, v4_44, v5_45, hF_46, hq_47⟩ := hO.term hi_29 ht_30
  refine pg_getN (ci := 10) (v := .int v2_42) (C := RX10) (T := TX10) (N := 6) hx hb hts it_10 hown hK hP hi_29 hF_46 rfl 2 (by decide) (hE.nest kn_9) (fun _ h9 => h9) rfl dX1_expand_18 ?_
  refine lv_aload_n hx hb dX1_expand_21 rfl (lv_at hl 1 rfl) ?_
  refine pg_getN (ci := 10) (v := .int (nI z_43)) (C := RX10) (T := TX10) (N := 6) hx hb hts it_10 hown hK hP hi_29 hF_46 rfl 3 (by decide) (hE.nest kn_10) (fun _ h9 => h9) rfl dX1_expand_22 ?_
  refine lv_icmp_ne (tgt := 40) hx hb dX1_expand_25 (by decide) (fun c_48 => ?_) (fun c_48 => ?_)
  ·
    refine lv_aload hx hb dX1_expand_40 (lv_at hl 0 rfl) ?_
    have hFc := pg_free hD hS hA
    obtain ⟨hi_49, ht_50, hq_51⟩ := hW.bytes hi_38 ht_39
    obtain ⟨z_52, o_53, hF_54, hq_55, hq_56⟩ := hO.bytes hi_38 ht_39
    refine va_callv (va_runV (As := []) (rest := []) ⟨hx, hb, hml, hown, hts⟩ (s_X0_clear l dC dI cs ty L s.heap.size F b_35 (ρ + 1) r_36 60 hW hi_38 ht_39) ⟨callB_of 0 hts (gi kt_32) rfl rfl rfl (hts _ kt_1) (hts _ kt_317) (by decide +kernel) ⟨Nat.le_of_ble_eq_true rfl, Nat.le_of_ble_eq_true rfl⟩, (hts _ kt_34), (hts _ kt_35)⟩ ⟨fun a U g mk q => ⟨q.1, PT.calling q.2⟩, pg_recv hK hP hi_38 hF_54 (q := (RX0, TX0, 3)) rfl, fun U hU hWm => ⟨rfl, PT.mk hU hWm hP hK hD hE hO⟩⟩ rfl rfl hl.1 rfl (lv_room (Nat.le_of_ble_eq_true rfl)) dX1_expand_42 ⟨by show _ + 0 ≤ 0; omega, by show _ + 0 ≤ 0; omega⟩) hS (fun q _ h => hFc q h) hFc (fun u t H1 locs ht hvm hw hB hz1 hk1 hS => ?_)
    obtain ⟨F_58, hB1, hq_59⟩ := hB
    obtain ⟨hP, hD, hO, hR⟩ := QT.back hB1 ht hFc hR (fun q h => by simp only [List.mem_cons, List.not_mem_nil, or_false] at h ⊢; omega)
    have hF_60 : F_58 h0 = .inr (1, [.ref d, .ref w0, .ref w1, .ref w2, .ref w3, .ref nm, .ref te, .int v0_19, .int v1_20, .int v2_21, .int v3_22]) := (hB1.2.2.2 h0 (by rw [hT_h0]; simp)).trans hF_23
    have hF_61 : F_58 te = .inl (cs 22, 11, .inr (.inr (.inr (.inr f_24)))) := (hB1.2.2.2 te (by rw [ht_18]; simp)).trans hF_25
    have hF_62 : F_58 b_27 = .inr (10, [.int v0_40, .int v1_41, .int v2_42, .int (nI z_43), .int v4_44, .int v5_45]) := (hB1.2.2.2 b_27 (by rw [ht_30]; simp)).trans hF_46
    generalize H1 = H at hP hS ⊢
    refine lv_iconst (v := 1) hx hb dX1_expand_45 (by decide) ?_
    refine lv_istore (lv' := [(5, .int 1), (4, .ref b_35), (3, .ref b_27), (0, .ref h0), (1, .ref g1), (2, .int (nI lv))]) hx hb dX1_expand_46 hl (by decide) rfl (fun ls hl => ?_)
    refine lv_aload_n hx hb dX1_expand_48 rfl (lv_at hl 2 rfl) ?_
    refine pg_getN (ci := 10) (v := .int v2_42) (C := RX10) (T := TX10) (N := 6) hx hb hts it_10 hown hK hP hi_29 hF_62 rfl 2 (by decide) (hE.nest kn_9) (fun _ h9 => h9) rfl dX1_expand_49 ?_
    refine lv_istore (lv' := [(6, .int v2_42), (5, .int 1), (4, .ref b_35), (3, .ref b_27), (0, .ref h0), (1, .ref g1), (2, .int (nI lv))]) hx hb dX1_expand_52 hl (by decide) rfl (fun ls hl => ?_)
    refine W.widen (k := 0) (n := 0) (by omega) (by omega) ?_
    refine pl_loop (σ := Int32 × Int32) A (dC, dI) cs ty L [ρ + 1] F 54 8 (fun (i1, w5) => [(6, .int i1), (5, .int w5), (4, .ref b_35), (3, .ref b_27), (0, .ref h0), (1, .ref g1), (2, .int (nI lv))]) (fun (i1, w5) => []) (fun (i1, w5) FF => FF b_27 = .inr (10, [.int v0_40, .int v1_41, .int v2_42, .int (nI z_43), .int v4_44, .int v5_45])) (fun (i1, w5) => ((nI z_43).toInt - i1.toInt).toNat) ?_ (v2_42, 1) F_58 (hF_62) hO hR _ _ hP hD hS ls (lv_sub hl [0, 1, 2, 3, 4, 5, 6] rfl)
    rintro ⟨i1, w5⟩ F_63 hv_64 hO hR ih_65 H locs hP hD hS ls hl
    have hl : lv_has ls 8 [(6, .int i1), (5, .int w5), (4, .ref b_35), (3, .ref b_27), (0, .ref h0), (1, .ref g1), (2, .int (nI lv))] := hl
    have hv_64 : F_63 b_27 = .inr (10, [.int v0_40, .int v1_41, .int v2_42, .int (nI z_43), .int v4_44, .int v5_45]) := hv_64
    refine W.eq (g2 := F0 m 54 ls []) rfl ?_
    refine lv_iload hx hb dX1_expand_54 (lv_at hl 0 rfl) ?_
    refine lv_aload_n hx hb dX1_expand_56 rfl (lv_at hl 3 rfl) ?_
    refine pg_getN (ci := 10) (v := .int (nI z_43)) (C := RX10) (T := TX10) (N := 6) hx hb hts it_10 hown hK hP hi_29 hv_64 rfl 3 (by decide) (hE.nest kn_10) (fun _ h9 => h9) rfl dX1_expand_57 ?_
    refine lv_icmp_ge (tgt := 122) hx hb dX1_expand_60 (by decide) (fun c_66 => ?_) (fun c_66 => ?_)
    ·
      refine W.widen (k := 0) (n := 0) (by omega) (by omega) ?_
      exact W.vret hx hb hr (fun t ht hWm => ⟨⟨(), rfl, trivial, ⟨F_63, QT.mk ht hP hD hO hR⟩⟩, hS.F ht⟩) hS.2.2 dX1_expand_122
    ·
      have hc60 := c_66
      refine lv_aload_n hx hb dX1_expand_63 rfl (lv_at hl 5 rfl) ?_
      refine lv_iload hx hb dX1_expand_64 (lv_at hl 0 rfl) ?_
      refine lv_aload_n hx hb dX1_expand_66 rfl (lv_at hl 3 rfl) ?_
      refine pg_getN (ci := 10) (v := .int (nI z_43)) (C := RX10) (T := TX10) (N := 6) hx hb hts it_10 hown hK hP hi_29 hv_64 rfl 3 (by decide) (hE.nest kn_10) (fun _ h9 => h9) rfl dX1_expand_67 ?_
      have hFc := pg_free hD hS hA
      refine va_calli (va_runS (As := [.ref g1, .int i1, .int (nI z_43)]) (rest := []) ⟨hx, hb, hml, hown, hts⟩ (s_X10_macroLength l dC dI cs ty L H.size F_63 g1 σ r1 n1 i1 (nI z_43) hW hL_g1 hT_g1) ⟨callB_of 3 hts (gi kt_127) rfl rfl rfl (hts _ kt_90) (hts _ kt_351) (by decide +kernel) ⟨Nat.le_of_ble_eq_true rfl, Nat.le_of_ble_eq_true rfl⟩, (hts _ kt_129)⟩ ⟨fun a U g mk q => ⟨q.1, PT.calling q.2⟩, fun U hU hWm => ⟨rfl, PT.mk hU hWm hP hK hD hE hO⟩⟩ rfl rfl hl.1 rfl (lv_room (Nat.le_of_ble_eq_true rfl)) dX1_expand_70 ⟨by show _ + 0 ≤ 0; omega, by show _ + 0 ≤ 0; omega⟩) hS (fun q _ h => hFc q h) hFc (fun r_67 u t H1 locs ht hvm hw hB hz1 hk1 hS => ?_)
      obtain ⟨F_68, hB1⟩ := hB
      obtain ⟨hP, hD, hO, hR⟩ := QT.back hB1 ht hFc hR (fun q h => absurd h List.not_mem_nil)
      have hF_69 : F_68 b_27 = .inr (10, [.int v0_40, .int v1_41, .int v2_42, .int (nI z_43), .int v4_44, .int v5_45]) := (hB1.2.2.2 b_27 List.not_mem_nil).trans hv_64
      generalize H1 = H at hP hS ⊢
      have hw : (∃ k : Nat, k ≤ 7 ∧ r_67 = nI k) := hw
      have hw_70 := hw
      obtain ⟨k1, hkm, hkn⟩ := hw_70
      subst hkn
      refine lv_istore (lv' := [(7, .int (nI k1)), (6, .int i1), (5, .int w5), (4, .ref b_35), (3, .ref b_27), (0, .ref h0), (1, .ref g1), (2, .int (nI lv))]) hx hb dX1_expand_73 hl (by decide) rfl (fun ls hl => ?_)
      refine lv_iload hx hb dX1_expand_75 (lv_at hl 0 rfl) ?_
      refine lv_if_ne (tgt := 94) hx hb dX1_expand_77 (by decide) (fun c_71 => ?_) (fun c_71 => ?_)
      ·
        refine lv_aload_n hx hb dX1_expand_94 rfl (lv_at hl 5 rfl) ?_
        refine lv_aload_n hx hb dX1_expand_95 rfl (lv_at hl 6 rfl) ?_
        refine lv_iload hx hb dX1_expand_96 (lv_at hl 1 rfl) ?_
        refine lv_iload hx hb dX1_expand_98 (lv_at hl 0 rfl) ?_
        refine lv_iload_n hx hb dX1_expand_100 rfl (lv_at hl 7 rfl) ?_
        have hFc := pg_free hD hS hA
        obtain ⟨v0_73, v1_74, v2_75, v3_76, hF_77⟩ := hO.chk hL_h0 hT_h0
        refine va_callv (va_runV (As := [.ref g1, .int i1, .int (nI k1), .int (nI lv)]) (rest := []) ⟨hx, hb, hml, hown, hts⟩ (s_X1_addMacro l dC dI cs ty L H.size F_68 h0 ρ d δ ea w0 w1 w2 w3 nm te g1 σ r1 n1 lv i1 (nI k1) hW hL_h0 hT_h0 hL_g1 hT_g1 (by omega)) ⟨callB_of 4 hts (gi kt_352) rfl rfl rfl (hts _ kt_310) (hts _ kt_353) (by decide +kernel) ⟨Nat.le_of_ble_eq_true rfl, Nat.le_of_ble_eq_true rfl⟩, (hts _ kt_354), (hts _ kt_355)⟩ ⟨fun a U g mk q => ⟨q.1, PTE.calling q.2⟩, pg_recv hK hP hL_h0 hF_77 (q := (RX1, TX1, 11)) rfl, fun U hU hWm => ⟨rfl, PTE.mk hU hWm hP hK hD hE hO hG (fun x hx => absurd hx List.not_mem_nil) hS hFc⟩⟩ rfl rfl hl.1 rfl (lv_room (Nat.le_of_ble_eq_true rfl)) dX1_expand_101 ⟨by show _ + 0 ≤ 0; omega, by show _ + 0 ≤ 0; omega⟩) hS (fun q _ h => hFc q h) hFc (fun u t H1 locs ht hvm hw hB hz1 hk1 hS => ?_)
        obtain ⟨F_79, hB1⟩ := hB
        obtain ⟨hP, hD, hO, hR⟩ := QT.back hB1 ht hFc hR (fun q h => by simp only [List.mem_cons, List.not_mem_nil, or_false] at h ⊢; omega)
        have hF_80 : F_79 b_27 = .inr (10, [.int v0_40, .int v1_41, .int v2_42, .int (nI z_43), .int v4_44, .int v5_45]) := (hB1.2.2.2 b_27 (by rw [ht_30]; simp)).trans hF_69
        have hF_81 : F_79 h0 = .inr (1, [.ref d, .ref w0, .ref w1, .ref w2, .ref w3, .ref nm, .ref te, .int v0_73, .int v1_74, .int v2_75, .int v3_76]) := (hB1.2.2.2 h0 (by rw [hT_h0]; simp)).trans hF_77
        generalize H1 = H at hP hS ⊢
        refine lv_iconst (v := 1) hx hb dX1_expand_104 (by decide) ?_
        refine lv_iload hx hb dX1_expand_105 (lv_at hl 0 rfl) ?_
        refine va_mmax hx hb (by rw [hml]; exact hl.1.symm) hown (hts _ kt_356) (hts _ kt_18) (hts _ kt_19) (hts _ kt_20) (Nat.le_of_ble_eq_true rfl) (Nat.le_of_ble_eq_true rfl) (by show _ ≤ 0; omega) (by show _ ≤ 0; omega) dX1_expand_107 ?_
        refine lv_topi (fun x_82 ex_82 => ?_)
        obtain rfl : x_82 = (nI (max 1 k1)) := ex_82.trans (maxN hkm)
        refine lv_istore (lv' := [(5, .int (nI (max 1 k1))), (7, .int (nI k1)), (6, .int i1), (4, .ref b_35), (3, .ref b_27), (0, .ref h0), (1, .ref g1), (2, .int (nI lv))]) hx hb dX1_expand_110 hl (by decide) rfl (fun ls hl => ?_)
        refine lv_iload hx hb dX1_expand_112 (lv_at hl 2 rfl) ?_
        refine lv_iload hx hb dX1_expand_114 (lv_at hl 0 rfl) ?_
        refine lv_iadd hx hb dX1_expand_116 ?_
        refine lv_topi (fun x_83 ex_83 => ?_)
        obtain rfl : x_83 = (i1 + nI (max 1 k1)) := ex_83.trans (rfl)
        refine lv_istore (lv' := [(6, .int (i1 + nI (max 1 k1))), (5, .int (nI (max 1 k1))), (7, .int (nI k1)), (4, .ref b_35), (3, .ref b_27), (0, .ref h0), (1, .ref g1), (2, .int (nI lv))]) hx hb dX1_expand_117 hl (by decide) rfl (fun ls hl => ?_)
        refine lv_goto (tgt := 54) hx hb dX1_expand_119 (by decide) ?_
        refine W.widen (k := 0) (n := 0) (by omega) (by omega) ?_
        exact ih_65 ((i1 + nI (max 1 k1)), (nI (max 1 k1))) F_79 (hF_80) (by show ((nI z_43).toInt - (i1 + nI (max 1 k1)).toInt).toNat < ((nI z_43).toInt - i1.toInt).toNat; exact stepN hc60 (by omega) (Nat.le_max_left _ _) (Nat.max_le.mpr ⟨by omega, hkm⟩)) hO hR _ _ hP hD hS ls (lv_sub hl [0, 1, 3, 4, 5, 6, 7] rfl)
      ·
        refine lv_aload hx hb dX1_expand_80 (lv_at hl 3 rfl) ?_
        refine lv_aload_n hx hb dX1_expand_82 rfl (lv_at hl 6 rfl) ?_
        refine lv_iload hx hb dX1_expand_83 (lv_at hl 1 rfl) ?_
        have hFc := pg_free hD hS hA
        obtain ⟨hi_85, ht_86, hq_87⟩ := hW.bytes hL_g1 hT_g1
        obtain ⟨z_88, o_89, hF_90, hq_91, hq_92⟩ := hO.bytes hL_g1 hT_g1
        refine va_calli (va_runV (As := [.int i1]) (rest := [.ref b_35]) ⟨hx, hb, hml, hown, hts⟩ (s_X0_at l dC dI cs ty L H.size F_68 g1 σ r1 n1 i1 hW hL_g1 hT_g1) ⟨callB_of 1 hts (gi kt_21) rfl rfl rfl (hts _ kt_1) (hts _ kt_301) (by decide +kernel) ⟨Nat.le_of_ble_eq_true rfl, Nat.le_of_ble_eq_true rfl⟩, (hts _ kt_23), (hts _ kt_24)⟩ ⟨fun a U g mk q => ⟨q.1, PT.calling q.2⟩, pg_recv hK hP hL_g1 hF_90 (q := (RX0, TX0, 3)) rfl, fun U hU hWm => ⟨rfl, PT.mk hU hWm hP hK hD hE hO⟩⟩ rfl rfl hl.1 rfl (lv_room (Nat.le_of_ble_eq_true rfl)) dX1_expand_85 ⟨by show _ + 0 ≤ 0; omega, by show _ + 0 ≤ 0; omega⟩) hS (fun q _ h => hFc q h) hFc (fun r_93 u t H1 locs ht hvm hw hB hz1 hk1 hS => ?_)
        obtain ⟨F_94, hB1⟩ := hB
        obtain ⟨hP, hD, hO, hR⟩ := QT.back hB1 ht hFc hR (fun q h => absurd h List.not_mem_nil)
        have hF_95 : F_94 b_27 = .inr (10, [.int v0_40, .int v1_41, .int v2_42, .int (nI z_43), .int v4_44, .int v5_45]) := (hB1.2.2.2 b_27 List.not_mem_nil).trans hF_69
        have hF_96 : F_94 g1 = .inr (0, [.ref r1, .int (nI z_88), .int o_89]) := (hB1.2.2.2 g1 List.not_mem_nil).trans hF_90
        generalize H1 = H at hP hS ⊢
        have hw : True := hw
        have hw_97 := hw
        have hFc := pg_free hD hS hA
        obtain ⟨z_98, o_99, hF_100, hq_101, hq_102⟩ := hO.bytes hi_38 ht_39
        refine va_callv (va_runV (As := [.int r_93]) (rest := []) ⟨hx, hb, hml, hown, hts⟩ (s_X0_add l dC dI cs ty L H.size F_94 b_35 (ρ + 1) r_36 60 r_93 hW hi_38 ht_39) ⟨callB_of 1 hts (gi kt_13) rfl rfl rfl (hts _ kt_1) (hts _ kt_307) (by decide +kernel) ⟨Nat.le_of_ble_eq_true rfl, Nat.le_of_ble_eq_true rfl⟩, (hts _ kt_15), (hts _ kt_16)⟩ ⟨fun a U g mk q => ⟨q.1, PT.calling q.2⟩, pg_recv hK hP hi_38 hF_100 (q := (RX0, TX0, 3)) rfl, fun U hU hWm => ⟨rfl, PT.mk hU hWm hP hK hD hE hO⟩⟩ rfl rfl hl.1 rfl (lv_room (Nat.le_of_ble_eq_true rfl)) dX1_expand_88 ⟨by show _ + 0 ≤ 0; omega, by show _ + 0 ≤ 0; omega⟩) hS (fun q _ h => hFc q h) hFc (fun u t H1 locs ht hvm hw hB hz1 hk1 hS => ?_)
        obtain ⟨F_104, hB1⟩ := hB
        obtain ⟨hP, hD, hO, hR⟩ := QT.back hB1 ht hFc hR (fun q h => by simp only [List.mem_cons, List.not_mem_nil, or_false] at h ⊢; omega)
        have hF_105 : F_104 b_27 = .inr (10, [.int v0_40, .int v1_41, .int v2_42, .int (nI z_43), .int v4_44, .int v5_45]) := (hB1.2.2.2 b_27 (by rw [ht_30]; simp)).trans hF_95
        generalize H1 = H at hP hS ⊢
        refine lv_goto (tgt := 104) hx hb dX1_expand_91 (by decide) ?_
        refine lv_iconst (v := 1) hx hb dX1_expand_104 (by decide) ?_
        refine lv_iload hx hb dX1_expand_105 (lv_at hl 0 rfl) ?_
        refine va_mmax hx hb (by rw [hml]; exact hl.1.symm) hown (hts _ kt_356) (hts _ kt_18) (hts _ kt_19) (hts _ kt_20) (Nat.le_of_ble_eq_true rfl) (Nat.le_of_ble_eq_true rfl) (by show _ ≤ 0; omega) (by show _ ≤ 0; omega) dX1_expand_107 ?_
        refine lv_topi (fun x_106 ex_106 => ?_)
        obtain rfl : x_106 = (nI (max 1 k1)) := ex_106.trans (maxN hkm)
        refine lv_istore (lv' := [(5, .int (nI (max 1 k1))), (7, .int (nI k1)), (6, .int i1), (4, .ref b_35), (3, .ref b_27), (0, .ref h0), (1, .ref g1), (2, .int (nI lv))]) hx hb dX1_expand_110 hl (by decide) rfl (fun ls hl => ?_)
        refine lv_iload hx hb dX1_expand_112 (lv_at hl 2 rfl) ?_
        refine lv_iload hx hb dX1_expand_114 (lv_at hl 0 rfl) ?_
        refine lv_iadd hx hb dX1_expand_116 ?_
        refine lv_topi (fun x_107 ex_107 => ?_)
        obtain rfl : x_107 = (i1 + nI (max 1 k1)) := ex_107.trans (rfl)
        refine lv_istore (lv' := [(6, .int (i1 + nI (max 1 k1))), (5, .int (nI (max 1 k1))), (7, .int (nI k1)), (4, .ref b_35), (3, .ref b_27), (0, .ref h0), (1, .ref g1), (2, .int (nI lv))]) hx hb dX1_expand_117 hl (by decide) rfl (fun ls hl => ?_)
        refine lv_goto (tgt := 54) hx hb dX1_expand_119 (by decide) ?_
        refine W.widen (k := 0) (n := 0) (by omega) (by omega) ?_
        exact ih_65 ((i1 + nI (max 1 k1)), (nI (max 1 k1))) F_104 (hF_105) (by show ((nI z_43).toInt - (i1 + nI (max 1 k1)).toInt).toNat < ((nI z_43).toInt - i1.toInt).toNat; exact stepN hc60 (by omega) (Nat.le_max_left _ _) (Nat.max_le.mpr ⟨by omega, hkm⟩)) hO hR _ _ hP hD hS ls (lv_sub hl [0, 1, 3, 4, 5, 6, 7] rfl)
  ·
    refine lv_aload hx hb dX1_expand_28 (lv_at hl 0 rfl) ?_
    refine lv_aload_n hx hb dX1_expand_30 rfl (lv_at hl 2 rfl) ?_
    refine pg_get (ci := 1) (v := .ref nm) (C := RX1) (T := TX1) (N := 11) hx hb hts it_1 hown hK hP hL_h0 hF_23 rfl 5 (by decide) (hts _ kt_338) (fun _ h9 => h9) rfl dX1_expand_31 ?_
    refine lv_iload_n hx hb dX1_expand_34 rfl (lv_at hl 4 rfl) ?_
    obtain ⟨b_108, r_109, hbf_110, hi_111, ht_112⟩ := hq_34 lv (by omega)
    refine pg_aald (r := b_108) hx hb hK hP hi_15 4 hF_33 rfl (vp_in_nI (by omega) (by omega)) (show f_32 ((nI lv) : Int32).toNatClampNeg = _ from by rw [show ((nI lv) : Int32) = nI lv from rfl, nI_clamp (by omega)]; exact hbf_110) dX1_expand_35 ?_
    have hFc := pg_free hD hS hA
    obtain ⟨hi_113, ht_114, hq_115⟩ := hW.bytes hi_38 ht_39
    obtain ⟨z_116, o_117, hF_118, hq_119, hq_120⟩ := hO.bytes hi_38 ht_39
    refine va_callv (va_runV (As := [.ref b_108]) (rest := []) ⟨hx, hb, hml, hown, hts⟩ (s_X0_copy l dC dI cs ty L s.heap.size F b_35 (ρ + 1) r_36 60 b_108 (ρ + 1) r_109 60 hW hi_38 ht_39 hi_111 ht_112) ⟨callB_of 1 hts (gi kt_221) rfl rfl rfl (hts _ kt_1) (hts _ kt_315) (by decide +kernel) ⟨Nat.le_of_ble_eq_true rfl, Nat.le_of_ble_eq_true rfl⟩, (hts _ kt_223), (hts _ kt_224)⟩ ⟨fun a U g mk q => ⟨q.1, PT.calling q.2⟩, pg_recv hK hP hi_38 hF_118 (q := (RX0, TX0, 3)) rfl, fun U hU hWm => ⟨rfl, PT.mk hU hWm hP hK hD hE hO⟩⟩ rfl rfl hl.1 rfl (lv_room (Nat.le_of_ble_eq_true rfl)) dX1_expand_36 ⟨by show _ + 0 ≤ 0; omega, by show _ + 0 ≤ 0; omega⟩) hS (fun q _ h => hFc q h) hFc (fun u t H1 locs ht hvm hw hB hz1 hk1 hS => ?_)
    obtain ⟨F_122, hB1⟩ := hB
    obtain ⟨hP, hD, hO, hR⟩ := QT.back hB1 ht hFc hR (fun q h => by simp only [List.mem_cons, List.not_mem_nil, or_false] at h ⊢; omega)
    have hF_123 : F_122 h0 = .inr (1, [.ref d, .ref w0, .ref w1, .ref w2, .ref w3, .ref nm, .ref te, .int v0_19, .int v1_20, .int v2_21, .int v3_22]) := (hB1.2.2.2 h0 (by rw [hT_h0]; simp)).trans hF_23
    have hF_124 : F_122 te = .inl (cs 22, 11, .inr (.inr (.inr (.inr f_24)))) := (hB1.2.2.2 te (by rw [ht_18]; simp)).trans hF_25
    have hF_125 : F_122 b_27 = .inr (10, [.int v0_40, .int v1_41, .int v2_42, .int (nI z_43), .int v4_44, .int v5_45]) := (hB1.2.2.2 b_27 (by rw [ht_30]; simp)).trans hF_46
    generalize H1 = H at hP hS ⊢
    refine W.widen (k := 0) (n := 0) (by omega) (by omega) ?_
    exact W.vret hx hb hr (fun t ht hWm => ⟨⟨(), rfl, trivial, ⟨F_122, QT.mk ht hP hD hO hR⟩⟩, hS.F ht⟩) hS.2.2 dX1_expand_39
set_option maxHeartbeats 4000000 in
set_option maxRecDepth 100000 in
theorem s_X1_lookAtExchanges (l : Launch) (dC : Nat → ClassId) (dI : Nat → Nat → Nat) (cs : Nat → ClassId) (ty : TyM) (L : List Nat) (sz : Nat) (F : Nat → va_E) (h0 : Nat) (ρ : Nat) (d : Nat) (δ : Nat) (ea : Nat) (w0 : Nat) (w1 : Nat) (w2 : Nat) (w3 : Nat) (nm : Nat) (te : Nat) (g1 : Nat) (σ : Nat) (r1 : Nat) (n1 : Nat) (x2 : Int32) (hW : WT ty L) (hL_h0 : h0 ∈ L) (hT_h0 : ty h0 = (1, ρ, [d, δ, ea, w0, w1, w2, w3, nm, te])) (hL_g1 : g1 ∈ L) (hT_g1 : ty g1 = (0, σ, [r1, n1])) : Met l yX1_lookAtExchanges (.code yX1_lookAtExchanges cX1_lookAtExchanges 5 (some .int) :: tb) ({ frames := 2, cells := 0, slots := 0, locals := 46 }) (va_Pc [.ref h0, .ref g1, .int x2] (PT (dC, dI) cs ty L F sz)) (va_Qi (fun (r : Int32) (_ : Unit) => True) (fun _ T9 => ∃ F2 : Nat → va_E, QT (dC, dI) cs ty L [] F F2 (va_A (va_pl L F) sz) T9) (va_A (va_pl L F) sz)) 0 0 (va_A (va_pl L F) sz) := by
  refine Met.ofW (cc := cX1_lookAtExchanges) (maxL := 5) (ret := (some .int)) (by decide) rfl ?_
  intro p e s m args below meth c s₁ B hml hv
  obtain ⟨rfl, hsz, hP, hK, hD0, hE, hO⟩ := hv
  have hx := B.exec
  have hb := B.bytes
  have hr := B.returns
  have hts : ∀ w ∈ tb, w.before _ s = true := fun w h => atoms_spec (ws := .code yX1_lookAtExchanges cX1_lookAtExchanges 5 (some .int) :: tb) B.pre w (List.mem_cons_of_mem _ h)
  have hown : s.vm.findClass RX1 = some m.cls := findClass_of_methodNamed B.named
  have hlocks := B.notSynchronized
  subst hsz
  have hD := hD0.self (sz := s.heap.size)
  generalize hAe : va_A (va_pl L F) s.heap.size = A at hD ⊢
  have hA : ∀ q : Nat, s.heap.size ≤ q → A q := fun q h => by rw [← hAe]; exact Or.inr h
  have hS : va_S A s.heap s.heap [] := va_S.rf
  have hR : FR ty [] F F := FR.refl
  have hl := lv_entry ([.ref h0, .ref g1, .int x2]) (n := 5) (Nat.le_of_ble_eq_true rfl)
  rw [lg_entry_eq]
  generalize (lg_sl ([.ref h0, .ref g1, .int x2]) ++ List.replicate (5 - (lg_sl ([.ref h0, .ref g1, .int x2])).length) Slot.unset).toArray = ls at hl ⊢
  have hl : lv_has ls 5 [(0, .ref h0), (1, .ref g1), (2, .int x2)] := hl
  refine lv_iconst (v := 0) hx hb dX1_lookAtExchanges_0 (by decide) ?_
  refine lv_istore_n (lv' := [(3, .int 0), (0, .ref h0), (1, .ref g1), (2, .int x2)]) hx hb dX1_lookAtExchanges_1 rfl hl (by decide) rfl (fun ls hl => ?_)
  refine W.widen (k := 0) (n := 0) (by omega) (by omega) ?_
  refine pl_loop (σ := Nat) A (dC, dI) cs ty L [] F 2 5 (fun j => [(3, .int (nI j)), (0, .ref h0), (1, .ref g1), (2, .int x2)]) (fun j => []) (fun j _ => j ≤ 40) (fun j => 40 - j) ?_ 0 F (by omega) hO hR _ _ hP hD hS ls (lv_sub hl [0, 1, 2, 3] rfl)
  rintro j F_1 hv_2 hO hR ih_3 H locs hP hD hS ls hl
  have hl : lv_has ls 5 [(3, .int (nI j)), (0, .ref h0), (1, .ref g1), (2, .int x2)] := hl
  have hv_2 : j ≤ 40 := hv_2
  refine W.eq (g2 := F0 m 2 ls []) rfl ?_
  refine lv_iload_n hx hb dX1_lookAtExchanges_2 rfl (lv_at hl 0 rfl) ?_
  refine lv_aload_n hx hb dX1_lookAtExchanges_3 rfl (lv_at hl 1 rfl) ?_
  obtain ⟨hi_4, ht_5, hi_6, ⟨r_7, ht_8⟩, hi_9, ⟨r_10, ht_11⟩, hi_12, ⟨r_13, ht_14⟩, hi_15, ⟨r_16, ht_17⟩, hi_18, ht_19, hi_20, ht_21⟩ := hW.chk hL_h0 hT_h0
  obtain ⟨v0_22, v1_23, v2_24, v3_25, hF_26⟩ := hO.chk hL_h0 hT_h0
  refine pg_get (ci := 1) (v := .ref d) (C := RX1) (T := TX1) (N := 11) hx hb hts it_1 hown hK hP hL_h0 hF_26 rfl 0 (by decide) (hts _ kt_357) (fun _ h9 => h9) rfl dX1_lookAtExchanges_4 ?_
  obtain ⟨hi_27, ht_28⟩ := hW.dir hi_4 ht_5
  obtain ⟨z_29, hF_30, hq_31⟩ := hO.dir hi_4 ht_5
  refine pg_getN (ci := 2) (v := .int (nI z_29)) (C := RX2) (T := TX2) (N := 2) hx hb hts it_2 hown hK hP hi_4 hF_30 rfl 1 (by decide) (hE.nest kn_11) (fun _ h9 => h9) rfl dX1_lookAtExchanges_7 ?_
  refine lv_icmp_ge (tgt := 101) hx hb dX1_lookAtExchanges_10 (by decide) (fun c_32 => ?_) (fun c_32 => ?_)
  ·
    have hi_33 : z_29 ≤ j := leN (N := z_29) c_32
    refine lv_iconst (v := 0) hx hb dX1_lookAtExchanges_101 (by decide) ?_
    refine W.widen (k := 0) (n := 0) (by omega) (by omega) ?_
    exact W.iret (v := 0) hx hb hr (fun t ht hWm => ⟨⟨0, (), rfl, trivial, ⟨F_1, QT.mk ht hP hD hO hR⟩⟩, hS.F ht⟩) hS.2.2 dX1_lookAtExchanges_102
  ·
    have hi_34 : j < z_29 := ltN (N := z_29) c_32
    refine lv_aload_n hx hb dX1_lookAtExchanges_13 rfl (lv_at hl 1 rfl) ?_
    refine pg_get (ci := 1) (v := .ref d) (C := RX1) (T := TX1) (N := 11) hx hb hts it_1 hown hK hP hL_h0 hF_26 rfl 0 (by decide) (hts _ kt_357) (fun _ h9 => h9) rfl dX1_lookAtExchanges_14 ?_
    refine pg_getN (ci := 2) (v := .ref ea) (C := RX2) (T := TX2) (N := 2) hx hb hts it_2 hown hK hP hi_4 hF_30 rfl 0 (by decide) (hE.nest kn_12) (fun _ h9 => h9) rfl dX1_lookAtExchanges_17 ?_
    refine lv_iload_n hx hb dX1_lookAtExchanges_20 rfl (lv_at hl 0 rfl) ?_
    obtain ⟨f_35, hF_36, hq_37⟩ := hO.rentry hi_27 ht_28
    obtain ⟨b_38, x_39, y_40, hbf_41, hi_42, ht_43⟩ := hq_37 j (by omega)
    refine pg_aald (r := b_38) hx hb hK hP hi_27 5 hF_36 rfl (vp_in_nI (by omega) (by omega)) (show f_35 ((nI j) : Int32).toNatClampNeg = _ from by rw [show ((nI j) : Int32) = nI j from rfl, nI_clamp (by omega)]; exact hbf_41) dX1_lookAtExchanges_21 ?_
    obtain ⟨hi_44, hi_45, ⟨r_46, ht_47⟩, ⟨r_48, ht_49⟩⟩ := hW.entry hi_42 ht_43
    have ht_47 : ty x_39 = (0, δ + j + j + j + 101, [r_46, 60]) := ht_47
    have ht_49 : ty y_40 = (0, δ + j + j + j + 102, [r_48, 700]) := ht_49
    obtain ⟨v0_50, v1_51, hF_52⟩ := hO.entry hi_42 ht_43
    refine pg_getN (ci := 3) (v := .int v0_50) (C := RX3) (T := TX3) (N := 4) hx hb hts it_3 hown hK hP hi_42 hF_52 rfl 2 (by decide) (hE.nest kn_13) (fun _ h9 => h9) rfl dX1_lookAtExchanges_22 ?_
    refine lv_iconst (v := 2) hx hb dX1_lookAtExchanges_25 (by decide) ?_
    refine lv_icmp_ne (tgt := 95) hx hb dX1_lookAtExchanges_26 (by decide) (fun c_53 => ?_) (fun c_53 => ?_)
    ·
      refine lv_iinc (v := (nI (j + 1))) (lv' := [(3, .int (nI (j + 1))), (0, .ref h0), (1, .ref g1), (2, .int x2)]) hx hb dX1_lookAtExchanges_95 hl (k := 0) rfl (nI_1 _) (by decide) rfl (fun ls hl => ?_)
      refine lv_goto (tgt := 2) hx hb dX1_lookAtExchanges_98 (by decide) ?_
      refine W.widen (k := 0) (n := 0) (by omega) (by omega) ?_
      exact ih_3 (j + 1) F_1 (by first | omega | exact ⟨by omega, by omega⟩ | trivial) (by show 40 - (j + 1) < 40 - j; omega) hO hR _ _ hP hD hS ls (lv_sub hl [0, 1, 2, 3] rfl)
    ·
      refine lv_aload_n hx hb dX1_lookAtExchanges_29 rfl (lv_at hl 1 rfl) ?_
      refine pg_get (ci := 1) (v := .ref d) (C := RX1) (T := TX1) (N := 11) hx hb hts it_1 hown hK hP hL_h0 hF_26 rfl 0 (by decide) (hts _ kt_357) (fun _ h9 => h9) rfl dX1_lookAtExchanges_30 ?_
      refine pg_getN (ci := 2) (v := .ref ea) (C := RX2) (T := TX2) (N := 2) hx hb hts it_2 hown hK hP hi_4 hF_30 rfl 0 (by decide) (hE.nest kn_12) (fun _ h9 => h9) rfl dX1_lookAtExchanges_33 ?_
      refine lv_iload_n hx hb dX1_lookAtExchanges_36 rfl (lv_at hl 0 rfl) ?_
      obtain ⟨b_54, x_55, y_56, hbf_57, hi_58, ht_59⟩ := hq_37 j (by omega)
      refine pg_aald (r := b_54) hx hb hK hP hi_27 5 hF_36 rfl (vp_in_nI (by omega) (by omega)) (show f_35 ((nI j) : Int32).toNatClampNeg = _ from by rw [show ((nI j) : Int32) = nI j from rfl, nI_clamp (by omega)]; exact hbf_57) dX1_lookAtExchanges_37 ?_
      obtain ⟨hi_60, hi_61, ⟨r_62, ht_63⟩, ⟨r_64, ht_65⟩⟩ := hW.entry hi_58 ht_59
      have ht_63 : ty x_55 = (0, δ + j + j + j + 101, [r_62, 60]) := ht_63
      have ht_65 : ty y_56 = (0, δ + j + j + j + 102, [r_64, 700]) := ht_65
      obtain ⟨v0_66, v1_67, hF_68⟩ := hO.entry hi_58 ht_59
      refine pg_getN (ci := 3) (v := .ref x_55) (C := RX3) (T := TX3) (N := 4) hx hb hts it_3 hown hK hP hi_58 hF_68 rfl 0 (by decide) (hE.nest kn_14) (fun _ h9 => h9) rfl dX1_lookAtExchanges_38 ?_
      refine lv_aload_n hx hb dX1_lookAtExchanges_41 rfl (lv_at hl 2 rfl) ?_
      have hFc := pg_free hD hS hA
      obtain ⟨hi_69, ht_70, hq_71⟩ := hW.bytes hi_60 ht_63
      obtain ⟨z_72, o_73, hF_74, hq_75, hq_76⟩ := hO.bytes hi_60 ht_63
      refine va_calli (va_runV (As := [.ref g1]) (rest := []) ⟨hx, hb, hml, hown, hts⟩ (s_X0_same l dC dI cs ty L H.size F_1 x_55 (δ + j + j + j + 101) r_62 60 g1 σ r1 n1 hW hi_60 ht_63 hL_g1 hT_g1) ⟨callB_of 1 hts (gi kt_85) rfl rfl rfl (hts _ kt_1) (hts _ kt_358) (by decide +kernel) ⟨Nat.le_of_ble_eq_true rfl, Nat.le_of_ble_eq_true rfl⟩, (hts _ kt_87), (hts _ kt_88)⟩ ⟨fun a U g mk q => ⟨q.1, PT.calling q.2⟩, pg_recv hK hP hi_60 hF_74 (q := (RX0, TX0, 3)) rfl, fun U hU hWm => ⟨rfl, PT.mk hU hWm hP hK hD hE hO⟩⟩ rfl rfl hl.1 rfl (lv_room (Nat.le_of_ble_eq_true rfl)) dX1_lookAtExchanges_42 ⟨by show _ + 0 ≤ 0; omega, by show _ + 0 ≤ 0; omega⟩) hS (fun q _ h => hFc q h) hFc (fun r_77 u t H1 locs ht hvm hw hB hz1 hk1 hS => ?_)
      obtain ⟨F_78, hB1⟩ := hB
      obtain ⟨hP, hD, hO, hR⟩ := QT.back hB1 ht hFc hR (fun q h => absurd h List.not_mem_nil)
      have hF_79 : F_78 h0 = .inr (1, [.ref d, .ref w0, .ref w1, .ref w2, .ref w3, .ref nm, .ref te, .int v0_22, .int v1_23, .int v2_24, .int v3_25]) := (hB1.2.2.2 h0 List.not_mem_nil).trans hF_26
      have hF_80 : F_78 d = .inr (2, [.ref ea, .int (nI z_29)]) := (hB1.2.2.2 d List.not_mem_nil).trans hF_30
      have hF_81 : F_78 ea = .inl (cs 21, 40, .inr (.inr (.inr (.inr f_35)))) := (hB1.2.2.2 ea List.not_mem_nil).trans hF_36
      have hF_82 : F_78 b_38 = .inr (3, [.ref x_39, .ref y_40, .int v0_50, .int v1_51]) := (hB1.2.2.2 b_38 List.not_mem_nil).trans hF_52
      have hF_83 : F_78 b_54 = .inr (3, [.ref x_55, .ref y_56, .int v0_66, .int v1_67]) := (hB1.2.2.2 b_54 List.not_mem_nil).trans hF_68
      have hF_84 : F_78 x_55 = .inr (0, [.ref r_62, .int (nI z_72), .int o_73]) := (hB1.2.2.2 x_55 List.not_mem_nil).trans hF_74
      generalize H1 = H at hP hS ⊢
      have hw : (r_77 = 0 ∨ r_77 = 1) := hw
      have hw_85 := hw
      refine lv_if_ne (tgt := 51) hx hb dX1_lookAtExchanges_45 (by decide) (fun c_86 => ?_) (fun c_86 => ?_)
      ·
        refine lv_aload_n hx hb dX1_lookAtExchanges_51 rfl (lv_at hl 1 rfl) ?_
        refine pg_get (ci := 1) (v := .ref d) (C := RX1) (T := TX1) (N := 11) hx hb hts it_1 hown hK hP hL_h0 hF_79 rfl 0 (by decide) (hts _ kt_357) (fun _ h9 => h9) rfl dX1_lookAtExchanges_52 ?_
        refine lv_iload_n hx hb dX1_lookAtExchanges_55 rfl (lv_at hl 0 rfl) ?_
        have hFc := pg_free hD hS hA
        refine va_callr (va_runV (As := [.int (nI j)]) (rest := []) ⟨hx, hb, hml, hown, hts⟩ (s_X2_valueAt l dC dI cs ty L H.size F_78 d δ ea (nI j) hW hi_4 ht_5) ⟨callB_of 1 hts (gi kt_359) rfl rfl rfl (hts _ kt_103) (hts _ kt_360) (by decide +kernel) ⟨Nat.le_of_ble_eq_true rfl, Nat.le_of_ble_eq_true rfl⟩, (hts _ kt_361), (hts _ kt_362)⟩ ⟨fun a U g mk q => ⟨q.1, PT.calling q.2⟩, pg_recv hK hP hi_4 hF_80 (q := (RX2, TX2, 2)) rfl, fun U hU hWm => ⟨rfl, PT.mk hU hWm hP hK hD hE hO⟩⟩ rfl rfl hl.1 rfl (lv_room (Nat.le_of_ble_eq_true rfl)) dX1_lookAtExchanges_56 ⟨by show _ + 0 ≤ 0; omega, by show _ + 0 ≤ 0; omega⟩) hS (fun q _ h => hFc q h) hFc (fun u r_87 t H1 locs ht hvm hw hB hz1 hk1 hS => ?_)
        obtain ⟨F_88, vr_89, μ_90, hB1, hq_91, hq_92⟩ := hB
        obtain ⟨hP, hD, hO, hR⟩ := QT.back hB1 ht hFc hR (fun q h => absurd h List.not_mem_nil)
        have hF_93 : F_88 h0 = .inr (1, [.ref d, .ref w0, .ref w1, .ref w2, .ref w3, .ref nm, .ref te, .int v0_22, .int v1_23, .int v2_24, .int v3_25]) := (hB1.2.2.2 h0 List.not_mem_nil).trans hF_79
        have hF_94 : F_88 d = .inr (2, [.ref ea, .int (nI z_29)]) := (hB1.2.2.2 d List.not_mem_nil).trans hF_80
        have hF_95 : F_88 ea = .inl (cs 21, 40, .inr (.inr (.inr (.inr f_35)))) := (hB1.2.2.2 ea List.not_mem_nil).trans hF_81
        have hF_96 : F_88 b_38 = .inr (3, [.ref x_39, .ref y_40, .int v0_50, .int v1_51]) := (hB1.2.2.2 b_38 List.not_mem_nil).trans hF_82
        have hF_97 : F_88 b_54 = .inr (3, [.ref x_55, .ref y_56, .int v0_66, .int v1_67]) := (hB1.2.2.2 b_54 List.not_mem_nil).trans hF_83
        have hF_98 : F_88 x_55 = .inr (0, [.ref r_62, .int (nI z_72), .int o_73]) := (hB1.2.2.2 x_55 List.not_mem_nil).trans hF_84
        generalize H1 = H at hP hS ⊢
        refine lv_astore (lv' := [(4, .ref r_87), (3, .int (nI j)), (0, .ref h0), (1, .ref g1), (2, .int x2)]) hx hb dX1_lookAtExchanges_59 hl (by decide) rfl (fun ls hl => ?_)
        refine lv_aload_n hx hb dX1_lookAtExchanges_61 rfl (lv_at hl 2 rfl) ?_
        refine pg_get (ci := 1) (v := .ref d) (C := RX1) (T := TX1) (N := 11) hx hb hts it_1 hown hK hP hL_h0 hF_93 rfl 0 (by decide) (hts _ kt_357) (fun _ h9 => h9) rfl dX1_lookAtExchanges_62 ?_
        refine lv_iconst (v := 3) hx hb dX1_lookAtExchanges_65 (by decide) ?_
        refine lv_aload hx hb dX1_lookAtExchanges_66 (lv_at hl 0 rfl) ?_
        have hFc := pg_free hD hS hA
        refine va_calli (va_runV (As := [.int 3, .ref r_87]) (rest := []) ⟨hx, hb, hml, hown, hts⟩ (s_X2_has l dC dI cs ty L H.size F_88 d δ ea r_87 μ_90 vr_89 700 3 hW hi_4 ht_5 hq_91 hq_92) ⟨callB_of 2 hts (gi kt_363) rfl rfl rfl (hts _ kt_103) (hts _ kt_364) (by decide +kernel) ⟨Nat.le_of_ble_eq_true rfl, Nat.le_of_ble_eq_true rfl⟩, (hts _ kt_365), (hts _ kt_366)⟩ ⟨fun a U g mk q => ⟨q.1, PT.calling q.2⟩, pg_recv hK hP hi_4 hF_94 (q := (RX2, TX2, 2)) rfl, fun U hU hWm => ⟨rfl, PT.mk hU hWm hP hK hD hE hO⟩⟩ rfl rfl hl.1 rfl (lv_room (Nat.le_of_ble_eq_true rfl)) dX1_lookAtExchanges_68 ⟨by show _ + 0 ≤ 0; omega, by show _ + 0 ≤ 0; omega⟩) hS (fun q _ h => hFc q h) hFc (fun r_99 u t H1 locs ht hvm hw hB hz1 hk1 hS => ?_)
        obtain ⟨F_100, hB1⟩ := hB
        obtain ⟨hP, hD, hO, hR⟩ := QT.back hB1 ht hFc hR (fun q h => absurd h List.not_mem_nil)
        have hF_101 : F_100 h0 = .inr (1, [.ref d, .ref w0, .ref w1, .ref w2, .ref w3, .ref nm, .ref te, .int v0_22, .int v1_23, .int v2_24, .int v3_25]) := (hB1.2.2.2 h0 List.not_mem_nil).trans hF_93
        have hF_102 : F_100 d = .inr (2, [.ref ea, .int (nI z_29)]) := (hB1.2.2.2 d List.not_mem_nil).trans hF_94
        have hF_103 : F_100 ea = .inl (cs 21, 40, .inr (.inr (.inr (.inr f_35)))) := (hB1.2.2.2 ea List.not_mem_nil).trans hF_95
        have hF_104 : F_100 b_38 = .inr (3, [.ref x_39, .ref y_40, .int v0_50, .int v1_51]) := (hB1.2.2.2 b_38 List.not_mem_nil).trans hF_96
        have hF_105 : F_100 b_54 = .inr (3, [.ref x_55, .ref y_56, .int v0_66, .int v1_67]) := (hB1.2.2.2 b_54 List.not_mem_nil).trans hF_97
        have hF_106 : F_100 x_55 = .inr (0, [.ref r_62, .int (nI z_72), .int o_73]) := (hB1.2.2.2 x_55 List.not_mem_nil).trans hF_98
        generalize H1 = H at hP hS ⊢
        have hw : (r_99 = 0 ∨ r_99 = 1) := hw
        have hw_107 := hw
        refine lv_if_eq (tgt := 76) hx hb dX1_lookAtExchanges_71 (by decide) (fun c_108 => ?_) (fun c_108 => ?_)
        ·
          refine lv_aload_n hx hb dX1_lookAtExchanges_76 rfl (lv_at hl 2 rfl) ?_
          refine pg_get (ci := 1) (v := .ref d) (C := RX1) (T := TX1) (N := 11) hx hb hts it_1 hown hK hP hL_h0 hF_101 rfl 0 (by decide) (hts _ kt_357) (fun _ h9 => h9) rfl dX1_lookAtExchanges_77 ?_
          refine lv_aload hx hb dX1_lookAtExchanges_80 (lv_at hl 0 rfl) ?_
          refine lv_aload_n hx hb dX1_lookAtExchanges_82 rfl (lv_at hl 2 rfl) ?_
          refine pg_get (ci := 1) (v := .int v0_22) (C := RX1) (T := TX1) (N := 11) hx hb hts it_1 hown hK hP hL_h0 hF_101 rfl 7 (by decide) (hts _ kt_305) (fun _ h9 => h9) rfl dX1_lookAtExchanges_83 ?_
          refine lv_iload_n hx hb dX1_lookAtExchanges_86 rfl (lv_at hl 4 rfl) ?_
          have hFc := pg_free hD hS hA
          refine va_calli (va_runV (As := [.ref r_87, .int v0_22, .int x2]) (rest := []) ⟨hx, hb, hml, hown, hts⟩ (s_X2_hasAddress l dC dI cs ty L H.size F_100 d δ ea r_87 μ_90 vr_89 700 v0_22 x2 hW hi_4 ht_5 hq_91 hq_92) ⟨callB_of 3 hts (gi kt_367) rfl rfl rfl (hts _ kt_103) (hts _ kt_368) (by decide +kernel) ⟨Nat.le_of_ble_eq_true rfl, Nat.le_of_ble_eq_true rfl⟩, (hts _ kt_369), (hts _ kt_370)⟩ ⟨fun a U g mk q => ⟨q.1, PT.calling q.2⟩, pg_recv hK hP hi_4 hF_102 (q := (RX2, TX2, 2)) rfl, fun U hU hWm => ⟨rfl, PT.mk hU hWm hP hK hD hE hO⟩⟩ rfl rfl hl.1 rfl (lv_room (Nat.le_of_ble_eq_true rfl)) dX1_lookAtExchanges_87 ⟨by show _ + 0 ≤ 0; omega, by show _ + 0 ≤ 0; omega⟩) hS (fun q _ h => hFc q h) hFc (fun r_109 u t H1 locs ht hvm hw hB hz1 hk1 hS => ?_)
          obtain ⟨F_110, hB1⟩ := hB
          obtain ⟨hP, hD, hO, hR⟩ := QT.back hB1 ht hFc hR (fun q h => absurd h List.not_mem_nil)
          have hF_111 : F_110 h0 = .inr (1, [.ref d, .ref w0, .ref w1, .ref w2, .ref w3, .ref nm, .ref te, .int v0_22, .int v1_23, .int v2_24, .int v3_25]) := (hB1.2.2.2 h0 List.not_mem_nil).trans hF_101
          have hF_112 : F_110 d = .inr (2, [.ref ea, .int (nI z_29)]) := (hB1.2.2.2 d List.not_mem_nil).trans hF_102
          have hF_113 : F_110 ea = .inl (cs 21, 40, .inr (.inr (.inr (.inr f_35)))) := (hB1.2.2.2 ea List.not_mem_nil).trans hF_103
          have hF_114 : F_110 b_38 = .inr (3, [.ref x_39, .ref y_40, .int v0_50, .int v1_51]) := (hB1.2.2.2 b_38 List.not_mem_nil).trans hF_104
          have hF_115 : F_110 b_54 = .inr (3, [.ref x_55, .ref y_56, .int v0_66, .int v1_67]) := (hB1.2.2.2 b_54 List.not_mem_nil).trans hF_105
          have hF_116 : F_110 x_55 = .inr (0, [.ref r_62, .int (nI z_72), .int o_73]) := (hB1.2.2.2 x_55 List.not_mem_nil).trans hF_106
          generalize H1 = H at hP hS ⊢
          have hw : (r_109 = 0 ∨ r_109 = 1) := hw
          have hw_117 := hw
          refine lv_if_eq (tgt := 95) hx hb dX1_lookAtExchanges_90 (by decide) (fun c_118 => ?_) (fun c_118 => ?_)
          ·
            refine lv_iinc (v := (nI (j + 1))) (lv' := [(3, .int (nI (j + 1))), (4, .ref r_87), (0, .ref h0), (1, .ref g1), (2, .int x2)]) hx hb dX1_lookAtExchanges_95 hl (k := 1) rfl (nI_1 _) (by decide) rfl (fun ls hl => ?_)
            refine lv_goto (tgt := 2) hx hb dX1_lookAtExchanges_98 (by decide) ?_
            refine W.widen (k := 0) (n := 0) (by omega) (by omega) ?_
            exact ih_3 (j + 1) F_110 (by first | omega | exact ⟨by omega, by omega⟩ | trivial) (by show 40 - (j + 1) < 40 - j; omega) hO hR _ _ hP hD hS ls (lv_sub hl [0, 2, 3, 4] rfl)
          ·
            refine lv_iconst (v := 2) hx hb dX1_lookAtExchanges_93 (by decide) ?_
            refine W.widen (k := 0) (n := 0) (by omega) (by omega) ?_
            exact W.iret (v := 2) hx hb hr (fun t ht hWm => ⟨⟨2, (), rfl, trivial, ⟨F_110, QT.mk ht hP hD hO hR⟩⟩, hS.F ht⟩) hS.2.2 dX1_lookAtExchanges_94
        ·
          refine lv_iconst (v := 5) hx hb dX1_lookAtExchanges_74 (by decide) ?_
          refine W.widen (k := 0) (n := 0) (by omega) (by omega) ?_
          exact W.iret (v := 5) hx hb hr (fun t ht hWm => ⟨⟨5, (), rfl, trivial, ⟨F_100, QT.mk ht hP hD hO hR⟩⟩, hS.F ht⟩) hS.2.2 dX1_lookAtExchanges_75
      ·
        refine lv_goto (tgt := 95) hx hb dX1_lookAtExchanges_48 (by decide) ?_
        refine lv_iinc (v := (nI (j + 1))) (lv' := [(3, .int (nI (j + 1))), (0, .ref h0), (1, .ref g1), (2, .int x2)]) hx hb dX1_lookAtExchanges_95 hl (k := 0) rfl (nI_1 _) (by decide) rfl (fun ls hl => ?_)
        refine lv_goto (tgt := 2) hx hb dX1_lookAtExchanges_98 (by decide) ?_
        refine W.widen (k := 0) (n := 0) (by omega) (by omega) ?_
        exact ih_3 (j + 1) F_78 (by first | omega | exact ⟨by omega, by omega⟩ | trivial) (by show 40 - (j + 1) < 40 - j; omega) hO hR _ _ hP hD hS ls (lv_sub hl [0, 1, 2, 3] rfl)
set_option maxHeartbeats 4000000 in
set_option maxRecDepth 100000 in
theorem s_X1_look (l : Launch) (dC : Nat → ClassId) (dI : Nat → Nat → Nat) (cs : Nat → ClassId) (ty : TyM) (L : List Nat) (sz : Nat) (F : Nat → va_E) (h0 : Nat) (ρ : Nat) (d : Nat) (δ : Nat) (ea : Nat) (w0 : Nat) (w1 : Nat) (w2 : Nat) (w3 : Nat) (nm : Nat) (te : Nat) (tm : Nat) (τ : Nat) (g1 : Nat) (σ : Nat) (r1 : Nat) (n1 : Nat) (hW : WT ty L) (hL_h0 : h0 ∈ L) (hT_h0 : ty h0 = (1, ρ, [d, δ, ea, w0, w1, w2, w3, nm, te])) (hL_tm : tm ∈ L) (hT_tm : ty tm = (10, τ, [])) (hL_g1 : g1 ∈ L) (hT_g1 : ty g1 = (0, σ, [r1, n1])) : Met l yX1_look (.code yX1_look cX1_look 3 (some .int) :: tb) ({ frames := 3, cells := 0, slots := 0, locals := 70 }) (va_Pc [.ref h0, .ref tm, .ref g1] (PT (dC, dI) cs ty L F sz)) (va_Qi (fun (r : Int32) (_ : Unit) => True) (fun _ T9 => ∃ F2 : Nat → va_E, QT (dC, dI) cs ty L [ρ] F F2 (va_A (va_pl L F) sz) T9) (va_A (va_pl L F) sz)) 0 0 (va_A (va_pl L F) sz) := by
  refine Met.ofW (cc := cX1_look) (maxL := 3) (ret := (some .int)) (by decide) rfl ?_
  intro p e s m args below meth c s₁ B hml hv
  obtain ⟨rfl, hsz, hP, hK, hD0, hE, hO⟩ := hv
  have hx := B.exec
  have hb := B.bytes
  have hr := B.returns
  have hts : ∀ w ∈ tb, w.before _ s = true := fun w h => atoms_spec (ws := .code yX1_look cX1_look 3 (some .int) :: tb) B.pre w (List.mem_cons_of_mem _ h)
  have hown : s.vm.findClass RX1 = some m.cls := findClass_of_methodNamed B.named
  have hlocks := B.notSynchronized
  subst hsz
  have hD := hD0.self (sz := s.heap.size)
  generalize hAe : va_A (va_pl L F) s.heap.size = A at hD ⊢
  have hA : ∀ q : Nat, s.heap.size ≤ q → A q := fun q h => by rw [← hAe]; exact Or.inr h
  have hS : va_S A s.heap s.heap [] := va_S.rf
  have hR : FR ty [ρ] F F := FR.refl
  have hl := lv_entry ([.ref h0, .ref tm, .ref g1]) (n := 3) (Nat.le_of_ble_eq_true rfl)
  rw [lg_entry_eq]
  generalize (lg_sl ([.ref h0, .ref tm, .ref g1]) ++ List.replicate (3 - (lg_sl ([.ref h0, .ref tm, .ref g1])).length) Slot.unset).toArray = ls at hl ⊢
  have hl : lv_has ls 3 [(0, .ref h0), (1, .ref tm), (2, .ref g1)] := hl
  refine lv_aload_n hx hb dX1_look_0 rfl (lv_at hl 0 rfl) ?_
  obtain ⟨hi_1, ht_2, hi_3, ⟨r_4, ht_5⟩, hi_6, ⟨r_7, ht_8⟩, hi_9, ⟨r_10, ht_11⟩, hi_12, ⟨r_13, ht_14⟩, hi_15, ht_16, hi_17, ht_18⟩ := hW.chk hL_h0 hT_h0
  obtain ⟨v0_19, v1_20, v2_21, v3_22, hF_23⟩ := hO.chk hL_h0 hT_h0
  refine pg_get (ci := 1) (v := .ref d) (C := RX1) (T := TX1) (N := 11) hx hb hts it_1 hown hK hP hL_h0 hF_23 rfl 0 (by decide) (hts _ kt_357) (fun _ h9 => h9) rfl dX1_look_1 ?_
  refine lv_iconst (v := 3) hx hb dX1_look_4 (by decide) ?_
  refine lv_aload_n hx hb dX1_look_5 rfl (lv_at hl 2 rfl) ?_
  have hFc := pg_free hD hS hA
  obtain ⟨hi_24, ht_25⟩ := hW.dir hi_1 ht_2
  obtain ⟨z_26, hF_27, hq_28⟩ := hO.dir hi_1 ht_2
  refine va_calli (va_runV (As := [.int 3, .ref g1]) (rest := []) ⟨hx, hb, hml, hown, hts⟩ (s_X2_has l dC dI cs ty L s.heap.size F d δ ea g1 σ r1 n1 3 hW hi_1 ht_2 hL_g1 hT_g1) ⟨callB_of 2 hts (gi kt_363) rfl rfl rfl (hts _ kt_103) (hts _ kt_364) (by decide +kernel) ⟨Nat.le_of_ble_eq_true rfl, Nat.le_of_ble_eq_true rfl⟩, (hts _ kt_365), (hts _ kt_366)⟩ ⟨fun a U g mk q => ⟨q.1, PT.calling q.2⟩, pg_recv hK hP hi_1 hF_27 (q := (RX2, TX2, 2)) rfl, fun U hU hWm => ⟨rfl, PT.mk hU hWm hP hK hD hE hO⟩⟩ rfl rfl hl.1 rfl (lv_room (Nat.le_of_ble_eq_true rfl)) dX1_look_6 ⟨by show _ + 0 ≤ 0; omega, by show _ + 0 ≤ 0; omega⟩) hS (fun q _ h => hFc q h) hFc (fun r_29 u t H1 locs ht hvm hw hB hz1 hk1 hS => ?_)
  obtain ⟨F_30, hB1⟩ := hB
  obtain ⟨hP, hD, hO, hR⟩ := QT.back hB1 ht hFc hR (fun q h => absurd h List.not_mem_nil)
  have hF_31 : F_30 h0 = .inr (1, [.ref d, .ref w0, .ref w1, .ref w2, .ref w3, .ref nm, .ref te, .int v0_19, .int v1_20, .int v2_21, .int v3_22]) := (hB1.2.2.2 h0 List.not_mem_nil).trans hF_23
  have hF_32 : F_30 d = .inr (2, [.ref ea, .int (nI z_26)]) := (hB1.2.2.2 d List.not_mem_nil).trans hF_27
  generalize H1 = H at hP hS ⊢
  have hw : (r_29 = 0 ∨ r_29 = 1) := hw
  have hw_33 := hw
  refine lv_if_eq (tgt := 14) hx hb dX1_look_9 (by decide) (fun c_34 => ?_) (fun c_34 => ?_)
  ·
    refine lv_aload_n hx hb dX1_look_14 rfl (lv_at hl 0 rfl) ?_
    refine pg_get (ci := 1) (v := .ref d) (C := RX1) (T := TX1) (N := 11) hx hb hts it_1 hown hK hP hL_h0 hF_31 rfl 0 (by decide) (hts _ kt_357) (fun _ h9 => h9) rfl dX1_look_15 ?_
    refine W.widen (k := 0) (n := 0) (by omega) (by omega) ?_
    refine pl_cut (σ := Int32) A (dC, dI) cs ty L [ρ] F 31 3 (fun s0 => [(0, .ref h0), (1, .ref tm), (2, .ref g1)]) (fun s0 => [.int s0, .ref d]) (fun s0 _ => True) ?_ (fun jn_35 => ?_)
    ·
      rintro s0 F_36 hv_37 hO hR H locs hP hD hS ls hl
      have hl : lv_has ls 3 [(0, .ref h0), (1, .ref tm), (2, .ref g1)] := hl
      have hv_37 : True := hv_37
      refine W.eq (g2 := F0 m 31 ls [.int s0, .ref d]) rfl ?_
      refine lv_aload_n hx hb dX1_look_31 rfl (lv_at hl 2 rfl) ?_
      have hFc := pg_free hD hS hA
      obtain ⟨z_38, hF_39, hq_40⟩ := hO.dir hi_1 ht_2
      refine va_calli (va_runV (As := [.int s0, .ref g1]) (rest := []) ⟨hx, hb, hml, hown, hts⟩ (s_X2_has l dC dI cs ty L H.size F_36 d δ ea g1 σ r1 n1 s0 hW hi_1 ht_2 hL_g1 hT_g1) ⟨callB_of 2 hts (gi kt_363) rfl rfl rfl (hts _ kt_103) (hts _ kt_364) (by decide +kernel) ⟨Nat.le_of_ble_eq_true rfl, Nat.le_of_ble_eq_true rfl⟩, (hts _ kt_365), (hts _ kt_366)⟩ ⟨fun a U g mk q => ⟨q.1, PT.calling q.2⟩, pg_recv hK hP hi_1 hF_39 (q := (RX2, TX2, 2)) rfl, fun U hU hWm => ⟨rfl, PT.mk hU hWm hP hK hD hE hO⟩⟩ rfl rfl hl.1 rfl (lv_room (Nat.le_of_ble_eq_true rfl)) dX1_look_32 ⟨by show _ + 0 ≤ 0; omega, by show _ + 0 ≤ 0; omega⟩) hS (fun q _ h => hFc q h) hFc (fun r_41 u t H1 locs ht hvm hw hB hz1 hk1 hS => ?_)
      obtain ⟨F_42, hB1⟩ := hB
      obtain ⟨hP, hD, hO, hR⟩ := QT.back hB1 ht hFc hR (fun q h => absurd h List.not_mem_nil)
      have hF_43 : F_42 d = .inr (2, [.ref ea, .int (nI z_38)]) := (hB1.2.2.2 d List.not_mem_nil).trans hF_39
      generalize H1 = H at hP hS ⊢
      have hw : (r_41 = 0 ∨ r_41 = 1) := hw
      have hw_44 := hw
      refine lv_if_ne (tgt := 63) hx hb dX1_look_35 (by decide) (fun c_45 => ?_) (fun c_45 => ?_)
      ·
        refine lv_aload_n hx hb dX1_look_63 rfl (lv_at hl 1 rfl) ?_
        obtain ⟨v0_46, v1_47, v2_48, z_49, v4_50, v5_51, hF_52, hq_53⟩ := hO.term hL_tm hT_tm
        refine pg_getN (ci := 10) (v := .int v0_46) (C := RX10) (T := TX10) (N := 6) hx hb hts it_10 hown hK hP hL_tm hF_52 rfl 0 (by decide) (hE.nest kn_8) (fun _ h9 => h9) rfl dX1_look_64 ?_
        refine lv_iconst (v := 4) hx hb dX1_look_67 (by decide) ?_
        refine lv_icmp_ne (tgt := 81) hx hb dX1_look_68 (by decide) (fun c_54 => ?_) (fun c_54 => ?_)
        ·
          refine lv_aload_n hx hb dX1_look_81 rfl (lv_at hl 1 rfl) ?_
          refine pg_getN (ci := 10) (v := .int v0_46) (C := RX10) (T := TX10) (N := 6) hx hb hts it_10 hown hK hP hL_tm hF_52 rfl 0 (by decide) (hE.nest kn_8) (fun _ h9 => h9) rfl dX1_look_82 ?_
          refine lv_bipush (v := 6) hx hb dX1_look_85 (by decide) ?_
          refine lv_icmp_eq (tgt := 109) hx hb dX1_look_87 (by decide) (fun c_55 => ?_) (fun c_55 => ?_)
          ·
            refine lv_iconst (v := 2) hx hb dX1_look_109 (by decide) ?_
            refine lv_goto (tgt := 114) hx hb dX1_look_110 (by decide) ?_
            refine W.widen (k := 0) (n := 0) (by omega) (by omega) ?_
            exact W.iret (v := 2) hx hb hr (fun t ht hWm => ⟨⟨2, (), rfl, trivial, ⟨F_42, QT.mk ht hP hD hO hR⟩⟩, hS.F ht⟩) hS.2.2 dX1_look_114
          ·
            refine lv_aload_n hx hb dX1_look_90 rfl (lv_at hl 0 rfl) ?_
            obtain ⟨v0_56, v1_57, v2_58, v3_59, hF_60⟩ := hO.chk hL_h0 hT_h0
            refine pg_get (ci := 1) (v := .ref d) (C := RX1) (T := TX1) (N := 11) hx hb hts it_1 hown hK hP hL_h0 hF_60 rfl 0 (by decide) (hts _ kt_357) (fun _ h9 => h9) rfl dX1_look_91 ?_
            refine lv_aload_n hx hb dX1_look_94 rfl (lv_at hl 2 rfl) ?_
            refine lv_aload_n hx hb dX1_look_95 rfl (lv_at hl 0 rfl) ?_
            refine pg_get (ci := 1) (v := .int v0_56) (C := RX1) (T := TX1) (N := 11) hx hb hts it_1 hown hK hP hL_h0 hF_60 rfl 7 (by decide) (hts _ kt_305) (fun _ h9 => h9) rfl dX1_look_96 ?_
            refine lv_aload_n hx hb dX1_look_99 rfl (lv_at hl 1 rfl) ?_
            refine pg_getN (ci := 10) (v := .int v4_50) (C := RX10) (T := TX10) (N := 6) hx hb hts it_10 hown hK hP hL_tm hF_52 rfl 4 (by decide) (hE.nest kn_15) (fun _ h9 => h9) rfl dX1_look_100 ?_
            have hFc := pg_free hD hS hA
            refine va_calli (va_runV (As := [.ref g1, .int v0_56, .int v4_50]) (rest := []) ⟨hx, hb, hml, hown, hts⟩ (s_X2_hasAddress l dC dI cs ty L H.size F_42 d δ ea g1 σ r1 n1 v0_56 v4_50 hW hi_1 ht_2 hL_g1 hT_g1) ⟨callB_of 3 hts (gi kt_367) rfl rfl rfl (hts _ kt_103) (hts _ kt_368) (by decide +kernel) ⟨Nat.le_of_ble_eq_true rfl, Nat.le_of_ble_eq_true rfl⟩, (hts _ kt_369), (hts _ kt_370)⟩ ⟨fun a U g mk q => ⟨q.1, PT.calling q.2⟩, pg_recv hK hP hi_1 hF_43 (q := (RX2, TX2, 2)) rfl, fun U hU hWm => ⟨rfl, PT.mk hU hWm hP hK hD hE hO⟩⟩ rfl rfl hl.1 rfl (lv_room (Nat.le_of_ble_eq_true rfl)) dX1_look_103 ⟨by show _ + 0 ≤ 0; omega, by show _ + 0 ≤ 0; omega⟩) hS (fun q _ h => hFc q h) hFc (fun r_61 u t H1 locs ht hvm hw hB hz1 hk1 hS => ?_)
            obtain ⟨F_62, hB1⟩ := hB
            obtain ⟨hP, hD, hO, hR⟩ := QT.back hB1 ht hFc hR (fun q h => absurd h List.not_mem_nil)
            have hF_63 : F_62 d = .inr (2, [.ref ea, .int (nI z_38)]) := (hB1.2.2.2 d List.not_mem_nil).trans hF_43
            have hF_64 : F_62 tm = .inr (10, [.int v0_46, .int v1_47, .int v2_48, .int (nI z_49), .int v4_50, .int v5_51]) := (hB1.2.2.2 tm List.not_mem_nil).trans hF_52
            have hF_65 : F_62 h0 = .inr (1, [.ref d, .ref w0, .ref w1, .ref w2, .ref w3, .ref nm, .ref te, .int v0_56, .int v1_57, .int v2_58, .int v3_59]) := (hB1.2.2.2 h0 List.not_mem_nil).trans hF_60
            generalize H1 = H at hP hS ⊢
            have hw : (r_61 = 0 ∨ r_61 = 1) := hw
            have hw_66 := hw
            refine lv_if_eq (tgt := 113) hx hb dX1_look_106 (by decide) (fun c_67 => ?_) (fun c_67 => ?_)
            ·
              refine lv_iconst (v := 0) hx hb dX1_look_113 (by decide) ?_
              refine W.widen (k := 0) (n := 0) (by omega) (by omega) ?_
              exact W.iret (v := 0) hx hb hr (fun t ht hWm => ⟨⟨0, (), rfl, trivial, ⟨F_62, QT.mk ht hP hD hO hR⟩⟩, hS.F ht⟩) hS.2.2 dX1_look_114
            ·
              refine lv_iconst (v := 2) hx hb dX1_look_109 (by decide) ?_
              refine lv_goto (tgt := 114) hx hb dX1_look_110 (by decide) ?_
              refine W.widen (k := 0) (n := 0) (by omega) (by omega) ?_
              exact W.iret (v := 2) hx hb hr (fun t ht hWm => ⟨⟨2, (), rfl, trivial, ⟨F_62, QT.mk ht hP hD hO hR⟩⟩, hS.F ht⟩) hS.2.2 dX1_look_114
        ·
          refine lv_aload_n hx hb dX1_look_71 rfl (lv_at hl 0 rfl) ?_
          refine lv_aload_n hx hb dX1_look_72 rfl (lv_at hl 2 rfl) ?_
          refine lv_aload_n hx hb dX1_look_73 rfl (lv_at hl 1 rfl) ?_
          refine pg_getN (ci := 10) (v := .int v4_50) (C := RX10) (T := TX10) (N := 6) hx hb hts it_10 hown hK hP hL_tm hF_52 rfl 4 (by decide) (hE.nest kn_15) (fun _ h9 => h9) rfl dX1_look_74 ?_
          have hFc := pg_free hD hS hA
          obtain ⟨v0_68, v1_69, v2_70, v3_71, hF_72⟩ := hO.chk hL_h0 hT_h0
          refine va_calli (va_runV (As := [.ref g1, .int v4_50]) (rest := []) ⟨hx, hb, hml, hown, hts⟩ (s_X1_lookAtExchanges l dC dI cs ty L H.size F_42 h0 ρ d δ ea w0 w1 w2 w3 nm te g1 σ r1 n1 v4_50 hW hL_h0 hT_h0 hL_g1 hT_g1) ⟨callB_of 2 hts (gi kt_371) rfl rfl rfl (hts _ kt_310) (hts _ kt_372) (by decide +kernel) ⟨Nat.le_of_ble_eq_true rfl, Nat.le_of_ble_eq_true rfl⟩, (hts _ kt_373), (hts _ kt_374)⟩ ⟨fun a U g mk q => ⟨q.1, PT.calling q.2⟩, pg_recv hK hP hL_h0 hF_72 (q := (RX1, TX1, 11)) rfl, fun U hU hWm => ⟨rfl, PT.mk hU hWm hP hK hD hE hO⟩⟩ rfl rfl hl.1 rfl (lv_room (Nat.le_of_ble_eq_true rfl)) dX1_look_77 ⟨by show _ + 0 ≤ 0; omega, by show _ + 0 ≤ 0; omega⟩) hS (fun q _ h => hFc q h) hFc (fun r_73 u t H1 locs ht hvm hw hB hz1 hk1 hS => ?_)
          obtain ⟨F_74, hB1⟩ := hB
          obtain ⟨hP, hD, hO, hR⟩ := QT.back hB1 ht hFc hR (fun q h => absurd h List.not_mem_nil)
          have hF_75 : F_74 d = .inr (2, [.ref ea, .int (nI z_38)]) := (hB1.2.2.2 d List.not_mem_nil).trans hF_43
          have hF_76 : F_74 tm = .inr (10, [.int v0_46, .int v1_47, .int v2_48, .int (nI z_49), .int v4_50, .int v5_51]) := (hB1.2.2.2 tm List.not_mem_nil).trans hF_52
          have hF_77 : F_74 h0 = .inr (1, [.ref d, .ref w0, .ref w1, .ref w2, .ref w3, .ref nm, .ref te, .int v0_68, .int v1_69, .int v2_70, .int v3_71]) := (hB1.2.2.2 h0 List.not_mem_nil).trans hF_72
          generalize H1 = H at hP hS ⊢
          have hw : True := hw
          have hw_78 := hw
          refine W.widen (k := 0) (n := 0) (by omega) (by omega) ?_
          exact W.iret (v := r_73) hx hb hr (fun t ht hWm => ⟨⟨r_73, (), rfl, trivial, ⟨F_74, QT.mk ht hP hD hO hR⟩⟩, hS.F ht⟩) hS.2.2 dX1_look_80
      ·
        refine lv_aload_n hx hb dX1_look_38 rfl (lv_at hl 0 rfl) ?_
        refine lv_dup hx hb dX1_look_39 rfl ?_
        obtain ⟨v0_79, v1_80, v2_81, v3_82, hF_83⟩ := hO.chk hL_h0 hT_h0
        refine pg_get (ci := 1) (v := .int v3_82) (C := RX1) (T := TX1) (N := 11) hx hb hts it_1 hown hK hP hL_h0 hF_83 rfl 10 (by decide) (hts _ kt_375) (fun _ h9 => h9) rfl dX1_look_40 ?_
        refine lv_iconst (v := 1) hx hb dX1_look_43 (by decide) ?_
        refine lv_iadd hx hb dX1_look_44 ?_
        refine lv_topi (fun x_84 _ => ?_)
        refine pg_put (ci := 1) (v := .int x_84) (ty := .int) (C := RX1) (T := TX1) (N := 11) hx hb hts it_1 tyX1 tyX1_ok nmX1 hown hK hP hD hS hL_h0 hF_83 rfl 10 (by decide) (hts _ kt_375) (fun _ h9 => h9) rfl (by decide +kernel) (rfl) (rfl) (Nat.le_of_ble_eq_true rfl) dX1_look_45 (fun H locs hP hD hS => ?_)
        obtain ⟨F_85, he_86, hP, hD, hO, hR⟩ : ∃ G, G = va_up F_42 h0 (.inr (1, [.ref d, .ref w0, .ref w1, .ref w2, .ref w3, .ref nm, .ref te, .int v0_79, .int v1_80, .int v2_81, .int x_84])) ∧ va_P (dC, dI) vwCl (va_pl L G) H ∧ va_D A (va_pl L G) ∧ OK cs ty L G ∧ FR ty [ρ] F G := ⟨_, rfl, hP, hD, hO.up (sh.chk hT_h0 ⟨v0_79, v1_80, v2_81, x_84, rfl⟩), hR.up hT_h0 (by simp)⟩
        have hF_87 : F_85 h0 = .inr (1, [.ref d, .ref w0, .ref w1, .ref w2, .ref w3, .ref nm, .ref te, .int v0_79, .int v1_80, .int v2_81, .int x_84]) := by rw [he_86]; exact up_self
        have hF_88 : F_85 d = .inr (2, [.ref ea, .int (nI z_38)]) := by rw [he_86, up_ne (ne_ty ht_2 hT_h0 (by simp))]; exact hF_43
        refine lv_aload_n hx hb dX1_look_48 rfl (lv_at hl 0 rfl) ?_
        refine pg_get (ci := 1) (v := .int x_84) (C := RX1) (T := TX1) (N := 11) hx hb hts it_1 hown hK hP hL_h0 hF_87 rfl 10 (by decide) (hts _ kt_375) (fun _ h9 => h9) rfl dX1_look_49 ?_
        refine lv_iconst (v := 2) hx hb dX1_look_52 (by decide) ?_
        refine lv_icmp_le (tgt := 61) hx hb dX1_look_53 (by decide) (fun c_89 => ?_) (fun c_89 => ?_)
        ·
          refine lv_iconst (v := 0) hx hb dX1_look_61 (by decide) ?_
          refine W.widen (k := 0) (n := 0) (by omega) (by omega) ?_
          exact W.iret (v := 0) hx hb hr (fun t ht hWm => ⟨⟨0, (), rfl, trivial, ⟨F_85, QT.mk ht hP hD hO hR⟩⟩, hS.F ht⟩) hS.2.2 dX1_look_62
        ·
          refine lv_bipush (v := 6) hx hb dX1_look_56 (by decide) ?_
          refine lv_goto (tgt := 62) hx hb dX1_look_58 (by decide) ?_
          refine W.widen (k := 0) (n := 0) (by omega) (by omega) ?_
          exact W.iret (v := 6) hx hb hr (fun t ht hWm => ⟨⟨6, (), rfl, trivial, ⟨F_85, QT.mk ht hP hD hO hR⟩⟩, hS.F ht⟩) hS.2.2 dX1_look_62
    ·
      refine lv_aload_n hx hb dX1_look_18 rfl (lv_at hl 1 rfl) ?_
      obtain ⟨v0_90, v1_91, v2_92, z_93, v4_94, v5_95, hF_96, hq_97⟩ := hO.term hL_tm hT_tm
      refine pg_getN (ci := 10) (v := .int v0_90) (C := RX10) (T := TX10) (N := 6) hx hb hts it_10 hown hK hP hL_tm hF_96 rfl 0 (by decide) (hE.nest kn_8) (fun _ h9 => h9) rfl dX1_look_19 ?_
      refine lv_iconst (v := 4) hx hb dX1_look_22 (by decide) ?_
      refine lv_icmp_ne (tgt := 30) hx hb dX1_look_23 (by decide) (fun c_98 => ?_) (fun c_98 => ?_)
      ·
        refine lv_iconst (v := 1) hx hb dX1_look_30 (by decide) ?_
        refine W.widen (k := 0) (n := 0) (by omega) (by omega) ?_
        exact jn_35 1 F_30 (trivial) hO hR _ _ hP hD hS ls (lv_sub hl [0, 1, 2] rfl)
      ·
        refine lv_iconst (v := 2) hx hb dX1_look_26 (by decide) ?_
        refine lv_goto (tgt := 31) hx hb dX1_look_27 (by decide) ?_
        refine W.widen (k := 0) (n := 0) (by omega) (by omega) ?_
        exact jn_35 2 F_30 (trivial) hO hR _ _ hP hD hS ls (lv_sub hl [0, 1, 2] rfl)
  ·
    refine lv_iconst (v := 5) hx hb dX1_look_12 (by decide) ?_
    refine W.widen (k := 0) (n := 0) (by omega) (by omega) ?_
    exact W.iret (v := 5) hx hb hr (fun t ht hWm => ⟨⟨5, (), rfl, trivial, ⟨F_30, QT.mk ht hP hD hO hR⟩⟩, hS.F ht⟩) hS.2.2 dX1_look_13
