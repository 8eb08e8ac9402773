theorem dX14_isName__0 : decode cX14_isName_ 0 = .ok (.iload_n 2, 1) := by decide +kernel
theorem dX14_isName__1 : decode cX14_isName_ 1 = .ok (.iload_n 1, 1) := by decide +kernel
theorem dX14_isName__2 : decode cX14_isName_ 2 = .ok (.isub, 1) := by decide +kernel
theorem dX14_isName__3 : decode cX14_isName_ 3 = .ok (.i2l, 1) := by decide +kernel
theorem dX14_isName__4 : decode cX14_isName_ 4 = .ok (.lconst 1, 1) := by decide +kernel
theorem dX14_isName__5 : decode cX14_isName_ 5 = .ok (.ldc2_w 36, 3) := by decide +kernel
theorem dX14_isName__8 : decode cX14_isName_ 8 = .ok (.invokestatic 38, 3) := by decide +kernel
theorem dX14_isName__11 : decode cX14_isName_ 11 = .ok (.ifCond .ne 5, 3) := by decide +kernel
theorem dX14_isName__14 : decode cX14_isName_ 14 = .ok (.iconst 0, 1) := by decide +kernel
theorem dX14_isName__15 : decode cX14_isName_ 15 = .ok (.ireturn, 1) := by decide +kernel
theorem dX14_isName__16 : decode cX14_isName_ 16 = .ok (.iconst 0, 1) := by decide +kernel
theorem dX14_isName__17 : decode cX14_isName_ 17 = .ok (.istore_n 3, 1) := by decide +kernel
theorem dX14_isName__18 : decode cX14_isName_ 18 = .ok (.iload_n 1, 1) := by decide +kernel
theorem dX14_isName__19 : decode cX14_isName_ 19 = .ok (.istore 4, 2) := by decide +kernel
theorem dX14_isName__21 : decode cX14_isName_ 21 = .ok (.iload 4, 2) := by decide +kernel
theorem dX14_isName__23 : decode cX14_isName_ 23 = .ok (.iload_n 2, 1) := by decide +kernel
theorem dX14_isName__24 : decode cX14_isName_ 24 = .ok (.if_icmp .ge 74, 3) := by decide +kernel
theorem dX14_isName__27 : decode cX14_isName_ 27 = .ok (.aload_n 0, 1) := by decide +kernel
theorem dX14_isName__28 : decode cX14_isName_ 28 = .ok (.iload 4, 2) := by decide +kernel
theorem dX14_isName__30 : decode cX14_isName_ 30 = .ok (.baload, 1) := by decide +kernel
theorem dX14_isName__31 : decode cX14_isName_ 31 = .ok (.istore 5, 2) := by decide +kernel
theorem dX14_isName__33 : decode cX14_isName_ 33 = .ok (.iload 5, 2) := by decide +kernel
theorem dX14_isName__35 : decode cX14_isName_ 35 = .ok (.bipush 46, 2) := by decide +kernel
theorem dX14_isName__37 : decode cX14_isName_ 37 = .ok (.if_icmp .ne 14, 3) := by decide +kernel
theorem dX14_isName__40 : decode cX14_isName_ 40 = .ok (.iload_n 3, 1) := by decide +kernel
theorem dX14_isName__41 : decode cX14_isName_ 41 = .ok (.ifCond .ne 5, 3) := by decide +kernel
theorem dX14_isName__44 : decode cX14_isName_ 44 = .ok (.iconst 0, 1) := by decide +kernel
theorem dX14_isName__45 : decode cX14_isName_ 45 = .ok (.ireturn, 1) := by decide +kernel
theorem dX14_isName__46 : decode cX14_isName_ 46 = .ok (.iconst 0, 1) := by decide +kernel
theorem dX14_isName__47 : decode cX14_isName_ 47 = .ok (.istore_n 3, 1) := by decide +kernel
theorem dX14_isName__48 : decode cX14_isName_ 48 = .ok (.goto 44, 3) := by decide +kernel
theorem dX14_isName__51 : decode cX14_isName_ 51 = .ok (.iload 5, 2) := by decide +kernel
theorem dX14_isName__53 : decode cX14_isName_ 53 = .ok (.invokestatic 42, 3) := by decide +kernel
theorem dX14_isName__56 : decode cX14_isName_ 56 = .ok (.ifCond .ne 25, 3) := by decide +kernel
theorem dX14_isName__59 : decode cX14_isName_ 59 = .ok (.iload 5, 2) := by decide +kernel
theorem dX14_isName__61 : decode cX14_isName_ 61 = .ok (.invokestatic 46, 3) := by decide +kernel
theorem dX14_isName__64 : decode cX14_isName_ 64 = .ok (.ifCond .ne 17, 3) := by decide +kernel
theorem dX14_isName__67 : decode cX14_isName_ 67 = .ok (.iload 5, 2) := by decide +kernel
theorem dX14_isName__69 : decode cX14_isName_ 69 = .ok (.bipush 45, 2) := by decide +kernel
theorem dX14_isName__71 : decode cX14_isName_ 71 = .ok (.if_icmp .eq 10, 3) := by decide +kernel
theorem dX14_isName__74 : decode cX14_isName_ 74 = .ok (.iload 5, 2) := by decide +kernel
theorem dX14_isName__76 : decode cX14_isName_ 76 = .ok (.bipush 95, 2) := by decide +kernel
theorem dX14_isName__78 : decode cX14_isName_ 78 = .ok (.if_icmp .ne 9, 3) := by decide +kernel
theorem dX14_isName__81 : decode cX14_isName_ 81 = .ok (.iload_n 3, 1) := by decide +kernel
theorem dX14_isName__82 : decode cX14_isName_ 82 = .ok (.bipush 20, 2) := by decide +kernel
theorem dX14_isName__84 : decode cX14_isName_ 84 = .ok (.if_icmp .ne 5, 3) := by decide +kernel
theorem dX14_isName__87 : decode cX14_isName_ 87 = .ok (.iconst 0, 1) := by decide +kernel
theorem dX14_isName__88 : decode cX14_isName_ 88 = .ok (.ireturn, 1) := by decide +kernel
theorem dX14_isName__89 : decode cX14_isName_ 89 = .ok (.iinc 3 1, 3) := by decide +kernel
theorem dX14_isName__92 : decode cX14_isName_ 92 = .ok (.iinc 4 1, 3) := by decide +kernel
theorem dX14_isName__95 : decode cX14_isName_ 95 = .ok (.goto (-74), 3) := by decide +kernel
theorem dX14_isName__98 : decode cX14_isName_ 98 = .ok (.iload_n 3, 1) := by decide +kernel
theorem dX14_isName__99 : decode cX14_isName_ 99 = .ok (.ifCond .le 7, 3) := by decide +kernel
theorem dX14_isName__102 : decode cX14_isName_ 102 = .ok (.iconst 1, 1) := by decide +kernel
theorem dX14_isName__103 : decode cX14_isName_ 103 = .ok (.goto 4, 3) := by decide +kernel
theorem dX14_isName__106 : decode cX14_isName_ 106 = .ok (.iconst 0, 1) := by decide +kernel
theorem dX14_isName__107 : decode cX14_isName_ 107 = .ok (.ireturn, 1) := by decide +kernel
theorem dX15_cost_0 : decode cX15_cost 0 = .ok (.iload_n 1, 1) := by decide +kernel
theorem dX15_cost_1 : decode cX15_cost 1 = .ok (.ifCond .ne 10, 3) := by decide +kernel
theorem dX15_cost_4 : decode cX15_cost 4 = .ok (.aload_n 0, 1) := by decide +kernel
theorem dX15_cost_5 : decode cX15_cost 5 = .ok (.getfield 212, 3) := by decide +kernel
theorem dX15_cost_8 : decode cX15_cost 8 = .ok (.goto 16, 3) := by decide +kernel
theorem dX15_cost_11 : decode cX15_cost 11 = .ok (.iload_n 1, 1) := by decide +kernel
theorem dX15_cost_12 : decode cX15_cost 12 = .ok (.iconst 1, 1) := by decide +kernel
theorem dX15_cost_13 : decode cX15_cost 13 = .ok (.if_icmp .ne 10, 3) := by decide +kernel
theorem dX15_cost_16 : decode cX15_cost 16 = .ok (.aload_n 0, 1) := by decide +kernel
theorem dX15_cost_17 : decode cX15_cost 17 = .ok (.getfield 215, 3) := by decide +kernel
theorem dX15_cost_20 : decode cX15_cost 20 = .ok (.goto 4, 3) := by decide +kernel
theorem dX15_cost_23 : decode cX15_cost 23 = .ok (.iconst (-1), 1) := by decide +kernel
theorem dX15_cost_24 : decode cX15_cost 24 = .ok (.ireturn, 1) := by decide +kernel
theorem dX15_digest_0 : decode cX15_digest 0 = .ok (.aload_n 0, 1) := by decide +kernel
theorem dX15_digest_1 : decode cX15_digest 1 = .ok (.getfield 110, 3) := by decide +kernel
theorem dX15_digest_4 : decode cX15_digest 4 = .ok (.invokevirtual 417, 3) := by decide +kernel
theorem dX15_digest_7 : decode cX15_digest 7 = .ok (.aload_n 0, 1) := by decide +kernel
theorem dX15_digest_8 : decode cX15_digest 8 = .ok (.getfield 110, 3) := by decide +kernel
theorem dX15_digest_11 : decode cX15_digest 11 = .ok (.aload_n 1, 1) := by decide +kernel
theorem dX15_digest_12 : decode cX15_digest 12 = .ok (.iconst 0, 1) := by decide +kernel
theorem dX15_digest_13 : decode cX15_digest 13 = .ok (.iload_n 2, 1) := by decide +kernel
theorem dX15_digest_14 : decode cX15_digest 14 = .ok (.invokevirtual 419, 3) := by decide +kernel
theorem dX15_digest_17 : decode cX15_digest 17 = .ok (.aload_n 0, 1) := by decide +kernel
theorem dX15_digest_18 : decode cX15_digest 18 = .ok (.getfield 110, 3) := by decide +kernel
theorem dX15_digest_21 : decode cX15_digest 21 = .ok (.aload_n 3, 1) := by decide +kernel
theorem dX15_digest_22 : decode cX15_digest 22 = .ok (.iconst 0, 1) := by decide +kernel
theorem dX15_digest_23 : decode cX15_digest 23 = .ok (.invokevirtual 420, 3) := by decide +kernel
theorem dX15_digest_26 : decode cX15_digest 26 = .ok (.return_, 1) := by decide +kernel
theorem dX15_digest__0 : decode cX15_digest_ 0 = .ok (.aload_n 0, 1) := by decide +kernel
theorem dX15_digest__1 : decode cX15_digest_ 1 = .ok (.invokevirtual 174, 3) := by decide +kernel
theorem dX15_digest__4 : decode cX15_digest_ 4 = .ok (.istore_n 1, 1) := by decide +kernel
theorem dX15_digest__5 : decode cX15_digest_ 5 = .ok (.aload_n 0, 1) := by decide +kernel
theorem dX15_digest__6 : decode cX15_digest_ 6 = .ok (.aload_n 0, 1) := by decide +kernel
theorem dX15_digest__7 : decode cX15_digest_ 7 = .ok (.getfield 31, 3) := by decide +kernel
theorem dX15_digest__10 : decode cX15_digest_ 10 = .ok (.iload_n 1, 1) := by decide +kernel
theorem dX15_digest__11 : decode cX15_digest_ 11 = .ok (.aload_n 0, 1) := by decide +kernel
theorem dX15_digest__12 : decode cX15_digest_ 12 = .ok (.getfield 129, 3) := by decide +kernel
theorem dX15_digest__15 : decode cX15_digest_ 15 = .ok (.invokevirtual 519, 3) := by decide +kernel
theorem dX15_digest__18 : decode cX15_digest_ 18 = .ok (.aload_n 0, 1) := by decide +kernel
theorem dX15_digest__19 : decode cX15_digest_ 19 = .ok (.getfield 129, 3) := by decide +kernel
theorem dX15_digest__22 : decode cX15_digest_ 22 = .ok (.iconst 0, 1) := by decide +kernel
theorem dX15_digest__23 : decode cX15_digest_ 23 = .ok (.aload_n 0, 1) := by decide +kernel
theorem dX15_digest__24 : decode cX15_digest_ 24 = .ok (.getfield 35, 3) := by decide +kernel
theorem dX15_digest__27 : decode cX15_digest_ 27 = .ok (.iconst 0, 1) := by decide +kernel
theorem dX15_digest__28 : decode cX15_digest_ 28 = .ok (.bipush 32, 2) := by decide +kernel
theorem dX15_digest__30 : decode cX15_digest_ 30 = .ok (.invokestatic 358, 3) := by decide +kernel
theorem dX15_digest__33 : decode cX15_digest_ 33 = .ok (.aload_n 0, 1) := by decide +kernel
theorem dX15_digest__34 : decode cX15_digest_ 34 = .ok (.bipush 32, 2) := by decide +kernel
theorem dX15_digest__36 : decode cX15_digest_ 36 = .ok (.putfield 385, 3) := by decide +kernel
theorem dX15_digest__39 : decode cX15_digest_ 39 = .ok (.bipush 32, 2) := by decide +kernel
theorem dX15_digest__41 : decode cX15_digest_ 41 = .ok (.ireturn, 1) := by decide +kernel
theorem dX15_end_0 : decode cX15_end 0 = .ok (.iload_n 1, 1) := by decide +kernel
theorem dX15_end_1 : decode cX15_end 1 = .ok (.i2l, 1) := by decide +kernel
theorem dX15_end_2 : decode cX15_end 2 = .ok (.lconst 0, 1) := by decide +kernel
theorem dX15_end_3 : decode cX15_end 3 = .ok (.aload_n 0, 1) := by decide +kernel
theorem dX15_end_4 : decode cX15_end 4 = .ok (.getfield 166, 3) := by decide +kernel
theorem dX15_end_7 : decode cX15_end 7 = .ok (.i2l, 1) := by decide +kernel
theorem dX15_end_8 : decode cX15_end 8 = .ok (.invokestatic 170, 3) := by decide +kernel
theorem dX15_end_11 : decode cX15_end 11 = .ok (.ifCond .ne 5, 3) := by decide +kernel
theorem dX15_end_14 : decode cX15_end 14 = .ok (.iconst (-1), 1) := by decide +kernel
theorem dX15_end_15 : decode cX15_end 15 = .ok (.ireturn, 1) := by decide +kernel
theorem dX15_end_16 : decode cX15_end 16 = .ok (.aload_n 0, 1) := by decide +kernel
theorem dX15_end_17 : decode cX15_end 17 = .ok (.iload_n 1, 1) := by decide +kernel
theorem dX15_end_18 : decode cX15_end 18 = .ok (.putfield 166, 3) := by decide +kernel
theorem dX15_end_21 : decode cX15_end 21 = .ok (.iload_n 1, 1) := by decide +kernel
theorem dX15_end_22 : decode cX15_end 22 = .ok (.ireturn, 1) := by decide +kernel
theorem dX15_entry_0 : decode cX15_entry 0 = .ok (.aload_n 0, 1) := by decide +kernel
theorem dX15_entry_1 : decode cX15_entry 1 = .ok (.invokevirtual 174, 3) := by decide +kernel
theorem dX15_entry_4 : decode cX15_entry 4 = .ok (.istore_n 3, 1) := by decide +kernel
theorem dX15_entry_5 : decode cX15_entry 5 = .ok (.iconst 0, 1) := by decide +kernel
theorem dX15_entry_6 : decode cX15_entry 6 = .ok (.istore 4, 2) := by decide +kernel
theorem dX15_entry_8 : decode cX15_entry 8 = .ok (.aload_n 0, 1) := by decide +kernel
theorem dX15_entry_9 : decode cX15_entry 9 = .ok (.getfield 177, 3) := by decide +kernel
theorem dX15_entry_12 : decode cX15_entry 12 = .ok (.bipush 40, 2) := by decide +kernel
theorem dX15_entry_14 : decode cX15_entry 14 = .ok (.if_icmp .ne 6, 3) := by decide +kernel
theorem dX15_entry_17 : decode cX15_entry 17 = .ok (.bipush (-3), 2) := by decide +kernel
theorem dX15_entry_19 : decode cX15_entry 19 = .ok (.ireturn, 1) := by decide +kernel
theorem dX15_entry_20 : decode cX15_entry 20 = .ok (.iload_n 1, 1) := by decide +kernel
theorem dX15_entry_21 : decode cX15_entry 21 = .ok (.i2l, 1) := by decide +kernel
theorem dX15_entry_22 : decode cX15_entry 22 = .ok (.lconst 0, 1) := by decide +kernel
theorem dX15_entry_23 : decode cX15_entry 23 = .ok (.ldc2_w 180, 3) := by decide +kernel
theorem dX15_entry_26 : decode cX15_entry 26 = .ok (.invokestatic 170, 3) := by decide +kernel
theorem dX15_entry_29 : decode cX15_entry 29 = .ok (.ifCond .ne 5, 3) := by decide +kernel
theorem dX15_entry_32 : decode cX15_entry 32 = .ok (.iconst (-1), 1) := by decide +kernel
theorem dX15_entry_33 : decode cX15_entry 33 = .ok (.ireturn, 1) := by decide +kernel
theorem dX15_entry_34 : decode cX15_entry 34 = .ok (.iload_n 1, 1) := by decide +kernel
theorem dX15_entry_35 : decode cX15_entry 35 = .ok (.ifCond .eq 8, 3) := by decide +kernel
theorem dX15_entry_38 : decode cX15_entry 38 = .ok (.iload_n 1, 1) := by decide +kernel
theorem dX15_entry_39 : decode cX15_entry 39 = .ok (.iconst 2, 1) := by decide +kernel
theorem dX15_entry_40 : decode cX15_entry 40 = .ok (.if_icmp .ne 7, 3) := by decide +kernel
theorem dX15_entry_43 : decode cX15_entry 43 = .ok (.iconst 1, 1) := by decide +kernel
theorem dX15_entry_44 : decode cX15_entry 44 = .ok (.goto 4, 3) := by decide +kernel
theorem dX15_entry_47 : decode cX15_entry 47 = .ok (.iconst 0, 1) := by decide +kernel
theorem dX15_entry_48 : decode cX15_entry 48 = .ok (.istore 5, 2) := by decide +kernel
theorem dX15_entry_50 : decode cX15_entry 50 = .ok (.iload 5, 2) := by decide +kernel
theorem dX15_entry_52 : decode cX15_entry 52 = .ok (.ifCond .eq 27, 3) := by decide +kernel
theorem dX15_entry_55 : decode cX15_entry 55 = .ok (.iload 4, 2) := by decide +kernel
theorem dX15_entry_57 : decode cX15_entry 57 = .ok (.iload_n 3, 1) := by decide +kernel
theorem dX15_entry_58 : decode cX15_entry 58 = .ok (.if_icmp .ge 21, 3) := by decide +kernel
theorem dX15_entry_61 : decode cX15_entry 61 = .ok (.aload_n 0, 1) := by decide +kernel
theorem dX15_entry_62 : decode cX15_entry 62 = .ok (.getfield 31, 3) := by decide +kernel
theorem dX15_entry_65 : decode cX15_entry 65 = .ok (.iload 4, 2) := by decide +kernel
theorem dX15_entry_67 : decode cX15_entry 67 = .ok (.baload, 1) := by decide +kernel
theorem dX15_entry_68 : decode cX15_entry 68 = .ok (.bipush 32, 2) := by decide +kernel
theorem dX15_entry_70 : decode cX15_entry 70 = .ok (.if_icmp .eq 9, 3) := by decide +kernel
theorem dX15_entry_73 : decode cX15_entry 73 = .ok (.iinc 4 1, 3) := by decide +kernel
theorem dX15_entry_76 : decode cX15_entry 76 = .ok (.goto (-26), 3) := by decide +kernel
theorem dX15_entry_79 : decode cX15_entry 79 = .ok (.iload 5, 2) := by decide +kernel
theorem dX15_entry_81 : decode cX15_entry 81 = .ok (.ifCond .eq 8, 3) := by decide +kernel
theorem dX15_entry_84 : decode cX15_entry 84 = .ok (.iload 4, 2) := by decide +kernel
theorem dX15_entry_86 : decode cX15_entry 86 = .ok (.goto 4, 3) := by decide +kernel
theorem dX15_entry_89 : decode cX15_entry 89 = .ok (.iload_n 3, 1) := by decide +kernel
theorem dX15_entry_90 : decode cX15_entry 90 = .ok (.istore 6, 2) := by decide +kernel
theorem dX15_entry_92 : decode cX15_entry 92 = .ok (.iload 5, 2) := by decide +kernel
theorem dX15_entry_94 : decode cX15_entry 94 = .ok (.ifCond .eq 9, 3) := by decide +kernel
theorem dX15_entry_97 : decode cX15_entry 97 = .ok (.iload 4, 2) := by decide +kernel
theorem dX15_entry_99 : decode cX15_entry 99 = .ok (.iload_n 3, 1) := by decide +kernel
theorem dX15_entry_100 : decode cX15_entry 100 = .ok (.if_icmp .eq 16, 3) := by decide +kernel
theorem dX15_entry_103 : decode cX15_entry 103 = .ok (.aload_n 0, 1) := by decide +kernel
theorem dX15_entry_104 : decode cX15_entry 104 = .ok (.getfield 31, 3) := by decide +kernel
theorem dX15_entry_107 : decode cX15_entry 107 = .ok (.iconst 0, 1) := by decide +kernel
theorem dX15_entry_108 : decode cX15_entry 108 = .ok (.iload 6, 2) := by decide +kernel
theorem dX15_entry_110 : decode cX15_entry 110 = .ok (.invokestatic 182, 3) := by decide +kernel
theorem dX15_entry_113 : decode cX15_entry 113 = .ok (.ifCond .ne 5, 3) := by decide +kernel
theorem dX15_entry_116 : decode cX15_entry 116 = .ok (.iconst (-1), 1) := by decide +kernel
theorem dX15_entry_117 : decode cX15_entry 117 = .ok (.ireturn, 1) := by decide +kernel
theorem dX15_entry_118 : decode cX15_entry 118 = .ok (.iload_n 1, 1) := by decide +kernel
theorem dX15_entry_119 : decode cX15_entry 119 = .ok (.iconst 2, 1) := by decide +kernel
theorem dX15_entry_120 : decode cX15_entry 120 = .ok (.if_icmp .ne 18, 3) := by decide +kernel
theorem dX15_entry_123 : decode cX15_entry 123 = .ok (.aload_n 0, 1) := by decide +kernel
theorem dX15_entry_124 : decode cX15_entry 124 = .ok (.getfield 31, 3) := by decide +kernel
theorem dX15_entry_127 : decode cX15_entry 127 = .ok (.iload 4, 2) := by decide +kernel
theorem dX15_entry_129 : decode cX15_entry 129 = .ok (.iconst 1, 1) := by decide +kernel
theorem dX15_entry_130 : decode cX15_entry 130 = .ok (.iadd, 1) := by decide +kernel
theorem dX15_entry_131 : decode cX15_entry 131 = .ok (.iload_n 3, 1) := by decide +kernel
theorem dX15_entry_132 : decode cX15_entry 132 = .ok (.invokestatic 182, 3) := by decide +kernel
theorem dX15_entry_135 : decode cX15_entry 135 = .ok (.ifCond .eq 19, 3) := by decide +kernel
theorem dX15_entry_138 : decode cX15_entry 138 = .ok (.iload_n 1, 1) := by decide +kernel
theorem dX15_entry_139 : decode cX15_entry 139 = .ok (.ifCond .ne 17, 3) := by decide +kernel
theorem dX15_entry_142 : decode cX15_entry 142 = .ok (.iload_n 3, 1) := by decide +kernel
theorem dX15_entry_143 : decode cX15_entry 143 = .ok (.iload 4, 2) := by decide +kernel
theorem dX15_entry_145 : decode cX15_entry 145 = .ok (.isub, 1) := by decide +kernel
theorem dX15_entry_146 : decode cX15_entry 146 = .ok (.iconst 1, 1) := by decide +kernel
theorem dX15_entry_147 : decode cX15_entry 147 = .ok (.isub, 1) := by decide +kernel
theorem dX15_entry_148 : decode cX15_entry 148 = .ok (.sipush 700, 3) := by decide +kernel
theorem dX15_entry_151 : decode cX15_entry 151 = .ok (.if_icmp .le 5, 3) := by decide +kernel
theorem dX15_entry_154 : decode cX15_entry 154 = .ok (.iconst (-1), 1) := by decide +kernel
theorem dX15_entry_155 : decode cX15_entry 155 = .ok (.ireturn, 1) := by decide +kernel
theorem dX15_entry_156 : decode cX15_entry 156 = .ok (.aload_n 0, 1) := by decide +kernel
theorem dX15_entry_157 : decode cX15_entry 157 = .ok (.getfield 38, 3) := by decide +kernel
theorem dX15_entry_160 : decode cX15_entry 160 = .ok (.aload_n 0, 1) := by decide +kernel
theorem dX15_entry_161 : decode cX15_entry 161 = .ok (.getfield 177, 3) := by decide +kernel
theorem dX15_entry_164 : decode cX15_entry 164 = .ok (.iload_n 1, 1) := by decide +kernel
theorem dX15_entry_165 : decode cX15_entry 165 = .ok (.iastore, 1) := by decide +kernel
theorem dX15_entry_166 : decode cX15_entry 166 = .ok (.aload_n 0, 1) := by decide +kernel
theorem dX15_entry_167 : decode cX15_entry 167 = .ok (.getfield 42, 3) := by decide +kernel
theorem dX15_entry_170 : decode cX15_entry 170 = .ok (.aload_n 0, 1) := by decide +kernel
theorem dX15_entry_171 : decode cX15_entry 171 = .ok (.getfield 177, 3) := by decide +kernel
theorem dX15_entry_174 : decode cX15_entry 174 = .ok (.iload_n 2, 1) := by decide +kernel
theorem dX15_entry_175 : decode cX15_entry 175 = .ok (.iastore, 1) := by decide +kernel
theorem dX15_entry_176 : decode cX15_entry 176 = .ok (.aload_n 0, 1) := by decide +kernel
theorem dX15_entry_177 : decode cX15_entry 177 = .ok (.getfield 47, 3) := by decide +kernel
theorem dX15_entry_180 : decode cX15_entry 180 = .ok (.aload_n 0, 1) := by decide +kernel
theorem dX15_entry_181 : decode cX15_entry 181 = .ok (.getfield 177, 3) := by decide +kernel
theorem dX15_entry_184 : decode cX15_entry 184 = .ok (.aaload, 1) := by decide +kernel
theorem dX15_entry_185 : decode cX15_entry 185 = .ok (.aload_n 0, 1) := by decide +kernel
theorem dX15_entry_186 : decode cX15_entry 186 = .ok (.getfield 31, 3) := by decide +kernel
theorem dX15_entry_189 : decode cX15_entry 189 = .ok (.iconst 0, 1) := by decide +kernel
theorem dX15_entry_190 : decode cX15_entry 190 = .ok (.iload 6, 2) := by decide +kernel
theorem dX15_entry_192 : decode cX15_entry 192 = .ok (.invokevirtual 186, 3) := by decide +kernel
theorem dX15_entry_195 : decode cX15_entry 195 = .ok (.aload_n 0, 1) := by decide +kernel
theorem dX15_entry_196 : decode cX15_entry 196 = .ok (.getfield 51, 3) := by decide +kernel
theorem dX15_entry_199 : decode cX15_entry 199 = .ok (.aload_n 0, 1) := by decide +kernel
theorem dX15_entry_200 : decode cX15_entry 200 = .ok (.getfield 177, 3) := by decide +kernel
theorem dX15_entry_203 : decode cX15_entry 203 = .ok (.aaload, 1) := by decide +kernel
theorem dX15_entry_204 : decode cX15_entry 204 = .ok (.iconst 0, 1) := by decide +kernel
theorem dX15_entry_205 : decode cX15_entry 205 = .ok (.putfield 190, 3) := by decide +kernel
theorem dX15_entry_208 : decode cX15_entry 208 = .ok (.iload 5, 2) := by decide +kernel
theorem dX15_entry_210 : decode cX15_entry 210 = .ok (.ifCond .eq 24, 3) := by decide +kernel
theorem dX15_entry_213 : decode cX15_entry 213 = .ok (.aload_n 0, 1) := by decide +kernel
theorem dX15_entry_214 : decode cX15_entry 214 = .ok (.getfield 51, 3) := by decide +kernel
theorem dX15_entry_217 : decode cX15_entry 217 = .ok (.aload_n 0, 1) := by decide +kernel
theorem dX15_entry_218 : decode cX15_entry 218 = .ok (.getfield 177, 3) := by decide +kernel
theorem dX15_entry_221 : decode cX15_entry 221 = .ok (.aaload, 1) := by decide +kernel
theorem dX15_entry_222 : decode cX15_entry 222 = .ok (.aload_n 0, 1) := by decide +kernel
theorem dX15_entry_223 : decode cX15_entry 223 = .ok (.getfield 31, 3) := by decide +kernel
theorem dX15_entry_226 : decode cX15_entry 226 = .ok (.iload 4, 2) := by decide +kernel
theorem dX15_entry_228 : decode cX15_entry 228 = .ok (.iconst 1, 1) := by decide +kernel
theorem dX15_entry_229 : decode cX15_entry 229 = .ok (.iadd, 1) := by decide +kernel
theorem dX15_entry_230 : decode cX15_entry 230 = .ok (.iload_n 3, 1) := by decide +kernel
theorem dX15_entry_231 : decode cX15_entry 231 = .ok (.invokevirtual 186, 3) := by decide +kernel
theorem dX15_entry_234 : decode cX15_entry 234 = .ok (.aload_n 0, 1) := by decide +kernel
theorem dX15_entry_235 : decode cX15_entry 235 = .ok (.dup, 1) := by decide +kernel
theorem dX15_entry_236 : decode cX15_entry 236 = .ok (.getfield 177, 3) := by decide +kernel
theorem dX15_entry_239 : decode cX15_entry 239 = .ok (.iconst 1, 1) := by decide +kernel
theorem dX15_entry_240 : decode cX15_entry 240 = .ok (.iadd, 1) := by decide +kernel
theorem dX15_entry_241 : decode cX15_entry 241 = .ok (.putfield 177, 3) := by decide +kernel
theorem dX15_entry_244 : decode cX15_entry 244 = .ok (.aload_n 0, 1) := by decide +kernel
theorem dX15_entry_245 : decode cX15_entry 245 = .ok (.getfield 177, 3) := by decide +kernel
theorem dX15_entry_248 : decode cX15_entry 248 = .ok (.ireturn, 1) := by decide +kernel
theorem dX15_feed_0 : decode cX15_feed 0 = .ok (.aload_n 0, 1) := by decide +kernel
theorem dX15_feed_1 : decode cX15_feed 1 = .ok (.getfield 166, 3) := by decide +kernel
theorem dX15_feed_4 : decode cX15_feed 4 = .ok (.bipush 20, 2) := by decide +kernel
theorem dX15_feed_6 : decode cX15_feed 6 = .ok (.iadd, 1) := by decide +kernel
theorem dX15_feed_7 : decode cX15_feed 7 = .ok (.sipush 3000, 3) := by decide +kernel
theorem dX15_feed_10 : decode cX15_feed 10 = .ok (.if_icmp .le 6, 3) := by decide +kernel
theorem dX15_feed_13 : decode cX15_feed 13 = .ok (.bipush (-3), 2) := by decide +kernel
theorem dX15_feed_15 : decode cX15_feed 15 = .ok (.ireturn, 1) := by decide +kernel
theorem dX15_feed_16 : decode cX15_feed 16 = .ok (.iconst 5, 1) := by decide +kernel
theorem dX15_feed_17 : decode cX15_feed 17 = .ok (.newarray .int, 2) := by decide +kernel
theorem dX15_feed_19 : decode cX15_feed 19 = .ok (.dup, 1) := by decide +kernel
theorem dX15_feed_20 : decode cX15_feed 20 = .ok (.iconst 0, 1) := by decide +kernel
theorem dX15_feed_21 : decode cX15_feed 21 = .ok (.iload_n 1, 1) := by decide +kernel
theorem dX15_feed_22 : decode cX15_feed 22 = .ok (.iastore, 1) := by decide +kernel
theorem dX15_feed_23 : decode cX15_feed 23 = .ok (.dup, 1) := by decide +kernel
theorem dX15_feed_24 : decode cX15_feed 24 = .ok (.iconst 1, 1) := by decide +kernel
theorem dX15_feed_25 : decode cX15_feed 25 = .ok (.iload_n 2, 1) := by decide +kernel
theorem dX15_feed_26 : decode cX15_feed 26 = .ok (.iastore, 1) := by decide +kernel
theorem dX15_feed_27 : decode cX15_feed 27 = .ok (.dup, 1) := by decide +kernel
theorem dX15_feed_28 : decode cX15_feed 28 = .ok (.iconst 2, 1) := by decide +kernel
theorem dX15_feed_29 : decode cX15_feed 29 = .ok (.iload_n 3, 1) := by decide +kernel
theorem dX15_feed_30 : decode cX15_feed 30 = .ok (.iastore, 1) := by decide +kernel
theorem dX15_feed_31 : decode cX15_feed 31 = .ok (.dup, 1) := by decide +kernel
theorem dX15_feed_32 : decode cX15_feed 32 = .ok (.iconst 3, 1) := by decide +kernel
theorem dX15_feed_33 : decode cX15_feed 33 = .ok (.iload 4, 2) := by decide +kernel
theorem dX15_feed_35 : decode cX15_feed 35 = .ok (.iastore, 1) := by decide +kernel
theorem dX15_feed_36 : decode cX15_feed 36 = .ok (.dup, 1) := by decide +kernel
theorem dX15_feed_37 : decode cX15_feed 37 = .ok (.iconst 4, 1) := by decide +kernel
theorem dX15_feed_38 : decode cX15_feed 38 = .ok (.iload 5, 2) := by decide +kernel
theorem dX15_feed_40 : decode cX15_feed 40 = .ok (.iastore, 1) := by decide +kernel
theorem dX15_feed_41 : decode cX15_feed 41 = .ok (.astore 6, 2) := by decide +kernel
theorem dX15_feed_43 : decode cX15_feed 43 = .ok (.iconst 0, 1) := by decide +kernel
theorem dX15_feed_44 : decode cX15_feed 44 = .ok (.istore 7, 2) := by decide +kernel
theorem dX15_feed_46 : decode cX15_feed 46 = .ok (.iload 7, 2) := by decide +kernel
theorem dX15_feed_48 : decode cX15_feed 48 = .ok (.bipush 20, 2) := by decide +kernel
theorem dX15_feed_50 : decode cX15_feed 50 = .ok (.if_icmp .ge 40, 3) := by decide +kernel
theorem dX15_feed_53 : decode cX15_feed 53 = .ok (.aload_n 0, 1) := by decide +kernel
theorem dX15_feed_54 : decode cX15_feed 54 = .ok (.getfield 31, 3) := by decide +kernel
theorem dX15_feed_57 : decode cX15_feed 57 = .ok (.aload_n 0, 1) := by decide +kernel
theorem dX15_feed_58 : decode cX15_feed 58 = .ok (.getfield 166, 3) := by decide +kernel
theorem dX15_feed_61 : decode cX15_feed 61 = .ok (.iload 7, 2) := by decide +kernel
theorem dX15_feed_63 : decode cX15_feed 63 = .ok (.iadd, 1) := by decide +kernel
theorem dX15_feed_64 : decode cX15_feed 64 = .ok (.aload 6, 2) := by decide +kernel
theorem dX15_feed_66 : decode cX15_feed 66 = .ok (.iload 7, 2) := by decide +kernel
theorem dX15_feed_68 : decode cX15_feed 68 = .ok (.iconst 4, 1) := by decide +kernel
theorem dX15_feed_69 : decode cX15_feed 69 = .ok (.idiv, 1) := by decide +kernel
theorem dX15_feed_70 : decode cX15_feed 70 = .ok (.iaload, 1) := by decide +kernel
theorem dX15_feed_71 : decode cX15_feed 71 = .ok (.bipush 24, 2) := by decide +kernel
theorem dX15_feed_73 : decode cX15_feed 73 = .ok (.bipush 8, 2) := by decide +kernel
theorem dX15_feed_75 : decode cX15_feed 75 = .ok (.iload 7, 2) := by decide +kernel
theorem dX15_feed_77 : decode cX15_feed 77 = .ok (.iconst 4, 1) := by decide +kernel
theorem dX15_feed_78 : decode cX15_feed 78 = .ok (.irem, 1) := by decide +kernel
theorem dX15_feed_79 : decode cX15_feed 79 = .ok (.imul, 1) := by decide +kernel
theorem dX15_feed_80 : decode cX15_feed 80 = .ok (.isub, 1) := by decide +kernel
theorem dX15_feed_81 : decode cX15_feed 81 = .ok (.ishr, 1) := by decide +kernel
theorem dX15_feed_82 : decode cX15_feed 82 = .ok (.i2b, 1) := by decide +kernel
theorem dX15_feed_83 : decode cX15_feed 83 = .ok (.bastore, 1) := by decide +kernel
theorem dX15_feed_84 : decode cX15_feed 84 = .ok (.iinc 7 1, 3) := by decide +kernel
theorem dX15_feed_87 : decode cX15_feed 87 = .ok (.goto (-41), 3) := by decide +kernel
theorem dX15_feed_90 : decode cX15_feed 90 = .ok (.aload_n 0, 1) := by decide +kernel
theorem dX15_feed_91 : decode cX15_feed 91 = .ok (.dup, 1) := by decide +kernel
theorem dX15_feed_92 : decode cX15_feed 92 = .ok (.getfield 166, 3) := by decide +kernel
theorem dX15_feed_95 : decode cX15_feed 95 = .ok (.bipush 20, 2) := by decide +kernel
theorem dX15_feed_97 : decode cX15_feed 97 = .ok (.iadd, 1) := by decide +kernel
theorem dX15_feed_98 : decode cX15_feed 98 = .ok (.putfield 166, 3) := by decide +kernel
theorem dX15_feed_101 : decode cX15_feed 101 = .ok (.aload_n 0, 1) := by decide +kernel
theorem dX15_feed_102 : decode cX15_feed 102 = .ok (.getfield 166, 3) := by decide +kernel
theorem dX15_feed_105 : decode cX15_feed 105 = .ok (.ireturn, 1) := by decide +kernel
theorem dX15_forget_0 : decode cX15_forget 0 = .ok (.aload_n 0, 1) := by decide +kernel
theorem dX15_forget_1 : decode cX15_forget 1 = .ok (.getfield 177, 3) := by decide +kernel
theorem dX15_forget_4 : decode cX15_forget 4 = .ok (.istore_n 1, 1) := by decide +kernel
theorem dX15_forget_5 : decode cX15_forget 5 = .ok (.aload_n 0, 1) := by decide +kernel
theorem dX15_forget_6 : decode cX15_forget 6 = .ok (.iconst 0, 1) := by decide +kernel
theorem dX15_forget_7 : decode cX15_forget 7 = .ok (.putfield 177, 3) := by decide +kernel
theorem dX15_forget_10 : decode cX15_forget 10 = .ok (.iload_n 1, 1) := by decide +kernel
theorem dX15_forget_11 : decode cX15_forget 11 = .ok (.ireturn, 1) := by decide +kernel
theorem dX15_house_0 : decode cX15_house 0 = .ok (.aload_n 0, 1) := by decide +kernel
theorem dX15_house_1 : decode cX15_house 1 = .ok (.invokevirtual 174, 3) := by decide +kernel
theorem dX15_house_4 : decode cX15_house 4 = .ok (.istore_n 1, 1) := by decide +kernel
theorem dX15_house_5 : decode cX15_house 5 = .ok (.aload_n 0, 1) := by decide +kernel
theorem dX15_house_6 : decode cX15_house 6 = .ok (.getfield 31, 3) := by decide +kernel
theorem dX15_house_9 : decode cX15_house 9 = .ok (.iconst 0, 1) := by decide +kernel
theorem dX15_house_10 : decode cX15_house 10 = .ok (.iload_n 1, 1) := by decide +kernel
theorem dX15_house_11 : decode cX15_house 11 = .ok (.invokestatic 182, 3) := by decide +kernel
theorem dX15_house_14 : decode cX15_house 14 = .ok (.ifCond .ne 5, 3) := by decide +kernel
theorem dX15_house_17 : decode cX15_house 17 = .ok (.iconst (-1), 1) := by decide +kernel
theorem dX15_house_18 : decode cX15_house 18 = .ok (.ireturn, 1) := by decide +kernel
theorem dX15_house_19 : decode cX15_house 19 = .ok (.aload_n 0, 1) := by decide +kernel
theorem dX15_house_20 : decode cX15_house 20 = .ok (.getfield 157, 3) := by decide +kernel
theorem dX15_house_23 : decode cX15_house 23 = .ok (.aload_n 0, 1) := by decide +kernel
theorem dX15_house_24 : decode cX15_house 24 = .ok (.getfield 31, 3) := by decide +kernel
theorem dX15_house_27 : decode cX15_house 27 = .ok (.iconst 0, 1) := by decide +kernel
theorem dX15_house_28 : decode cX15_house 28 = .ok (.iload_n 1, 1) := by decide +kernel
theorem dX15_house_29 : decode cX15_house 29 = .ok (.invokevirtual 186, 3) := by decide +kernel
theorem dX15_house_32 : decode cX15_house 32 = .ok (.aload_n 0, 1) := by decide +kernel
theorem dX15_house_33 : decode cX15_house 33 = .ok (.aload_n 0, 1) := by decide +kernel
theorem dX15_house_34 : decode cX15_house 34 = .ok (.getfield 157, 3) := by decide +kernel
theorem dX15_house_37 : decode cX15_house 37 = .ok (.aload_n 0, 1) := by decide +kernel
theorem dX15_house_38 : decode cX15_house 38 = .ok (.getfield 160, 3) := by decide +kernel
theorem dX15_house_41 : decode cX15_house 41 = .ok (.invokevirtual 565, 3) := by decide +kernel
theorem dX15_house_44 : decode cX15_house 44 = .ok (.aload_n 0, 1) := by decide +kernel
theorem dX15_house_45 : decode cX15_house 45 = .ok (.aload_n 0, 1) := by decide +kernel
theorem dX15_house_46 : decode cX15_house 46 = .ok (.getfield 160, 3) := by decide +kernel
theorem dX15_house_49 : decode cX15_house 49 = .ok (.invokevirtual 392, 3) := by decide +kernel
theorem dX15_house_52 : decode cX15_house 52 = .ok (.ireturn, 1) := by decide +kernel
theorem dX15_in_0 : decode cX15_in 0 = .ok (.lload_n 0, 1) := by decide +kernel
theorem dX15_in_1 : decode cX15_in 1 = .ok (.lload_n 2, 1) := by decide +kernel
theorem dX15_in_2 : decode cX15_in 2 = .ok (.lcmp, 1) := by decide +kernel
theorem dX15_in_3 : decode cX15_in 3 = .ok (.ifCond .lt 14, 3) := by decide +kernel
theorem dX15_in_6 : decode cX15_in 6 = .ok (.lload_n 0, 1) := by decide +kernel
theorem dX15_in_7 : decode cX15_in 7 = .ok (.lload 4, 2) := by decide +kernel
theorem dX15_in_9 : decode cX15_in 9 = .ok (.lcmp, 1) := by decide +kernel
theorem dX15_in_10 : decode cX15_in 10 = .ok (.ifCond .gt 7, 3) := by decide +kernel
theorem dX15_in_13 : decode cX15_in 13 = .ok (.iconst 1, 1) := by decide +kernel
theorem dX15_in_14 : decode cX15_in 14 = .ok (.goto 4, 3) := by decide +kernel
theorem dX15_in_17 : decode cX15_in 17 = .ok (.iconst 0, 1) := by decide +kernel
theorem dX15_in_18 : decode cX15_in 18 = .ok (.ireturn, 1) := by decide +kernel
theorem dX15_message_0 : decode cX15_message 0 = .ok (.aload_n 0, 1) := by decide +kernel
theorem dX15_message_1 : decode cX15_message 1 = .ok (.invokevirtual 174, 3) := by decide +kernel
theorem dX15_message_4 : decode cX15_message 4 = .ok (.istore_n 1, 1) := by decide +kernel
theorem dX15_message_5 : decode cX15_message 5 = .ok (.iconst 0, 1) := by decide +kernel
theorem dX15_message_6 : decode cX15_message 6 = .ok (.istore_n 2, 1) := by decide +kernel
theorem dX15_message_7 : decode cX15_message 7 = .ok (.iconst 0, 1) := by decide +kernel
theorem dX15_message_8 : decode cX15_message 8 = .ok (.istore_n 3, 1) := by decide +kernel
theorem dX15_message_9 : decode cX15_message 9 = .ok (.iload_n 1, 1) := by decide +kernel
theorem dX15_message_10 : decode cX15_message 10 = .ok (.istore 4, 2) := by decide +kernel
theorem dX15_message_12 : decode cX15_message 12 = .ok (.iconst 1, 1) := by decide +kernel
theorem dX15_message_13 : decode cX15_message 13 = .ok (.istore 5, 2) := by decide +kernel
theorem dX15_message_15 : decode cX15_message 15 = .ok (.iload 5, 2) := by decide +kernel
theorem dX15_message_17 : decode cX15_message 17 = .ok (.ifCond .eq 200, 3) := by decide +kernel
theorem dX15_message_20 : decode cX15_message 20 = .ok (.iload_n 3, 1) := by decide +kernel
theorem dX15_message_21 : decode cX15_message 21 = .ok (.iload_n 1, 1) := by decide +kernel
theorem dX15_message_22 : decode cX15_message 22 = .ok (.if_icmp .ge 195, 3) := by decide +kernel
theorem dX15_message_25 : decode cX15_message 25 = .ok (.aload_n 0, 1) := by decide +kernel
theorem dX15_message_26 : decode cX15_message 26 = .ok (.getfield 31, 3) := by decide +kernel
theorem dX15_message_29 : decode cX15_message 29 = .ok (.iload_n 3, 1) := by decide +kernel
theorem dX15_message_30 : decode cX15_message 30 = .ok (.iload_n 1, 1) := by decide +kernel
theorem dX15_message_31 : decode cX15_message 31 = .ok (.invokestatic 344, 3) := by decide +kernel
theorem dX15_message_34 : decode cX15_message 34 = .ok (.istore 6, 2) := by decide +kernel
theorem dX15_message_36 : decode cX15_message 36 = .ok (.aload_n 0, 1) := by decide +kernel
theorem dX15_message_37 : decode cX15_message 37 = .ok (.getfield 31, 3) := by decide +kernel
theorem dX15_message_40 : decode cX15_message 40 = .ok (.iload_n 3, 1) := by decide +kernel
theorem dX15_message_41 : decode cX15_message 41 = .ok (.baload, 1) := by decide +kernel
theorem dX15_message_42 : decode cX15_message 42 = .ok (.bipush 10, 2) := by decide +kernel
theorem dX15_message_44 : decode cX15_message 44 = .ok (.if_icmp .ne 14, 3) := by decide +kernel
theorem dX15_message_47 : decode cX15_message 47 = .ok (.iload_n 3, 1) := by decide +kernel
theorem dX15_message_48 : decode cX15_message 48 = .ok (.iconst 1, 1) := by decide +kernel
theorem dX15_message_49 : decode cX15_message 49 = .ok (.iadd, 1) := by decide +kernel
theorem dX15_message_50 : decode cX15_message 50 = .ok (.istore 4, 2) := by decide +kernel
theorem dX15_message_52 : decode cX15_message 52 = .ok (.iconst 0, 1) := by decide +kernel
theorem dX15_message_53 : decode cX15_message 53 = .ok (.istore 5, 2) := by decide +kernel
theorem dX15_message_55 : decode cX15_message 55 = .ok (.goto 156, 3) := by decide +kernel
theorem dX15_message_58 : decode cX15_message 58 = .ok (.aload_n 0, 1) := by decide +kernel
theorem dX15_message_59 : decode cX15_message 59 = .ok (.getfield 31, 3) := by decide +kernel
theorem dX15_message_62 : decode cX15_message 62 = .ok (.iload_n 3, 1) := by decide +kernel
theorem dX15_message_63 : decode cX15_message 63 = .ok (.baload, 1) := by decide +kernel
theorem dX15_message_64 : decode cX15_message 64 = .ok (.invokestatic 347, 3) := by decide +kernel
theorem dX15_message_67 : decode cX15_message 67 = .ok (.ifCond .eq 22, 3) := by decide +kernel
theorem dX15_message_70 : decode cX15_message 70 = .ok (.iload_n 2, 1) := by decide +kernel
theorem dX15_message_71 : decode cX15_message 71 = .ok (.ifCond .ne 5, 3) := by decide +kernel
theorem dX15_message_74 : decode cX15_message 74 = .ok (.iconst (-1), 1) := by decide +kernel
theorem dX15_message_75 : decode cX15_message 75 = .ok (.ireturn, 1) := by decide +kernel
theorem dX15_message_76 : decode cX15_message 76 = .ok (.aload_n 0, 1) := by decide +kernel
theorem dX15_message_77 : decode cX15_message 77 = .ok (.getfield 88, 3) := by decide +kernel
theorem dX15_message_80 : decode cX15_message 80 = .ok (.iload_n 2, 1) := by decide +kernel
theorem dX15_message_81 : decode cX15_message 81 = .ok (.iconst 1, 1) := by decide +kernel
theorem dX15_message_82 : decode cX15_message 82 = .ok (.isub, 1) := by decide +kernel
theorem dX15_message_83 : decode cX15_message 83 = .ok (.iload 6, 2) := by decide +kernel
theorem dX15_message_85 : decode cX15_message 85 = .ok (.iastore, 1) := by decide +kernel
theorem dX15_message_86 : decode cX15_message 86 = .ok (.goto 125, 3) := by decide +kernel
theorem dX15_message_89 : decode cX15_message 89 = .ok (.iload_n 3, 1) := by decide +kernel
theorem dX15_message_90 : decode cX15_message 90 = .ok (.istore 7, 2) := by decide +kernel
theorem dX15_message_92 : decode cX15_message 92 = .ok (.iload 7, 2) := by decide +kernel
theorem dX15_message_94 : decode cX15_message 94 = .ok (.iload 6, 2) := by decide +kernel
theorem dX15_message_96 : decode cX15_message 96 = .ok (.if_icmp .ge 47, 3) := by decide +kernel
theorem dX15_message_99 : decode cX15_message 99 = .ok (.aload_n 0, 1) := by decide +kernel
theorem dX15_message_100 : decode cX15_message 100 = .ok (.getfield 31, 3) := by decide +kernel
theorem dX15_message_103 : decode cX15_message 103 = .ok (.iload 7, 2) := by decide +kernel
theorem dX15_message_105 : decode cX15_message 105 = .ok (.baload, 1) := by decide +kernel
theorem dX15_message_106 : decode cX15_message 106 = .ok (.invokestatic 350, 3) := by decide +kernel
theorem dX15_message_109 : decode cX15_message 109 = .ok (.ifCond .ne 28, 3) := by decide +kernel
theorem dX15_message_112 : decode cX15_message 112 = .ok (.aload_n 0, 1) := by decide +kernel
theorem dX15_message_113 : decode cX15_message 113 = .ok (.getfield 31, 3) := by decide +kernel
theorem dX15_message_116 : decode cX15_message 116 = .ok (.iload 7, 2) := by decide +kernel
theorem dX15_message_118 : decode cX15_message 118 = .ok (.baload, 1) := by decide +kernel
theorem dX15_message_119 : decode cX15_message 119 = .ok (.invokestatic 202, 3) := by decide +kernel
theorem dX15_message_122 : decode cX15_message 122 = .ok (.ifCond .ne 15, 3) := by decide +kernel
theorem dX15_message_125 : decode cX15_message 125 = .ok (.aload_n 0, 1) := by decide +kernel
theorem dX15_message_126 : decode cX15_message 126 = .ok (.getfield 31, 3) := by decide +kernel
theorem dX15_message_129 : decode cX15_message 129 = .ok (.iload 7, 2) := by decide +kernel
theorem dX15_message_131 : decode cX15_message 131 = .ok (.baload, 1) := by decide +kernel
theorem dX15_message_132 : decode cX15_message 132 = .ok (.bipush 45, 2) := by decide +kernel
theorem dX15_message_134 : decode cX15_message 134 = .ok (.if_icmp .ne 9, 3) := by decide +kernel
theorem dX15_message_137 : decode cX15_message 137 = .ok (.iinc 7 1, 3) := by decide +kernel
theorem dX15_message_140 : decode cX15_message 140 = .ok (.goto (-48), 3) := by decide +kernel
theorem dX15_message_143 : decode cX15_message 143 = .ok (.iload 7, 2) := by decide +kernel
theorem dX15_message_145 : decode cX15_message 145 = .ok (.iload_n 3, 1) := by decide +kernel
theorem dX15_message_146 : decode cX15_message 146 = .ok (.isub, 1) := by decide +kernel
theorem dX15_message_147 : decode cX15_message 147 = .ok (.i2l, 1) := by decide +kernel
theorem dX15_message_148 : decode cX15_message 148 = .ok (.lconst 1, 1) := by decide +kernel
theorem dX15_message_149 : decode cX15_message 149 = .ok (.ldc2_w 353, 3) := by decide +kernel
theorem dX15_message_152 : decode cX15_message 152 = .ok (.invokestatic 170, 3) := by decide +kernel
theorem dX15_message_155 : decode cX15_message 155 = .ok (.ifCond .eq 28, 3) := by decide +kernel
theorem dX15_message_158 : decode cX15_message 158 = .ok (.iload 7, 2) := by decide +kernel
theorem dX15_message_160 : decode cX15_message 160 = .ok (.iload 6, 2) := by decide +kernel
theorem dX15_message_162 : decode cX15_message 162 = .ok (.if_icmp .eq 21, 3) := by decide +kernel
theorem dX15_message_165 : decode cX15_message 165 = .ok (.aload_n 0, 1) := by decide +kernel
theorem dX15_message_166 : decode cX15_message 166 = .ok (.getfield 31, 3) := by decide +kernel
theorem dX15_message_169 : decode cX15_message 169 = .ok (.iload 7, 2) := by decide +kernel
theorem dX15_message_171 : decode cX15_message 171 = .ok (.baload, 1) := by decide +kernel
theorem dX15_message_172 : decode cX15_message 172 = .ok (.bipush 58, 2) := by decide +kernel
theorem dX15_message_174 : decode cX15_message 174 = .ok (.if_icmp .ne 9, 3) := by decide +kernel
theorem dX15_message_177 : decode cX15_message 177 = .ok (.iload_n 2, 1) := by decide +kernel
theorem dX15_message_178 : decode cX15_message 178 = .ok (.bipush 20, 2) := by decide +kernel
theorem dX15_message_180 : decode cX15_message 180 = .ok (.if_icmp .ne 5, 3) := by decide +kernel
theorem dX15_message_183 : decode cX15_message 183 = .ok (.iconst (-1), 1) := by decide +kernel
theorem dX15_message_184 : decode cX15_message 184 = .ok (.ireturn, 1) := by decide +kernel
theorem dX15_message_185 : decode cX15_message 185 = .ok (.aload_n 0, 1) := by decide +kernel
theorem dX15_message_186 : decode cX15_message 186 = .ok (.getfield 82, 3) := by decide +kernel
theorem dX15_message_189 : decode cX15_message 189 = .ok (.iload_n 2, 1) := by decide +kernel
theorem dX15_message_190 : decode cX15_message 190 = .ok (.iload_n 3, 1) := by decide +kernel
theorem dX15_message_191 : decode cX15_message 191 = .ok (.iastore, 1) := by decide +kernel
theorem dX15_message_192 : decode cX15_message 192 = .ok (.aload_n 0, 1) := by decide +kernel
theorem dX15_message_193 : decode cX15_message 193 = .ok (.getfield 85, 3) := by decide +kernel
theorem dX15_message_196 : decode cX15_message 196 = .ok (.iload_n 2, 1) := by decide +kernel
theorem dX15_message_197 : decode cX15_message 197 = .ok (.iload 7, 2) := by decide +kernel
theorem dX15_message_199 : decode cX15_message 199 = .ok (.iastore, 1) := by decide +kernel
theorem dX15_message_200 : decode cX15_message 200 = .ok (.aload_n 0, 1) := by decide +kernel
theorem dX15_message_201 : decode cX15_message 201 = .ok (.getfield 88, 3) := by decide +kernel
theorem dX15_message_204 : decode cX15_message 204 = .ok (.iload_n 2, 1) := by decide +kernel
theorem dX15_message_205 : decode cX15_message 205 = .ok (.iload 6, 2) := by decide +kernel
theorem dX15_message_207 : decode cX15_message 207 = .ok (.iastore, 1) := by decide +kernel
theorem dX15_message_208 : decode cX15_message 208 = .ok (.iinc 2 1, 3) := by decide +kernel
theorem dX15_message_211 : decode cX15_message 211 = .ok (.iload 6, 2) := by decide +kernel
theorem dX15_message_213 : decode cX15_message 213 = .ok (.istore_n 3, 1) := by decide +kernel
theorem dX15_message_214 : decode cX15_message 214 = .ok (.goto (-199), 3) := by decide +kernel
theorem dX15_message_217 : decode cX15_message 217 = .ok (.iload_n 2, 1) := by decide +kernel
theorem dX15_message_218 : decode cX15_message 218 = .ok (.ifCond .ne 5, 3) := by decide +kernel
theorem dX15_message_221 : decode cX15_message 221 = .ok (.iconst (-1), 1) := by decide +kernel
theorem dX15_message_222 : decode cX15_message 222 = .ok (.ireturn, 1) := by decide +kernel
theorem dX15_message_223 : decode cX15_message 223 = .ok (.aload_n 0, 1) := by decide +kernel
theorem dX15_message_224 : decode cX15_message 224 = .ok (.iload_n 2, 1) := by decide +kernel
theorem dX15_message_225 : decode cX15_message 225 = .ok (.putfield 355, 3) := by decide +kernel
theorem dX15_message_228 : decode cX15_message 228 = .ok (.aload_n 0, 1) := by decide +kernel
theorem dX15_message_229 : decode cX15_message 229 = .ok (.getfield 82, 3) := by decide +kernel
theorem dX15_message_232 : decode cX15_message 232 = .ok (.iconst 0, 1) := by decide +kernel
theorem dX15_message_233 : decode cX15_message 233 = .ok (.aload_n 0, 1) := by decide +kernel
theorem dX15_message_234 : decode cX15_message 234 = .ok (.getfield 73, 3) := by decide +kernel
theorem dX15_message_237 : decode cX15_message 237 = .ok (.iconst 0, 1) := by decide +kernel
theorem dX15_message_238 : decode cX15_message 238 = .ok (.iload_n 2, 1) := by decide +kernel
theorem dX15_message_239 : decode cX15_message 239 = .ok (.invokestatic 358, 3) := by decide +kernel
theorem dX15_message_242 : decode cX15_message 242 = .ok (.aload_n 0, 1) := by decide +kernel
theorem dX15_message_243 : decode cX15_message 243 = .ok (.getfield 85, 3) := by decide +kernel
theorem dX15_message_246 : decode cX15_message 246 = .ok (.iconst 0, 1) := by decide +kernel
theorem dX15_message_247 : decode cX15_message 247 = .ok (.aload_n 0, 1) := by decide +kernel
theorem dX15_message_248 : decode cX15_message 248 = .ok (.getfield 76, 3) := by decide +kernel
theorem dX15_message_251 : decode cX15_message 251 = .ok (.iconst 0, 1) := by decide +kernel
theorem dX15_message_252 : decode cX15_message 252 = .ok (.iload_n 2, 1) := by decide +kernel
theorem dX15_message_253 : decode cX15_message 253 = .ok (.invokestatic 358, 3) := by decide +kernel
theorem dX15_message_256 : decode cX15_message 256 = .ok (.aload_n 0, 1) := by decide +kernel
theorem dX15_message_257 : decode cX15_message 257 = .ok (.getfield 88, 3) := by decide +kernel
theorem dX15_message_260 : decode cX15_message 260 = .ok (.iconst 0, 1) := by decide +kernel
theorem dX15_message_261 : decode cX15_message 261 = .ok (.aload_n 0, 1) := by decide +kernel
theorem dX15_message_262 : decode cX15_message 262 = .ok (.getfield 79, 3) := by decide +kernel
theorem dX15_message_265 : decode cX15_message 265 = .ok (.iconst 0, 1) := by decide +kernel
theorem dX15_message_266 : decode cX15_message 266 = .ok (.iload_n 2, 1) := by decide +kernel
theorem dX15_message_267 : decode cX15_message 267 = .ok (.invokestatic 358, 3) := by decide +kernel
theorem dX15_message_270 : decode cX15_message 270 = .ok (.aload_n 0, 1) := by decide +kernel
theorem dX15_message_271 : decode cX15_message 271 = .ok (.getfield 31, 3) := by decide +kernel
theorem dX15_message_274 : decode cX15_message 274 = .ok (.iconst 0, 1) := by decide +kernel
theorem dX15_message_275 : decode cX15_message 275 = .ok (.aload_n 0, 1) := by decide +kernel
theorem dX15_message_276 : decode cX15_message 276 = .ok (.getfield 70, 3) := by decide +kernel
theorem dX15_message_279 : decode cX15_message 279 = .ok (.iconst 0, 1) := by decide +kernel
theorem dX15_message_280 : decode cX15_message 280 = .ok (.iload_n 1, 1) := by decide +kernel
theorem dX15_message_281 : decode cX15_message 281 = .ok (.invokestatic 358, 3) := by decide +kernel
theorem dX15_message_284 : decode cX15_message 284 = .ok (.aload_n 0, 1) := by decide +kernel
theorem dX15_message_285 : decode cX15_message 285 = .ok (.iload 4, 2) := by decide +kernel
theorem dX15_message_287 : decode cX15_message 287 = .ok (.putfield 364, 3) := by decide +kernel
theorem dX15_message_290 : decode cX15_message 290 = .ok (.aload_n 0, 1) := by decide +kernel
theorem dX15_message_291 : decode cX15_message 291 = .ok (.iload_n 1, 1) := by decide +kernel
theorem dX15_message_292 : decode cX15_message 292 = .ok (.putfield 367, 3) := by decide +kernel
theorem dX15_message_295 : decode cX15_message 295 = .ok (.aload_n 0, 1) := by decide +kernel
theorem dX15_message_296 : decode cX15_message 296 = .ok (.iconst 1, 1) := by decide +kernel
theorem dX15_message_297 : decode cX15_message 297 = .ok (.putfield 370, 3) := by decide +kernel
theorem dX15_message_300 : decode cX15_message 300 = .ok (.iload_n 2, 1) := by decide +kernel
theorem dX15_message_301 : decode cX15_message 301 = .ok (.ireturn, 1) := by decide +kernel
theorem dX15_octet_0 : decode cX15_octet 0 = .ok (.iload_n 1, 1) := by decide +kernel
theorem dX15_octet_1 : decode cX15_octet 1 = .ok (.i2l, 1) := by decide +kernel
theorem dX15_octet_2 : decode cX15_octet 2 = .ok (.ldc2_w 603, 3) := by decide +kernel
theorem dX15_octet_5 : decode cX15_octet 5 = .ok (.aload_n 0, 1) := by decide +kernel
theorem dX15_octet_6 : decode cX15_octet 6 = .ok (.getfield 385, 3) := by decide +kernel
theorem dX15_octet_9 : decode cX15_octet 9 = .ok (.iconst 1, 1) := by decide +kernel
theorem dX15_octet_10 : decode cX15_octet 10 = .ok (.isub, 1) := by decide +kernel
theorem dX15_octet_11 : decode cX15_octet 11 = .ok (.i2l, 1) := by decide +kernel
theorem dX15_octet_12 : decode cX15_octet 12 = .ok (.invokestatic 170, 3) := by decide +kernel
theorem dX15_octet_15 : decode cX15_octet 15 = .ok (.ifCond .ne 6, 3) := by decide +kernel
theorem dX15_octet_18 : decode cX15_octet 18 = .ok (.bipush (-2), 2) := by decide +kernel
theorem dX15_octet_20 : decode cX15_octet 20 = .ok (.ireturn, 1) := by decide +kernel
theorem dX15_octet_21 : decode cX15_octet 21 = .ok (.iload_n 1, 1) := by decide +kernel
theorem dX15_octet_22 : decode cX15_octet 22 = .ok (.ifCond .ge 10, 3) := by decide +kernel
theorem dX15_octet_25 : decode cX15_octet 25 = .ok (.aload_n 0, 1) := by decide +kernel
theorem dX15_octet_26 : decode cX15_octet 26 = .ok (.getfield 385, 3) := by decide +kernel
theorem dX15_octet_29 : decode cX15_octet 29 = .ok (.goto 13, 3) := by decide +kernel
theorem dX15_octet_32 : decode cX15_octet 32 = .ok (.aload_n 0, 1) := by decide +kernel
theorem dX15_octet_33 : decode cX15_octet 33 = .ok (.getfield 35, 3) := by decide +kernel
theorem dX15_octet_36 : decode cX15_octet 36 = .ok (.iload_n 1, 1) := by decide +kernel
theorem dX15_octet_37 : decode cX15_octet 37 = .ok (.baload, 1) := by decide +kernel
theorem dX15_octet_38 : decode cX15_octet 38 = .ok (.sipush 255, 3) := by decide +kernel
theorem dX15_octet_41 : decode cX15_octet 41 = .ok (.iand, 1) := by decide +kernel
theorem dX15_octet_42 : decode cX15_octet 42 = .ok (.ireturn, 1) := by decide +kernel
theorem dX15_permission_0 : decode cX15_permission 0 = .ok (.aload_n 0, 1) := by decide +kernel
theorem dX15_permission_1 : decode cX15_permission 1 = .ok (.getfield 208, 3) := by decide +kernel
theorem dX15_permission_4 : decode cX15_permission 4 = .ok (.ifCond .ne 5, 3) := by decide +kernel
theorem dX15_permission_7 : decode cX15_permission 7 = .ok (.iconst (-1), 1) := by decide +kernel
theorem dX15_permission_8 : decode cX15_permission 8 = .ok (.ireturn, 1) := by decide +kernel
theorem dX15_permission_9 : decode cX15_permission 9 = .ok (.aload_n 0, 1) := by decide +kernel
theorem dX15_permission_10 : decode cX15_permission 10 = .ok (.iconst 0, 1) := by decide +kernel
theorem dX15_permission_11 : decode cX15_permission 11 = .ok (.putfield 212, 3) := by decide +kernel
theorem dX15_permission_14 : decode cX15_permission 14 = .ok (.aload_n 0, 1) := by decide +kernel
theorem dX15_permission_15 : decode cX15_permission 15 = .ok (.iconst 0, 1) := by decide +kernel
theorem dX15_permission_16 : decode cX15_permission 16 = .ok (.putfield 215, 3) := by decide +kernel
theorem dX15_permission_19 : decode cX15_permission 19 = .ok (.aload_n 0, 1) := by decide +kernel
theorem dX15_permission_20 : decode cX15_permission 20 = .ok (.aload_n 0, 1) := by decide +kernel
theorem dX15_permission_21 : decode cX15_permission 21 = .ok (.getfield 61, 3) := by decide +kernel
theorem dX15_permission_24 : decode cX15_permission 24 = .ok (.iconst 0, 1) := by decide +kernel
theorem dX15_permission_25 : decode cX15_permission 25 = .ok (.invokevirtual 218, 3) := by decide +kernel
theorem dX15_permission_28 : decode cX15_permission 28 = .ok (.ireturn, 1) := by decide +kernel
theorem dX15_plainBody_0 : decode cX15_plainBody 0 = .ok (.aload_n 0, 1) := by decide +kernel
theorem dX15_plainBody_1 : decode cX15_plainBody 1 = .ok (.getfield 370, 3) := by decide +kernel
theorem dX15_plainBody_4 : decode cX15_plainBody 4 = .ok (.ifCond .ne 6, 3) := by decide +kernel
theorem dX15_plainBody_7 : decode cX15_plainBody 7 = .ok (.bipush (-2), 2) := by decide +kernel
theorem dX15_plainBody_9 : decode cX15_plainBody 9 = .ok (.ireturn, 1) := by decide +kernel
theorem dX15_plainBody_10 : decode cX15_plainBody 10 = .ok (.aload_n 0, 1) := by decide +kernel
theorem dX15_plainBody_11 : decode cX15_plainBody 11 = .ok (.iload_n 1, 1) := by decide +kernel
theorem dX15_plainBody_12 : decode cX15_plainBody 12 = .ok (.invokevirtual 388, 3) := by decide +kernel
theorem dX15_plainBody_15 : decode cX15_plainBody 15 = .ok (.aload_n 0, 1) := by decide +kernel
theorem dX15_plainBody_16 : decode cX15_plainBody 16 = .ok (.aload_n 0, 1) := by decide +kernel
theorem dX15_plainBody_17 : decode cX15_plainBody 17 = .ok (.getfield 91, 3) := by decide +kernel
theorem dX15_plainBody_20 : decode cX15_plainBody 20 = .ok (.invokevirtual 392, 3) := by decide +kernel
theorem dX15_plainBody_23 : decode cX15_plainBody 23 = .ok (.ireturn, 1) := by decide +kernel
theorem dX15_plainField_0 : decode cX15_plainField 0 = .ok (.aload_n 0, 1) := by decide +kernel
theorem dX15_plainField_1 : decode cX15_plainField 1 = .ok (.getfield 370, 3) := by decide +kernel
theorem dX15_plainField_4 : decode cX15_plainField 4 = .ok (.ifCond .eq 19, 3) := by decide +kernel
theorem dX15_plainField_7 : decode cX15_plainField 7 = .ok (.iload_n 1, 1) := by decide +kernel
theorem dX15_plainField_8 : decode cX15_plainField 8 = .ok (.i2l, 1) := by decide +kernel
theorem dX15_plainField_9 : decode cX15_plainField 9 = .ok (.lconst 0, 1) := by decide +kernel
theorem dX15_plainField_10 : decode cX15_plainField 10 = .ok (.aload_n 0, 1) := by decide +kernel
theorem dX15_plainField_11 : decode cX15_plainField 11 = .ok (.getfield 355, 3) := by decide +kernel
theorem dX15_plainField_14 : decode cX15_plainField 14 = .ok (.iconst 1, 1) := by decide +kernel
theorem dX15_plainField_15 : decode cX15_plainField 15 = .ok (.isub, 1) := by decide +kernel
theorem dX15_plainField_16 : decode cX15_plainField 16 = .ok (.i2l, 1) := by decide +kernel
theorem dX15_plainField_17 : decode cX15_plainField 17 = .ok (.invokestatic 170, 3) := by decide +kernel
theorem dX15_plainField_20 : decode cX15_plainField 20 = .ok (.ifCond .ne 6, 3) := by decide +kernel
theorem dX15_plainField_23 : decode cX15_plainField 23 = .ok (.bipush (-2), 2) := by decide +kernel
theorem dX15_plainField_25 : decode cX15_plainField 25 = .ok (.ireturn, 1) := by decide +kernel
theorem dX15_plainField_26 : decode cX15_plainField 26 = .ok (.aload_n 0, 1) := by decide +kernel
theorem dX15_plainField_27 : decode cX15_plainField 27 = .ok (.getfield 91, 3) := by decide +kernel
theorem dX15_plainField_30 : decode cX15_plainField 30 = .ok (.iconst 0, 1) := by decide +kernel
theorem dX15_plainField_31 : decode cX15_plainField 31 = .ok (.putfield 190, 3) := by decide +kernel
theorem dX15_plainField_34 : decode cX15_plainField 34 = .ok (.aload_n 0, 1) := by decide +kernel
theorem dX15_plainField_35 : decode cX15_plainField 35 = .ok (.iload_n 1, 1) := by decide +kernel
theorem dX15_plainField_36 : decode cX15_plainField 36 = .ok (.iload_n 2, 1) := by decide +kernel
theorem dX15_plainField_37 : decode cX15_plainField 37 = .ok (.iconst 0, 1) := by decide +kernel
theorem dX15_plainField_38 : decode cX15_plainField 38 = .ok (.iconst 0, 1) := by decide +kernel
theorem dX15_plainField_39 : decode cX15_plainField 39 = .ok (.invokevirtual 395, 3) := by decide +kernel
theorem dX15_plainField_42 : decode cX15_plainField 42 = .ok (.aload_n 0, 1) := by decide +kernel
theorem dX15_plainField_43 : decode cX15_plainField 43 = .ok (.aload_n 0, 1) := by decide +kernel
theorem dX15_plainField_44 : decode cX15_plainField 44 = .ok (.getfield 91, 3) := by decide +kernel
theorem dX15_plainField_47 : decode cX15_plainField 47 = .ok (.invokevirtual 392, 3) := by decide +kernel
theorem dX15_plainField_50 : decode cX15_plainField 50 = .ok (.ireturn, 1) := by decide +kernel
theorem dX15_sealAt_0 : decode cX15_sealAt 0 = .ok (.iload_n 1, 1) := by decide +kernel
theorem dX15_sealAt_1 : decode cX15_sealAt 1 = .ok (.istore_n 2, 1) := by decide +kernel
theorem dX15_sealAt_2 : decode cX15_sealAt 2 = .ok (.iconst 0, 1) := by decide +kernel
theorem dX15_sealAt_3 : decode cX15_sealAt 3 = .ok (.istore_n 3, 1) := by decide +kernel
theorem dX15_sealAt_4 : decode cX15_sealAt 4 = .ok (.aload_n 0, 1) := by decide +kernel
theorem dX15_sealAt_5 : decode cX15_sealAt 5 = .ok (.getfield 370, 3) := by decide +kernel
theorem dX15_sealAt_8 : decode cX15_sealAt 8 = .ok (.ifCond .eq 44, 3) := by decide +kernel
theorem dX15_sealAt_11 : decode cX15_sealAt 11 = .ok (.iload_n 1, 1) := by decide +kernel
theorem dX15_sealAt_12 : decode cX15_sealAt 12 = .ok (.ifCond .lt 40, 3) := by decide +kernel
theorem dX15_sealAt_15 : decode cX15_sealAt 15 = .ok (.iload_n 3, 1) := by decide +kernel
theorem dX15_sealAt_16 : decode cX15_sealAt 16 = .ok (.aload_n 0, 1) := by decide +kernel
theorem dX15_sealAt_17 : decode cX15_sealAt 17 = .ok (.getfield 355, 3) := by decide +kernel
theorem dX15_sealAt_20 : decode cX15_sealAt 20 = .ok (.if_icmp .ge 32, 3) := by decide +kernel
theorem dX15_sealAt_23 : decode cX15_sealAt 23 = .ok (.aload_n 0, 1) := by decide +kernel
theorem dX15_sealAt_24 : decode cX15_sealAt 24 = .ok (.iload_n 3, 1) := by decide +kernel
theorem dX15_sealAt_25 : decode cX15_sealAt 25 = .ok (.ldc_w 376, 3) := by decide +kernel
theorem dX15_sealAt_28 : decode cX15_sealAt 28 = .ok (.invokevirtual 378, 3) := by decide +kernel
theorem dX15_sealAt_31 : decode cX15_sealAt 31 = .ok (.ifCond .ne 6, 3) := by decide +kernel
theorem dX15_sealAt_34 : decode cX15_sealAt 34 = .ok (.goto 12, 3) := by decide +kernel
theorem dX15_sealAt_37 : decode cX15_sealAt 37 = .ok (.iload_n 2, 1) := by decide +kernel
theorem dX15_sealAt_38 : decode cX15_sealAt 38 = .ok (.ifCond .ne 5, 3) := by decide +kernel
theorem dX15_sealAt_41 : decode cX15_sealAt 41 = .ok (.iload_n 3, 1) := by decide +kernel
theorem dX15_sealAt_42 : decode cX15_sealAt 42 = .ok (.ireturn, 1) := by decide +kernel
theorem dX15_sealAt_43 : decode cX15_sealAt 43 = .ok (.iinc 2 (-1), 3) := by decide +kernel
theorem dX15_sealAt_46 : decode cX15_sealAt 46 = .ok (.iinc 3 1, 3) := by decide +kernel
theorem dX15_sealAt_49 : decode cX15_sealAt 49 = .ok (.goto (-45), 3) := by decide +kernel
theorem dX15_sealAt_52 : decode cX15_sealAt 52 = .ok (.iconst (-1), 1) := by decide +kernel
theorem dX15_sealAt_53 : decode cX15_sealAt 53 = .ok (.ireturn, 1) := by decide +kernel
theorem dX15_sealed_0 : decode cX15_sealed 0 = .ok (.iload_n 2, 1) := by decide +kernel
theorem dX15_sealed_1 : decode cX15_sealed 1 = .ok (.ifCond .ge 5, 3) := by decide +kernel
theorem dX15_sealed_4 : decode cX15_sealed 4 = .ok (.iconst (-1), 1) := by decide +kernel
theorem dX15_sealed_5 : decode cX15_sealed 5 = .ok (.ireturn, 1) := by decide +kernel
theorem dX15_sealed_6 : decode cX15_sealed 6 = .ok (.aload_n 0, 1) := by decide +kernel
theorem dX15_sealed_7 : decode cX15_sealed 7 = .ok (.iload_n 1, 1) := by decide +kernel
theorem dX15_sealed_8 : decode cX15_sealed 8 = .ok (.invokevirtual 501, 3) := by decide +kernel
theorem dX15_sealed_11 : decode cX15_sealed 11 = .ok (.istore_n 3, 1) := by decide +kernel
theorem dX15_sealed_12 : decode cX15_sealed 12 = .ok (.iload_n 3, 1) := by decide +kernel
theorem dX15_sealed_13 : decode cX15_sealed 13 = .ok (.ifCond .ge 8, 3) := by decide +kernel
theorem dX15_sealed_16 : decode cX15_sealed 16 = .ok (.bipush (-2), 2) := by decide +kernel
theorem dX15_sealed_18 : decode cX15_sealed 18 = .ok (.goto 9, 3) := by decide +kernel
theorem dX15_sealed_21 : decode cX15_sealed 21 = .ok (.aload_n 0, 1) := by decide +kernel
theorem dX15_sealed_22 : decode cX15_sealed 22 = .ok (.iload_n 3, 1) := by decide +kernel
theorem dX15_sealed_23 : decode cX15_sealed 23 = .ok (.iload_n 2, 1) := by decide +kernel
theorem dX15_sealed_24 : decode cX15_sealed 24 = .ok (.invokevirtual 504, 3) := by decide +kernel
theorem dX15_sealed_27 : decode cX15_sealed 27 = .ok (.ireturn, 1) := by decide +kernel
theorem dX15_seals_0 : decode cX15_seals 0 = .ok (.iconst 0, 1) := by decide +kernel
theorem dX15_seals_1 : decode cX15_seals 1 = .ok (.istore_n 1, 1) := by decide +kernel
theorem dX15_seals_2 : decode cX15_seals 2 = .ok (.iconst 0, 1) := by decide +kernel
theorem dX15_seals_3 : decode cX15_seals 3 = .ok (.istore_n 2, 1) := by decide +kernel
theorem dX15_seals_4 : decode cX15_seals 4 = .ok (.aload_n 0, 1) := by decide +kernel
theorem dX15_seals_5 : decode cX15_seals 5 = .ok (.getfield 370, 3) := by decide +kernel
theorem dX15_seals_8 : decode cX15_seals 8 = .ok (.ifCond .eq 31, 3) := by decide +kernel
theorem dX15_seals_11 : decode cX15_seals 11 = .ok (.iload_n 2, 1) := by decide +kernel
theorem dX15_seals_12 : decode cX15_seals 12 = .ok (.aload_n 0, 1) := by decide +kernel
theorem dX15_seals_13 : decode cX15_seals 13 = .ok (.getfield 355, 3) := by decide +kernel
theorem dX15_seals_16 : decode cX15_seals 16 = .ok (.if_icmp .ge 23, 3) := by decide +kernel
theorem dX15_seals_19 : decode cX15_seals 19 = .ok (.aload_n 0, 1) := by decide +kernel
theorem dX15_seals_20 : decode cX15_seals 20 = .ok (.iload_n 2, 1) := by decide +kernel
theorem dX15_seals_21 : decode cX15_seals 21 = .ok (.ldc_w 376, 3) := by decide +kernel
theorem dX15_seals_24 : decode cX15_seals 24 = .ok (.invokevirtual 378, 3) := by decide +kernel
theorem dX15_seals_27 : decode cX15_seals 27 = .ok (.ifCond .eq 6, 3) := by decide +kernel
theorem dX15_seals_30 : decode cX15_seals 30 = .ok (.iinc 1 1, 3) := by decide +kernel
theorem dX15_seals_33 : decode cX15_seals 33 = .ok (.iinc 2 1, 3) := by decide +kernel
theorem dX15_seals_36 : decode cX15_seals 36 = .ok (.goto (-32), 3) := by decide +kernel
theorem dX15_seals_39 : decode cX15_seals 39 = .ok (.iload_n 1, 1) := by decide +kernel
theorem dX15_seals_40 : decode cX15_seals 40 = .ok (.ireturn, 1) := by decide +kernel
theorem dX15_sender_0 : decode cX15_sender 0 = .ok (.aload_n 0, 1) := by decide +kernel
theorem dX15_sender_1 : decode cX15_sender 1 = .ok (.invokevirtual 174, 3) := by decide +kernel
theorem dX15_sender_4 : decode cX15_sender 4 = .ok (.istore_n 2, 1) := by decide +kernel
theorem dX15_sender_5 : decode cX15_sender 5 = .ok (.iconst 0, 1) := by decide +kernel
theorem dX15_sender_6 : decode cX15_sender 6 = .ok (.istore_n 3, 1) := by decide +kernel
theorem dX15_sender_7 : decode cX15_sender 7 = .ok (.iload_n 3, 1) := by decide +kernel
theorem dX15_sender_8 : decode cX15_sender 8 = .ok (.iload_n 2, 1) := by decide +kernel
theorem dX15_sender_9 : decode cX15_sender 9 = .ok (.if_icmp .ge 20, 3) := by decide +kernel
theorem dX15_sender_12 : decode cX15_sender 12 = .ok (.aload_n 0, 1) := by decide +kernel
theorem dX15_sender_13 : decode cX15_sender 13 = .ok (.getfield 31, 3) := by decide +kernel
theorem dX15_sender_16 : decode cX15_sender 16 = .ok (.iload_n 3, 1) := by decide +kernel
theorem dX15_sender_17 : decode cX15_sender 17 = .ok (.baload, 1) := by decide +kernel
theorem dX15_sender_18 : decode cX15_sender 18 = .ok (.bipush 64, 2) := by decide +kernel
theorem dX15_sender_20 : decode cX15_sender 20 = .ok (.if_icmp .eq 9, 3) := by decide +kernel
theorem dX15_sender_23 : decode cX15_sender 23 = .ok (.iinc 3 1, 3) := by decide +kernel
theorem dX15_sender_26 : decode cX15_sender 26 = .ok (.goto (-19), 3) := by decide +kernel
theorem dX15_sender_29 : decode cX15_sender 29 = .ok (.iload_n 3, 1) := by decide +kernel
theorem dX15_sender_30 : decode cX15_sender 30 = .ok (.iload_n 2, 1) := by decide +kernel
theorem dX15_sender_31 : decode cX15_sender 31 = .ok (.if_icmp .eq 29, 3) := by decide +kernel
theorem dX15_sender_34 : decode cX15_sender 34 = .ok (.iload_n 3, 1) := by decide +kernel
theorem dX15_sender_35 : decode cX15_sender 35 = .ok (.i2l, 1) := by decide +kernel
theorem dX15_sender_36 : decode cX15_sender 36 = .ok (.lconst 1, 1) := by decide +kernel
theorem dX15_sender_37 : decode cX15_sender 37 = .ok (.ldc2_w 200, 3) := by decide +kernel
theorem dX15_sender_40 : decode cX15_sender 40 = .ok (.invokestatic 170, 3) := by decide +kernel
theorem dX15_sender_43 : decode cX15_sender 43 = .ok (.ifCond .eq 17, 3) := by decide +kernel
theorem dX15_sender_46 : decode cX15_sender 46 = .ok (.aload_n 0, 1) := by decide +kernel
theorem dX15_sender_47 : decode cX15_sender 47 = .ok (.getfield 31, 3) := by decide +kernel
theorem dX15_sender_50 : decode cX15_sender 50 = .ok (.iload_n 3, 1) := by decide +kernel
theorem dX15_sender_51 : decode cX15_sender 51 = .ok (.iconst 1, 1) := by decide +kernel
theorem dX15_sender_52 : decode cX15_sender 52 = .ok (.iadd, 1) := by decide +kernel
theorem dX15_sender_53 : decode cX15_sender 53 = .ok (.iload_n 2, 1) := by decide +kernel
theorem dX15_sender_54 : decode cX15_sender 54 = .ok (.invokestatic 182, 3) := by decide +kernel
theorem dX15_sender_57 : decode cX15_sender 57 = .ok (.ifCond .ne 5, 3) := by decide +kernel
theorem dX15_sender_60 : decode cX15_sender 60 = .ok (.iconst (-1), 1) := by decide +kernel
theorem dX15_sender_61 : decode cX15_sender 61 = .ok (.ireturn, 1) := by decide +kernel
theorem dX15_sender_62 : decode cX15_sender 62 = .ok (.iconst 0, 1) := by decide +kernel
theorem dX15_sender_63 : decode cX15_sender 63 = .ok (.istore 4, 2) := by decide +kernel
theorem dX15_sender_65 : decode cX15_sender 65 = .ok (.iload 4, 2) := by decide +kernel
theorem dX15_sender_67 : decode cX15_sender 67 = .ok (.iload_n 3, 1) := by decide +kernel
theorem dX15_sender_68 : decode cX15_sender 68 = .ok (.if_icmp .ge 64, 3) := by decide +kernel
theorem dX15_sender_71 : decode cX15_sender 71 = .ok (.aload_n 0, 1) := by decide +kernel
theorem dX15_sender_72 : decode cX15_sender 72 = .ok (.getfield 31, 3) := by decide +kernel
theorem dX15_sender_75 : decode cX15_sender 75 = .ok (.iload 4, 2) := by decide +kernel
theorem dX15_sender_77 : decode cX15_sender 77 = .ok (.baload, 1) := by decide +kernel
theorem dX15_sender_78 : decode cX15_sender 78 = .ok (.istore 5, 2) := by decide +kernel
theorem dX15_sender_80 : decode cX15_sender 80 = .ok (.iload 5, 2) := by decide +kernel
theorem dX15_sender_82 : decode cX15_sender 82 = .ok (.invokestatic 3, 3) := by decide +kernel
theorem dX15_sender_85 : decode cX15_sender 85 = .ok (.ifCond .ne 41, 3) := by decide +kernel
theorem dX15_sender_88 : decode cX15_sender 88 = .ok (.iload 5, 2) := by decide +kernel
theorem dX15_sender_90 : decode cX15_sender 90 = .ok (.invokestatic 202, 3) := by decide +kernel
theorem dX15_sender_93 : decode cX15_sender 93 = .ok (.ifCond .ne 33, 3) := by decide +kernel
theorem dX15_sender_96 : decode cX15_sender 96 = .ok (.iload 5, 2) := by decide +kernel
theorem dX15_sender_98 : decode cX15_sender 98 = .ok (.bipush 46, 2) := by decide +kernel
theorem dX15_sender_100 : decode cX15_sender 100 = .ok (.if_icmp .eq 26, 3) := by decide +kernel
theorem dX15_sender_103 : decode cX15_sender 103 = .ok (.iload 5, 2) := by decide +kernel
theorem dX15_sender_105 : decode cX15_sender 105 = .ok (.bipush 45, 2) := by decide +kernel
theorem dX15_sender_107 : decode cX15_sender 107 = .ok (.if_icmp .eq 19, 3) := by decide +kernel
theorem dX15_sender_110 : decode cX15_sender 110 = .ok (.iload 5, 2) := by decide +kernel
theorem dX15_sender_112 : decode cX15_sender 112 = .ok (.bipush 95, 2) := by decide +kernel
theorem dX15_sender_114 : decode cX15_sender 114 = .ok (.if_icmp .eq 12, 3) := by decide +kernel
theorem dX15_sender_117 : decode cX15_sender 117 = .ok (.iload 5, 2) := by decide +kernel
theorem dX15_sender_119 : decode cX15_sender 119 = .ok (.bipush 43, 2) := by decide +kernel
theorem dX15_sender_121 : decode cX15_sender 121 = .ok (.if_icmp .eq 5, 3) := by decide +kernel
theorem dX15_sender_124 : decode cX15_sender 124 = .ok (.iconst (-1), 1) := by decide +kernel
theorem dX15_sender_125 : decode cX15_sender 125 = .ok (.ireturn, 1) := by decide +kernel
theorem dX15_sender_126 : decode cX15_sender 126 = .ok (.iinc 4 1, 3) := by decide +kernel
theorem dX15_sender_129 : decode cX15_sender 129 = .ok (.goto (-64), 3) := by decide +kernel
theorem dX15_sender_132 : decode cX15_sender 132 = .ok (.aload_n 0, 1) := by decide +kernel
theorem dX15_sender_133 : decode cX15_sender 133 = .ok (.getfield 57, 3) := by decide +kernel
theorem dX15_sender_136 : decode cX15_sender 136 = .ok (.aload_n 0, 1) := by decide +kernel
theorem dX15_sender_137 : decode cX15_sender 137 = .ok (.getfield 31, 3) := by decide +kernel
theorem dX15_sender_140 : decode cX15_sender 140 = .ok (.iconst 0, 1) := by decide +kernel
theorem dX15_sender_141 : decode cX15_sender 141 = .ok (.iload_n 3, 1) := by decide +kernel
theorem dX15_sender_142 : decode cX15_sender 142 = .ok (.invokevirtual 186, 3) := by decide +kernel
theorem dX15_sender_145 : decode cX15_sender 145 = .ok (.aload_n 0, 1) := by decide +kernel
theorem dX15_sender_146 : decode cX15_sender 146 = .ok (.getfield 61, 3) := by decide +kernel
theorem dX15_sender_149 : decode cX15_sender 149 = .ok (.aload_n 0, 1) := by decide +kernel
theorem dX15_sender_150 : decode cX15_sender 150 = .ok (.getfield 31, 3) := by decide +kernel
theorem dX15_sender_153 : decode cX15_sender 153 = .ok (.iload_n 3, 1) := by decide +kernel
theorem dX15_sender_154 : decode cX15_sender 154 = .ok (.iconst 1, 1) := by decide +kernel
theorem dX15_sender_155 : decode cX15_sender 155 = .ok (.iadd, 1) := by decide +kernel
theorem dX15_sender_156 : decode cX15_sender 156 = .ok (.iload_n 2, 1) := by decide +kernel
theorem dX15_sender_157 : decode cX15_sender 157 = .ok (.invokevirtual 186, 3) := by decide +kernel
theorem dX15_sender_160 : decode cX15_sender 160 = .ok (.aload_n 0, 1) := by decide +kernel
theorem dX15_sender_161 : decode cX15_sender 161 = .ok (.iload_n 1, 1) := by decide +kernel
theorem dX15_sender_162 : decode cX15_sender 162 = .ok (.putfield 205, 3) := by decide +kernel
theorem dX15_sender_165 : decode cX15_sender 165 = .ok (.aload_n 0, 1) := by decide +kernel
theorem dX15_sender_166 : decode cX15_sender 166 = .ok (.iconst 1, 1) := by decide +kernel
theorem dX15_sender_167 : decode cX15_sender 167 = .ok (.putfield 208, 3) := by decide +kernel
theorem dX15_sender_170 : decode cX15_sender 170 = .ok (.iconst 0, 1) := by decide +kernel
theorem dX15_sender_171 : decode cX15_sender 171 = .ok (.ireturn, 1) := by decide +kernel
theorem dX15_used_0 : decode cX15_used 0 = .ok (.aload_n 0, 1) := by decide +kernel
theorem dX15_used_1 : decode cX15_used 1 = .ok (.getfield 166, 3) := by decide +kernel
theorem dX15_used_4 : decode cX15_used 4 = .ok (.istore_n 1, 1) := by decide +kernel
theorem dX15_used_5 : decode cX15_used 5 = .ok (.aload_n 0, 1) := by decide +kernel
theorem dX15_used_6 : decode cX15_used 6 = .ok (.iconst 0, 1) := by decide +kernel
theorem dX15_used_7 : decode cX15_used 7 = .ok (.putfield 166, 3) := by decide +kernel
theorem dX15_used_10 : decode cX15_used 10 = .ok (.iload_n 1, 1) := by decide +kernel
theorem dX15_used_11 : decode cX15_used 11 = .ok (.ireturn, 1) := by decide +kernel
theorem dX15_wish_0 : decode cX15_wish 0 = .ok (.aload_n 0, 1) := by decide +kernel
theorem dX15_wish_1 : decode cX15_wish 1 = .ok (.getfield 208, 3) := by decide +kernel
theorem dX15_wish_4 : decode cX15_wish 4 = .ok (.ifCond .eq 7, 3) := by decide +kernel
theorem dX15_wish_7 : decode cX15_wish 7 = .ok (.iload_n 1, 1) := by decide +kernel
theorem dX15_wish_8 : decode cX15_wish 8 = .ok (.ifCond .ge 5, 3) := by decide +kernel
theorem dX15_wish_11 : decode cX15_wish 11 = .ok (.iconst (-1), 1) := by decide +kernel
theorem dX15_wish_12 : decode cX15_wish 12 = .ok (.ireturn, 1) := by decide +kernel
theorem dX15_wish_13 : decode cX15_wish 13 = .ok (.aload_n 0, 1) := by decide +kernel
theorem dX15_wish_14 : decode cX15_wish 14 = .ok (.getfield 370, 3) := by decide +kernel
theorem dX15_wish_17 : decode cX15_wish 17 = .ok (.ifCond .ne 6, 3) := by decide +kernel
theorem dX15_wish_20 : decode cX15_wish 20 = .ok (.bipush (-2), 2) := by decide +kernel
theorem dX15_wish_22 : decode cX15_wish 22 = .ok (.ireturn, 1) := by decide +kernel
theorem dX15_wish_23 : decode cX15_wish 23 = .ok (.aload_n 0, 1) := by decide +kernel
theorem dX15_wish_24 : decode cX15_wish 24 = .ok (.invokevirtual 581, 3) := by decide +kernel
theorem dX15_wish_27 : decode cX15_wish 27 = .ok (.ifCond .ne 5, 3) := by decide +kernel
theorem dX15_wish_30 : decode cX15_wish 30 = .ok (.iconst 1, 1) := by decide +kernel
theorem dX15_wish_31 : decode cX15_wish 31 = .ok (.ireturn, 1) := by decide +kernel
theorem dX15_wish_32 : decode cX15_wish 32 = .ok (.iconst 1, 1) := by decide +kernel
theorem dX15_wish_33 : decode cX15_wish 33 = .ok (.istore_n 2, 1) := by decide +kernel
theorem dX15_wish_34 : decode cX15_wish 34 = .ok (.aload_n 0, 1) := by decide +kernel
theorem dX15_wish_35 : decode cX15_wish 35 = .ok (.aload_n 0, 1) := by decide +kernel
theorem dX15_wish_36 : decode cX15_wish 36 = .ok (.getfield 157, 3) := by decide +kernel
theorem dX15_wish_39 : decode cX15_wish 39 = .ok (.invokevirtual 584, 3) := by decide +kernel
theorem dX15_wish_42 : decode cX15_wish 42 = .ok (.istore_n 3, 1) := by decide +kernel
theorem dX15_wish_43 : decode cX15_wish 43 = .ok (.iload_n 3, 1) := by decide +kernel
theorem dX15_wish_44 : decode cX15_wish 44 = .ok (.iconst (-1), 1) := by decide +kernel
theorem dX15_wish_45 : decode cX15_wish 45 = .ok (.if_icmp .ne 26, 3) := by decide +kernel
theorem dX15_wish_48 : decode cX15_wish 48 = .ok (.iconst 0, 1) := by decide +kernel
theorem dX15_wish_49 : decode cX15_wish 49 = .ok (.istore_n 2, 1) := by decide +kernel
theorem dX15_wish_50 : decode cX15_wish 50 = .ok (.aload_n 0, 1) := by decide +kernel
theorem dX15_wish_51 : decode cX15_wish 51 = .ok (.aload_n 0, 1) := by decide +kernel
theorem dX15_wish_52 : decode cX15_wish 52 = .ok (.getfield 157, 3) := by decide +kernel
theorem dX15_wish_55 : decode cX15_wish 55 = .ok (.aload_n 0, 1) := by decide +kernel
theorem dX15_wish_56 : decode cX15_wish 56 = .ok (.getfield 160, 3) := by decide +kernel
theorem dX15_wish_59 : decode cX15_wish 59 = .ok (.invokevirtual 565, 3) := by decide +kernel
theorem dX15_wish_62 : decode cX15_wish 62 = .ok (.aload_n 0, 1) := by decide +kernel
theorem dX15_wish_63 : decode cX15_wish 63 = .ok (.aload_n 0, 1) := by decide +kernel
theorem dX15_wish_64 : decode cX15_wish 64 = .ok (.getfield 160, 3) := by decide +kernel
theorem dX15_wish_67 : decode cX15_wish 67 = .ok (.invokevirtual 584, 3) := by decide +kernel
theorem dX15_wish_70 : decode cX15_wish 70 = .ok (.istore_n 3, 1) := by decide +kernel
theorem dX15_wish_71 : decode cX15_wish 71 = .ok (.iload_n 3, 1) := by decide +kernel
theorem dX15_wish_72 : decode cX15_wish 72 = .ok (.ifCond .ge 15, 3) := by decide +kernel
theorem dX15_wish_75 : decode cX15_wish 75 = .ok (.iload_n 3, 1) := by decide +kernel
theorem dX15_wish_76 : decode cX15_wish 76 = .ok (.bipush (-2), 2) := by decide +kernel
theorem dX15_wish_78 : decode cX15_wish 78 = .ok (.if_icmp .ne 7, 3) := by decide +kernel
theorem dX15_wish_81 : decode cX15_wish 81 = .ok (.iconst 5, 1) := by decide +kernel
theorem dX15_wish_82 : decode cX15_wish 82 = .ok (.goto 4, 3) := by decide +kernel
theorem dX15_wish_85 : decode cX15_wish 85 = .ok (.iconst 0, 1) := by decide +kernel
theorem dX15_wish_86 : decode cX15_wish 86 = .ok (.ireturn, 1) := by decide +kernel
theorem dX15_wish_87 : decode cX15_wish 87 = .ok (.aload_n 0, 1) := by decide +kernel
theorem dX15_wish_88 : decode cX15_wish 88 = .ok (.getfield 51, 3) := by decide +kernel
theorem dX15_wish_91 : decode cX15_wish 91 = .ok (.iload_n 3, 1) := by decide +kernel
theorem dX15_wish_92 : decode cX15_wish 92 = .ok (.aaload, 1) := by decide +kernel
theorem dX15_wish_93 : decode cX15_wish 93 = .ok (.getfield 295, 3) := by decide +kernel
theorem dX15_wish_96 : decode cX15_wish 96 = .ok (.iconst 0, 1) := by decide +kernel
theorem dX15_wish_97 : decode cX15_wish 97 = .ok (.aload_n 0, 1) := by decide +kernel
theorem dX15_wish_98 : decode cX15_wish 98 = .ok (.getfield 51, 3) := by decide +kernel
theorem dX15_wish_101 : decode cX15_wish 101 = .ok (.iload_n 3, 1) := by decide +kernel
theorem dX15_wish_102 : decode cX15_wish 102 = .ok (.aaload, 1) := by decide +kernel
theorem dX15_wish_103 : decode cX15_wish 103 = .ok (.getfield 190, 3) := by decide +kernel
theorem dX15_wish_106 : decode cX15_wish 106 = .ok (.aload_n 0, 1) := by decide +kernel
theorem dX15_wish_107 : decode cX15_wish 107 = .ok (.getfield 104, 3) := by decide +kernel
theorem dX15_wish_110 : decode cX15_wish 110 = .ok (.getfield 409, 3) := by decide +kernel
theorem dX15_wish_113 : decode cX15_wish 113 = .ok (.invokestatic 507, 3) := by decide +kernel
theorem dX15_wish_116 : decode cX15_wish 116 = .ok (.aload_n 0, 1) := by decide +kernel
theorem dX15_wish_117 : decode cX15_wish 117 = .ok (.getfield 104, 3) := by decide +kernel
theorem dX15_wish_120 : decode cX15_wish 120 = .ok (.bipush 8, 2) := by decide +kernel
theorem dX15_wish_122 : decode cX15_wish 122 = .ok (.invokevirtual 441, 3) := by decide +kernel
theorem dX15_wish_125 : decode cX15_wish 125 = .ok (.ifCond .ne 6, 3) := by decide +kernel
theorem dX15_wish_128 : decode cX15_wish 128 = .ok (.bipush 6, 2) := by decide +kernel
theorem dX15_wish_130 : decode cX15_wish 130 = .ok (.ireturn, 1) := by decide +kernel
theorem dX15_wish_131 : decode cX15_wish 131 = .ok (.aload_n 0, 1) := by decide +kernel
theorem dX15_wish_132 : decode cX15_wish 132 = .ok (.getfield 104, 3) := by decide +kernel
theorem dX15_wish_135 : decode cX15_wish 135 = .ok (.ldc_w 533, 3) := by decide +kernel
theorem dX15_wish_138 : decode cX15_wish 138 = .ok (.invokestatic 587, 3) := by decide +kernel
theorem dX15_wish_141 : decode cX15_wish 141 = .ok (.istore 4, 2) := by decide +kernel
theorem dX15_wish_143 : decode cX15_wish 143 = .ok (.iload 4, 2) := by decide +kernel
theorem dX15_wish_145 : decode cX15_wish 145 = .ok (.bipush 6, 2) := by decide +kernel
theorem dX15_wish_147 : decode cX15_wish 147 = .ok (.if_icmp .ne 6, 3) := by decide +kernel
theorem dX15_wish_150 : decode cX15_wish 150 = .ok (.bipush 6, 2) := by decide +kernel
theorem dX15_wish_152 : decode cX15_wish 152 = .ok (.ireturn, 1) := by decide +kernel
theorem dX15_wish_153 : decode cX15_wish 153 = .ok (.iload_n 2, 1) := by decide +kernel
theorem dX15_wish_154 : decode cX15_wish 154 = .ok (.ifCond .ne 38, 3) := by decide +kernel
theorem dX15_wish_157 : decode cX15_wish 157 = .ok (.aload_n 0, 1) := by decide +kernel
theorem dX15_wish_158 : decode cX15_wish 158 = .ok (.getfield 104, 3) := by decide +kernel
theorem dX15_wish_161 : decode cX15_wish 161 = .ok (.ldc_w 590, 3) := by decide +kernel
theorem dX15_wish_164 : decode cX15_wish 164 = .ok (.invokevirtual 399, 3) := by decide +kernel
theorem dX15_wish_167 : decode cX15_wish 167 = .ok (.ifCond .lt 25, 3) := by decide +kernel
theorem dX15_wish_170 : decode cX15_wish 170 = .ok (.aload_n 0, 1) := by decide +kernel
theorem dX15_wish_171 : decode cX15_wish 171 = .ok (.getfield 104, 3) := by decide +kernel
theorem dX15_wish_174 : decode cX15_wish 174 = .ok (.ldc_w 590, 3) := by decide +kernel
theorem dX15_wish_177 : decode cX15_wish 177 = .ok (.invokestatic 587, 3) := by decide +kernel
theorem dX15_wish_180 : decode cX15_wish 180 = .ok (.istore 4, 2) := by decide +kernel
theorem dX15_wish_182 : decode cX15_wish 182 = .ok (.iload 4, 2) := by decide +kernel
theorem dX15_wish_184 : decode cX15_wish 184 = .ok (.bipush 6, 2) := by decide +kernel
theorem dX15_wish_186 : decode cX15_wish 186 = .ok (.if_icmp .ne 6, 3) := by decide +kernel
theorem dX15_wish_189 : decode cX15_wish 189 = .ok (.bipush 6, 2) := by decide +kernel
theorem dX15_wish_191 : decode cX15_wish 191 = .ok (.ireturn, 1) := by decide +kernel
theorem dX15_wish_192 : decode cX15_wish 192 = .ok (.aload_n 0, 1) := by decide +kernel
theorem dX15_wish_193 : decode cX15_wish 193 = .ok (.invokevirtual 592, 3) := by decide +kernel
theorem dX15_wish_196 : decode cX15_wish 196 = .ok (.iconst 2, 1) := by decide +kernel
theorem dX15_wish_197 : decode cX15_wish 197 = .ok (.if_icmp .ne 33, 3) := by decide +kernel
theorem dX15_wish_200 : decode cX15_wish 200 = .ok (.aload_n 0, 1) := by decide +kernel
theorem dX15_wish_201 : decode cX15_wish 201 = .ok (.aload_n 0, 1) := by decide +kernel
theorem dX15_wish_202 : decode cX15_wish 202 = .ok (.getfield 61, 3) := by decide +kernel
theorem dX15_wish_205 : decode cX15_wish 205 = .ok (.aload_n 0, 1) := by decide +kernel
theorem dX15_wish_206 : decode cX15_wish 206 = .ok (.getfield 157, 3) := by decide +kernel
theorem dX15_wish_209 : decode cX15_wish 209 = .ok (.aload_n 0, 1) := by decide +kernel
theorem dX15_wish_210 : decode cX15_wish 210 = .ok (.getfield 104, 3) := by decide +kernel
theorem dX15_wish_213 : decode cX15_wish 213 = .ok (.ldc_w 595, 3) := by decide +kernel
theorem dX15_wish_216 : decode cX15_wish 216 = .ok (.ldc_w 460, 3) := by decide +kernel
theorem dX15_wish_219 : decode cX15_wish 219 = .ok (.invokevirtual 448, 3) := by decide +kernel
theorem dX15_wish_222 : decode cX15_wish 222 = .ok (.invokevirtual 597, 3) := by decide +kernel
theorem dX15_wish_225 : decode cX15_wish 225 = .ok (.ifCond .eq 5, 3) := by decide +kernel
theorem dX15_wish_228 : decode cX15_wish 228 = .ok (.iconst 2, 1) := by decide +kernel
theorem dX15_wish_229 : decode cX15_wish 229 = .ok (.ireturn, 1) := by decide +kernel
theorem dX15_wish_230 : decode cX15_wish 230 = .ok (.iconst 0, 1) := by decide +kernel
theorem dX15_wish_231 : decode cX15_wish 231 = .ok (.istore 5, 2) := by decide +kernel
theorem dX15_wish_233 : decode cX15_wish 233 = .ok (.iload 5, 2) := by decide +kernel
theorem dX15_wish_235 : decode cX15_wish 235 = .ok (.aload_n 0, 1) := by decide +kernel
theorem dX15_wish_236 : decode cX15_wish 236 = .ok (.getfield 355, 3) := by decide +kernel
theorem dX15_wish_239 : decode cX15_wish 239 = .ok (.if_icmp .ge 65, 3) := by decide +kernel
theorem dX15_wish_242 : decode cX15_wish 242 = .ok (.aload_n 0, 1) := by decide +kernel
theorem dX15_wish_243 : decode cX15_wish 243 = .ok (.iload 5, 2) := by decide +kernel
theorem dX15_wish_245 : decode cX15_wish 245 = .ok (.ldc_w 376, 3) := by decide +kernel
theorem dX15_wish_248 : decode cX15_wish 248 = .ok (.invokevirtual 378, 3) := by decide +kernel
theorem dX15_wish_251 : decode cX15_wish 251 = .ok (.ifCond .eq 47, 3) := by decide +kernel
theorem dX15_wish_254 : decode cX15_wish 254 = .ok (.aload_n 0, 1) := by decide +kernel
theorem dX15_wish_255 : decode cX15_wish 255 = .ok (.iload 5, 2) := by decide +kernel
theorem dX15_wish_257 : decode cX15_wish 257 = .ok (.iload_n 1, 1) := by decide +kernel
theorem dX15_wish_258 : decode cX15_wish 258 = .ok (.invokevirtual 504, 3) := by decide +kernel
theorem dX15_wish_261 : decode cX15_wish 261 = .ok (.iconst 2, 1) := by decide +kernel
theorem dX15_wish_262 : decode cX15_wish 262 = .ok (.if_icmp .eq 6, 3) := by decide +kernel
theorem dX15_wish_265 : decode cX15_wish 265 = .ok (.goto 33, 3) := by decide +kernel
theorem dX15_wish_268 : decode cX15_wish 268 = .ok (.aload_n 0, 1) := by decide +kernel
theorem dX15_wish_269 : decode cX15_wish 269 = .ok (.aload_n 0, 1) := by decide +kernel
theorem dX15_wish_270 : decode cX15_wish 270 = .ok (.getfield 147, 3) := by decide +kernel
theorem dX15_wish_273 : decode cX15_wish 273 = .ok (.aload_n 0, 1) := by decide +kernel
theorem dX15_wish_274 : decode cX15_wish 274 = .ok (.getfield 157, 3) := by decide +kernel
theorem dX15_wish_277 : decode cX15_wish 277 = .ok (.aload_n 0, 1) := by decide +kernel
theorem dX15_wish_278 : decode cX15_wish 278 = .ok (.getfield 104, 3) := by decide +kernel
theorem dX15_wish_281 : decode cX15_wish 281 = .ok (.ldc_w 601, 3) := by decide +kernel
theorem dX15_wish_284 : decode cX15_wish 284 = .ok (.ldc_w 460, 3) := by decide +kernel
theorem dX15_wish_287 : decode cX15_wish 287 = .ok (.invokevirtual 448, 3) := by decide +kernel
theorem dX15_wish_290 : decode cX15_wish 290 = .ok (.invokevirtual 597, 3) := by decide +kernel
theorem dX15_wish_293 : decode cX15_wish 293 = .ok (.ifCond .eq 5, 3) := by decide +kernel
theorem dX15_wish_296 : decode cX15_wish 296 = .ok (.iconst 2, 1) := by decide +kernel
theorem dX15_wish_297 : decode cX15_wish 297 = .ok (.ireturn, 1) := by decide +kernel
theorem dX15_wish_298 : decode cX15_wish 298 = .ok (.iinc 5 1, 3) := by decide +kernel
theorem dX15_wish_301 : decode cX15_wish 301 = .ok (.goto (-68), 3) := by decide +kernel
theorem dX15_wish_304 : decode cX15_wish 304 = .ok (.iload 4, 2) := by decide +kernel
theorem dX15_wish_306 : decode cX15_wish 306 = .ok (.ireturn, 1) := by decide +kernel
theorem kt_373 : Cond.constantLong RX14 36 60 ∈ tb := tb_at (i := 1490) (by decide +kernel) (by decide +kernel)
theorem kt_374 : Cond.code yX15_in cX15_in 6 (some .boolean) ∈ tb := tb_at (i := 1477) (by decide +kernel) (by decide +kernel)
theorem kt_375 : Cond.initialized RX15 ∈ tb := tb_at (i := 93) (by decide +kernel) (by decide +kernel)
theorem kt_376 : Cond.static yX15_in ∈ tb := tb_at (i := 1476) (by decide +kernel) (by decide +kernel)
theorem kt_377 : Cond.fieldLink RX15 166 "PostGateModel" "tapeMany" "I" ∈ tb := tb_at (i := 1290) (by decide +kernel) (by decide +kernel)
theorem kt_378 : Cond.fieldLink RX15 370 "PostGateModel" "mailed" "Z" ∈ tb := tb_at (i := 1322) (by decide +kernel) (by decide +kernel)
theorem kt_379 : Cond.methodLink RX15 170 yX15_in ∈ tb := tb_at (i := 1475) (by decide +kernel) (by decide +kernel)
theorem kt_380 : Cond.code yX15_used cX15_used 2 (some .int) ∈ tb := tb_at (i := 1485) (by decide +kernel) (by decide +kernel)
theorem kt_381 : Cond.methodLink RX15 174 yX15_used ∈ tb := tb_at (i := 1482) (by decide +kernel) (by decide +kernel)
theorem kt_382 : Cond.instanceMethod yX15_used ∈ tb := tb_at (i := 1484) (by decide +kernel) (by decide +kernel)
theorem kt_383 : Cond.selects RX15 yX15_used yX15_used ∈ tb := tb_at (i := 42) (by decide +kernel) (by decide +kernel)
theorem kt_384 : Cond.fieldLink RX15 177 "PostGateModel" "entries" "I" ∈ tb := tb_at (i := 1292) (by decide +kernel) (by decide +kernel)
theorem kt_385 : Cond.constantLong RX15 180 4 ∈ tb := tb_at (i := 1486) (by decide +kernel) (by decide +kernel)
theorem kt_386 : Cond.code yX14_isName_ cX14_isName_ 6 (some .boolean) ∈ tb := tb_at (i := 1489) (by decide +kernel) (by decide +kernel)
theorem kt_387 : Cond.methodLink RX15 182 yX14_isName_ ∈ tb := tb_at (i := 1487) (by decide +kernel) (by decide +kernel)
theorem kt_388 : Cond.static yX14_isName_ ∈ tb := tb_at (i := 1488) (by decide +kernel) (by decide +kernel)
theorem kt_389 : Cond.fieldLink RX15 208 "PostGateModel" "sent" "Z" ∈ tb := tb_at (i := 1301) (by decide +kernel) (by decide +kernel)
theorem kt_390 : Cond.fieldLink RX15 215 "PostGateModel" "empty" "I" ∈ tb := tb_at (i := 1304) (by decide +kernel) (by decide +kernel)
theorem kt_391 : Cond.fieldLink RX15 212 "PostGateModel" "counted" "I" ∈ tb := tb_at (i := 1303) (by decide +kernel) (by decide +kernel)
theorem kt_392 : Cond.code yX15_sealAt cX15_sealAt 4 (some .int) ∈ tb := tb_at (i := 1694) (by decide +kernel) (by decide +kernel)
theorem kt_393 : Cond.methodLink RX15 501 yX15_sealAt ∈ tb := tb_at (i := 1691) (by decide +kernel) (by decide +kernel)
theorem kt_394 : Cond.instanceMethod yX15_sealAt ∈ tb := tb_at (i := 1693) (by decide +kernel) (by decide +kernel)
theorem kt_395 : Cond.selects RX15 yX15_sealAt yX15_sealAt ∈ tb := tb_at (i := 61) (by decide +kernel) (by decide +kernel)
theorem kt_396 : Cond.constantLong RX15 603 (-1) ∈ tb := tb_at (i := 1898) (by decide +kernel) (by decide +kernel)
theorem kt_397 : Cond.fieldLink RX15 385 "PostGateModel" "outMany" "I" ∈ tb := tb_at (i := 1291) (by decide +kernel) (by decide +kernel)
theorem kt_398 : Cond.code yX12_begin cX12_begin 1 none ∈ tb := tb_at (i := 1778) (by decide +kernel) (by decide +kernel)
theorem kt_399 : Cond.methodLink RX15 417 yX12_begin ∈ tb := tb_at (i := 1775) (by decide +kernel) (by decide +kernel)
theorem kt_400 : Cond.instanceMethod yX12_begin ∈ tb := tb_at (i := 1776) (by decide +kernel) (by decide +kernel)
theorem kt_401 : Cond.selects RX12 yX12_begin yX12_begin ∈ tb := tb_at (i := 1777) (by decide +kernel) (by decide +kernel)
theorem kt_402 : Cond.code yX12_add cX12_add 5 none ∈ tb := tb_at (i := 1783) (by decide +kernel) (by decide +kernel)
theorem kt_403 : Cond.methodLink RX15 419 yX12_add ∈ tb := tb_at (i := 1780) (by decide +kernel) (by decide +kernel)
theorem kt_404 : Cond.instanceMethod yX12_add ∈ tb := tb_at (i := 1781) (by decide +kernel) (by decide +kernel)
theorem kt_405 : Cond.selects RX12 yX12_add yX12_add ∈ tb := tb_at (i := 1782) (by decide +kernel) (by decide +kernel)
theorem kt_406 : Cond.code yX12_finish cX12_finish 6 none ∈ tb := tb_at (i := 1798) (by decide +kernel) (by decide +kernel)
theorem kt_407 : Cond.methodLink RX15 420 yX12_finish ∈ tb := tb_at (i := 1795) (by decide +kernel) (by decide +kernel)
theorem kt_408 : Cond.instanceMethod yX12_finish ∈ tb := tb_at (i := 1796) (by decide +kernel) (by decide +kernel)
theorem kt_409 : Cond.selects RX12 yX12_finish yX12_finish ∈ tb := tb_at (i := 1797) (by decide +kernel) (by decide +kernel)
theorem kt_410 : Cond.code yX15_digest cX15_digest 4 none ∈ tb := tb_at (i := 1774) (by decide +kernel) (by decide +kernel)
theorem kt_411 : Cond.methodLink RX15 519 yX15_digest ∈ tb := tb_at (i := 1771) (by decide +kernel) (by decide +kernel)
theorem kt_412 : Cond.instanceMethod yX15_digest ∈ tb := tb_at (i := 1773) (by decide +kernel) (by decide +kernel)
theorem kt_413 : Cond.selects RX15 yX15_digest yX15_digest ∈ tb := tb_at (i := 69) (by decide +kernel) (by decide +kernel)
theorem kt_414 : Cond.methodLink RX15 358 arraycopyName ∈ tb := tb_at (i := 1647) (by decide +kernel) (by decide +kernel)
theorem kn_14 : Cond.methodLinkNest RX14 38 yX15_in "PostGateModel" ∈ nw := nw_at (i := 1411) (by decide +kernel) rfl
theorem l64 (a x : Int32) : a.toInt64 ≤ x.toInt64 ↔ a ≤ x := by
  rw [Int64.le_iff_toInt_le, Int32.le_iff_toInt_le, Int32.toInt_toInt64, Int32.toInt_toInt64]
theorem in_one {x a : Int32} {A B : Int64} (hA : A = a.toInt64) (hB : B = a.toInt64) {r : Int32} (hr : r = (if A ≤ x.toInt64 ∧ x.toInt64 ≤ B then 1 else 0)) : (r = 0 ↔ x ≠ a) := by
  subst hA hB
  simp only [l64] at hr
  constructor
  · intro h hx
    subst hx
    rw [if_pos ⟨Int32.le_refl _, Int32.le_refl _⟩] at hr
    rw [h] at hr
    exact absurd hr (by decide)
  · intro h
    rw [hr, if_neg]
    rintro ⟨h1, h2⟩
    exact h (Int32.le_antisymm h2 h1)
set_option maxHeartbeats 4000000 in
set_option maxRecDepth 100000 in
theorem c_X15_in (l : Launch) (dC : Nat → ClassId) (dI : Nat → Nat → Nat) (sz : Nat) (x1 : Int64) (x2 : Int64) (x3 : Int64) : Met l yX15_in (.code yX15_in cX15_in 6 (some .boolean) :: tb) ({ frames := 0, cells := 0, slots := 0, locals := 0 }) (va_Pc [.long x1, .long x2, .long x3] (PW (dC, dI) sz [] [])) (va_Qi (fun (r : Int32) (_ : Unit) => r = (if x2 ≤ x1 ∧ x1 ≤ x3 then 1 else 0)) (fun _ T9 => QW (dC, dI) (va_A [] sz) [] [] T9) (va_A [] sz)) 0 0 (va_A [] sz) := by
  refine Met.ofW (cc := cX15_in) (maxL := 6) (ret := (some .boolean)) (by decide) rfl ?_
  intro p e s m args below meth c s₁ B hml hv
  obtain ⟨rfl, hsz, hP, hK, hD0, hE⟩ := hv
  have hx := B.exec
  have hb := B.bytes
  have hr := B.returns
  have hts : ∀ w ∈ tb, w.before _ s = true := fun w h => atoms_spec (ws := .code yX15_in cX15_in 6 (some .boolean) :: tb) B.pre w (List.mem_cons_of_mem _ h)
  have hown : s.vm.findClass RX15 = some m.cls := findClass_of_methodNamed B.named
  have hlocks := B.notSynchronized
  subst hsz
  have hD := hD0.self (sz := s.heap.size)
  generalize hAe : va_A [] s.heap.size = A at hD ⊢
  have hA : ∀ q : Nat, s.heap.size ≤ q → A q := fun q h => by rw [← hAe]; exact Or.inr h
  have hS : va_S A s.heap s.heap [] := va_S.rf
  have hP : va_P (dC, dI) vwCl [] s.heap := hP
  have hl := lv_entry ([.long x1, .long x2, .long x3]) (n := 6) (Nat.le_of_ble_eq_true rfl)
  rw [lg_entry_eq]
  generalize (lg_sl ([.long x1, .long x2, .long x3]) ++ List.replicate (6 - (lg_sl ([.long x1, .long x2, .long x3])).length) Slot.unset).toArray = ls at hl ⊢
  have hl : lv_has ls 6 [(0, .long x1), (2, .long x2), (4, .long x3)] := hl
  refine lv_lload_n hx hb dX15_in_0 rfl (lv_at hl 0 rfl) ?_
  refine lv_lload_n hx hb dX15_in_1 rfl (lv_at hl 1 rfl) ?_
  refine W.lcmp hx hb dX15_in_2 ?_
  refine lv_topi (fun x_1 ex_1 => ?_)
  refine lv_if_lt (tgt := 17) hx hb dX15_in_3 (by decide) (fun c_2 => ?_) (fun c_2 => ?_)
  ·
    refine lv_iconst (v := 0) hx hb dX15_in_17 (by decide) ?_
    have hP9 := hP.sub (ws' := []) [] rfl
    have hD9 := hD.sub (ws' := []) [] (by decide) rfl
    have hK9 := hK.sub (tys' := []) [] rfl
    refine W.widen (k := 0) (n := 0) (by omega) (by omega) ?_
    exact W.zret (v := 0) (ty := .boolean) hx hb hr (by decide) (fun t ht hW => ⟨⟨0, (), rfl, (by rw [if_neg]; rintro ⟨h1, -⟩; rw [ex_1, lg_cmp_lt] at c_2; exact absurd h1 (Int64.not_le.mpr c_2)), QW.mk ht hW hP9 hK9 hD9⟩, hS.F ht⟩) hS.2.2 dX15_in_18
  ·
    refine lv_lload_n hx hb dX15_in_6 rfl (lv_at hl 0 rfl) ?_
    refine lv_lload hx hb dX15_in_7 (lv_at hl 2 rfl) ?_
    refine W.lcmp hx hb dX15_in_9 ?_
    refine lv_topi (fun x_3 ex_3 => ?_)
    refine lv_if_gt (tgt := 17) hx hb dX15_in_10 (by decide) (fun c_4 => ?_) (fun c_4 => ?_)
    ·
      refine lv_iconst (v := 0) hx hb dX15_in_17 (by decide) ?_
      have hP9 := hP.sub (ws' := []) [] rfl
      have hD9 := hD.sub (ws' := []) [] (by decide) rfl
      have hK9 := hK.sub (tys' := []) [] rfl
      refine W.widen (k := 0) (n := 0) (by omega) (by omega) ?_
      exact W.zret (v := 0) (ty := .boolean) hx hb hr (by decide) (fun t ht hW => ⟨⟨0, (), rfl, (by rw [if_neg]; rintro ⟨-, h1⟩; rw [ex_3, lg_cmp_gt] at c_4; exact absurd h1 (Int64.not_le.mpr c_4)), QW.mk ht hW hP9 hK9 hD9⟩, hS.F ht⟩) hS.2.2 dX15_in_18
    ·
      refine lv_iconst (v := 1) hx hb dX15_in_13 (by decide) ?_
      refine lv_goto (tgt := 18) hx hb dX15_in_14 (by decide) ?_
      have hP9 := hP.sub (ws' := []) [] rfl
      have hD9 := hD.sub (ws' := []) [] (by decide) rfl
      have hK9 := hK.sub (tys' := []) [] rfl
      refine W.widen (k := 0) (n := 0) (by omega) (by omega) ?_
      exact W.zret (v := 1) (ty := .boolean) hx hb hr (by decide) (fun t ht hW => ⟨⟨1, (), rfl, (by rw [if_pos]; rw [ex_1, lg_cmp_lt] at c_2; rw [ex_3, lg_cmp_gt] at c_4; exact ⟨Int64.not_lt.mp c_2, Int64.not_lt.mp c_4⟩), QW.mk ht hW hP9 hK9 hD9⟩, hS.F ht⟩) hS.2.2 dX15_in_18
set_option maxHeartbeats 4000000 in
set_option maxRecDepth 100000 in
theorem c_X15_in_b (l : Launch) (dC : Nat → ClassId) (dI : Nat → Nat → Nat) (sz : Nat) : Met l yX15_in (.code yX15_in cX15_in 6 (some .boolean) :: tb) ({ frames := 0, cells := 0, slots := 0, locals := 0 }) (va_Pc [.long 0, .long 1, .long 60] (PW (dC, dI) sz [] [])) (va_Qi (fun (r : Int32) (_ : Unit) => r = 0) (fun _ T9 => QW (dC, dI) (va_A [] sz) [] [] T9) (va_A [] sz)) 0 0 (va_A [] sz) := by
  refine Met.ofW (cc := cX15_in) (maxL := 6) (ret := (some .boolean)) (by decide) rfl ?_
  intro p e s m args below meth c s₁ B hml hv
  obtain ⟨rfl, hsz, hP, hK, hD0, hE⟩ := hv
  have hx := B.exec
  have hb := B.bytes
  have hr := B.returns
  have hts : ∀ w ∈ tb, w.before _ s = true := fun w h => atoms_spec (ws := .code yX15_in cX15_in 6 (some .boolean) :: tb) B.pre w (List.mem_cons_of_mem _ h)
  have hown : s.vm.findClass RX15 = some m.cls := findClass_of_methodNamed B.named
  have hlocks := B.notSynchronized
  subst hsz
  have hD := hD0.self (sz := s.heap.size)
  generalize hAe : va_A [] s.heap.size = A at hD ⊢
  have hA : ∀ q : Nat, s.heap.size ≤ q → A q := fun q h => by rw [← hAe]; exact Or.inr h
  have hS : va_S A s.heap s.heap [] := va_S.rf
  have hP : va_P (dC, dI) vwCl [] s.heap := hP
  have hl := lv_entry ([.long 0, .long 1, .long 60]) (n := 6) (Nat.le_of_ble_eq_true rfl)
  rw [lg_entry_eq]
  generalize (lg_sl ([.long 0, .long 1, .long 60]) ++ List.replicate (6 - (lg_sl ([.long 0, .long 1, .long 60])).length) Slot.unset).toArray = ls at hl ⊢
  have hl : lv_has ls 6 [(0, .long 0), (2, .long 1), (4, .long 60)] := hl
  refine lv_lload_n hx hb dX15_in_0 rfl (lv_at hl 0 rfl) ?_
  refine lv_lload_n hx hb dX15_in_1 rfl (lv_at hl 1 rfl) ?_
  refine W.lcmp hx hb dX15_in_2 ?_
  refine lv_topi (fun x_1 ex_1 => ?_)
  obtain rfl : x_1 = (-1) := ex_1.trans (by decide)
  refine lv_if_lt (tgt := 17) hx hb dX15_in_3 (by decide) (fun c_2 => ?_) (fun c_2 => absurd (by decide) c_2)
  refine lv_iconst (v := 0) hx hb dX15_in_17 (by decide) ?_
  have hP9 := hP.sub (ws' := []) [] rfl
  have hD9 := hD.sub (ws' := []) [] (by decide) rfl
  have hK9 := hK.sub (tys' := []) [] rfl
  refine W.widen (k := 0) (n := 0) (by omega) (by omega) ?_
  exact W.zret (v := 0) (ty := .boolean) hx hb hr (by decide) (fun t ht hW => ⟨⟨0, (), rfl, rfl, QW.mk ht hW hP9 hK9 hD9⟩, hS.F ht⟩) hS.2.2 dX15_in_18
set_option maxHeartbeats 4000000 in
set_option maxRecDepth 100000 in
theorem c_X14_isName_ (l : Launch) (dC : Nat → ClassId) (dI : Nat → Nat → Nat) (sz : Nat) (q : Nat) : Met l yX14_isName_ (.code yX14_isName_ cX14_isName_ 6 (some .boolean) :: tb) ({ frames := 1, cells := 0, slots := 0, locals := 25 }) (va_Pc [.ref q, .int 0, .int 0] (PW (dC, dI) sz [] [])) (va_Qi (fun (r : Int32) (_ : Unit) => r = 0) (fun _ T9 => QW (dC, dI) (va_A [] sz) [] [] T9) (va_A [] sz)) 0 0 (va_A [] sz) := by
  refine Met.ofW (cc := cX14_isName_) (maxL := 6) (ret := (some .boolean)) (by decide) rfl ?_
  intro p e s m args below meth c s₁ B hml hv
  obtain ⟨rfl, hsz, hP, hK, hD0, hE⟩ := hv
  have hx := B.exec
  have hb := B.bytes
  have hr := B.returns
  have hts : ∀ w ∈ tb, w.before _ s = true := fun w h => atoms_spec (ws := .code yX14_isName_ cX14_isName_ 6 (some .boolean) :: tb) B.pre w (List.mem_cons_of_mem _ h)
  have hown : s.vm.findClass RX14 = some m.cls := findClass_of_methodNamed B.named
  have hlocks := B.notSynchronized
  subst hsz
  have hD := hD0.self (sz := s.heap.size)
  generalize hAe : va_A [] s.heap.size = A at hD ⊢
  have hA : ∀ q : Nat, s.heap.size ≤ q → A q := fun q h => by rw [← hAe]; exact Or.inr h
  have hS : va_S A s.heap s.heap [] := va_S.rf
  have hP : va_P (dC, dI) vwCl [] s.heap := hP
  have hl := lv_entry ([.ref q, .int 0, .int 0]) (n := 6) (Nat.le_of_ble_eq_true rfl)
  rw [lg_entry_eq]
  generalize (lg_sl ([.ref q, .int 0, .int 0]) ++ List.replicate (6 - (lg_sl ([.ref q, .int 0, .int 0])).length) Slot.unset).toArray = ls at hl ⊢
  have hl : lv_has ls 6 [(0, .ref q), (1, .int 0), (2, .int 0)] := hl
  refine lv_iload_n hx hb dX14_isName__0 rfl (lv_at hl 2 rfl) ?_
  refine lv_iload_n hx hb dX14_isName__1 rfl (lv_at hl 1 rfl) ?_
  refine lv_isub hx hb dX14_isName__2 ?_
  refine lv_topi (fun x_1 ex_1 => ?_)
  obtain rfl : x_1 = 0 := ex_1.trans (by decide)
  refine lv_i2l (v := 0) hx hb dX14_isName__3 (by decide) ?_
  refine lv_lconst (v := 1) hx hb dX14_isName__4 (by decide) ?_
  refine lv_ldc2 (v := 60) hx hb hown (hts _ kt_373) dX14_isName__5 ?_
  have hPc := hP.sub (ws' := []) [] rfl
  have hDc := hD.sub (ws' := []) [] (by decide) rfl
  have hKc := hK.sub (tys' := []) [] rfl
  have hFc := va_free (wc := []) hD hS hA [] rfl
  refine va_calli (va_runSN (As := [.long 0, .long 1, .long 60]) (rest := []) ⟨hx, hb, hml, hown, hts⟩ (c_X15_in_b l dC dI s.heap.size  ) ⟨va_cnB 3 hts (gi kt_374) rfl rfl rfl (hE.nestw kn_14) (hts _ kt_375) (by decide +kernel) ⟨Nat.le_of_ble_eq_true rfl, Nat.le_of_ble_eq_true rfl⟩, (hts _ kt_376), trivial⟩ ⟨fun a U g mk q => ⟨q.1, PW.calling q.2⟩, fun U hU hW => ⟨rfl, PW.mk hU hW hPc hKc hDc hE⟩⟩ rfl rfl hl.1 rfl (lv_room (Nat.le_of_ble_eq_true rfl)) dX14_isName__8 ⟨by show _ + 0 ≤ 0; omega, by show _ + 0 ≤ 0; omega⟩) hS (fun q _ h => hFc q h) hFc (fun r_2 u t H1 locs ht hvm hw hB hz1 hk1 hS => ?_)
  have hB1 := hB
  obtain ⟨hP, hD, hK⟩ := QW.join (wr := []) hP hD hK [] [] rfl rfl (by decide) (by decide) hk1 hFc ht hvm hB1
  generalize H1 = H at hP hS ⊢
  have hK : va_K (dC, dI) vwCl [] s := hK.sub [] rfl
  have hP : va_P (dC, dI) vwCl [] H := hP
  have hD : va_D A [] := hD
  have hw : r_2 = 0 := hw
  subst hw
  refine lv_if_ne (tgt := 16) hx hb dX14_isName__11 (by decide) (fun c_3 => absurd (by decide) c_3) (fun c_3 => ?_)
  refine lv_iconst (v := 0) hx hb dX14_isName__14 (by decide) ?_
  have hP9 := hP.sub (ws' := []) [] rfl
  have hD9 := hD.sub (ws' := []) [] (by decide) rfl
  have hK9 := hK.sub (tys' := []) [] rfl
  refine W.widen (k := 0) (n := 0) (by omega) (by omega) ?_
  exact W.zret (v := 0) (ty := .boolean) hx hb hr (by decide) (fun t ht hW => ⟨⟨0, (), rfl, rfl, QW.mk ht hW hP9 hK9 hD9⟩, hS.F ht⟩) hS.2.2 dX14_isName__15
set_option maxHeartbeats 4000000 in
set_option maxRecDepth 100000 in
theorem c_X15_used (l : Launch) (dC : Nat → ClassId) (dI : Nat → Nat → Nat) (sz : Nat) (h0 : Nat) (fs : List Value) (y0 : Nat) (y4 : Nat) (y38 : Nat) (y44 : Nat) (hL : fs.length = 59) (hF0 : fs[0]? = some (.ref y0)) (hF1 : fs[1]? = some (.int 0)) (hF2 : fs[2]? = some (.int 0)) (hF3 : fs[3]? = some (.int 0)) (hF4 : fs[4]? = some (.ref y4)) (hF12 : fs[12]? = some (.int 0)) (hF14 : fs[14]? = some (.int 0)) (hF15 : fs[15]? = some (.int 0)) (hF30 : fs[30]? = some (.int 0)) (hF33 : fs[33]? = some (.int 0)) (hF38 : fs[38]? = some (.ref y38)) (hF44 : fs[44]? = some (.ref y44)) : Met l yX15_used (.code yX15_used cX15_used 2 (some .int) :: tb) ({ frames := 0, cells := 0, slots := 0, locals := 0 }) (va_Pc [.ref h0] (PW (dC, dI) sz [(h0, .inr (15, fs))] [])) (va_Qi (fun (r : Int32) (_ : Unit) => r = 0) (fun _ T9 => ∃ (fs2 : List Value), QW (dC, dI) (va_A [(h0, .inr (15, fs))] sz) [(h0, .inr (15, fs2))] [] T9 ∧ fs2.length = 59 ∧ fs2[0]? = some (.ref y0) ∧ fs2[1]? = some (.int 0) ∧ fs2[2]? = some (.int 0) ∧ fs2[3]? = some (.int 0) ∧ fs2[4]? = some (.ref y4) ∧ fs2[12]? = some (.int 0) ∧ fs2[14]? = some (.int 0) ∧ fs2[15]? = some (.int 0) ∧ fs2[30]? = some (.int 0) ∧ fs2[33]? = some (.int 0) ∧ fs2[38]? = some (.ref y38) ∧ fs2[44]? = some (.ref y44)) (va_A [(h0, .inr (15, fs))] sz)) 0 0 (va_A [(h0, .inr (15, fs))] sz) := by
  refine Met.ofW (cc := cX15_used) (maxL := 2) (ret := (some .int)) (by decide) rfl ?_
  intro p e s m args below meth c s₁ B hml hv
  obtain ⟨rfl, hsz, hP, hK, hD0, hE⟩ := hv
  have hx := B.exec
  have hb := B.bytes
  have hr := B.returns
  have hts : ∀ w ∈ tb, w.before _ s = true := fun w h => atoms_spec (ws := .code yX15_used cX15_used 2 (some .int) :: tb) B.pre w (List.mem_cons_of_mem _ h)
  have hown : s.vm.findClass RX15 = some m.cls := findClass_of_methodNamed B.named
  have hlocks := B.notSynchronized
  subst hsz
  have hD := hD0.self (sz := s.heap.size)
  generalize hAe : va_A [(h0, .inr (15, fs))] s.heap.size = A at hD ⊢
  have hA : ∀ q : Nat, s.heap.size ≤ q → A q := fun q h => by rw [← hAe]; exact Or.inr h
  have hS : va_S A s.heap s.heap [] := va_S.rf
  have hP : va_P (dC, dI) vwCl [(h0, .inr (15, fs))] s.heap := hP
  have hl := lv_entry ([.ref h0]) (n := 2) (Nat.le_of_ble_eq_true rfl)
  rw [lg_entry_eq]
  generalize (lg_sl ([.ref h0]) ++ List.replicate (2 - (lg_sl ([.ref h0])).length) Slot.unset).toArray = ls at hl ⊢
  have hl : lv_has ls 2 [(0, .ref h0)] := hl
  refine lv_aload_n hx hb dX15_used_0 rfl (lv_at hl 0 rfl) ?_
  refine va_get (D := (dC, dI)) (ci := 15) (v := .int 0) (C := RX15) (T := TX15) (N := 59) hx hb hts it_15 hown hK hP 0 rfl rfl 1 (by decide) (hts _ kt_377) (fun _ h9 => h9) hF1 dX15_used_1 ?_
  refine lv_istore_n (lv' := [(1, .int 0), (0, .ref h0)]) hx hb dX15_used_4 rfl hl (by decide) rfl (fun ls hl => ?_)
  refine lv_aload_n hx hb dX15_used_5 rfl (lv_at hl 1 rfl) ?_
  refine lv_iconst (v := 0) hx hb dX15_used_6 (by decide) ?_
  refine va_put (D := (dC, dI)) (ci := 15) (v := .int 0) (ty := .int) (C := RX15) (T := TX15) (N := 59) hx hb hts it_15 tyX15 tyX15_ok nmX15 hown hK hP hD hS 0 rfl rfl 1 (by decide) (hts _ kt_377) (fun _ h9 => h9) rfl (by decide +kernel) rfl rfl (by rw [hL]; decide) dX15_used_7 (fun H locs hP hD hS => ?_)
  obtain ⟨fs_1, hP, hD, hfs_1_L, hfs_1_0, hfs_1_1, hfs_1_2, hfs_1_3, hfs_1_4, hfs_1_12, hfs_1_14, hfs_1_15, hfs_1_30, hfs_1_33, hfs_1_38, hfs_1_44⟩ : ∃ fs_1 : List Value, va_P (dC, dI) vwCl [(h0, .inr (15, fs_1))] H ∧ va_D A [(h0, .inr (15, fs_1))] ∧ fs_1.length = 59 ∧ fs_1[0]? = some (.ref y0) ∧ fs_1[1]? = some (.int 0) ∧ fs_1[2]? = some (.int 0) ∧ fs_1[3]? = some (.int 0) ∧ fs_1[4]? = some (.ref y4) ∧ fs_1[12]? = some (.int 0) ∧ fs_1[14]? = some (.int 0) ∧ fs_1[15]? = some (.int 0) ∧ fs_1[30]? = some (.int 0) ∧ fs_1[33]? = some (.int 0) ∧ fs_1[38]? = some (.ref y38) ∧ fs_1[44]? = some (.ref y44) := ⟨_, hP, hD, ov_len hL, ov_ne (by decide) hF0, ov_self (by rw [hL]; decide), ov_ne (by decide) hF2, ov_ne (by decide) hF3, ov_ne (by decide) hF4, ov_ne (by decide) hF12, ov_ne (by decide) hF14, ov_ne (by decide) hF15, ov_ne (by decide) hF30, ov_ne (by decide) hF33, ov_ne (by decide) hF38, ov_ne (by decide) hF44⟩
  refine lv_iload_n hx hb dX15_used_10 rfl (lv_at hl 0 rfl) ?_
  have hP9 := hP.sub (ws' := [(h0, .inr (15, fs_1))]) [0] rfl
  have hD9 := hD.sub (ws' := [(h0, .inr (15, fs_1))]) [0] (by decide) rfl
  have hK9 := hK.sub (tys' := []) [] rfl
  refine W.widen (k := 0) (n := 0) (by omega) (by omega) ?_
  exact W.iret (v := 0) hx hb hr (fun t ht hW => ⟨⟨0, (), rfl, rfl, ⟨fs_1, QW.mk ht hW hP9 hK9 hD9, hfs_1_L, hfs_1_0, hfs_1_1, hfs_1_2, hfs_1_3, hfs_1_4, hfs_1_12, hfs_1_14, hfs_1_15, hfs_1_30, hfs_1_33, hfs_1_38, hfs_1_44⟩⟩, hS.F ht⟩) hS.2.2 dX15_used_11
set_option maxHeartbeats 4000000 in
set_option maxRecDepth 100000 in
theorem c_X15_sealAt (l : Launch) (dC : Nat → ClassId) (dI : Nat → Nat → Nat) (sz : Nat) (h0 : Nat) (fs : List Value) (y0 : Nat) (y4 : Nat) (y38 : Nat) (y44 : Nat) (x1 : Int32) (hL : fs.length = 59) (hF0 : fs[0]? = some (.ref y0)) (hF1 : fs[1]? = some (.int 0)) (hF2 : fs[2]? = some (.int 0)) (hF3 : fs[3]? = some (.int 0)) (hF4 : fs[4]? = some (.ref y4)) (hF12 : fs[12]? = some (.int 0)) (hF14 : fs[14]? = some (.int 0)) (hF15 : fs[15]? = some (.int 0)) (hF30 : fs[30]? = some (.int 0)) (hF33 : fs[33]? = some (.int 0)) (hF38 : fs[38]? = some (.ref y38)) (hF44 : fs[44]? = some (.ref y44)) : Met l yX15_sealAt (.code yX15_sealAt cX15_sealAt 4 (some .int) :: tb) ({ frames := 0, cells := 0, slots := 0, locals := 0 }) (va_Pc [.ref h0, .int x1] (PW (dC, dI) sz [(h0, .inr (15, fs))] [])) (va_Qi (fun (r : Int32) (_ : Unit) => r = (-1)) (fun _ T9 => QW (dC, dI) (va_A [(h0, .inr (15, fs))] sz) [(h0, .inr (15, fs))] [] T9) (va_A [(h0, .inr (15, fs))] sz)) 0 0 (va_A [(h0, .inr (15, fs))] sz) := by
  refine Met.ofW (cc := cX15_sealAt) (maxL := 4) (ret := (some .int)) (by decide) rfl ?_
  intro p e s m args below meth c s₁ B hml hv
  obtain ⟨rfl, hsz, hP, hK, hD0, hE⟩ := hv
  have hx := B.exec
  have hb := B.bytes
  have hr := B.returns
  have hts : ∀ w ∈ tb, w.before _ s = true := fun w h => atoms_spec (ws := .code yX15_sealAt cX15_sealAt 4 (some .int) :: tb) B.pre w (List.mem_cons_of_mem _ h)
  have hown : s.vm.findClass RX15 = some m.cls := findClass_of_methodNamed B.named
  have hlocks := B.notSynchronized
  subst hsz
  have hD := hD0.self (sz := s.heap.size)
  generalize hAe : va_A [(h0, .inr (15, fs))] s.heap.size = A at hD ⊢
  have hA : ∀ q : Nat, s.heap.size ≤ q → A q := fun q h => by rw [← hAe]; exact Or.inr h
  have hS : va_S A s.heap s.heap [] := va_S.rf
  have hP : va_P (dC, dI) vwCl [(h0, .inr (15, fs))] s.heap := hP
  have hl := lv_entry ([.ref h0, .int x1]) (n := 4) (Nat.le_of_ble_eq_true rfl)
  rw [lg_entry_eq]
  generalize (lg_sl ([.ref h0, .int x1]) ++ List.replicate (4 - (lg_sl ([.ref h0, .int x1])).length) Slot.unset).toArray = ls at hl ⊢
  have hl : lv_has ls 4 [(0, .ref h0), (1, .int x1)] := hl
  refine lv_iload_n hx hb dX15_sealAt_0 rfl (lv_at hl 1 rfl) ?_
  refine lv_istore_n (lv' := [(2, .int x1), (0, .ref h0), (1, .int x1)]) hx hb dX15_sealAt_1 rfl hl (by decide) rfl (fun ls hl => ?_)
  refine lv_iconst (v := 0) hx hb dX15_sealAt_2 (by decide) ?_
  refine lv_istore_n (lv' := [(3, .int 0), (2, .int x1), (0, .ref h0), (1, .int x1)]) hx hb dX15_sealAt_3 rfl hl (by decide) rfl (fun ls hl => ?_)
  refine lv_aload_n hx hb dX15_sealAt_4 rfl (lv_at hl 2 rfl) ?_
  refine va_get (D := (dC, dI)) (ci := 15) (v := .int 0) (C := RX15) (T := TX15) (N := 59) hx hb hts it_15 hown hK hP 0 rfl rfl 33 (by decide) (hts _ kt_378) (fun _ h9 => h9) hF33 dX15_sealAt_5 ?_
  refine lv_if_eq (tgt := 52) hx hb dX15_sealAt_8 (by decide) (fun c_1 => ?_) (fun c_1 => absurd (by decide) c_1)
  refine lv_iconst (v := (-1)) hx hb dX15_sealAt_52 (by decide) ?_
  have hP9 := hP.sub (ws' := [(h0, .inr (15, fs))]) [0] rfl
  have hD9 := hD.sub (ws' := [(h0, .inr (15, fs))]) [0] (by decide) rfl
  have hK9 := hK.sub (tys' := []) [] rfl
  refine W.widen (k := 0) (n := 0) (by omega) (by omega) ?_
  exact W.iret (v := (-1)) hx hb hr (fun t ht hW => ⟨⟨(-1), (), rfl, rfl, QW.mk ht hW hP9 hK9 hD9⟩, hS.F ht⟩) hS.2.2 dX15_sealAt_53
set_option maxHeartbeats 4000000 in
set_option maxRecDepth 100000 in
theorem c_X15_feed (l : Launch) (dC : Nat → ClassId) (dI : Nat → Nat → Nat) (sz : Nat) (h0 : Nat) (fs : List Value) (y0 : Nat) (y4 : Nat) (y38 : Nat) (y44 : Nat) (ct : ClassId) (x1 : Int32) (x2 : Int32) (x3 : Int32) (x4 : Int32) (x5 : Int32) (hL : fs.length = 59) (hF0 : fs[0]? = some (.ref y0)) (hF1 : fs[1]? = some (.int 0)) (hF2 : fs[2]? = some (.int 0)) (hF3 : fs[3]? = some (.int 0)) (hF4 : fs[4]? = some (.ref y4)) (hF12 : fs[12]? = some (.int 0)) (hF14 : fs[14]? = some (.int 0)) (hF15 : fs[15]? = some (.int 0)) (hF30 : fs[30]? = some (.int 0)) (hF33 : fs[33]? = some (.int 0)) (hF38 : fs[38]? = some (.ref y38)) (hF44 : fs[44]? = some (.ref y44)) : Met l yX15_feed (.code yX15_feed cX15_feed 8 (some .int) :: tb) ({ frames := 0, cells := 1, slots := 5, locals := 0 }) (va_Pc [.ref h0, .int x1, .int x2, .int x3, .int x4, .int x5] (PW (dC, dI) sz [(h0, .inr (15, fs)), (y0, .inl (ct, 3000, .inl (fun _ => 0)))] [(ct, .byte)])) (va_Qi (fun (r : Int32) (_ : Unit) => r = 20) (fun _ T9 => QW (dC, dI) (va_A [(h0, .inr (15, fs)), (y0, .inl (ct, 3000, .inl (fun _ => 0)))] sz) [] [] T9) (va_A [(h0, .inr (15, fs)), (y0, .inl (ct, 3000, .inl (fun _ => 0)))] sz)) 1 5 (va_A [(h0, .inr (15, fs)), (y0, .inl (ct, 3000, .inl (fun _ => 0)))] sz) := by
  refine Met.ofW (cc := cX15_feed) (maxL := 8) (ret := (some .int)) (by decide) rfl ?_
  intro p e s m args below meth c s₁ B hml hv
  obtain ⟨rfl, hsz, hP, hK, hD0, hE⟩ := hv
  have hx := B.exec
  have hb := B.bytes
  have hr := B.returns
  have hts : ∀ w ∈ tb, w.before _ s = true := fun w h => atoms_spec (ws := .code yX15_feed cX15_feed 8 (some .int) :: tb) B.pre w (List.mem_cons_of_mem _ h)
  have hown : s.vm.findClass RX15 = some m.cls := findClass_of_methodNamed B.named
  have hlocks := B.notSynchronized
  subst hsz
  have hD := hD0.self (sz := s.heap.size)
  generalize hAe : va_A [(h0, .inr (15, fs)), (y0, .inl (ct, 3000, .inl (fun _ => 0)))] s.heap.size = A at hD ⊢
  have hA : ∀ q : Nat, s.heap.size ≤ q → A q := fun q h => by rw [← hAe]; exact Or.inr h
  have hS : va_S A s.heap s.heap [] := va_S.rf
  have hP : va_P (dC, dI) vwCl [(h0, .inr (15, fs)), (y0, .inl (ct, 3000, .inl (fun _ => 0)))] s.heap := hP
  have hl := lv_entry ([.ref h0, .int x1, .int x2, .int x3, .int x4, .int x5]) (n := 8) (Nat.le_of_ble_eq_true rfl)
  rw [lg_entry_eq]
  generalize (lg_sl ([.ref h0, .int x1, .int x2, .int x3, .int x4, .int x5]) ++ List.replicate (8 - (lg_sl ([.ref h0, .int x1, .int x2, .int x3, .int x4, .int x5])).length) Slot.unset).toArray = ls at hl ⊢
  have hl : lv_has ls 8 [(0, .ref h0), (1, .int x1), (2, .int x2), (3, .int x3), (4, .int x4), (5, .int x5)] := hl
  refine lv_aload_n hx hb dX15_feed_0 rfl (lv_at hl 0 rfl) ?_
  refine va_get (D := (dC, dI)) (ci := 15) (v := .int 0) (C := RX15) (T := TX15) (N := 59) hx hb hts it_15 hown hK hP 0 rfl rfl 1 (by decide) (hts _ kt_377) (fun _ h9 => h9) hF1 dX15_feed_1 ?_
  refine lv_bipush (v := 20) hx hb dX15_feed_4 (by decide) ?_
  refine lv_iadd hx hb dX15_feed_6 ?_
  refine lv_topi (fun x_1 ex_1 => ?_)
  obtain rfl : x_1 = 20 := ex_1.trans (by decide)
  refine lv_sipush (v := 3000) hx hb dX15_feed_7 (by decide) ?_
  refine lv_icmp_le (tgt := 16) hx hb dX15_feed_10 (by decide) (fun c_2 => ?_) (fun c_2 => absurd (by decide) c_2)
  refine lv_iconst (v := 5) hx hb dX15_feed_16 (by decide) ?_
  refine va_newa (atype := .int) (ty := .int) (a0 := (5, .inl (fun _ => 0))) (N' := 5) hx hb (hts _ kt_5) rfl hK hP hD hS hA (fun _ => rfl) (by decide) (by decide) (by show _ * 4 ≤ _; omega) (by show _ + 1 ≤ 1; omega) (by show _ + 5 ≤ 5; omega) dX15_feed_17 (fun q_3 cA_4 H hK hP hD hS => ?_)
  have hK : va_K (dC, dI) vwCl [(ct, .byte), (cA_4, .int)] s := hK
  have hP : va_P (dC, dI) vwCl [(h0, .inr (15, fs)), (y0, .inl (ct, 3000, .inl (fun _ => 0))), (q_3, .inl (cA_4, 5, .inl (fun _ => 0)))] H := hP
  have hD : va_D A [(h0, .inr (15, fs)), (y0, .inl (ct, 3000, .inl (fun _ => 0))), (q_3, .inl (cA_4, 5, .inl (fun _ => 0)))] := hD
  refine lv_dup hx hb dX15_feed_19 rfl ?_
  refine lv_iconst (v := 0) hx hb dX15_feed_20 (by decide) ?_
  refine lv_iload_n hx hb dX15_feed_21 rfl (lv_at hl 1 rfl) ?_
  refine va_iast hx hb hK hP hD hS 2 1 rfl rfl (show vp_in (0 : Int32) 5 from (show vp_in (nI 0) 5 from vp_in_nI (by omega) (by omega))) dX15_feed_22 (fun H locs hP hD hS => ?_)
  obtain ⟨f_5, hP, hD⟩ : ∃ f_5 : Nat → Int32, va_P (dC, dI) vwCl [(h0, .inr (15, fs)), (y0, .inl (ct, 3000, .inl (fun _ => 0))), (q_3, .inl (cA_4, 5, .inl f_5))] H ∧ va_D A [(h0, .inr (15, fs)), (y0, .inl (ct, 3000, .inl (fun _ => 0))), (q_3, .inl (cA_4, 5, .inl f_5))] := ⟨_, hP, hD⟩
  refine lv_dup hx hb dX15_feed_23 rfl ?_
  refine lv_iconst (v := 1) hx hb dX15_feed_24 (by decide) ?_
  refine lv_iload_n hx hb dX15_feed_25 rfl (lv_at hl 2 rfl) ?_
  refine va_iast hx hb hK hP hD hS 2 1 rfl rfl (show vp_in (1 : Int32) 5 from (show vp_in (nI 1) 5 from vp_in_nI (by omega) (by omega))) dX15_feed_26 (fun H locs hP hD hS => ?_)
  obtain ⟨f_6, hP, hD⟩ : ∃ f_6 : Nat → Int32, va_P (dC, dI) vwCl [(h0, .inr (15, fs)), (y0, .inl (ct, 3000, .inl (fun _ => 0))), (q_3, .inl (cA_4, 5, .inl f_6))] H ∧ va_D A [(h0, .inr (15, fs)), (y0, .inl (ct, 3000, .inl (fun _ => 0))), (q_3, .inl (cA_4, 5, .inl f_6))] := ⟨_, hP, hD⟩
  refine lv_dup hx hb dX15_feed_27 rfl ?_
  refine lv_iconst (v := 2) hx hb dX15_feed_28 (by decide) ?_
  refine lv_iload_n hx hb dX15_feed_29 rfl (lv_at hl 3 rfl) ?_
  refine va_iast hx hb hK hP hD hS 2 1 rfl rfl (show vp_in (2 : Int32) 5 from (show vp_in (nI 2) 5 from vp_in_nI (by omega) (by omega))) dX15_feed_30 (fun H locs hP hD hS => ?_)
  obtain ⟨f_7, hP, hD⟩ : ∃ f_7 : Nat → Int32, va_P (dC, dI) vwCl [(h0, .inr (15, fs)), (y0, .inl (ct, 3000, .inl (fun _ => 0))), (q_3, .inl (cA_4, 5, .inl f_7))] H ∧ va_D A [(h0, .inr (15, fs)), (y0, .inl (ct, 3000, .inl (fun _ => 0))), (q_3, .inl (cA_4, 5, .inl f_7))] := ⟨_, hP, hD⟩
  refine lv_dup hx hb dX15_feed_31 rfl ?_
  refine lv_iconst (v := 3) hx hb dX15_feed_32 (by decide) ?_
  refine lv_iload hx hb dX15_feed_33 (lv_at hl 4 rfl) ?_
  refine va_iast hx hb hK hP hD hS 2 1 rfl rfl (show vp_in (3 : Int32) 5 from (show vp_in (nI 3) 5 from vp_in_nI (by omega) (by omega))) dX15_feed_35 (fun H locs hP hD hS => ?_)
  obtain ⟨f_8, hP, hD⟩ : ∃ f_8 : Nat → Int32, va_P (dC, dI) vwCl [(h0, .inr (15, fs)), (y0, .inl (ct, 3000, .inl (fun _ => 0))), (q_3, .inl (cA_4, 5, .inl f_8))] H ∧ va_D A [(h0, .inr (15, fs)), (y0, .inl (ct, 3000, .inl (fun _ => 0))), (q_3, .inl (cA_4, 5, .inl f_8))] := ⟨_, hP, hD⟩
  refine lv_dup hx hb dX15_feed_36 rfl ?_
  refine lv_iconst (v := 4) hx hb dX15_feed_37 (by decide) ?_
  refine lv_iload hx hb dX15_feed_38 (lv_at hl 5 rfl) ?_
  refine va_iast hx hb hK hP hD hS 2 1 rfl rfl (show vp_in (4 : Int32) 5 from (show vp_in (nI 4) 5 from vp_in_nI (by omega) (by omega))) dX15_feed_40 (fun H locs hP hD hS => ?_)
  obtain ⟨f_9, hP, hD⟩ : ∃ f_9 : Nat → Int32, va_P (dC, dI) vwCl [(h0, .inr (15, fs)), (y0, .inl (ct, 3000, .inl (fun _ => 0))), (q_3, .inl (cA_4, 5, .inl f_9))] H ∧ va_D A [(h0, .inr (15, fs)), (y0, .inl (ct, 3000, .inl (fun _ => 0))), (q_3, .inl (cA_4, 5, .inl f_9))] := ⟨_, hP, hD⟩
  refine lv_astore (lv' := [(6, .ref q_3), (0, .ref h0), (1, .int x1), (2, .int x2), (3, .int x3), (4, .int x4), (5, .int x5)]) hx hb dX15_feed_41 hl (by decide) rfl (fun ls hl => ?_)
  refine lv_iconst (v := 0) hx hb dX15_feed_43 (by decide) ?_
  refine lv_istore (lv' := [(7, .int 0), (6, .ref q_3), (0, .ref h0), (1, .int x1), (2, .int x2), (3, .int x3), (4, .int x4), (5, .int x5)]) hx hb dX15_feed_44 hl (by decide) rfl (fun ls hl => ?_)
  refine W.widen (k := 1) (n := 5) (by omega) (by omega) ?_
  refine wl_loop (σ := Nat × (Nat → Int32)) A (dC, dI) 46 8 (fun (i1, fa) => [(h0, .inr (15, fs)), (y0, .inl (ct, 3000, .inl fa)), (q_3, .inl (cA_4, 5, .inl f_9))]) (fun (i1, fa) => [(7, .int (nI i1)), (6, .ref q_3), (0, .ref h0), (1, .int x1), (2, .int x2), (3, .int x3), (4, .int x4), (5, .int x5)]) (fun (i1, fa) => []) (fun (i1, fa) => 1) (fun (i1, fa) => 5) (fun (i1, fa) => i1 ≤ 20) (fun (i1, fa) => 20 - i1) ?_ (0, (fun _ => 0)) (by first | omega | exact ⟨by omega, by omega⟩) _ _ (hP.sub [0, 1, 2] rfl) (hD.sub [0, 1, 2] (by decide) rfl) hS ls (lv_sub hl [0, 1, 2, 3, 4, 5, 6, 7] rfl)
  rintro ⟨i1, fa⟩ hv_10 ih_11 H locs hP hD hS ls hl
  have hP : va_P (dC, dI) vwCl [(h0, .inr (15, fs)), (y0, .inl (ct, 3000, .inl fa)), (q_3, .inl (cA_4, 5, .inl f_9))] H := hP
  have hD : va_D A [(h0, .inr (15, fs)), (y0, .inl (ct, 3000, .inl fa)), (q_3, .inl (cA_4, 5, .inl f_9))] := hD
  have hl : lv_has ls 8 [(7, .int (nI i1)), (6, .ref q_3), (0, .ref h0), (1, .int x1), (2, .int x2), (3, .int x3), (4, .int x4), (5, .int x5)] := hl
  have hv_10 : i1 ≤ 20 := hv_10
  refine W.widen (k := 1) (n := 5) (Nat.le_refl _) (Nat.le_refl _) ?_
  refine W.eq (g2 := F0 m 46 ls []) rfl ?_
  refine lv_iload hx hb dX15_feed_46 (lv_at hl 0 rfl) ?_
  refine lv_bipush (v := 20) hx hb dX15_feed_48 (by decide) ?_
  refine lv_icmp_ge (tgt := 90) hx hb dX15_feed_50 (by decide) (fun c_12 => ?_) (fun c_12 => ?_)
  ·
    have hi_13 : 20 ≤ i1 := leN (N := 20) c_12
    refine lv_aload_n hx hb dX15_feed_90 rfl (lv_at hl 2 rfl) ?_
    refine lv_dup hx hb dX15_feed_91 rfl ?_
    refine va_get (D := (dC, dI)) (ci := 15) (v := .int 0) (C := RX15) (T := TX15) (N := 59) hx hb hts it_15 hown hK hP 0 rfl rfl 1 (by decide) (hts _ kt_377) (fun _ h9 => h9) hF1 dX15_feed_92 ?_
    refine lv_bipush (v := 20) hx hb dX15_feed_95 (by decide) ?_
    refine lv_iadd hx hb dX15_feed_97 ?_
    refine lv_topi (fun x_14 ex_14 => ?_)
    obtain rfl : x_14 = 20 := ex_14.trans (by decide)
    refine va_put (D := (dC, dI)) (ci := 15) (v := .int 20) (ty := .int) (C := RX15) (T := TX15) (N := 59) hx hb hts it_15 tyX15 tyX15_ok nmX15 hown hK hP hD hS 0 rfl rfl 1 (by decide) (hts _ kt_377) (fun _ h9 => h9) rfl (by decide +kernel) rfl rfl (by rw [hL]; decide) dX15_feed_98 (fun H locs hP hD hS => ?_)
    obtain ⟨fs_15, hP, hD, hfs_15_L, hfs_15_0, hfs_15_1, hfs_15_2, hfs_15_3, hfs_15_4, hfs_15_12, hfs_15_14, hfs_15_15, hfs_15_30, hfs_15_33, hfs_15_38, hfs_15_44⟩ : ∃ fs_15 : List Value, va_P (dC, dI) vwCl [(h0, .inr (15, fs_15)), (y0, .inl (ct, 3000, .inl fa)), (q_3, .inl (cA_4, 5, .inl f_9))] H ∧ va_D A [(h0, .inr (15, fs_15)), (y0, .inl (ct, 3000, .inl fa)), (q_3, .inl (cA_4, 5, .inl f_9))] ∧ fs_15.length = 59 ∧ fs_15[0]? = some (.ref y0) ∧ fs_15[1]? = some (.int 20) ∧ fs_15[2]? = some (.int 0) ∧ fs_15[3]? = some (.int 0) ∧ fs_15[4]? = some (.ref y4) ∧ fs_15[12]? = some (.int 0) ∧ fs_15[14]? = some (.int 0) ∧ fs_15[15]? = some (.int 0) ∧ fs_15[30]? = some (.int 0) ∧ fs_15[33]? = some (.int 0) ∧ fs_15[38]? = some (.ref y38) ∧ fs_15[44]? = some (.ref y44) := ⟨_, hP, hD, ov_len hL, ov_ne (by decide) hF0, ov_self (by rw [hL]; decide), ov_ne (by decide) hF2, ov_ne (by decide) hF3, ov_ne (by decide) hF4, ov_ne (by decide) hF12, ov_ne (by decide) hF14, ov_ne (by decide) hF15, ov_ne (by decide) hF30, ov_ne (by decide) hF33, ov_ne (by decide) hF38, ov_ne (by decide) hF44⟩
    refine lv_aload_n hx hb dX15_feed_101 rfl (lv_at hl 2 rfl) ?_
    refine va_get (D := (dC, dI)) (ci := 15) (v := .int 20) (C := RX15) (T := TX15) (N := 59) hx hb hts it_15 hown hK hP 0 rfl rfl 1 (by decide) (hts _ kt_377) (fun _ h9 => h9) hfs_15_1 dX15_feed_102 ?_
    have hP9 := hP.sub (ws' := []) [] rfl
    have hD9 := hD.sub (ws' := []) [] (by decide) rfl
    have hK9 := hK.sub (tys' := []) [] rfl
    refine W.widen (k := 1) (n := 5) (by omega) (by omega) ?_
    exact W.iret (v := 20) hx hb hr (fun t ht hW => ⟨⟨20, (), rfl, rfl, QW.mk ht hW hP9 hK9 hD9⟩, hS.F ht⟩) hS.2.2 dX15_feed_105
  ·
    have hi_16 : i1 < 20 := ltN (N := 20) c_12
    refine lv_aload_n hx hb dX15_feed_53 rfl (lv_at hl 2 rfl) ?_
    refine va_get (D := (dC, dI)) (ci := 15) (v := .ref y0) (C := RX15) (T := TX15) (N := 59) hx hb hts it_15 hown hK hP 0 rfl rfl 0 (by decide) (hts _ kt_321) (fun _ h9 => h9) hF0 dX15_feed_54 ?_
    refine lv_aload_n hx hb dX15_feed_57 rfl (lv_at hl 2 rfl) ?_
    refine va_get (D := (dC, dI)) (ci := 15) (v := .int 0) (C := RX15) (T := TX15) (N := 59) hx hb hts it_15 hown hK hP 0 rfl rfl 1 (by decide) (hts _ kt_377) (fun _ h9 => h9) hF1 dX15_feed_58 ?_
    refine lv_iload hx hb dX15_feed_61 (lv_at hl 0 rfl) ?_
    refine lv_iadd hx hb dX15_feed_63 ?_
    refine lv_topi (fun x_17 ex_17 => ?_)
    obtain rfl : x_17 = (nI (0 + i1)) := ex_17.trans (nI_add 0 i1)
    refine lv_aload hx hb dX15_feed_64 (lv_at hl 1 rfl) ?_
    refine lv_iload hx hb dX15_feed_66 (lv_at hl 0 rfl) ?_
    refine lv_iconst (v := 4) hx hb dX15_feed_68 (by decide) ?_
    refine lv_idiv hx hb dX15_feed_69 (by decide) ?_
    refine lv_topi (fun x_18 ex_18 => ?_)
    obtain rfl : x_18 = (nI (i1 / 4)) := ex_18.trans (pk_div (d := 4) (by omega) (by omega) (by omega))
    refine va_iald hx hb hK hP 2 1 rfl rfl (vp_in_nI (by omega) (by omega)) dX15_feed_70 ?_
    refine lv_topi (fun x_19 _ => ?_)
    refine lv_bipush (v := 24) hx hb dX15_feed_71 (by decide) ?_
    refine lv_bipush (v := 8) hx hb dX15_feed_73 (by decide) ?_
    refine lv_iload hx hb dX15_feed_75 (lv_at hl 0 rfl) ?_
    refine lv_iconst (v := 4) hx hb dX15_feed_77 (by decide) ?_
    refine lv_irem hx hb dX15_feed_78 (by decide) ?_
    refine lv_topi (fun x_20 _ => ?_)
    refine lv_imul hx hb dX15_feed_79 ?_
    refine lv_topi (fun x_21 _ => ?_)
    refine lv_isub hx hb dX15_feed_80 ?_
    refine lv_topi (fun x_22 _ => ?_)
    refine lv_ishr hx hb dX15_feed_81 ?_
    refine lv_topi (fun x_23 _ => ?_)
    refine lv_i2b hx hb dX15_feed_82 rfl ?_
    refine lv_topi (fun x_24 _ => ?_)
    refine va_bast hx hb hK hP hD hS 1 0 rfl rfl (vp_in_nI (by omega) (by omega)) dX15_feed_83 (fun H locs hP hD hS => ?_)
    obtain ⟨f_25, hP, hD⟩ : ∃ f_25 : Nat → Int32, va_P (dC, dI) vwCl [(h0, .inr (15, fs)), (y0, .inl (ct, 3000, .inl f_25)), (q_3, .inl (cA_4, 5, .inl f_9))] H ∧ va_D A [(h0, .inr (15, fs)), (y0, .inl (ct, 3000, .inl f_25)), (q_3, .inl (cA_4, 5, .inl f_9))] := ⟨_, hP, hD⟩
    refine lv_iinc (v := (nI (i1 + 1))) (lv' := [(7, .int (nI (i1 + 1))), (6, .ref q_3), (0, .ref h0), (1, .int x1), (2, .int x2), (3, .int x3), (4, .int x4), (5, .int x5)]) hx hb dX15_feed_84 hl (k := 0) rfl (nI_1 _) (by decide) rfl (fun ls hl => ?_)
    refine lv_goto (tgt := 46) hx hb dX15_feed_87 (by decide) ?_
    refine W.widen (k := 1) (n := 5) (by omega) (by omega) ?_
    exact ih_11 ((i1 + 1), f_25) (by first | omega | exact ⟨by omega, by omega⟩) (by show 20 - (i1 + 1) < 20 - i1; omega) _ _ (hP.sub [0, 1, 2] rfl) (hD.sub [0, 1, 2] (by decide) rfl) hS ls (lv_sub hl [0, 1, 2, 3, 4, 5, 6, 7] rfl)
set_option maxHeartbeats 4000000 in
set_option maxRecDepth 100000 in
theorem c_X15_end (l : Launch) (dC : Nat → ClassId) (dI : Nat → Nat → Nat) (sz : Nat) (h0 : Nat) (fs : List Value) (y0 : Nat) (y4 : Nat) (y38 : Nat) (y44 : Nat) (x1 : Int32) (hL : fs.length = 59) (hF0 : fs[0]? = some (.ref y0)) (hF1 : fs[1]? = some (.int 0)) (hF2 : fs[2]? = some (.int 0)) (hF3 : fs[3]? = some (.int 0)) (hF4 : fs[4]? = some (.ref y4)) (hF12 : fs[12]? = some (.int 0)) (hF14 : fs[14]? = some (.int 0)) (hF15 : fs[15]? = some (.int 0)) (hF30 : fs[30]? = some (.int 0)) (hF33 : fs[33]? = some (.int 0)) (hF38 : fs[38]? = some (.ref y38)) (hF44 : fs[44]? = some (.ref y44)) : Met l yX15_end (.code yX15_end cX15_end 2 (some .int) :: tb) ({ frames := 1, cells := 0, slots := 0, locals := 25 }) (va_Pc [.ref h0, .int x1] (PW (dC, dI) sz [(h0, .inr (15, fs))] [])) (va_Qi (fun (r : Int32) (_ : Unit) => r = (if x1 = 0 then 0 else (-1))) (fun _ T9 => QW (dC, dI) (va_A [(h0, .inr (15, fs))] sz) [] [] T9) (va_A [(h0, .inr (15, fs))] sz)) 0 0 (va_A [(h0, .inr (15, fs))] sz) := by
  refine Met.ofW (cc := cX15_end) (maxL := 2) (ret := (some .int)) (by decide) rfl ?_
  intro p e s m args below meth c s₁ B hml hv
  obtain ⟨rfl, hsz, hP, hK, hD0, hE⟩ := hv
  have hx := B.exec
  have hb := B.bytes
  have hr := B.returns
  have hts : ∀ w ∈ tb, w.before _ s = true := fun w h => atoms_spec (ws := .code yX15_end cX15_end 2 (some .int) :: tb) B.pre w (List.mem_cons_of_mem _ h)
  have hown : s.vm.findClass RX15 = some m.cls := findClass_of_methodNamed B.named
  have hlocks := B.notSynchronized
  subst hsz
  have hD := hD0.self (sz := s.heap.size)
  generalize hAe : va_A [(h0, .inr (15, fs))] s.heap.size = A at hD ⊢
  have hA : ∀ q : Nat, s.heap.size ≤ q → A q := fun q h => by rw [← hAe]; exact Or.inr h
  have hS : va_S A s.heap s.heap [] := va_S.rf
  have hP : va_P (dC, dI) vwCl [(h0, .inr (15, fs))] s.heap := hP
  have hl := lv_entry ([.ref h0, .int x1]) (n := 2) (Nat.le_of_ble_eq_true rfl)
  rw [lg_entry_eq]
  generalize (lg_sl ([.ref h0, .int x1]) ++ List.replicate (2 - (lg_sl ([.ref h0, .int x1])).length) Slot.unset).toArray = ls at hl ⊢
  have hl : lv_has ls 2 [(0, .ref h0), (1, .int x1)] := hl
  refine lv_iload_n hx hb dX15_end_0 rfl (lv_at hl 1 rfl) ?_
  refine lv_i2l hx hb dX15_end_1 rfl ?_
  refine lv_topl (fun x_1 ex_1 => ?_)
  obtain rfl : x_1 = x1.toInt64 := ex_1.trans (rfl)
  refine lv_lconst (v := 0) hx hb dX15_end_2 (by decide) ?_
  refine lv_aload_n hx hb dX15_end_3 rfl (lv_at hl 0 rfl) ?_
  refine va_get (D := (dC, dI)) (ci := 15) (v := .int 0) (C := RX15) (T := TX15) (N := 59) hx hb hts it_15 hown hK hP 0 rfl rfl 1 (by decide) (hts _ kt_377) (fun _ h9 => h9) hF1 dX15_end_4 ?_
  refine lv_i2l (v := 0) hx hb dX15_end_7 (by decide) ?_
  have hPc := hP.sub (ws' := []) [] rfl
  have hDc := hD.sub (ws' := []) [] (by decide) rfl
  have hKc := hK.sub (tys' := []) [] rfl
  have hFc := va_free (wc := []) hD hS hA [] rfl
  refine va_calli (va_runS (As := [.long x1.toInt64, .long 0, .long 0]) (rest := []) ⟨hx, hb, hml, hown, hts⟩ (c_X15_in l dC dI s.heap.size x1.toInt64 0 0 ) ⟨callB_of 3 hts (gi kt_374) rfl rfl rfl (hts _ kt_375) (hts _ kt_379) (by decide +kernel) ⟨Nat.le_of_ble_eq_true rfl, Nat.le_of_ble_eq_true rfl⟩, (hts _ kt_376)⟩ ⟨fun a U g mk q => ⟨q.1, PW.calling q.2⟩, fun U hU hW => ⟨rfl, PW.mk hU hW hPc hKc hDc hE⟩⟩ rfl rfl hl.1 rfl (lv_room (Nat.le_of_ble_eq_true rfl)) dX15_end_8 ⟨by show _ + 0 ≤ 0; omega, by show _ + 0 ≤ 0; omega⟩) hS (fun q _ h => hFc q h) hFc (fun r_2 u t H1 locs ht hvm hw hB hz1 hk1 hS => ?_)
  have hB1 := hB
  obtain ⟨hP, hD, hK⟩ := QW.join (wr := [(h0, .inr (15, fs))]) hP hD hK [] [0] rfl rfl (by decide) (by decide) hk1 hFc ht hvm hB1
  generalize H1 = H at hP hS ⊢
  have hK : va_K (dC, dI) vwCl [] s := hK.sub [] rfl
  have hP : va_P (dC, dI) vwCl [(h0, .inr (15, fs))] H := hP
  have hD : va_D A [(h0, .inr (15, fs))] := hD
  have hw : r_2 = (if 0 ≤ x1.toInt64 ∧ x1.toInt64 ≤ 0 then 1 else 0) := hw
  have hw_3 := hw
  have hq := in_one (a := 0) rfl rfl hw_3
  refine lv_if_ne (tgt := 16) hx hb dX15_end_11 (by decide) (fun c_4 => ?_) (fun c_4 => ?_)
  ·
    refine lv_aload_n hx hb dX15_end_16 rfl (lv_at hl 0 rfl) ?_
    refine lv_iload_n hx hb dX15_end_17 rfl (lv_at hl 1 rfl) ?_
    refine va_put (D := (dC, dI)) (ci := 15) (v := .int x1) (ty := .int) (C := RX15) (T := TX15) (N := 59) hx hb hts it_15 tyX15 tyX15_ok nmX15 hown hK hP hD hS 0 rfl rfl 1 (by decide) (hts _ kt_377) (fun _ h9 => h9) rfl (by decide +kernel) rfl rfl (by rw [hL]; decide) dX15_end_18 (fun H locs hP hD hS => ?_)
    obtain ⟨fs_5, hP, hD, hfs_5_L, hfs_5_0, hfs_5_1, hfs_5_2, hfs_5_3, hfs_5_4, hfs_5_12, hfs_5_14, hfs_5_15, hfs_5_30, hfs_5_33, hfs_5_38, hfs_5_44⟩ : ∃ fs_5 : List Value, va_P (dC, dI) vwCl [(h0, .inr (15, fs_5))] H ∧ va_D A [(h0, .inr (15, fs_5))] ∧ fs_5.length = 59 ∧ fs_5[0]? = some (.ref y0) ∧ fs_5[1]? = some (.int x1) ∧ fs_5[2]? = some (.int 0) ∧ fs_5[3]? = some (.int 0) ∧ fs_5[4]? = some (.ref y4) ∧ fs_5[12]? = some (.int 0) ∧ fs_5[14]? = some (.int 0) ∧ fs_5[15]? = some (.int 0) ∧ fs_5[30]? = some (.int 0) ∧ fs_5[33]? = some (.int 0) ∧ fs_5[38]? = some (.ref y38) ∧ fs_5[44]? = some (.ref y44) := ⟨_, hP, hD, ov_len hL, ov_ne (by decide) hF0, ov_self (by rw [hL]; decide), ov_ne (by decide) hF2, ov_ne (by decide) hF3, ov_ne (by decide) hF4, ov_ne (by decide) hF12, ov_ne (by decide) hF14, ov_ne (by decide) hF15, ov_ne (by decide) hF30, ov_ne (by decide) hF33, ov_ne (by decide) hF38, ov_ne (by decide) hF44⟩
    refine lv_iload_n hx hb dX15_end_21 rfl (lv_at hl 1 rfl) ?_
    have hP9 := hP.sub (ws' := []) [] rfl
    have hD9 := hD.sub (ws' := []) [] (by decide) rfl
    have hK9 := hK.sub (tys' := []) [] rfl
    refine W.widen (k := 0) (n := 0) (by omega) (by omega) ?_
    exact W.iret (v := x1) hx hb hr (fun t ht hW => ⟨⟨x1, (), rfl, (by rw [if_pos (Classical.byContradiction fun h => c_4 (hq.mpr h))]; exact (Classical.byContradiction fun h => c_4 (hq.mpr h))), QW.mk ht hW hP9 hK9 hD9⟩, hS.F ht⟩) hS.2.2 dX15_end_22
  ·
    refine lv_iconst (v := (-1)) hx hb dX15_end_14 (by decide) ?_
    have hP9 := hP.sub (ws' := []) [] rfl
    have hD9 := hD.sub (ws' := []) [] (by decide) rfl
    have hK9 := hK.sub (tys' := []) [] rfl
    refine W.widen (k := 0) (n := 0) (by omega) (by omega) ?_
    exact W.iret (v := (-1)) hx hb hr (fun t ht hW => ⟨⟨(-1), (), rfl, (by rw [if_neg (hq.mp c_4)]), QW.mk ht hW hP9 hK9 hD9⟩, hS.F ht⟩) hS.2.2 dX15_end_15
set_option maxHeartbeats 4000000 in
set_option maxRecDepth 100000 in
theorem c_X15_entry (l : Launch) (dC : Nat → ClassId) (dI : Nat → Nat → Nat) (sz : Nat) (h0 : Nat) (fs : List Value) (y0 : Nat) (y4 : Nat) (y38 : Nat) (y44 : Nat) (x1 : Int32) (x2 : Int32) (hL : fs.length = 59) (hF0 : fs[0]? = some (.ref y0)) (hF1 : fs[1]? = some (.int 0)) (hF2 : fs[2]? = some (.int 0)) (hF3 : fs[3]? = some (.int 0)) (hF4 : fs[4]? = some (.ref y4)) (hF12 : fs[12]? = some (.int 0)) (hF14 : fs[14]? = some (.int 0)) (hF15 : fs[15]? = some (.int 0)) (hF30 : fs[30]? = some (.int 0)) (hF33 : fs[33]? = some (.int 0)) (hF38 : fs[38]? = some (.ref y38)) (hF44 : fs[44]? = some (.ref y44)) : Met l yX15_entry (.code yX15_entry cX15_entry 7 (some .int) :: tb) ({ frames := 2, cells := 0, slots := 0, locals := 50 }) (va_Pc [.ref h0, .int x1, .int x2] (PW (dC, dI) sz [(h0, .inr (15, fs))] [])) (va_Qi (fun (r : Int32) (_ : Unit) => r = (-1)) (fun _ T9 => QW (dC, dI) (va_A [(h0, .inr (15, fs))] sz) [] [] T9) (va_A [(h0, .inr (15, fs))] sz)) 0 0 (va_A [(h0, .inr (15, fs))] sz) := by
  refine Met.ofW (cc := cX15_entry) (maxL := 7) (ret := (some .int)) (by decide) rfl ?_
  intro p e s m args below meth c s₁ B hml hv
  obtain ⟨rfl, hsz, hP, hK, hD0, hE⟩ := hv
  have hx := B.exec
  have hb := B.bytes
  have hr := B.returns
  have hts : ∀ w ∈ tb, w.before _ s = true := fun w h => atoms_spec (ws := .code yX15_entry cX15_entry 7 (some .int) :: tb) B.pre w (List.mem_cons_of_mem _ h)
  have hown : s.vm.findClass RX15 = some m.cls := findClass_of_methodNamed B.named
  have hlocks := B.notSynchronized
  subst hsz
  have hD := hD0.self (sz := s.heap.size)
  generalize hAe : va_A [(h0, .inr (15, fs))] s.heap.size = A at hD ⊢
  have hA : ∀ q : Nat, s.heap.size ≤ q → A q := fun q h => by rw [← hAe]; exact Or.inr h
  have hS : va_S A s.heap s.heap [] := va_S.rf
  have hP : va_P (dC, dI) vwCl [(h0, .inr (15, fs))] s.heap := hP
  have hl := lv_entry ([.ref h0, .int x1, .int x2]) (n := 7) (Nat.le_of_ble_eq_true rfl)
  rw [lg_entry_eq]
  generalize (lg_sl ([.ref h0, .int x1, .int x2]) ++ List.replicate (7 - (lg_sl ([.ref h0, .int x1, .int x2])).length) Slot.unset).toArray = ls at hl ⊢
  have hl : lv_has ls 7 [(0, .ref h0), (1, .int x1), (2, .int x2)] := hl
  refine lv_aload_n hx hb dX15_entry_0 rfl (lv_at hl 0 rfl) ?_
  have hPc := hP.sub (ws' := [(h0, .inr (15, fs))]) [0] rfl
  have hDc := hD.sub (ws' := [(h0, .inr (15, fs))]) [0] (by decide) rfl
  have hKc := hK.sub (tys' := []) [] rfl
  have hFc := va_free (wc := [(h0, .inr (15, fs))]) hD hS hA [0] rfl
  refine va_calli (va_runV (As := []) (rest := []) ⟨hx, hb, hml, hown, hts⟩ (c_X15_used l dC dI s.heap.size h0 fs y0 y4 y38 y44 (hL) (hF0) (hF1) (hF2) (hF3) (hF4) (hF12) (hF14) (hF15) (hF30) (hF33) (hF38) (hF44)) ⟨callB_of 0 hts (gi kt_380) rfl rfl rfl (hts _ kt_375) (hts _ kt_381) (by decide +kernel) ⟨Nat.le_of_ble_eq_true rfl, Nat.le_of_ble_eq_true rfl⟩, (hts _ kt_382), (hts _ kt_383)⟩ ⟨fun a U g mk q => ⟨q.1, PW.calling q.2⟩, va_recv hKc hPc (ci := 15) (q0 := 0) rfl rfl, fun U hU hW => ⟨rfl, PW.mk hU hW hPc hKc hDc hE⟩⟩ rfl rfl hl.1 rfl (lv_room (Nat.le_of_ble_eq_true rfl)) dX15_entry_1 ⟨by show _ + 0 ≤ 0; omega, by show _ + 0 ≤ 0; omega⟩) hS (fun q _ h => hFc q h) hFc (fun r_1 u t H1 locs ht hvm hw hB hz1 hk1 hS => ?_)
  obtain ⟨fs2_2, hB1, hf_3, hf_4, hf_5, hf_6, hf_7, hf_8, hf_9, hf_10, hf_11, hf_12, hf_13, hf_14, hf_15⟩ := hB
  obtain ⟨hP, hD, hK⟩ := QW.join (wr := []) hP hD hK [0] [] rfl rfl (by decide) (by decide) hk1 hFc ht hvm hB1
  generalize H1 = H at hP hS ⊢
  have hK : va_K (dC, dI) vwCl [] s := hK.sub [] rfl
  have hP : va_P (dC, dI) vwCl [(h0, .inr (15, fs2_2))] H := hP
  have hD : va_D A [(h0, .inr (15, fs2_2))] := hD
  have hw : r_1 = 0 := hw
  subst hw
  refine lv_istore_n (lv' := [(3, .int 0), (0, .ref h0), (1, .int x1), (2, .int x2)]) hx hb dX15_entry_4 rfl hl (by decide) rfl (fun ls hl => ?_)
  refine lv_iconst (v := 0) hx hb dX15_entry_5 (by decide) ?_
  refine lv_istore (lv' := [(4, .int 0), (3, .int 0), (0, .ref h0), (1, .int x1), (2, .int x2)]) hx hb dX15_entry_6 hl (by decide) rfl (fun ls hl => ?_)
  refine lv_aload_n hx hb dX15_entry_8 rfl (lv_at hl 2 rfl) ?_
  refine va_get (D := (dC, dI)) (ci := 15) (v := .int 0) (C := RX15) (T := TX15) (N := 59) hx hb hts it_15 hown hK hP 0 rfl rfl 3 (by decide) (hts _ kt_384) (fun _ h9 => h9) hf_7 dX15_entry_9 ?_
  refine lv_bipush (v := 40) hx hb dX15_entry_12 (by decide) ?_
  refine lv_icmp_ne (tgt := 20) hx hb dX15_entry_14 (by decide) (fun c_16 => ?_) (fun c_16 => absurd c_16 (by decide))
  refine lv_iload_n hx hb dX15_entry_20 rfl (lv_at hl 3 rfl) ?_
  refine lv_i2l hx hb dX15_entry_21 rfl ?_
  refine lv_topl (fun x_17 _ => ?_)
  refine lv_lconst (v := 0) hx hb dX15_entry_22 (by decide) ?_
  refine lv_ldc2 (v := 4) hx hb hown (hts _ kt_385) dX15_entry_23 ?_
  have hPc := hP.sub (ws' := []) [] rfl
  have hDc := hD.sub (ws' := []) [] (by decide) rfl
  have hKc := hK.sub (tys' := []) [] rfl
  have hFc := va_free (wc := []) hD hS hA [] rfl
  refine va_calli (va_runS (As := [.long x_17, .long 0, .long 4]) (rest := []) ⟨hx, hb, hml, hown, hts⟩ (c_X15_in l dC dI H.size x_17 0 4 ) ⟨callB_of 3 hts (gi kt_374) rfl rfl rfl (hts _ kt_375) (hts _ kt_379) (by decide +kernel) ⟨Nat.le_of_ble_eq_true rfl, Nat.le_of_ble_eq_true rfl⟩, (hts _ kt_376)⟩ ⟨fun a U g mk q => ⟨q.1, PW.calling q.2⟩, fun U hU hW => ⟨rfl, PW.mk hU hW hPc hKc hDc hE⟩⟩ rfl rfl hl.1 rfl (lv_room (Nat.le_of_ble_eq_true rfl)) dX15_entry_26 ⟨by show _ + 0 ≤ 0; omega, by show _ + 0 ≤ 0; omega⟩) hS (fun q _ h => hFc q h) hFc (fun r_18 u t H1 locs ht hvm hw hB hz1 hk1 hS => ?_)
  have hB1 := hB
  obtain ⟨hP, hD, hK⟩ := QW.join (wr := [(h0, .inr (15, fs2_2))]) hP hD hK [] [0] rfl rfl (by decide) (by decide) hk1 hFc ht hvm hB1
  generalize H1 = H at hP hS ⊢
  have hK : va_K (dC, dI) vwCl [] s := hK.sub [] rfl
  have hP : va_P (dC, dI) vwCl [(h0, .inr (15, fs2_2))] H := hP
  have hD : va_D A [(h0, .inr (15, fs2_2))] := hD
  have hw : r_18 = (if 0 ≤ x_17 ∧ x_17 ≤ 4 then 1 else 0) := hw
  have hw_19 := hw
  refine lv_if_ne (tgt := 34) hx hb dX15_entry_29 (by decide) (fun c_20 => ?_) (fun c_20 => ?_)
  ·
    refine lv_iload_n hx hb dX15_entry_34 rfl (lv_at hl 3 rfl) ?_
    refine lv_if_eq (tgt := 43) hx hb dX15_entry_35 (by decide) (fun c_21 => ?_) (fun c_21 => ?_)
    ·
      refine lv_iconst (v := 1) hx hb dX15_entry_43 (by decide) ?_
      refine lv_goto (tgt := 48) hx hb dX15_entry_44 (by decide) ?_
      refine lv_istore (lv' := [(5, .int 1), (4, .int 0), (3, .int 0), (0, .ref h0), (1, .int x1), (2, .int x2)]) hx hb dX15_entry_48 hl (by decide) rfl (fun ls hl => ?_)
      refine lv_iload hx hb dX15_entry_50 (lv_at hl 0 rfl) ?_
      refine lv_if_eq (tgt := 79) hx hb dX15_entry_52 (by decide) (fun c_22 => absurd c_22 (by decide)) (fun c_22 => ?_)
      refine lv_iload hx hb dX15_entry_55 (lv_at hl 1 rfl) ?_
      refine lv_iload_n hx hb dX15_entry_57 rfl (lv_at hl 2 rfl) ?_
      refine lv_icmp_ge (tgt := 79) hx hb dX15_entry_58 (by decide) (fun c_23 => ?_) (fun c_23 => absurd (by decide) c_23)
      refine lv_iload hx hb dX15_entry_79 (lv_at hl 0 rfl) ?_
      refine lv_if_eq (tgt := 89) hx hb dX15_entry_81 (by decide) (fun c_24 => absurd c_24 (by decide)) (fun c_24 => ?_)
      refine lv_iload hx hb dX15_entry_84 (lv_at hl 1 rfl) ?_
      refine lv_goto (tgt := 90) hx hb dX15_entry_86 (by decide) ?_
      refine lv_istore (lv' := [(6, .int 0), (5, .int 1), (4, .int 0), (3, .int 0), (0, .ref h0), (1, .int x1), (2, .int x2)]) hx hb dX15_entry_90 hl (by decide) rfl (fun ls hl => ?_)
      refine lv_iload hx hb dX15_entry_92 (lv_at hl 1 rfl) ?_
      refine lv_if_eq (tgt := 103) hx hb dX15_entry_94 (by decide) (fun c_25 => absurd c_25 (by decide)) (fun c_25 => ?_)
      refine lv_iload hx hb dX15_entry_97 (lv_at hl 2 rfl) ?_
      refine lv_iload_n hx hb dX15_entry_99 rfl (lv_at hl 3 rfl) ?_
      refine lv_icmp_eq (tgt := 116) hx hb dX15_entry_100 (by decide) (fun c_26 => ?_) (fun c_26 => absurd (by decide) c_26)
      refine lv_iconst (v := (-1)) hx hb dX15_entry_116 (by decide) ?_
      have hP9 := hP.sub (ws' := []) [] rfl
      have hD9 := hD.sub (ws' := []) [] (by decide) rfl
      have hK9 := hK.sub (tys' := []) [] rfl
      refine W.widen (k := 0) (n := 0) (by omega) (by omega) ?_
      exact W.iret (v := (-1)) hx hb hr (fun t ht hW => ⟨⟨(-1), (), rfl, rfl, QW.mk ht hW hP9 hK9 hD9⟩, hS.F ht⟩) hS.2.2 dX15_entry_117
    ·
      refine lv_iload_n hx hb dX15_entry_38 rfl (lv_at hl 3 rfl) ?_
      refine lv_iconst (v := 2) hx hb dX15_entry_39 (by decide) ?_
      refine lv_icmp_ne (tgt := 47) hx hb dX15_entry_40 (by decide) (fun c_27 => ?_) (fun c_27 => ?_)
      ·
        refine lv_iconst (v := 0) hx hb dX15_entry_47 (by decide) ?_
        refine lv_istore (lv' := [(5, .int 0), (4, .int 0), (3, .int 0), (0, .ref h0), (1, .int x1), (2, .int x2)]) hx hb dX15_entry_48 hl (by decide) rfl (fun ls hl => ?_)
        refine lv_iload hx hb dX15_entry_50 (lv_at hl 0 rfl) ?_
        refine lv_if_eq (tgt := 79) hx hb dX15_entry_52 (by decide) (fun c_28 => ?_) (fun c_28 => absurd (by decide) c_28)
        refine lv_iload hx hb dX15_entry_79 (lv_at hl 0 rfl) ?_
        refine lv_if_eq (tgt := 89) hx hb dX15_entry_81 (by decide) (fun c_29 => ?_) (fun c_29 => absurd (by decide) c_29)
        refine lv_iload_n hx hb dX15_entry_89 rfl (lv_at hl 2 rfl) ?_
        refine lv_istore (lv' := [(6, .int 0), (5, .int 0), (4, .int 0), (3, .int 0), (0, .ref h0), (1, .int x1), (2, .int x2)]) hx hb dX15_entry_90 hl (by decide) rfl (fun ls hl => ?_)
        refine lv_iload hx hb dX15_entry_92 (lv_at hl 1 rfl) ?_
        refine lv_if_eq (tgt := 103) hx hb dX15_entry_94 (by decide) (fun c_30 => ?_) (fun c_30 => absurd (by decide) c_30)
        refine lv_aload_n hx hb dX15_entry_103 rfl (lv_at hl 4 rfl) ?_
        refine va_get (D := (dC, dI)) (ci := 15) (v := .ref y0) (C := RX15) (T := TX15) (N := 59) hx hb hts it_15 hown hK hP 0 rfl rfl 0 (by decide) (hts _ kt_321) (fun _ h9 => h9) hf_4 dX15_entry_104 ?_
        refine lv_iconst (v := 0) hx hb dX15_entry_107 (by decide) ?_
        refine lv_iload hx hb dX15_entry_108 (lv_at hl 0 rfl) ?_
        have hPc := hP.sub (ws' := []) [] rfl
        have hDc := hD.sub (ws' := []) [] (by decide) rfl
        have hKc := hK.sub (tys' := []) [] rfl
        have hFc := va_free (wc := []) hD hS hA [] rfl
        refine va_calli (va_runS (As := [.ref y0, .int 0, .int 0]) (rest := []) ⟨hx, hb, hml, hown, hts⟩ (c_X14_isName_ l dC dI H.size y0 ) ⟨callB_of 3 hts (gi kt_386) rfl rfl rfl (hts _ kt_272) (hts _ kt_387) (by decide +kernel) ⟨Nat.le_of_ble_eq_true rfl, Nat.le_of_ble_eq_true rfl⟩, (hts _ kt_388)⟩ ⟨fun a U g mk q => ⟨q.1, PW.calling q.2⟩, fun U hU hW => ⟨rfl, PW.mk hU hW hPc hKc hDc hE⟩⟩ rfl rfl hl.1 rfl (lv_room (Nat.le_of_ble_eq_true rfl)) dX15_entry_110 ⟨by show _ + 0 ≤ 0; omega, by show _ + 0 ≤ 0; omega⟩) hS (fun q _ h => hFc q h) hFc (fun r_31 u t H1 locs ht hvm hw hB hz1 hk1 hS => ?_)
        have hB1 := hB
        obtain ⟨hP, hD, hK⟩ := QW.join (wr := [(h0, .inr (15, fs2_2))]) hP hD hK [] [0] rfl rfl (by decide) (by decide) hk1 hFc ht hvm hB1
        generalize H1 = H at hP hS ⊢
        have hK : va_K (dC, dI) vwCl [] s := hK.sub [] rfl
        have hP : va_P (dC, dI) vwCl [(h0, .inr (15, fs2_2))] H := hP
        have hD : va_D A [(h0, .inr (15, fs2_2))] := hD
        have hw : r_31 = 0 := hw
        subst hw
        refine lv_if_ne (tgt := 118) hx hb dX15_entry_113 (by decide) (fun c_32 => absurd (by decide) c_32) (fun c_32 => ?_)
        refine lv_iconst (v := (-1)) hx hb dX15_entry_116 (by decide) ?_
        have hP9 := hP.sub (ws' := []) [] rfl
        have hD9 := hD.sub (ws' := []) [] (by decide) rfl
        have hK9 := hK.sub (tys' := []) [] rfl
        refine W.widen (k := 0) (n := 0) (by omega) (by omega) ?_
        exact W.iret (v := (-1)) hx hb hr (fun t ht hW => ⟨⟨(-1), (), rfl, rfl, QW.mk ht hW hP9 hK9 hD9⟩, hS.F ht⟩) hS.2.2 dX15_entry_117
      ·
        refine lv_iconst (v := 1) hx hb dX15_entry_43 (by decide) ?_
        refine lv_goto (tgt := 48) hx hb dX15_entry_44 (by decide) ?_
        refine lv_istore (lv' := [(5, .int 1), (4, .int 0), (3, .int 0), (0, .ref h0), (1, .int x1), (2, .int x2)]) hx hb dX15_entry_48 hl (by decide) rfl (fun ls hl => ?_)
        refine lv_iload hx hb dX15_entry_50 (lv_at hl 0 rfl) ?_
        refine lv_if_eq (tgt := 79) hx hb dX15_entry_52 (by decide) (fun c_33 => absurd c_33 (by decide)) (fun c_33 => ?_)
        refine lv_iload hx hb dX15_entry_55 (lv_at hl 1 rfl) ?_
        refine lv_iload_n hx hb dX15_entry_57 rfl (lv_at hl 2 rfl) ?_
        refine lv_icmp_ge (tgt := 79) hx hb dX15_entry_58 (by decide) (fun c_34 => ?_) (fun c_34 => absurd (by decide) c_34)
        refine lv_iload hx hb dX15_entry_79 (lv_at hl 0 rfl) ?_
        refine lv_if_eq (tgt := 89) hx hb dX15_entry_81 (by decide) (fun c_35 => absurd c_35 (by decide)) (fun c_35 => ?_)
        refine lv_iload hx hb dX15_entry_84 (lv_at hl 1 rfl) ?_
        refine lv_goto (tgt := 90) hx hb dX15_entry_86 (by decide) ?_
        refine lv_istore (lv' := [(6, .int 0), (5, .int 1), (4, .int 0), (3, .int 0), (0, .ref h0), (1, .int x1), (2, .int x2)]) hx hb dX15_entry_90 hl (by decide) rfl (fun ls hl => ?_)
        refine lv_iload hx hb dX15_entry_92 (lv_at hl 1 rfl) ?_
        refine lv_if_eq (tgt := 103) hx hb dX15_entry_94 (by decide) (fun c_36 => absurd c_36 (by decide)) (fun c_36 => ?_)
        refine lv_iload hx hb dX15_entry_97 (lv_at hl 2 rfl) ?_
        refine lv_iload_n hx hb dX15_entry_99 rfl (lv_at hl 3 rfl) ?_
        refine lv_icmp_eq (tgt := 116) hx hb dX15_entry_100 (by decide) (fun c_37 => ?_) (fun c_37 => absurd (by decide) c_37)
        refine lv_iconst (v := (-1)) hx hb dX15_entry_116 (by decide) ?_
        have hP9 := hP.sub (ws' := []) [] rfl
        have hD9 := hD.sub (ws' := []) [] (by decide) rfl
        have hK9 := hK.sub (tys' := []) [] rfl
        refine W.widen (k := 0) (n := 0) (by omega) (by omega) ?_
        exact W.iret (v := (-1)) hx hb hr (fun t ht hW => ⟨⟨(-1), (), rfl, rfl, QW.mk ht hW hP9 hK9 hD9⟩, hS.F ht⟩) hS.2.2 dX15_entry_117
  ·
    refine lv_iconst (v := (-1)) hx hb dX15_entry_32 (by decide) ?_
    have hP9 := hP.sub (ws' := []) [] rfl
    have hD9 := hD.sub (ws' := []) [] (by decide) rfl
    have hK9 := hK.sub (tys' := []) [] rfl
    refine W.widen (k := 0) (n := 0) (by omega) (by omega) ?_
    exact W.iret (v := (-1)) hx hb hr (fun t ht hW => ⟨⟨(-1), (), rfl, rfl, QW.mk ht hW hP9 hK9 hD9⟩, hS.F ht⟩) hS.2.2 dX15_entry_33
set_option maxHeartbeats 4000000 in
set_option maxRecDepth 100000 in
theorem c_X15_forget (l : Launch) (dC : Nat → ClassId) (dI : Nat → Nat → Nat) (sz : Nat) (h0 : Nat) (fs : List Value) (y0 : Nat) (y4 : Nat) (y38 : Nat) (y44 : Nat) (hL : fs.length = 59) (hF0 : fs[0]? = some (.ref y0)) (hF1 : fs[1]? = some (.int 0)) (hF2 : fs[2]? = some (.int 0)) (hF3 : fs[3]? = some (.int 0)) (hF4 : fs[4]? = some (.ref y4)) (hF12 : fs[12]? = some (.int 0)) (hF14 : fs[14]? = some (.int 0)) (hF15 : fs[15]? = some (.int 0)) (hF30 : fs[30]? = some (.int 0)) (hF33 : fs[33]? = some (.int 0)) (hF38 : fs[38]? = some (.ref y38)) (hF44 : fs[44]? = some (.ref y44)) : Met l yX15_forget (.code yX15_forget cX15_forget 2 (some .int) :: tb) ({ frames := 0, cells := 0, slots := 0, locals := 0 }) (va_Pc [.ref h0] (PW (dC, dI) sz [(h0, .inr (15, fs))] [])) (va_Qi (fun (r : Int32) (_ : Unit) => r = 0) (fun _ T9 => QW (dC, dI) (va_A [(h0, .inr (15, fs))] sz) [] [] T9) (va_A [(h0, .inr (15, fs))] sz)) 0 0 (va_A [(h0, .inr (15, fs))] sz) := by
  refine Met.ofW (cc := cX15_forget) (maxL := 2) (ret := (some .int)) (by decide) rfl ?_
  intro p e s m args below meth c s₁ B hml hv
  obtain ⟨rfl, hsz, hP, hK, hD0, hE⟩ := hv
  have hx := B.exec
  have hb := B.bytes
  have hr := B.returns
  have hts : ∀ w ∈ tb, w.before _ s = true := fun w h => atoms_spec (ws := .code yX15_forget cX15_forget 2 (some .int) :: tb) B.pre w (List.mem_cons_of_mem _ h)
  have hown : s.vm.findClass RX15 = some m.cls := findClass_of_methodNamed B.named
  have hlocks := B.notSynchronized
  subst hsz
  have hD := hD0.self (sz := s.heap.size)
  generalize hAe : va_A [(h0, .inr (15, fs))] s.heap.size = A at hD ⊢
  have hA : ∀ q : Nat, s.heap.size ≤ q → A q := fun q h => by rw [← hAe]; exact Or.inr h
  have hS : va_S A s.heap s.heap [] := va_S.rf
  have hP : va_P (dC, dI) vwCl [(h0, .inr (15, fs))] s.heap := hP
  have hl := lv_entry ([.ref h0]) (n := 2) (Nat.le_of_ble_eq_true rfl)
  rw [lg_entry_eq]
  generalize (lg_sl ([.ref h0]) ++ List.replicate (2 - (lg_sl ([.ref h0])).length) Slot.unset).toArray = ls at hl ⊢
  have hl : lv_has ls 2 [(0, .ref h0)] := hl
  refine lv_aload_n hx hb dX15_forget_0 rfl (lv_at hl 0 rfl) ?_
  refine va_get (D := (dC, dI)) (ci := 15) (v := .int 0) (C := RX15) (T := TX15) (N := 59) hx hb hts it_15 hown hK hP 0 rfl rfl 3 (by decide) (hts _ kt_384) (fun _ h9 => h9) hF3 dX15_forget_1 ?_
  refine lv_istore_n (lv' := [(1, .int 0), (0, .ref h0)]) hx hb dX15_forget_4 rfl hl (by decide) rfl (fun ls hl => ?_)
  refine lv_aload_n hx hb dX15_forget_5 rfl (lv_at hl 1 rfl) ?_
  refine lv_iconst (v := 0) hx hb dX15_forget_6 (by decide) ?_
  refine va_put (D := (dC, dI)) (ci := 15) (v := .int 0) (ty := .int) (C := RX15) (T := TX15) (N := 59) hx hb hts it_15 tyX15 tyX15_ok nmX15 hown hK hP hD hS 0 rfl rfl 3 (by decide) (hts _ kt_384) (fun _ h9 => h9) rfl (by decide +kernel) rfl rfl (by rw [hL]; decide) dX15_forget_7 (fun H locs hP hD hS => ?_)
  obtain ⟨fs_1, hP, hD, hfs_1_L, hfs_1_0, hfs_1_1, hfs_1_2, hfs_1_3, hfs_1_4, hfs_1_12, hfs_1_14, hfs_1_15, hfs_1_30, hfs_1_33, hfs_1_38, hfs_1_44⟩ : ∃ fs_1 : List Value, va_P (dC, dI) vwCl [(h0, .inr (15, fs_1))] H ∧ va_D A [(h0, .inr (15, fs_1))] ∧ fs_1.length = 59 ∧ fs_1[0]? = some (.ref y0) ∧ fs_1[1]? = some (.int 0) ∧ fs_1[2]? = some (.int 0) ∧ fs_1[3]? = some (.int 0) ∧ fs_1[4]? = some (.ref y4) ∧ fs_1[12]? = some (.int 0) ∧ fs_1[14]? = some (.int 0) ∧ fs_1[15]? = some (.int 0) ∧ fs_1[30]? = some (.int 0) ∧ fs_1[33]? = some (.int 0) ∧ fs_1[38]? = some (.ref y38) ∧ fs_1[44]? = some (.ref y44) := ⟨_, hP, hD, ov_len hL, ov_ne (by decide) hF0, ov_ne (by decide) hF1, ov_ne (by decide) hF2, ov_self (by rw [hL]; decide), ov_ne (by decide) hF4, ov_ne (by decide) hF12, ov_ne (by decide) hF14, ov_ne (by decide) hF15, ov_ne (by decide) hF30, ov_ne (by decide) hF33, ov_ne (by decide) hF38, ov_ne (by decide) hF44⟩
  refine lv_iload_n hx hb dX15_forget_10 rfl (lv_at hl 0 rfl) ?_
  have hP9 := hP.sub (ws' := []) [] rfl
  have hD9 := hD.sub (ws' := []) [] (by decide) rfl
  have hK9 := hK.sub (tys' := []) [] rfl
  refine W.widen (k := 0) (n := 0) (by omega) (by omega) ?_
  exact W.iret (v := 0) hx hb hr (fun t ht hW => ⟨⟨0, (), rfl, rfl, QW.mk ht hW hP9 hK9 hD9⟩, hS.F ht⟩) hS.2.2 dX15_forget_11
set_option maxHeartbeats 4000000 in
set_option maxRecDepth 100000 in
theorem c_X15_sender (l : Launch) (dC : Nat → ClassId) (dI : Nat → Nat → Nat) (sz : Nat) (h0 : Nat) (fs : List Value) (y0 : Nat) (y4 : Nat) (y38 : Nat) (y44 : Nat) (x1 : Int32) (hL : fs.length = 59) (hF0 : fs[0]? = some (.ref y0)) (hF1 : fs[1]? = some (.int 0)) (hF2 : fs[2]? = some (.int 0)) (hF3 : fs[3]? = some (.int 0)) (hF4 : fs[4]? = some (.ref y4)) (hF12 : fs[12]? = some (.int 0)) (hF14 : fs[14]? = some (.int 0)) (hF15 : fs[15]? = some (.int 0)) (hF30 : fs[30]? = some (.int 0)) (hF33 : fs[33]? = some (.int 0)) (hF38 : fs[38]? = some (.ref y38)) (hF44 : fs[44]? = some (.ref y44)) : Met l yX15_sender (.code yX15_sender cX15_sender 6 (some .int) :: tb) ({ frames := 1, cells := 0, slots := 0, locals := 21 }) (va_Pc [.ref h0, .int x1] (PW (dC, dI) sz [(h0, .inr (15, fs))] [])) (va_Qi (fun (r : Int32) (_ : Unit) => r = (-1)) (fun _ T9 => QW (dC, dI) (va_A [(h0, .inr (15, fs))] sz) [] [] T9) (va_A [(h0, .inr (15, fs))] sz)) 0 0 (va_A [(h0, .inr (15, fs))] sz) := by
  refine Met.ofW (cc := cX15_sender) (maxL := 6) (ret := (some .int)) (by decide) rfl ?_
  intro p e s m args below meth c s₁ B hml hv
  obtain ⟨rfl, hsz, hP, hK, hD0, hE⟩ := hv
  have hx := B.exec
  have hb := B.bytes
  have hr := B.returns
  have hts : ∀ w ∈ tb, w.before _ s = true := fun w h => atoms_spec (ws := .code yX15_sender cX15_sender 6 (some .int) :: tb) B.pre w (List.mem_cons_of_mem _ h)
  have hown : s.vm.findClass RX15 = some m.cls := findClass_of_methodNamed B.named
  have hlocks := B.notSynchronized
  subst hsz
  have hD := hD0.self (sz := s.heap.size)
  generalize hAe : va_A [(h0, .inr (15, fs))] s.heap.size = A at hD ⊢
  have hA : ∀ q : Nat, s.heap.size ≤ q → A q := fun q h => by rw [← hAe]; exact Or.inr h
  have hS : va_S A s.heap s.heap [] := va_S.rf
  have hP : va_P (dC, dI) vwCl [(h0, .inr (15, fs))] s.heap := hP
  have hl := lv_entry ([.ref h0, .int x1]) (n := 6) (Nat.le_of_ble_eq_true rfl)
  rw [lg_entry_eq]
  generalize (lg_sl ([.ref h0, .int x1]) ++ List.replicate (6 - (lg_sl ([.ref h0, .int x1])).length) Slot.unset).toArray = ls at hl ⊢
  have hl : lv_has ls 6 [(0, .ref h0), (1, .int x1)] := hl
  refine lv_aload_n hx hb dX15_sender_0 rfl (lv_at hl 0 rfl) ?_
  have hPc := hP.sub (ws' := [(h0, .inr (15, fs))]) [0] rfl
  have hDc := hD.sub (ws' := [(h0, .inr (15, fs))]) [0] (by decide) rfl
  have hKc := hK.sub (tys' := []) [] rfl
  have hFc := va_free (wc := [(h0, .inr (15, fs))]) hD hS hA [0] rfl
  refine va_calli (va_runV (As := []) (rest := []) ⟨hx, hb, hml, hown, hts⟩ (c_X15_used l dC dI s.heap.size h0 fs y0 y4 y38 y44 (hL) (hF0) (hF1) (hF2) (hF3) (hF4) (hF12) (hF14) (hF15) (hF30) (hF33) (hF38) (hF44)) ⟨callB_of 0 hts (gi kt_380) rfl rfl rfl (hts _ kt_375) (hts _ kt_381) (by decide +kernel) ⟨Nat.le_of_ble_eq_true rfl, Nat.le_of_ble_eq_true rfl⟩, (hts _ kt_382), (hts _ kt_383)⟩ ⟨fun a U g mk q => ⟨q.1, PW.calling q.2⟩, va_recv hKc hPc (ci := 15) (q0 := 0) rfl rfl, fun U hU hW => ⟨rfl, PW.mk hU hW hPc hKc hDc hE⟩⟩ rfl rfl hl.1 rfl (lv_room (Nat.le_of_ble_eq_true rfl)) dX15_sender_1 ⟨by show _ + 0 ≤ 0; omega, by show _ + 0 ≤ 0; omega⟩) hS (fun q _ h => hFc q h) hFc (fun r_1 u t H1 locs ht hvm hw hB hz1 hk1 hS => ?_)
  obtain ⟨fs2_2, hB1, hf_3, hf_4, hf_5, hf_6, hf_7, hf_8, hf_9, hf_10, hf_11, hf_12, hf_13, hf_14, hf_15⟩ := hB
  obtain ⟨hP, hD, hK⟩ := QW.join (wr := []) hP hD hK [0] [] rfl rfl (by decide) (by decide) hk1 hFc ht hvm hB1
  generalize H1 = H at hP hS ⊢
  have hK : va_K (dC, dI) vwCl [] s := hK.sub [] rfl
  have hP : va_P (dC, dI) vwCl [(h0, .inr (15, fs2_2))] H := hP
  have hD : va_D A [(h0, .inr (15, fs2_2))] := hD
  have hw : r_1 = 0 := hw
  subst hw
  refine lv_istore_n (lv' := [(2, .int 0), (0, .ref h0), (1, .int x1)]) hx hb dX15_sender_4 rfl hl (by decide) rfl (fun ls hl => ?_)
  refine lv_iconst (v := 0) hx hb dX15_sender_5 (by decide) ?_
  refine lv_istore_n (lv' := [(3, .int 0), (2, .int 0), (0, .ref h0), (1, .int x1)]) hx hb dX15_sender_6 rfl hl (by decide) rfl (fun ls hl => ?_)
  refine lv_iload_n hx hb dX15_sender_7 rfl (lv_at hl 0 rfl) ?_
  refine lv_iload_n hx hb dX15_sender_8 rfl (lv_at hl 1 rfl) ?_
  refine lv_icmp_ge (tgt := 29) hx hb dX15_sender_9 (by decide) (fun c_16 => ?_) (fun c_16 => absurd (by decide) c_16)
  refine lv_iload_n hx hb dX15_sender_29 rfl (lv_at hl 0 rfl) ?_
  refine lv_iload_n hx hb dX15_sender_30 rfl (lv_at hl 1 rfl) ?_
  refine lv_icmp_eq (tgt := 60) hx hb dX15_sender_31 (by decide) (fun c_17 => ?_) (fun c_17 => absurd (by decide) c_17)
  refine lv_iconst (v := (-1)) hx hb dX15_sender_60 (by decide) ?_
  have hP9 := hP.sub (ws' := []) [] rfl
  have hD9 := hD.sub (ws' := []) [] (by decide) rfl
  have hK9 := hK.sub (tys' := []) [] rfl
  refine W.widen (k := 0) (n := 0) (by omega) (by omega) ?_
  exact W.iret (v := (-1)) hx hb hr (fun t ht hW => ⟨⟨(-1), (), rfl, rfl, QW.mk ht hW hP9 hK9 hD9⟩, hS.F ht⟩) hS.2.2 dX15_sender_61
set_option maxHeartbeats 4000000 in
set_option maxRecDepth 100000 in
theorem c_X15_permission (l : Launch) (dC : Nat → ClassId) (dI : Nat → Nat → Nat) (sz : Nat) (h0 : Nat) (fs : List Value) (y0 : Nat) (y4 : Nat) (y38 : Nat) (y44 : Nat) (hL : fs.length = 59) (hF0 : fs[0]? = some (.ref y0)) (hF1 : fs[1]? = some (.int 0)) (hF2 : fs[2]? = some (.int 0)) (hF3 : fs[3]? = some (.int 0)) (hF4 : fs[4]? = some (.ref y4)) (hF12 : fs[12]? = some (.int 0)) (hF14 : fs[14]? = some (.int 0)) (hF15 : fs[15]? = some (.int 0)) (hF30 : fs[30]? = some (.int 0)) (hF33 : fs[33]? = some (.int 0)) (hF38 : fs[38]? = some (.ref y38)) (hF44 : fs[44]? = some (.ref y44)) : Met l yX15_permission (.code yX15_permission cX15_permission 1 (some .int) :: tb) ({ frames := 0, cells := 0, slots := 0, locals := 0 }) (va_Pc [.ref h0] (PW (dC, dI) sz [(h0, .inr (15, fs))] [])) (va_Qi (fun (r : Int32) (_ : Unit) => r = (-1)) (fun _ T9 => QW (dC, dI) (va_A [(h0, .inr (15, fs))] sz) [] [] T9) (va_A [(h0, .inr (15, fs))] sz)) 0 0 (va_A [(h0, .inr (15, fs))] sz) := by
  refine Met.ofW (cc := cX15_permission) (maxL := 1) (ret := (some .int)) (by decide) rfl ?_
  intro p e s m args below meth c s₁ B hml hv
  obtain ⟨rfl, hsz, hP, hK, hD0, hE⟩ := hv
  have hx := B.exec
  have hb := B.bytes
  have hr := B.returns
  have hts : ∀ w ∈ tb, w.before _ s = true := fun w h => atoms_spec (ws := .code yX15_permission cX15_permission 1 (some .int) :: tb) B.pre w (List.mem_cons_of_mem _ h)
  have hown : s.vm.findClass RX15 = some m.cls := findClass_of_methodNamed B.named
  have hlocks := B.notSynchronized
  subst hsz
  have hD := hD0.self (sz := s.heap.size)
  generalize hAe : va_A [(h0, .inr (15, fs))] s.heap.size = A at hD ⊢
  have hA : ∀ q : Nat, s.heap.size ≤ q → A q := fun q h => by rw [← hAe]; exact Or.inr h
  have hS : va_S A s.heap s.heap [] := va_S.rf
  have hP : va_P (dC, dI) vwCl [(h0, .inr (15, fs))] s.heap := hP
  have hl := lv_entry ([.ref h0]) (n := 1) (Nat.le_of_ble_eq_true rfl)
  rw [lg_entry_eq]
  generalize (lg_sl ([.ref h0]) ++ List.replicate (1 - (lg_sl ([.ref h0])).length) Slot.unset).toArray = ls at hl ⊢
  have hl : lv_has ls 1 [(0, .ref h0)] := hl
  refine lv_aload_n hx hb dX15_permission_0 rfl (lv_at hl 0 rfl) ?_
  refine va_get (D := (dC, dI)) (ci := 15) (v := .int 0) (C := RX15) (T := TX15) (N := 59) hx hb hts it_15 hown hK hP 0 rfl rfl 12 (by decide) (hts _ kt_389) (fun _ h9 => h9) hF12 dX15_permission_1 ?_
  refine lv_if_ne (tgt := 9) hx hb dX15_permission_4 (by decide) (fun c_1 => absurd (by decide) c_1) (fun c_1 => ?_)
  refine lv_iconst (v := (-1)) hx hb dX15_permission_7 (by decide) ?_
  have hP9 := hP.sub (ws' := []) [] rfl
  have hD9 := hD.sub (ws' := []) [] (by decide) rfl
  have hK9 := hK.sub (tys' := []) [] rfl
  refine W.widen (k := 0) (n := 0) (by omega) (by omega) ?_
  exact W.iret (v := (-1)) hx hb hr (fun t ht hW => ⟨⟨(-1), (), rfl, rfl, QW.mk ht hW hP9 hK9 hD9⟩, hS.F ht⟩) hS.2.2 dX15_permission_8
set_option maxHeartbeats 4000000 in
set_option maxRecDepth 100000 in
theorem c_X15_cost (l : Launch) (dC : Nat → ClassId) (dI : Nat → Nat → Nat) (sz : Nat) (h0 : Nat) (fs : List Value) (y0 : Nat) (y4 : Nat) (y38 : Nat) (y44 : Nat) (x1 : Int32) (hL : fs.length = 59) (hF0 : fs[0]? = some (.ref y0)) (hF1 : fs[1]? = some (.int 0)) (hF2 : fs[2]? = some (.int 0)) (hF3 : fs[3]? = some (.int 0)) (hF4 : fs[4]? = some (.ref y4)) (hF12 : fs[12]? = some (.int 0)) (hF14 : fs[14]? = some (.int 0)) (hF15 : fs[15]? = some (.int 0)) (hF30 : fs[30]? = some (.int 0)) (hF33 : fs[33]? = some (.int 0)) (hF38 : fs[38]? = some (.ref y38)) (hF44 : fs[44]? = some (.ref y44)) : Met l yX15_cost (.code yX15_cost cX15_cost 2 (some .int) :: tb) ({ frames := 0, cells := 0, slots := 0, locals := 0 }) (va_Pc [.ref h0, .int x1] (PW (dC, dI) sz [(h0, .inr (15, fs))] [])) (va_Qi (fun (r : Int32) (_ : Unit) => r = (if x1 = 0 ∨ x1 = 1 then 0 else (-1))) (fun _ T9 => QW (dC, dI) (va_A [(h0, .inr (15, fs))] sz) [] [] T9) (va_A [(h0, .inr (15, fs))] sz)) 0 0 (va_A [(h0, .inr (15, fs))] sz) := by
  refine Met.ofW (cc := cX15_cost) (maxL := 2) (ret := (some .int)) (by decide) rfl ?_
  intro p e s m args below meth c s₁ B hml hv
  obtain ⟨rfl, hsz, hP, hK, hD0, hE⟩ := hv
  have hx := B.exec
  have hb := B.bytes
  have hr := B.returns
  have hts : ∀ w ∈ tb, w.before _ s = true := fun w h => atoms_spec (ws := .code yX15_cost cX15_cost 2 (some .int) :: tb) B.pre w (List.mem_cons_of_mem _ h)
  have hown : s.vm.findClass RX15 = some m.cls := findClass_of_methodNamed B.named
  have hlocks := B.notSynchronized
  subst hsz
  have hD := hD0.self (sz := s.heap.size)
  generalize hAe : va_A [(h0, .inr (15, fs))] s.heap.size = A at hD ⊢
  have hA : ∀ q : Nat, s.heap.size ≤ q → A q := fun q h => by rw [← hAe]; exact Or.inr h
  have hS : va_S A s.heap s.heap [] := va_S.rf
  have hP : va_P (dC, dI) vwCl [(h0, .inr (15, fs))] s.heap := hP
  have hl := lv_entry ([.ref h0, .int x1]) (n := 2) (Nat.le_of_ble_eq_true rfl)
  rw [lg_entry_eq]
  generalize (lg_sl ([.ref h0, .int x1]) ++ List.replicate (2 - (lg_sl ([.ref h0, .int x1])).length) Slot.unset).toArray = ls at hl ⊢
  have hl : lv_has ls 2 [(0, .ref h0), (1, .int x1)] := hl
  refine lv_iload_n hx hb dX15_cost_0 rfl (lv_at hl 1 rfl) ?_
  refine lv_if_ne (tgt := 11) hx hb dX15_cost_1 (by decide) (fun c_1 => ?_) (fun c_1 => ?_)
  ·
    refine lv_iload_n hx hb dX15_cost_11 rfl (lv_at hl 1 rfl) ?_
    refine lv_iconst (v := 1) hx hb dX15_cost_12 (by decide) ?_
    refine lv_icmp_ne (tgt := 23) hx hb dX15_cost_13 (by decide) (fun c_2 => ?_) (fun c_2 => ?_)
    ·
      refine lv_iconst (v := (-1)) hx hb dX15_cost_23 (by decide) ?_
      have hP9 := hP.sub (ws' := []) [] rfl
      have hD9 := hD.sub (ws' := []) [] (by decide) rfl
      have hK9 := hK.sub (tys' := []) [] rfl
      refine W.widen (k := 0) (n := 0) (by omega) (by omega) ?_
      exact W.iret (v := (-1)) hx hb hr (fun t ht hW => ⟨⟨(-1), (), rfl, (by rw [if_neg (fun h => h.elim c_1 c_2)]), QW.mk ht hW hP9 hK9 hD9⟩, hS.F ht⟩) hS.2.2 dX15_cost_24
    ·
      refine lv_aload_n hx hb dX15_cost_16 rfl (lv_at hl 0 rfl) ?_
      refine va_get (D := (dC, dI)) (ci := 15) (v := .int 0) (C := RX15) (T := TX15) (N := 59) hx hb hts it_15 hown hK hP 0 rfl rfl 15 (by decide) (hts _ kt_390) (fun _ h9 => h9) hF15 dX15_cost_17 ?_
      refine lv_goto (tgt := 24) hx hb dX15_cost_20 (by decide) ?_
      have hP9 := hP.sub (ws' := []) [] rfl
      have hD9 := hD.sub (ws' := []) [] (by decide) rfl
      have hK9 := hK.sub (tys' := []) [] rfl
      refine W.widen (k := 0) (n := 0) (by omega) (by omega) ?_
      exact W.iret (v := 0) hx hb hr (fun t ht hW => ⟨⟨0, (), rfl, (by rw [if_pos (Or.inr c_2)]), QW.mk ht hW hP9 hK9 hD9⟩, hS.F ht⟩) hS.2.2 dX15_cost_24
  ·
    refine lv_aload_n hx hb dX15_cost_4 rfl (lv_at hl 0 rfl) ?_
    refine va_get (D := (dC, dI)) (ci := 15) (v := .int 0) (C := RX15) (T := TX15) (N := 59) hx hb hts it_15 hown hK hP 0 rfl rfl 14 (by decide) (hts _ kt_391) (fun _ h9 => h9) hF14 dX15_cost_5 ?_
    refine lv_goto (tgt := 24) hx hb dX15_cost_8 (by decide) ?_
    have hP9 := hP.sub (ws' := []) [] rfl
    have hD9 := hD.sub (ws' := []) [] (by decide) rfl
    have hK9 := hK.sub (tys' := []) [] rfl
    refine W.widen (k := 0) (n := 0) (by omega) (by omega) ?_
    exact W.iret (v := 0) hx hb hr (fun t ht hW => ⟨⟨0, (), rfl, (by rw [if_pos (Or.inl c_1)]), QW.mk ht hW hP9 hK9 hD9⟩, hS.F ht⟩) hS.2.2 dX15_cost_24
set_option maxHeartbeats 4000000 in
set_option maxRecDepth 100000 in
theorem c_X15_message (l : Launch) (dC : Nat → ClassId) (dI : Nat → Nat → Nat) (sz : Nat) (h0 : Nat) (fs : List Value) (y0 : Nat) (y4 : Nat) (y38 : Nat) (y44 : Nat) (hL : fs.length = 59) (hF0 : fs[0]? = some (.ref y0)) (hF1 : fs[1]? = some (.int 0)) (hF2 : fs[2]? = some (.int 0)) (hF3 : fs[3]? = some (.int 0)) (hF4 : fs[4]? = some (.ref y4)) (hF12 : fs[12]? = some (.int 0)) (hF14 : fs[14]? = some (.int 0)) (hF15 : fs[15]? = some (.int 0)) (hF30 : fs[30]? = some (.int 0)) (hF33 : fs[33]? = some (.int 0)) (hF38 : fs[38]? = some (.ref y38)) (hF44 : fs[44]? = some (.ref y44)) : Met l yX15_message (.code yX15_message cX15_message 8 (some .int) :: tb) ({ frames := 1, cells := 0, slots := 0, locals := 21 }) (va_Pc [.ref h0] (PW (dC, dI) sz [(h0, .inr (15, fs))] [])) (va_Qi (fun (r : Int32) (_ : Unit) => r = (-1)) (fun _ T9 => QW (dC, dI) (va_A [(h0, .inr (15, fs))] sz) [] [] T9) (va_A [(h0, .inr (15, fs))] sz)) 0 0 (va_A [(h0, .inr (15, fs))] sz) := by
  refine Met.ofW (cc := cX15_message) (maxL := 8) (ret := (some .int)) (by decide) rfl ?_
  intro p e s m args below meth c s₁ B hml hv
  obtain ⟨rfl, hsz, hP, hK, hD0, hE⟩ := hv
  have hx := B.exec
  have hb := B.bytes
  have hr := B.returns
  have hts : ∀ w ∈ tb, w.before _ s = true := fun w h => atoms_spec (ws := .code yX15_message cX15_message 8 (some .int) :: tb) B.pre w (List.mem_cons_of_mem _ h)
  have hown : s.vm.findClass RX15 = some m.cls := findClass_of_methodNamed B.named
  have hlocks := B.notSynchronized
  subst hsz
  have hD := hD0.self (sz := s.heap.size)
  generalize hAe : va_A [(h0, .inr (15, fs))] s.heap.size = A at hD ⊢
  have hA : ∀ q : Nat, s.heap.size ≤ q → A q := fun q h => by rw [← hAe]; exact Or.inr h
  have hS : va_S A s.heap s.heap [] := va_S.rf
  have hP : va_P (dC, dI) vwCl [(h0, .inr (15, fs))] s.heap := hP
  have hl := lv_entry ([.ref h0]) (n := 8) (Nat.le_of_ble_eq_true rfl)
  rw [lg_entry_eq]
  generalize (lg_sl ([.ref h0]) ++ List.replicate (8 - (lg_sl ([.ref h0])).length) Slot.unset).toArray = ls at hl ⊢
  have hl : lv_has ls 8 [(0, .ref h0)] := hl
  refine lv_aload_n hx hb dX15_message_0 rfl (lv_at hl 0 rfl) ?_
  have hPc := hP.sub (ws' := [(h0, .inr (15, fs))]) [0] rfl
  have hDc := hD.sub (ws' := [(h0, .inr (15, fs))]) [0] (by decide) rfl
  have hKc := hK.sub (tys' := []) [] rfl
  have hFc := va_free (wc := [(h0, .inr (15, fs))]) hD hS hA [0] rfl
  refine va_calli (va_runV (As := []) (rest := []) ⟨hx, hb, hml, hown, hts⟩ (c_X15_used l dC dI s.heap.size h0 fs y0 y4 y38 y44 (hL) (hF0) (hF1) (hF2) (hF3) (hF4) (hF12) (hF14) (hF15) (hF30) (hF33) (hF38) (hF44)) ⟨callB_of 0 hts (gi kt_380) rfl rfl rfl (hts _ kt_375) (hts _ kt_381) (by decide +kernel) ⟨Nat.le_of_ble_eq_true rfl, Nat.le_of_ble_eq_true rfl⟩, (hts _ kt_382), (hts _ kt_383)⟩ ⟨fun a U g mk q => ⟨q.1, PW.calling q.2⟩, va_recv hKc hPc (ci := 15) (q0 := 0) rfl rfl, fun U hU hW => ⟨rfl, PW.mk hU hW hPc hKc hDc hE⟩⟩ rfl rfl hl.1 rfl (lv_room (Nat.le_of_ble_eq_true rfl)) dX15_message_1 ⟨by show _ + 0 ≤ 0; omega, by show _ + 0 ≤ 0; omega⟩) hS (fun q _ h => hFc q h) hFc (fun r_1 u t H1 locs ht hvm hw hB hz1 hk1 hS => ?_)
  obtain ⟨fs2_2, hB1, hf_3, hf_4, hf_5, hf_6, hf_7, hf_8, hf_9, hf_10, hf_11, hf_12, hf_13, hf_14, hf_15⟩ := hB
  obtain ⟨hP, hD, hK⟩ := QW.join (wr := []) hP hD hK [0] [] rfl rfl (by decide) (by decide) hk1 hFc ht hvm hB1
  generalize H1 = H at hP hS ⊢
  have hK : va_K (dC, dI) vwCl [] s := hK.sub [] rfl
  have hP : va_P (dC, dI) vwCl [(h0, .inr (15, fs2_2))] H := hP
  have hD : va_D A [(h0, .inr (15, fs2_2))] := hD
  have hw : r_1 = 0 := hw
  subst hw
  refine lv_istore_n (lv' := [(1, .int 0), (0, .ref h0)]) hx hb dX15_message_4 rfl hl (by decide) rfl (fun ls hl => ?_)
  refine lv_iconst (v := 0) hx hb dX15_message_5 (by decide) ?_
  refine lv_istore_n (lv' := [(2, .int 0), (1, .int 0), (0, .ref h0)]) hx hb dX15_message_6 rfl hl (by decide) rfl (fun ls hl => ?_)
  refine lv_iconst (v := 0) hx hb dX15_message_7 (by decide) ?_
  refine lv_istore_n (lv' := [(3, .int 0), (2, .int 0), (1, .int 0), (0, .ref h0)]) hx hb dX15_message_8 rfl hl (by decide) rfl (fun ls hl => ?_)
  refine lv_iload_n hx hb dX15_message_9 rfl (lv_at hl 2 rfl) ?_
  refine lv_istore (lv' := [(4, .int 0), (3, .int 0), (2, .int 0), (1, .int 0), (0, .ref h0)]) hx hb dX15_message_10 hl (by decide) rfl (fun ls hl => ?_)
  refine lv_iconst (v := 1) hx hb dX15_message_12 (by decide) ?_
  refine lv_istore (lv' := [(5, .int 1), (4, .int 0), (3, .int 0), (2, .int 0), (1, .int 0), (0, .ref h0)]) hx hb dX15_message_13 hl (by decide) rfl (fun ls hl => ?_)
  refine lv_iload hx hb dX15_message_15 (lv_at hl 0 rfl) ?_
  refine lv_if_eq (tgt := 217) hx hb dX15_message_17 (by decide) (fun c_16 => absurd c_16 (by decide)) (fun c_16 => ?_)
  refine lv_iload_n hx hb dX15_message_20 rfl (lv_at hl 2 rfl) ?_
  refine lv_iload_n hx hb dX15_message_21 rfl (lv_at hl 4 rfl) ?_
  refine lv_icmp_ge (tgt := 217) hx hb dX15_message_22 (by decide) (fun c_17 => ?_) (fun c_17 => absurd (by decide) c_17)
  refine lv_iload_n hx hb dX15_message_217 rfl (lv_at hl 3 rfl) ?_
  refine lv_if_ne (tgt := 223) hx hb dX15_message_218 (by decide) (fun c_18 => absurd (by decide) c_18) (fun c_18 => ?_)
  refine lv_iconst (v := (-1)) hx hb dX15_message_221 (by decide) ?_
  have hP9 := hP.sub (ws' := []) [] rfl
  have hD9 := hD.sub (ws' := []) [] (by decide) rfl
  have hK9 := hK.sub (tys' := []) [] rfl
  refine W.widen (k := 0) (n := 0) (by omega) (by omega) ?_
  exact W.iret (v := (-1)) hx hb hr (fun t ht hW => ⟨⟨(-1), (), rfl, rfl, QW.mk ht hW hP9 hK9 hD9⟩, hS.F ht⟩) hS.2.2 dX15_message_222
set_option maxHeartbeats 4000000 in
set_option maxRecDepth 100000 in
theorem c_X15_seals (l : Launch) (dC : Nat → ClassId) (dI : Nat → Nat → Nat) (sz : Nat) (h0 : Nat) (fs : List Value) (y0 : Nat) (y4 : Nat) (y38 : Nat) (y44 : Nat) (hL : fs.length = 59) (hF0 : fs[0]? = some (.ref y0)) (hF1 : fs[1]? = some (.int 0)) (hF2 : fs[2]? = some (.int 0)) (hF3 : fs[3]? = some (.int 0)) (hF4 : fs[4]? = some (.ref y4)) (hF12 : fs[12]? = some (.int 0)) (hF14 : fs[14]? = some (.int 0)) (hF15 : fs[15]? = some (.int 0)) (hF30 : fs[30]? = some (.int 0)) (hF33 : fs[33]? = some (.int 0)) (hF38 : fs[38]? = some (.ref y38)) (hF44 : fs[44]? = some (.ref y44)) : Met l yX15_seals (.code yX15_seals cX15_seals 3 (some .int) :: tb) ({ frames := 0, cells := 0, slots := 0, locals := 0 }) (va_Pc [.ref h0] (PW (dC, dI) sz [(h0, .inr (15, fs))] [])) (va_Qi (fun (r : Int32) (_ : Unit) => r = 0) (fun _ T9 => QW (dC, dI) (va_A [(h0, .inr (15, fs))] sz) [] [] T9) (va_A [(h0, .inr (15, fs))] sz)) 0 0 (va_A [(h0, .inr (15, fs))] sz) := by
  refine Met.ofW (cc := cX15_seals) (maxL := 3) (ret := (some .int)) (by decide) rfl ?_
  intro p e s m args below meth c s₁ B hml hv
  obtain ⟨rfl, hsz, hP, hK, hD0, hE⟩ := hv
  have hx := B.exec
  have hb := B.bytes
  have hr := B.returns
  have hts : ∀ w ∈ tb, w.before _ s = true := fun w h => atoms_spec (ws := .code yX15_seals cX15_seals 3 (some .int) :: tb) B.pre w (List.mem_cons_of_mem _ h)
  have hown : s.vm.findClass RX15 = some m.cls := findClass_of_methodNamed B.named
  have hlocks := B.notSynchronized
  subst hsz
  have hD := hD0.self (sz := s.heap.size)
  generalize hAe : va_A [(h0, .inr (15, fs))] s.heap.size = A at hD ⊢
  have hA : ∀ q : Nat, s.heap.size ≤ q → A q := fun q h => by rw [← hAe]; exact Or.inr h
  have hS : va_S A s.heap s.heap [] := va_S.rf
  have hP : va_P (dC, dI) vwCl [(h0, .inr (15, fs))] s.heap := hP
  have hl := lv_entry ([.ref h0]) (n := 3) (Nat.le_of_ble_eq_true rfl)
  rw [lg_entry_eq]
  generalize (lg_sl ([.ref h0]) ++ List.replicate (3 - (lg_sl ([.ref h0])).length) Slot.unset).toArray = ls at hl ⊢
  have hl : lv_has ls 3 [(0, .ref h0)] := hl
  refine lv_iconst (v := 0) hx hb dX15_seals_0 (by decide) ?_
  refine lv_istore_n (lv' := [(1, .int 0), (0, .ref h0)]) hx hb dX15_seals_1 rfl hl (by decide) rfl (fun ls hl => ?_)
  refine lv_iconst (v := 0) hx hb dX15_seals_2 (by decide) ?_
  refine lv_istore_n (lv' := [(2, .int 0), (1, .int 0), (0, .ref h0)]) hx hb dX15_seals_3 rfl hl (by decide) rfl (fun ls hl => ?_)
  refine lv_aload_n hx hb dX15_seals_4 rfl (lv_at hl 2 rfl) ?_
  refine va_get (D := (dC, dI)) (ci := 15) (v := .int 0) (C := RX15) (T := TX15) (N := 59) hx hb hts it_15 hown hK hP 0 rfl rfl 33 (by decide) (hts _ kt_378) (fun _ h9 => h9) hF33 dX15_seals_5 ?_
  refine lv_if_eq (tgt := 39) hx hb dX15_seals_8 (by decide) (fun c_1 => ?_) (fun c_1 => absurd (by decide) c_1)
  refine lv_iload_n hx hb dX15_seals_39 rfl (lv_at hl 1 rfl) ?_
  have hP9 := hP.sub (ws' := []) [] rfl
  have hD9 := hD.sub (ws' := []) [] (by decide) rfl
  have hK9 := hK.sub (tys' := []) [] rfl
  refine W.widen (k := 0) (n := 0) (by omega) (by omega) ?_
  exact W.iret (v := 0) hx hb hr (fun t ht hW => ⟨⟨0, (), rfl, rfl, QW.mk ht hW hP9 hK9 hD9⟩, hS.F ht⟩) hS.2.2 dX15_seals_40
set_option maxHeartbeats 4000000 in
set_option maxRecDepth 100000 in
theorem c_X15_sealed (l : Launch) (dC : Nat → ClassId) (dI : Nat → Nat → Nat) (sz : Nat) (h0 : Nat) (fs : List Value) (y0 : Nat) (y4 : Nat) (y38 : Nat) (y44 : Nat) (x1 : Int32) (x2 : Int32) (hL : fs.length = 59) (hF0 : fs[0]? = some (.ref y0)) (hF1 : fs[1]? = some (.int 0)) (hF2 : fs[2]? = some (.int 0)) (hF3 : fs[3]? = some (.int 0)) (hF4 : fs[4]? = some (.ref y4)) (hF12 : fs[12]? = some (.int 0)) (hF14 : fs[14]? = some (.int 0)) (hF15 : fs[15]? = some (.int 0)) (hF30 : fs[30]? = some (.int 0)) (hF33 : fs[33]? = some (.int 0)) (hF38 : fs[38]? = some (.ref y38)) (hF44 : fs[44]? = some (.ref y44)) : Met l yX15_sealed (.code yX15_sealed cX15_sealed 4 (some .int) :: tb) ({ frames := 1, cells := 0, slots := 0, locals := 23 }) (va_Pc [.ref h0, .int x1, .int x2] (PW (dC, dI) sz [(h0, .inr (15, fs))] [])) (va_Qi (fun (r : Int32) (_ : Unit) => r = (if x2 < 0 then (-1) else (-2))) (fun _ T9 => QW (dC, dI) (va_A [(h0, .inr (15, fs))] sz) [] [] T9) (va_A [(h0, .inr (15, fs))] sz)) 0 0 (va_A [(h0, .inr (15, fs))] sz) := by
  refine Met.ofW (cc := cX15_sealed) (maxL := 4) (ret := (some .int)) (by decide) rfl ?_
  intro p e s m args below meth c s₁ B hml hv
  obtain ⟨rfl, hsz, hP, hK, hD0, hE⟩ := hv
  have hx := B.exec
  have hb := B.bytes
  have hr := B.returns
  have hts : ∀ w ∈ tb, w.before _ s = true := fun w h => atoms_spec (ws := .code yX15_sealed cX15_sealed 4 (some .int) :: tb) B.pre w (List.mem_cons_of_mem _ h)
  have hown : s.vm.findClass RX15 = some m.cls := findClass_of_methodNamed B.named
  have hlocks := B.notSynchronized
  subst hsz
  have hD := hD0.self (sz := s.heap.size)
  generalize hAe : va_A [(h0, .inr (15, fs))] s.heap.size = A at hD ⊢
  have hA : ∀ q : Nat, s.heap.size ≤ q → A q := fun q h => by rw [← hAe]; exact Or.inr h
  have hS : va_S A s.heap s.heap [] := va_S.rf
  have hP : va_P (dC, dI) vwCl [(h0, .inr (15, fs))] s.heap := hP
  have hl := lv_entry ([.ref h0, .int x1, .int x2]) (n := 4) (Nat.le_of_ble_eq_true rfl)
  rw [lg_entry_eq]
  generalize (lg_sl ([.ref h0, .int x1, .int x2]) ++ List.replicate (4 - (lg_sl ([.ref h0, .int x1, .int x2])).length) Slot.unset).toArray = ls at hl ⊢
  have hl : lv_has ls 4 [(0, .ref h0), (1, .int x1), (2, .int x2)] := hl
  refine lv_iload_n hx hb dX15_sealed_0 rfl (lv_at hl 2 rfl) ?_
  refine lv_if_ge (tgt := 6) hx hb dX15_sealed_1 (by decide) (fun c_1 => ?_) (fun c_1 => ?_)
  ·
    refine lv_aload_n hx hb dX15_sealed_6 rfl (lv_at hl 0 rfl) ?_
    refine lv_iload_n hx hb dX15_sealed_7 rfl (lv_at hl 1 rfl) ?_
    have hPc := hP.sub (ws' := [(h0, .inr (15, fs))]) [0] rfl
    have hDc := hD.sub (ws' := [(h0, .inr (15, fs))]) [0] (by decide) rfl
    have hKc := hK.sub (tys' := []) [] rfl
    have hFc := va_free (wc := [(h0, .inr (15, fs))]) hD hS hA [0] rfl
    refine va_calli (va_runV (As := [.int x1]) (rest := []) ⟨hx, hb, hml, hown, hts⟩ (c_X15_sealAt l dC dI s.heap.size h0 fs y0 y4 y38 y44 x1 (hL) (hF0) (hF1) (hF2) (hF3) (hF4) (hF12) (hF14) (hF15) (hF30) (hF33) (hF38) (hF44)) ⟨callB_of 1 hts (gi kt_392) rfl rfl rfl (hts _ kt_375) (hts _ kt_393) (by decide +kernel) ⟨Nat.le_of_ble_eq_true rfl, Nat.le_of_ble_eq_true rfl⟩, (hts _ kt_394), (hts _ kt_395)⟩ ⟨fun a U g mk q => ⟨q.1, PW.calling q.2⟩, va_recv hKc hPc (ci := 15) (q0 := 0) rfl rfl, fun U hU hW => ⟨rfl, PW.mk hU hW hPc hKc hDc hE⟩⟩ rfl rfl hl.1 rfl (lv_room (Nat.le_of_ble_eq_true rfl)) dX15_sealed_8 ⟨by show _ + 0 ≤ 0; omega, by show _ + 0 ≤ 0; omega⟩) hS (fun q _ h => hFc q h) hFc (fun r_2 u t H1 locs ht hvm hw hB hz1 hk1 hS => ?_)
    have hB1 := hB
    obtain ⟨hP, hD, hK⟩ := QW.join (wr := []) hP hD hK [0] [] rfl rfl (by decide) (by decide) hk1 hFc ht hvm hB1
    generalize H1 = H at hP hS ⊢
    have hK : va_K (dC, dI) vwCl [] s := hK.sub [] rfl
    have hP : va_P (dC, dI) vwCl [(h0, .inr (15, fs))] H := hP
    have hD : va_D A [(h0, .inr (15, fs))] := hD
    have hw : r_2 = (-1) := hw
    subst hw
    refine lv_istore_n (lv' := [(3, .int (-1)), (0, .ref h0), (1, .int x1), (2, .int x2)]) hx hb dX15_sealed_11 rfl hl (by decide) rfl (fun ls hl => ?_)
    refine lv_iload_n hx hb dX15_sealed_12 rfl (lv_at hl 0 rfl) ?_
    refine lv_if_ge (tgt := 21) hx hb dX15_sealed_13 (by decide) (fun c_3 => absurd c_3 (by decide)) (fun c_3 => ?_)
    refine lv_bipush (v := (-2)) hx hb dX15_sealed_16 (by decide) ?_
    refine lv_goto (tgt := 27) hx hb dX15_sealed_18 (by decide) ?_
    have hP9 := hP.sub (ws' := []) [] rfl
    have hD9 := hD.sub (ws' := []) [] (by decide) rfl
    have hK9 := hK.sub (tys' := []) [] rfl
    refine W.widen (k := 0) (n := 0) (by omega) (by omega) ?_
    exact W.iret (v := (-2)) hx hb hr (fun t ht hW => ⟨⟨(-2), (), rfl, (by rw [if_neg (Int32.not_lt.mpr c_1)]), QW.mk ht hW hP9 hK9 hD9⟩, hS.F ht⟩) hS.2.2 dX15_sealed_27
  ·
    refine lv_iconst (v := (-1)) hx hb dX15_sealed_4 (by decide) ?_
    have hP9 := hP.sub (ws' := []) [] rfl
    have hD9 := hD.sub (ws' := []) [] (by decide) rfl
    have hK9 := hK.sub (tys' := []) [] rfl
    refine W.widen (k := 0) (n := 0) (by omega) (by omega) ?_
    exact W.iret (v := (-1)) hx hb hr (fun t ht hW => ⟨⟨(-1), (), rfl, (by rw [if_pos (Int32.not_le.mp c_1)]), QW.mk ht hW hP9 hK9 hD9⟩, hS.F ht⟩) hS.2.2 dX15_sealed_5
set_option maxHeartbeats 4000000 in
set_option maxRecDepth 100000 in
theorem c_X15_plainBody (l : Launch) (dC : Nat → ClassId) (dI : Nat → Nat → Nat) (sz : Nat) (h0 : Nat) (fs : List Value) (y0 : Nat) (y4 : Nat) (y38 : Nat) (y44 : Nat) (x1 : Int32) (hL : fs.length = 59) (hF0 : fs[0]? = some (.ref y0)) (hF1 : fs[1]? = some (.int 0)) (hF2 : fs[2]? = some (.int 0)) (hF3 : fs[3]? = some (.int 0)) (hF4 : fs[4]? = some (.ref y4)) (hF12 : fs[12]? = some (.int 0)) (hF14 : fs[14]? = some (.int 0)) (hF15 : fs[15]? = some (.int 0)) (hF30 : fs[30]? = some (.int 0)) (hF33 : fs[33]? = some (.int 0)) (hF38 : fs[38]? = some (.ref y38)) (hF44 : fs[44]? = some (.ref y44)) : Met l yX15_plainBody (.code yX15_plainBody cX15_plainBody 2 (some .int) :: tb) ({ frames := 0, cells := 0, slots := 0, locals := 0 }) (va_Pc [.ref h0, .int x1] (PW (dC, dI) sz [(h0, .inr (15, fs))] [])) (va_Qi (fun (r : Int32) (_ : Unit) => r = (-2)) (fun _ T9 => QW (dC, dI) (va_A [(h0, .inr (15, fs))] sz) [] [] T9) (va_A [(h0, .inr (15, fs))] sz)) 0 0 (va_A [(h0, .inr (15, fs))] sz) := by
  refine Met.ofW (cc := cX15_plainBody) (maxL := 2) (ret := (some .int)) (by decide) rfl ?_
  intro p e s m args below meth c s₁ B hml hv
  obtain ⟨rfl, hsz, hP, hK, hD0, hE⟩ := hv
  have hx := B.exec
  have hb := B.bytes
  have hr := B.returns
  have hts : ∀ w ∈ tb, w.before _ s = true := fun w h => atoms_spec (ws := .code yX15_plainBody cX15_plainBody 2 (some .int) :: tb) B.pre w (List.mem_cons_of_mem _ h)
  have hown : s.vm.findClass RX15 = some m.cls := findClass_of_methodNamed B.named
  have hlocks := B.notSynchronized
  subst hsz
  have hD := hD0.self (sz := s.heap.size)
  generalize hAe : va_A [(h0, .inr (15, fs))] s.heap.size = A at hD ⊢
  have hA : ∀ q : Nat, s.heap.size ≤ q → A q := fun q h => by rw [← hAe]; exact Or.inr h
  have hS : va_S A s.heap s.heap [] := va_S.rf
  have hP : va_P (dC, dI) vwCl [(h0, .inr (15, fs))] s.heap := hP
  have hl := lv_entry ([.ref h0, .int x1]) (n := 2) (Nat.le_of_ble_eq_true rfl)
  rw [lg_entry_eq]
  generalize (lg_sl ([.ref h0, .int x1]) ++ List.replicate (2 - (lg_sl ([.ref h0, .int x1])).length) Slot.unset).toArray = ls at hl ⊢
  have hl : lv_has ls 2 [(0, .ref h0), (1, .int x1)] := hl
  refine lv_aload_n hx hb dX15_plainBody_0 rfl (lv_at hl 0 rfl) ?_
  refine va_get (D := (dC, dI)) (ci := 15) (v := .int 0) (C := RX15) (T := TX15) (N := 59) hx hb hts it_15 hown hK hP 0 rfl rfl 33 (by decide) (hts _ kt_378) (fun _ h9 => h9) hF33 dX15_plainBody_1 ?_
  refine lv_if_ne (tgt := 10) hx hb dX15_plainBody_4 (by decide) (fun c_1 => absurd (by decide) c_1) (fun c_1 => ?_)
  refine lv_bipush (v := (-2)) hx hb dX15_plainBody_7 (by decide) ?_
  have hP9 := hP.sub (ws' := []) [] rfl
  have hD9 := hD.sub (ws' := []) [] (by decide) rfl
  have hK9 := hK.sub (tys' := []) [] rfl
  refine W.widen (k := 0) (n := 0) (by omega) (by omega) ?_
  exact W.iret (v := (-2)) hx hb hr (fun t ht hW => ⟨⟨(-2), (), rfl, rfl, QW.mk ht hW hP9 hK9 hD9⟩, hS.F ht⟩) hS.2.2 dX15_plainBody_9
set_option maxHeartbeats 4000000 in
set_option maxRecDepth 100000 in
theorem c_X15_plainField (l : Launch) (dC : Nat → ClassId) (dI : Nat → Nat → Nat) (sz : Nat) (h0 : Nat) (fs : List Value) (y0 : Nat) (y4 : Nat) (y38 : Nat) (y44 : Nat) (x1 : Int32) (x2 : Int32) (hL : fs.length = 59) (hF0 : fs[0]? = some (.ref y0)) (hF1 : fs[1]? = some (.int 0)) (hF2 : fs[2]? = some (.int 0)) (hF3 : fs[3]? = some (.int 0)) (hF4 : fs[4]? = some (.ref y4)) (hF12 : fs[12]? = some (.int 0)) (hF14 : fs[14]? = some (.int 0)) (hF15 : fs[15]? = some (.int 0)) (hF30 : fs[30]? = some (.int 0)) (hF33 : fs[33]? = some (.int 0)) (hF38 : fs[38]? = some (.ref y38)) (hF44 : fs[44]? = some (.ref y44)) : Met l yX15_plainField (.code yX15_plainField cX15_plainField 3 (some .int) :: tb) ({ frames := 0, cells := 0, slots := 0, locals := 0 }) (va_Pc [.ref h0, .int x1, .int x2] (PW (dC, dI) sz [(h0, .inr (15, fs))] [])) (va_Qi (fun (r : Int32) (_ : Unit) => r = (-2)) (fun _ T9 => QW (dC, dI) (va_A [(h0, .inr (15, fs))] sz) [] [] T9) (va_A [(h0, .inr (15, fs))] sz)) 0 0 (va_A [(h0, .inr (15, fs))] sz) := by
  refine Met.ofW (cc := cX15_plainField) (maxL := 3) (ret := (some .int)) (by decide) rfl ?_
  intro p e s m args below meth c s₁ B hml hv
  obtain ⟨rfl, hsz, hP, hK, hD0, hE⟩ := hv
  have hx := B.exec
  have hb := B.bytes
  have hr := B.returns
  have hts : ∀ w ∈ tb, w.before _ s = true := fun w h => atoms_spec (ws := .code yX15_plainField cX15_plainField 3 (some .int) :: tb) B.pre w (List.mem_cons_of_mem _ h)
  have hown : s.vm.findClass RX15 = some m.cls := findClass_of_methodNamed B.named
  have hlocks := B.notSynchronized
  subst hsz
  have hD := hD0.self (sz := s.heap.size)
  generalize hAe : va_A [(h0, .inr (15, fs))] s.heap.size = A at hD ⊢
  have hA : ∀ q : Nat, s.heap.size ≤ q → A q := fun q h => by rw [← hAe]; exact Or.inr h
  have hS : va_S A s.heap s.heap [] := va_S.rf
  have hP : va_P (dC, dI) vwCl [(h0, .inr (15, fs))] s.heap := hP
  have hl := lv_entry ([.ref h0, .int x1, .int x2]) (n := 3) (Nat.le_of_ble_eq_true rfl)
  rw [lg_entry_eq]
  generalize (lg_sl ([.ref h0, .int x1, .int x2]) ++ List.replicate (3 - (lg_sl ([.ref h0, .int x1, .int x2])).length) Slot.unset).toArray = ls at hl ⊢
  have hl : lv_has ls 3 [(0, .ref h0), (1, .int x1), (2, .int x2)] := hl
  refine lv_aload_n hx hb dX15_plainField_0 rfl (lv_at hl 0 rfl) ?_
  refine va_get (D := (dC, dI)) (ci := 15) (v := .int 0) (C := RX15) (T := TX15) (N := 59) hx hb hts it_15 hown hK hP 0 rfl rfl 33 (by decide) (hts _ kt_378) (fun _ h9 => h9) hF33 dX15_plainField_1 ?_
  refine lv_if_eq (tgt := 23) hx hb dX15_plainField_4 (by decide) (fun c_1 => ?_) (fun c_1 => absurd (by decide) c_1)
  refine lv_bipush (v := (-2)) hx hb dX15_plainField_23 (by decide) ?_
  have hP9 := hP.sub (ws' := []) [] rfl
  have hD9 := hD.sub (ws' := []) [] (by decide) rfl
  have hK9 := hK.sub (tys' := []) [] rfl
  refine W.widen (k := 0) (n := 0) (by omega) (by omega) ?_
  exact W.iret (v := (-2)) hx hb hr (fun t ht hW => ⟨⟨(-2), (), rfl, rfl, QW.mk ht hW hP9 hK9 hD9⟩, hS.F ht⟩) hS.2.2 dX15_plainField_25
set_option maxHeartbeats 4000000 in
set_option maxRecDepth 100000 in
theorem c_X15_house (l : Launch) (dC : Nat → ClassId) (dI : Nat → Nat → Nat) (sz : Nat) (h0 : Nat) (fs : List Value) (y0 : Nat) (y4 : Nat) (y38 : Nat) (y44 : Nat) (hL : fs.length = 59) (hF0 : fs[0]? = some (.ref y0)) (hF1 : fs[1]? = some (.int 0)) (hF2 : fs[2]? = some (.int 0)) (hF3 : fs[3]? = some (.int 0)) (hF4 : fs[4]? = some (.ref y4)) (hF12 : fs[12]? = some (.int 0)) (hF14 : fs[14]? = some (.int 0)) (hF15 : fs[15]? = some (.int 0)) (hF30 : fs[30]? = some (.int 0)) (hF33 : fs[33]? = some (.int 0)) (hF38 : fs[38]? = some (.ref y38)) (hF44 : fs[44]? = some (.ref y44)) : Met l yX15_house (.code yX15_house cX15_house 2 (some .int) :: tb) ({ frames := 2, cells := 0, slots := 0, locals := 50 }) (va_Pc [.ref h0] (PW (dC, dI) sz [(h0, .inr (15, fs))] [])) (va_Qi (fun (r : Int32) (_ : Unit) => r = (-1)) (fun _ T9 => QW (dC, dI) (va_A [(h0, .inr (15, fs))] sz) [] [] T9) (va_A [(h0, .inr (15, fs))] sz)) 0 0 (va_A [(h0, .inr (15, fs))] sz) := by
  refine Met.ofW (cc := cX15_house) (maxL := 2) (ret := (some .int)) (by decide) rfl ?_
  intro p e s m args below meth c s₁ B hml hv
  obtain ⟨rfl, hsz, hP, hK, hD0, hE⟩ := hv
  have hx := B.exec
  have hb := B.bytes
  have hr := B.returns
  have hts : ∀ w ∈ tb, w.before _ s = true := fun w h => atoms_spec (ws := .code yX15_house cX15_house 2 (some .int) :: tb) B.pre w (List.mem_cons_of_mem _ h)
  have hown : s.vm.findClass RX15 = some m.cls := findClass_of_methodNamed B.named
  have hlocks := B.notSynchronized
  subst hsz
  have hD := hD0.self (sz := s.heap.size)
  generalize hAe : va_A [(h0, .inr (15, fs))] s.heap.size = A at hD ⊢
  have hA : ∀ q : Nat, s.heap.size ≤ q → A q := fun q h => by rw [← hAe]; exact Or.inr h
  have hS : va_S A s.heap s.heap [] := va_S.rf
  have hP : va_P (dC, dI) vwCl [(h0, .inr (15, fs))] s.heap := hP
  have hl := lv_entry ([.ref h0]) (n := 2) (Nat.le_of_ble_eq_true rfl)
  rw [lg_entry_eq]
  generalize (lg_sl ([.ref h0]) ++ List.replicate (2 - (lg_sl ([.ref h0])).length) Slot.unset).toArray = ls at hl ⊢
  have hl : lv_has ls 2 [(0, .ref h0)] := hl
  refine lv_aload_n hx hb dX15_house_0 rfl (lv_at hl 0 rfl) ?_
  have hPc := hP.sub (ws' := [(h0, .inr (15, fs))]) [0] rfl
  have hDc := hD.sub (ws' := [(h0, .inr (15, fs))]) [0] (by decide) rfl
  have hKc := hK.sub (tys' := []) [] rfl
  have hFc := va_free (wc := [(h0, .inr (15, fs))]) hD hS hA [0] rfl
  refine va_calli (va_runV (As := []) (rest := []) ⟨hx, hb, hml, hown, hts⟩ (c_X15_used l dC dI s.heap.size h0 fs y0 y4 y38 y44 (hL) (hF0) (hF1) (hF2) (hF3) (hF4) (hF12) (hF14) (hF15) (hF30) (hF33) (hF38) (hF44)) ⟨callB_of 0 hts (gi kt_380) rfl rfl rfl (hts _ kt_375) (hts _ kt_381) (by decide +kernel) ⟨Nat.le_of_ble_eq_true rfl, Nat.le_of_ble_eq_true rfl⟩, (hts _ kt_382), (hts _ kt_383)⟩ ⟨fun a U g mk q => ⟨q.1, PW.calling q.2⟩, va_recv hKc hPc (ci := 15) (q0 := 0) rfl rfl, fun U hU hW => ⟨rfl, PW.mk hU hW hPc hKc hDc hE⟩⟩ rfl rfl hl.1 rfl (lv_room (Nat.le_of_ble_eq_true rfl)) dX15_house_1 ⟨by show _ + 0 ≤ 0; omega, by show _ + 0 ≤ 0; omega⟩) hS (fun q _ h => hFc q h) hFc (fun r_1 u t H1 locs ht hvm hw hB hz1 hk1 hS => ?_)
  obtain ⟨fs2_2, hB1, hf_3, hf_4, hf_5, hf_6, hf_7, hf_8, hf_9, hf_10, hf_11, hf_12, hf_13, hf_14, hf_15⟩ := hB
  obtain ⟨hP, hD, hK⟩ := QW.join (wr := []) hP hD hK [0] [] rfl rfl (by decide) (by decide) hk1 hFc ht hvm hB1
  generalize H1 = H at hP hS ⊢
  have hK : va_K (dC, dI) vwCl [] s := hK.sub [] rfl
  have hP : va_P (dC, dI) vwCl [(h0, .inr (15, fs2_2))] H := hP
  have hD : va_D A [(h0, .inr (15, fs2_2))] := hD
  have hw : r_1 = 0 := hw
  subst hw
  refine lv_istore_n (lv' := [(1, .int 0), (0, .ref h0)]) hx hb dX15_house_4 rfl hl (by decide) rfl (fun ls hl => ?_)
  refine lv_aload_n hx hb dX15_house_5 rfl (lv_at hl 1 rfl) ?_
  refine va_get (D := (dC, dI)) (ci := 15) (v := .ref y0) (C := RX15) (T := TX15) (N := 59) hx hb hts it_15 hown hK hP 0 rfl rfl 0 (by decide) (hts _ kt_321) (fun _ h9 => h9) hf_4 dX15_house_6 ?_
  refine lv_iconst (v := 0) hx hb dX15_house_9 (by decide) ?_
  refine lv_iload_n hx hb dX15_house_10 rfl (lv_at hl 0 rfl) ?_
  have hPc := hP.sub (ws' := []) [] rfl
  have hDc := hD.sub (ws' := []) [] (by decide) rfl
  have hKc := hK.sub (tys' := []) [] rfl
  have hFc := va_free (wc := []) hD hS hA [] rfl
  refine va_calli (va_runS (As := [.ref y0, .int 0, .int 0]) (rest := []) ⟨hx, hb, hml, hown, hts⟩ (c_X14_isName_ l dC dI H.size y0 ) ⟨callB_of 3 hts (gi kt_386) rfl rfl rfl (hts _ kt_272) (hts _ kt_387) (by decide +kernel) ⟨Nat.le_of_ble_eq_true rfl, Nat.le_of_ble_eq_true rfl⟩, (hts _ kt_388)⟩ ⟨fun a U g mk q => ⟨q.1, PW.calling q.2⟩, fun U hU hW => ⟨rfl, PW.mk hU hW hPc hKc hDc hE⟩⟩ rfl rfl hl.1 rfl (lv_room (Nat.le_of_ble_eq_true rfl)) dX15_house_11 ⟨by show _ + 0 ≤ 0; omega, by show _ + 0 ≤ 0; omega⟩) hS (fun q _ h => hFc q h) hFc (fun r_16 u t H1 locs ht hvm hw hB hz1 hk1 hS => ?_)
  have hB1 := hB
  obtain ⟨hP, hD, hK⟩ := QW.join (wr := [(h0, .inr (15, fs2_2))]) hP hD hK [] [0] rfl rfl (by decide) (by decide) hk1 hFc ht hvm hB1
  generalize H1 = H at hP hS ⊢
  have hK : va_K (dC, dI) vwCl [] s := hK.sub [] rfl
  have hP : va_P (dC, dI) vwCl [(h0, .inr (15, fs2_2))] H := hP
  have hD : va_D A [(h0, .inr (15, fs2_2))] := hD
  have hw : r_16 = 0 := hw
  subst hw
  refine lv_if_ne (tgt := 19) hx hb dX15_house_14 (by decide) (fun c_17 => absurd (by decide) c_17) (fun c_17 => ?_)
  refine lv_iconst (v := (-1)) hx hb dX15_house_17 (by decide) ?_
  have hP9 := hP.sub (ws' := []) [] rfl
  have hD9 := hD.sub (ws' := []) [] (by decide) rfl
  have hK9 := hK.sub (tys' := []) [] rfl
  refine W.widen (k := 0) (n := 0) (by omega) (by omega) ?_
  exact W.iret (v := (-1)) hx hb hr (fun t ht hW => ⟨⟨(-1), (), rfl, rfl, QW.mk ht hW hP9 hK9 hD9⟩, hS.F ht⟩) hS.2.2 dX15_house_18
set_option maxHeartbeats 4000000 in
set_option maxRecDepth 100000 in
theorem c_X15_wish (l : Launch) (dC : Nat → ClassId) (dI : Nat → Nat → Nat) (sz : Nat) (h0 : Nat) (fs : List Value) (y0 : Nat) (y4 : Nat) (y38 : Nat) (y44 : Nat) (x1 : Int32) (hL : fs.length = 59) (hF0 : fs[0]? = some (.ref y0)) (hF1 : fs[1]? = some (.int 0)) (hF2 : fs[2]? = some (.int 0)) (hF3 : fs[3]? = some (.int 0)) (hF4 : fs[4]? = some (.ref y4)) (hF12 : fs[12]? = some (.int 0)) (hF14 : fs[14]? = some (.int 0)) (hF15 : fs[15]? = some (.int 0)) (hF30 : fs[30]? = some (.int 0)) (hF33 : fs[33]? = some (.int 0)) (hF38 : fs[38]? = some (.ref y38)) (hF44 : fs[44]? = some (.ref y44)) : Met l yX15_wish (.code yX15_wish cX15_wish 6 (some .int) :: tb) ({ frames := 0, cells := 0, slots := 0, locals := 0 }) (va_Pc [.ref h0, .int x1] (PW (dC, dI) sz [(h0, .inr (15, fs))] [])) (va_Qi (fun (r : Int32) (_ : Unit) => r = (-1)) (fun _ T9 => QW (dC, dI) (va_A [(h0, .inr (15, fs))] sz) [] [] T9) (va_A [(h0, .inr (15, fs))] sz)) 0 0 (va_A [(h0, .inr (15, fs))] sz) := by
  refine Met.ofW (cc := cX15_wish) (maxL := 6) (ret := (some .int)) (by decide) rfl ?_
  intro p e s m args below meth c s₁ B hml hv
  obtain ⟨rfl, hsz, hP, hK, hD0, hE⟩ := hv
  have hx := B.exec
  have hb := B.bytes
  have hr := B.returns
  have hts : ∀ w ∈ tb, w.before _ s = true := fun w h => atoms_spec (ws := .code yX15_wish cX15_wish 6 (some .int) :: tb) B.pre w (List.mem_cons_of_mem _ h)
  have hown : s.vm.findClass RX15 = some m.cls := findClass_of_methodNamed B.named
  have hlocks := B.notSynchronized
  subst hsz
  have hD := hD0.self (sz := s.heap.size)
  generalize hAe : va_A [(h0, .inr (15, fs))] s.heap.size = A at hD ⊢
  have hA : ∀ q : Nat, s.heap.size ≤ q → A q := fun q h => by rw [← hAe]; exact Or.inr h
  have hS : va_S A s.heap s.heap [] := va_S.rf
  have hP : va_P (dC, dI) vwCl [(h0, .inr (15, fs))] s.heap := hP
  have hl := lv_entry ([.ref h0, .int x1]) (n := 6) (Nat.le_of_ble_eq_true rfl)
  rw [lg_entry_eq]
  generalize (lg_sl ([.ref h0, .int x1]) ++ List.replicate (6 - (lg_sl ([.ref h0, .int x1])).length) Slot.unset).toArray = ls at hl ⊢
  have hl : lv_has ls 6 [(0, .ref h0), (1, .int x1)] := hl
  refine lv_aload_n hx hb dX15_wish_0 rfl (lv_at hl 0 rfl) ?_
  refine va_get (D := (dC, dI)) (ci := 15) (v := .int 0) (C := RX15) (T := TX15) (N := 59) hx hb hts it_15 hown hK hP 0 rfl rfl 12 (by decide) (hts _ kt_389) (fun _ h9 => h9) hF12 dX15_wish_1 ?_
  refine lv_if_eq (tgt := 11) hx hb dX15_wish_4 (by decide) (fun c_1 => ?_) (fun c_1 => absurd (by decide) c_1)
  refine lv_iconst (v := (-1)) hx hb dX15_wish_11 (by decide) ?_
  have hP9 := hP.sub (ws' := []) [] rfl
  have hD9 := hD.sub (ws' := []) [] (by decide) rfl
  have hK9 := hK.sub (tys' := []) [] rfl
  refine W.widen (k := 0) (n := 0) (by omega) (by omega) ?_
  exact W.iret (v := (-1)) hx hb hr (fun t ht hW => ⟨⟨(-1), (), rfl, rfl, QW.mk ht hW hP9 hK9 hD9⟩, hS.F ht⟩) hS.2.2 dX15_wish_12
set_option maxHeartbeats 4000000 in
set_option maxRecDepth 100000 in
theorem c_X15_octet (l : Launch) (dC : Nat → ClassId) (dI : Nat → Nat → Nat) (sz : Nat) (h0 : Nat) (fs : List Value) (y0 : Nat) (y4 : Nat) (y38 : Nat) (y44 : Nat) (x1 : Int32) (hL : fs.length = 59) (hF0 : fs[0]? = some (.ref y0)) (hF1 : fs[1]? = some (.int 0)) (hF2 : fs[2]? = some (.int 0)) (hF3 : fs[3]? = some (.int 0)) (hF4 : fs[4]? = some (.ref y4)) (hF12 : fs[12]? = some (.int 0)) (hF14 : fs[14]? = some (.int 0)) (hF15 : fs[15]? = some (.int 0)) (hF30 : fs[30]? = some (.int 0)) (hF33 : fs[33]? = some (.int 0)) (hF38 : fs[38]? = some (.ref y38)) (hF44 : fs[44]? = some (.ref y44)) : Met l yX15_octet (.code yX15_octet cX15_octet 2 (some .int) :: tb) ({ frames := 1, cells := 0, slots := 0, locals := 25 }) (va_Pc [.ref h0, .int x1] (PW (dC, dI) sz [(h0, .inr (15, fs))] [])) (va_Qi (fun (r : Int32) (_ : Unit) => r = (if x1 = (-1) then 0 else (-2))) (fun _ T9 => QW (dC, dI) (va_A [(h0, .inr (15, fs))] sz) [] [] T9) (va_A [(h0, .inr (15, fs))] sz)) 0 0 (va_A [(h0, .inr (15, fs))] sz) := by
  refine Met.ofW (cc := cX15_octet) (maxL := 2) (ret := (some .int)) (by decide) rfl ?_
  intro p e s m args below meth c s₁ B hml hv
  obtain ⟨rfl, hsz, hP, hK, hD0, hE⟩ := hv
  have hx := B.exec
  have hb := B.bytes
  have hr := B.returns
  have hts : ∀ w ∈ tb, w.before _ s = true := fun w h => atoms_spec (ws := .code yX15_octet cX15_octet 2 (some .int) :: tb) B.pre w (List.mem_cons_of_mem _ h)
  have hown : s.vm.findClass RX15 = some m.cls := findClass_of_methodNamed B.named
  have hlocks := B.notSynchronized
  subst hsz
  have hD := hD0.self (sz := s.heap.size)
  generalize hAe : va_A [(h0, .inr (15, fs))] s.heap.size = A at hD ⊢
  have hA : ∀ q : Nat, s.heap.size ≤ q → A q := fun q h => by rw [← hAe]; exact Or.inr h
  have hS : va_S A s.heap s.heap [] := va_S.rf
  have hP : va_P (dC, dI) vwCl [(h0, .inr (15, fs))] s.heap := hP
  have hl := lv_entry ([.ref h0, .int x1]) (n := 2) (Nat.le_of_ble_eq_true rfl)
  rw [lg_entry_eq]
  generalize (lg_sl ([.ref h0, .int x1]) ++ List.replicate (2 - (lg_sl ([.ref h0, .int x1])).length) Slot.unset).toArray = ls at hl ⊢
  have hl : lv_has ls 2 [(0, .ref h0), (1, .int x1)] := hl
  refine lv_iload_n hx hb dX15_octet_0 rfl (lv_at hl 1 rfl) ?_
  refine lv_i2l hx hb dX15_octet_1 rfl ?_
  refine lv_topl (fun x_1 ex_1 => ?_)
  obtain rfl : x_1 = x1.toInt64 := ex_1.trans (rfl)
  refine lv_ldc2 (v := (-1)) hx hb hown (hts _ kt_396) dX15_octet_2 ?_
  refine lv_aload_n hx hb dX15_octet_5 rfl (lv_at hl 0 rfl) ?_
  refine va_get (D := (dC, dI)) (ci := 15) (v := .int 0) (C := RX15) (T := TX15) (N := 59) hx hb hts it_15 hown hK hP 0 rfl rfl 2 (by decide) (hts _ kt_397) (fun _ h9 => h9) hF2 dX15_octet_6 ?_
  refine lv_iconst (v := 1) hx hb dX15_octet_9 (by decide) ?_
  refine lv_isub hx hb dX15_octet_10 ?_
  refine lv_topi (fun x_2 ex_2 => ?_)
  obtain rfl : x_2 = (-1) := ex_2.trans (by decide)
  refine lv_i2l (v := (-1)) hx hb dX15_octet_11 (by decide) ?_
  have hPc := hP.sub (ws' := []) [] rfl
  have hDc := hD.sub (ws' := []) [] (by decide) rfl
  have hKc := hK.sub (tys' := []) [] rfl
  have hFc := va_free (wc := []) hD hS hA [] rfl
  refine va_calli (va_runS (As := [.long x1.toInt64, .long (-1), .long (-1)]) (rest := []) ⟨hx, hb, hml, hown, hts⟩ (c_X15_in l dC dI s.heap.size x1.toInt64 (-1) (-1) ) ⟨callB_of 3 hts (gi kt_374) rfl rfl rfl (hts _ kt_375) (hts _ kt_379) (by decide +kernel) ⟨Nat.le_of_ble_eq_true rfl, Nat.le_of_ble_eq_true rfl⟩, (hts _ kt_376)⟩ ⟨fun a U g mk q => ⟨q.1, PW.calling q.2⟩, fun U hU hW => ⟨rfl, PW.mk hU hW hPc hKc hDc hE⟩⟩ rfl rfl hl.1 rfl (lv_room (Nat.le_of_ble_eq_true rfl)) dX15_octet_12 ⟨by show _ + 0 ≤ 0; omega, by show _ + 0 ≤ 0; omega⟩) hS (fun q _ h => hFc q h) hFc (fun r_3 u t H1 locs ht hvm hw hB hz1 hk1 hS => ?_)
  have hB1 := hB
  obtain ⟨hP, hD, hK⟩ := QW.join (wr := [(h0, .inr (15, fs))]) hP hD hK [] [0] rfl rfl (by decide) (by decide) hk1 hFc ht hvm hB1
  generalize H1 = H at hP hS ⊢
  have hK : va_K (dC, dI) vwCl [] s := hK.sub [] rfl
  have hP : va_P (dC, dI) vwCl [(h0, .inr (15, fs))] H := hP
  have hD : va_D A [(h0, .inr (15, fs))] := hD
  have hw : r_3 = (if (-1) ≤ x1.toInt64 ∧ x1.toInt64 ≤ (-1) then 1 else 0) := hw
  have hw_4 := hw
  have hq := in_one (a := (-1)) rfl rfl hw_4
  refine lv_if_ne (tgt := 21) hx hb dX15_octet_15 (by decide) (fun c_5 => ?_) (fun c_5 => ?_)
  ·
    refine lv_iload_n hx hb dX15_octet_21 rfl (lv_at hl 1 rfl) ?_
    refine lv_if_ge (tgt := 32) hx hb dX15_octet_22 (by decide) (fun c_6 => ?_) (fun c_6 => ?_)
    ·
      have hz : x1 = (-1) := Classical.byContradiction fun h => c_5 (hq.mpr h)
      exact absurd c_6 (by rw [hz]; decide)
    ·
      refine lv_aload_n hx hb dX15_octet_25 rfl (lv_at hl 0 rfl) ?_
      refine va_get (D := (dC, dI)) (ci := 15) (v := .int 0) (C := RX15) (T := TX15) (N := 59) hx hb hts it_15 hown hK hP 0 rfl rfl 2 (by decide) (hts _ kt_397) (fun _ h9 => h9) hF2 dX15_octet_26 ?_
      refine lv_goto (tgt := 42) hx hb dX15_octet_29 (by decide) ?_
      have hP9 := hP.sub (ws' := []) [] rfl
      have hD9 := hD.sub (ws' := []) [] (by decide) rfl
      have hK9 := hK.sub (tys' := []) [] rfl
      refine W.widen (k := 0) (n := 0) (by omega) (by omega) ?_
      exact W.iret (v := 0) hx hb hr (fun t ht hW => ⟨⟨0, (), rfl, (by rw [if_pos (Classical.byContradiction fun h => c_5 (hq.mpr h))]), QW.mk ht hW hP9 hK9 hD9⟩, hS.F ht⟩) hS.2.2 dX15_octet_42
  ·
    refine lv_bipush (v := (-2)) hx hb dX15_octet_18 (by decide) ?_
    have hP9 := hP.sub (ws' := []) [] rfl
    have hD9 := hD.sub (ws' := []) [] (by decide) rfl
    have hK9 := hK.sub (tys' := []) [] rfl
    refine W.widen (k := 0) (n := 0) (by omega) (by omega) ?_
    exact W.iret (v := (-2)) hx hb hr (fun t ht hW => ⟨⟨(-2), (), rfl, (by rw [if_neg (hq.mp c_5)]), QW.mk ht hW hP9 hK9 hD9⟩, hS.F ht⟩) hS.2.2 dX15_octet_20
def BF (f : Nat → Int32) : Prop := ∀ j, fits .byte (.int (f j)) = true
theorem bf_upd {f : Nat → Int32} (h : BF f) (k : Nat) (x : Int32) : BF (upd f k (vp_nar .byte x)) := by
  intro j
  show fits .byte (.int (if j = k then vp_nar .byte x else f j)) = true
  split
  · rw [vp_nar_byte]
    exact pk_fb x
  · exact h j
set_option maxHeartbeats 4000000 in
set_option maxRecDepth 100000 in
theorem c_X12_finish_b (l : Launch) (dC : Nat → ClassId) (dI : Nat → Nat → Nat) (sz : Nat) (h0 : Nat) (qb : Nat) (q1 : Nat) (q2 : Nat) (q3 : Nat) (q4 : Nat) (q5 : Nat) (c1 : ClassId) (c2 : ClassId) (c3 : ClassId) (c4 : ClassId) (c5 : ClassId) (f1 : Nat → Int32) (f2 : Nat → Int32) (f3 : Nat → Int32) (f4 : Nat → Int32) (f5 : Nat → Int32) (cb : ClassId) (fb0 : Nat → Int32) (hbf : BF fb0) : Met l yX12_finish (.code yX12_finish cX12_finish 6 none :: tb) ({ frames := 4, cells := 0, slots := 0, locals := 95 }) (va_Pc [.ref h0, .ref qb, .int 0] (PW (dC, dI) sz [(h0, .inr (12, [.ref q1, .ref q2, .ref q3, .ref q4, .ref q5, .int 0, .long 0])), (q1, .inl (c1, 8, .inl f1)), (q2, .inl (c2, 8, .inl f2)), (q3, .inl (c3, 64, .inl f3)), (q4, .inl (c4, 64, .inl f4)), (q5, .inl (c5, 64, .inl f5)), (qb, .inl (cb, 32, .inl fb0))] [(c1, .int), (c2, .int), (c3, .int), (c4, .int), (c5, .byte), (cb, .byte)])) (va_Qv (fun _ : Unit => True) (fun _ T9 => ∃ (fb2 : Nat → Int32), QW (dC, dI) (va_A [(h0, .inr (12, [.ref q1, .ref q2, .ref q3, .ref q4, .ref q5, .int 0, .long 0])), (q1, .inl (c1, 8, .inl f1)), (q2, .inl (c2, 8, .inl f2)), (q3, .inl (c3, 64, .inl f3)), (q4, .inl (c4, 64, .inl f4)), (q5, .inl (c5, 64, .inl f5)), (qb, .inl (cb, 32, .inl fb0))] sz) [(qb, .inl (cb, 32, .inl fb2))] [(cb, .byte)] T9 ∧ BF fb2) (va_A [(h0, .inr (12, [.ref q1, .ref q2, .ref q3, .ref q4, .ref q5, .int 0, .long 0])), (q1, .inl (c1, 8, .inl f1)), (q2, .inl (c2, 8, .inl f2)), (q3, .inl (c3, 64, .inl f3)), (q4, .inl (c4, 64, .inl f4)), (q5, .inl (c5, 64, .inl f5)), (qb, .inl (cb, 32, .inl fb0))] sz)) 0 0 (va_A [(h0, .inr (12, [.ref q1, .ref q2, .ref q3, .ref q4, .ref q5, .int 0, .long 0])), (q1, .inl (c1, 8, .inl f1)), (q2, .inl (c2, 8, .inl f2)), (q3, .inl (c3, 64, .inl f3)), (q4, .inl (c4, 64, .inl f4)), (q5, .inl (c5, 64, .inl f5)), (qb, .inl (cb, 32, .inl fb0))] sz) := by
  refine Met.ofW (cc := cX12_finish) (maxL := 6) (ret := none) (by decide) rfl ?_
  intro p e s m args below meth c s₁ B hml hv
  obtain ⟨rfl, hsz, hP, hK, hD0, hE⟩ := hv
  have hx := B.exec
  have hb := B.bytes
  have hr := B.returns
  have hts : ∀ w ∈ tb, w.before _ s = true := fun w h => atoms_spec (ws := .code yX12_finish cX12_finish 6 none :: tb) B.pre w (List.mem_cons_of_mem _ h)
  have hown : s.vm.findClass RX12 = some m.cls := findClass_of_methodNamed B.named
  have hlocks := B.notSynchronized
  subst hsz
  have hD := hD0.self (sz := s.heap.size)
  generalize hAe : va_A [(h0, .inr (12, [.ref q1, .ref q2, .ref q3, .ref q4, .ref q5, .int 0, .long 0])), (q1, .inl (c1, 8, .inl f1)), (q2, .inl (c2, 8, .inl f2)), (q3, .inl (c3, 64, .inl f3)), (q4, .inl (c4, 64, .inl f4)), (q5, .inl (c5, 64, .inl f5)), (qb, .inl (cb, 32, .inl fb0))] s.heap.size = A at hD ⊢
  have hA : ∀ q : Nat, s.heap.size ≤ q → A q := fun q h => by rw [← hAe]; exact Or.inr h
  have hS : va_S A s.heap s.heap [] := va_S.rf
  have hP : va_P (dC, dI) vwCl [(h0, .inr (12, [.ref q1, .ref q2, .ref q3, .ref q4, .ref q5, .int 0, .long 0])), (q1, .inl (c1, 8, .inl f1)), (q2, .inl (c2, 8, .inl f2)), (q3, .inl (c3, 64, .inl f3)), (q4, .inl (c4, 64, .inl f4)), (q5, .inl (c5, 64, .inl f5)), (qb, .inl (cb, 32, .inl fb0))] s.heap := hP
  have hl := lv_entry ([.ref h0, .ref qb, .int 0]) (n := 6) (Nat.le_of_ble_eq_true rfl)
  rw [lg_entry_eq]
  generalize (lg_sl ([.ref h0, .ref qb, .int 0]) ++ List.replicate (6 - (lg_sl ([.ref h0, .ref qb, .int 0])).length) Slot.unset).toArray = ls at hl ⊢
  have hl : lv_has ls 6 [(0, .ref h0), (1, .ref qb), (2, .int 0)] := hl
  refine lv_ldc2 (v := 8) hx hb hown (hts _ kt_315) dX12_finish_0 ?_
  refine lv_aload_n hx hb dX12_finish_3 rfl (lv_at hl 0 rfl) ?_
  refine va_get (D := (dC, dI)) (ci := 12) (v := .long 0) (C := RX12) (T := TX12) (N := 7) hx hb hts it_12 hown hK hP 0 rfl rfl 6 (by decide) (hts _ kt_306) (fun _ h9 => h9) rfl dX12_finish_4 ?_
  refine lv_lmul hx hb dX12_finish_7 ?_
  refine lv_topl (fun x_1 _ => ?_)
  refine lv_lstore_n (lv' := [(3, .long x_1), (0, .ref h0), (1, .ref qb), (2, .int 0)]) hx hb dX12_finish_8 rfl hl (by decide) rfl (fun ls hl => ?_)
  refine lv_aload_n hx hb dX12_finish_9 rfl (lv_at hl 1 rfl) ?_
  refine lv_sipush (v := 128) hx hb dX12_finish_10 (by decide) ?_
  have hP : va_P (dC, dI) vwCl [(h0, .inr (12, [.ref q1, .ref q2, .ref q3, .ref q4, .ref q5, .int (nI 0), .long 0])), (q1, .inl (c1, 8, .inl f1)), (q2, .inl (c2, 8, .inl f2)), (q3, .inl (c3, 64, .inl f3)), (q4, .inl (c4, 64, .inl f4)), (q5, .inl (c5, 64, .inl f5)), (qb, .inl (cb, 32, .inl fb0))] s.heap := hP
  have hD : va_D A [(h0, .inr (12, [.ref q1, .ref q2, .ref q3, .ref q4, .ref q5, .int (nI 0), .long 0])), (q1, .inl (c1, 8, .inl f1)), (q2, .inl (c2, 8, .inl f2)), (q3, .inl (c3, 64, .inl f3)), (q4, .inl (c4, 64, .inl f4)), (q5, .inl (c5, 64, .inl f5)), (qb, .inl (cb, 32, .inl fb0))] := hD
  have hPc := hP.sub (ws' := [(h0, .inr (12, [.ref q1, .ref q2, .ref q3, .ref q4, .ref q5, .int (nI 0), .long 0])), (q1, .inl (c1, 8, .inl f1)), (q2, .inl (c2, 8, .inl f2)), (q3, .inl (c3, 64, .inl f3)), (q4, .inl (c4, 64, .inl f4)), (q5, .inl (c5, 64, .inl f5))]) [0, 1, 2, 3, 4, 5] rfl
  have hDc := hD.sub (ws' := [(h0, .inr (12, [.ref q1, .ref q2, .ref q3, .ref q4, .ref q5, .int (nI 0), .long 0])), (q1, .inl (c1, 8, .inl f1)), (q2, .inl (c2, 8, .inl f2)), (q3, .inl (c3, 64, .inl f3)), (q4, .inl (c4, 64, .inl f4)), (q5, .inl (c5, 64, .inl f5))]) [0, 1, 2, 3, 4, 5] (by decide) rfl
  have hKc := hK.sub (tys' := [(c1, .int), (c2, .int), (c3, .int), (c4, .int), (c5, .byte)]) [0, 1, 2, 3, 4] rfl
  have hFc := va_free (wc := [(h0, .inr (12, [.ref q1, .ref q2, .ref q3, .ref q4, .ref q5, .int (nI 0), .long 0])), (q1, .inl (c1, 8, .inl f1)), (q2, .inl (c2, 8, .inl f2)), (q3, .inl (c3, 64, .inl f3)), (q4, .inl (c4, 64, .inl f4)), (q5, .inl (c5, 64, .inl f5))]) hD hS hA [0, 1, 2, 3, 4, 5] rfl
  refine va_callv (va_runV (As := [.int 128]) (rest := []) ⟨hx, hb, hml, hown, hts⟩ (c_X12_one l dC dI s.heap.size h0 0 q1 q2 q3 q4 q5 c1 c2 c3 c4 c5 f1 f2 f3 f4 f5 128 0 (by omega)) ⟨callB_of 1 hts (gi kt_311) rfl rfl rfl (hts _ kt_285) (hts _ kt_312) (by decide +kernel) ⟨Nat.le_of_ble_eq_true rfl, Nat.le_of_ble_eq_true rfl⟩, (hts _ kt_313), (hts _ kt_314)⟩ ⟨fun a U g mk q => ⟨q.1, PW.calling q.2⟩, va_recv hKc hPc (ci := 12) (q0 := 0) rfl rfl, fun U hU hW => ⟨rfl, PW.mk hU hW hPc hKc hDc hE⟩⟩ rfl rfl hl.1 rfl (lv_room (Nat.le_of_ble_eq_true rfl)) dX12_finish_13 ⟨by show _ + 0 ≤ 0; omega, by show _ + 0 ≤ 0; omega⟩) hS (fun q _ h => hFc q h) hFc (fun u t H1 locs ht hvm hw hB hz1 hk1 hS => ?_)
  obtain ⟨a2_3, g5_4, hB1⟩ := hB
  obtain ⟨hP, hD, hK⟩ := QW.join (wr := [(qb, .inl (cb, 32, .inl fb0))]) hP hD hK [0, 1, 2, 3, 4, 5] [6] rfl rfl (by decide) (by decide) hk1 hFc ht hvm hB1
  generalize H1 = H at hP hS ⊢
  have hK : va_K (dC, dI) vwCl [(c1, .int), (c2, .int), (c3, .int), (c4, .int), (c5, .byte), (cb, .byte)] s := hK.sub [0, 1, 2, 3, 4, 5] rfl
  have hP : va_P (dC, dI) vwCl [(qb, .inl (cb, 32, .inl fb0)), (h0, .inr (12, [.ref q1, .ref q2, .ref q3, .ref q4, .ref q5, .int (nI 1), .long a2_3])), (q1, .inl (c1, 8, .inl f1)), (q2, .inl (c2, 8, .inl f2)), (q3, .inl (c3, 64, .inl f3)), (q4, .inl (c4, 64, .inl f4)), (q5, .inl (c5, 64, .inl g5_4))] H := hP
  have hD : va_D A [(qb, .inl (cb, 32, .inl fb0)), (h0, .inr (12, [.ref q1, .ref q2, .ref q3, .ref q4, .ref q5, .int (nI 1), .long a2_3])), (q1, .inl (c1, 8, .inl f1)), (q2, .inl (c2, 8, .inl f2)), (q3, .inl (c3, 64, .inl f3)), (q4, .inl (c4, 64, .inl f4)), (q5, .inl (c5, 64, .inl g5_4))] := hD
  refine W.widen (k := 0) (n := 0) (by omega) (by omega) ?_
  refine wl_loop (σ := Nat × Int64 × (Nat → Int32)) A (dC, dI) 16 6 (fun (n1, al, fc) => [(qb, .inl (cb, 32, .inl fb0)), (h0, .inr (12, [.ref q1, .ref q2, .ref q3, .ref q4, .ref q5, .int (nI n1), .long al])), (q1, .inl (c1, 8, .inl f1)), (q2, .inl (c2, 8, .inl f2)), (q3, .inl (c3, 64, .inl f3)), (q4, .inl (c4, 64, .inl f4)), (q5, .inl (c5, 64, .inl fc))]) (fun (n1, al, fc) => [(3, .long x_1), (0, .ref h0), (1, .ref qb), (2, .int 0)]) (fun (n1, al, fc) => []) (fun (n1, al, fc) => 0) (fun (n1, al, fc) => 0) (fun (n1, al, fc) => 1 ≤ n1 ∧ n1 ≤ 56) (fun (n1, al, fc) => 56 - n1) ?_ (1, a2_3, g5_4) (by first | omega | exact ⟨by omega, by omega⟩) _ _ (hP.sub [0, 1, 2, 3, 4, 5, 6] rfl) (hD.sub [0, 1, 2, 3, 4, 5, 6] (by decide) rfl) hS ls (lv_sub hl [0, 1, 2, 3] rfl)
  rintro ⟨n1, al, fc⟩ hv_5 ih_6 H locs hP hD hS ls hl
  have hP : va_P (dC, dI) vwCl [(qb, .inl (cb, 32, .inl fb0)), (h0, .inr (12, [.ref q1, .ref q2, .ref q3, .ref q4, .ref q5, .int (nI n1), .long al])), (q1, .inl (c1, 8, .inl f1)), (q2, .inl (c2, 8, .inl f2)), (q3, .inl (c3, 64, .inl f3)), (q4, .inl (c4, 64, .inl f4)), (q5, .inl (c5, 64, .inl fc))] H := hP
  have hD : va_D A [(qb, .inl (cb, 32, .inl fb0)), (h0, .inr (12, [.ref q1, .ref q2, .ref q3, .ref q4, .ref q5, .int (nI n1), .long al])), (q1, .inl (c1, 8, .inl f1)), (q2, .inl (c2, 8, .inl f2)), (q3, .inl (c3, 64, .inl f3)), (q4, .inl (c4, 64, .inl f4)), (q5, .inl (c5, 64, .inl fc))] := hD
  have hl : lv_has ls 6 [(3, .long x_1), (0, .ref h0), (1, .ref qb), (2, .int 0)] := hl
  have hv_5 : 1 ≤ n1 ∧ n1 ≤ 56 := hv_5
  refine W.widen (k := 0) (n := 0) (Nat.le_refl _) (Nat.le_refl _) ?_
  refine W.eq (g2 := F0 m 16 ls []) rfl ?_
  obtain ⟨hv1, hv2⟩ := hv_5
  refine lv_aload_n hx hb dX12_finish_16 rfl (lv_at hl 1 rfl) ?_
  refine va_get (D := (dC, dI)) (ci := 12) (v := .int (nI n1)) (C := RX12) (T := TX12) (N := 7) hx hb hts it_12 hown hK hP 1 rfl rfl 5 (by decide) (hts _ kt_305) (fun _ h9 => h9) rfl dX12_finish_17 ?_
  refine lv_bipush (v := 56) hx hb dX12_finish_20 (by decide) ?_
  refine lv_icmp_eq (tgt := 33) hx hb dX12_finish_22 (by decide) (fun c_7 => ?_) (fun c_7 => ?_)
  ·
    have he : n1 = 56 := (nI_eq (by omega) (by omega)).mp (c_7.trans (rfl : (56 : Int32) = nI 56))
    subst he
    refine lv_aload_n hx hb dX12_finish_33 rfl (lv_at hl 1 rfl) ?_
    refine lv_lload_n hx hb dX12_finish_34 rfl (lv_at hl 0 rfl) ?_
    refine lv_bipush (v := 32) hx hb dX12_finish_35 (by decide) ?_
    refine lv_lushr hx hb dX12_finish_37 rfl ?_
    refine lv_topl (fun x_10 _ => ?_)
    refine lv_l2i hx hb dX12_finish_38 rfl ?_
    refine lv_topi (fun x_11 _ => ?_)
    have hPc := hP.sub (ws' := [(h0, .inr (12, [.ref q1, .ref q2, .ref q3, .ref q4, .ref q5, .int (nI 56), .long al])), (q1, .inl (c1, 8, .inl f1)), (q2, .inl (c2, 8, .inl f2)), (q3, .inl (c3, 64, .inl f3)), (q4, .inl (c4, 64, .inl f4)), (q5, .inl (c5, 64, .inl fc))]) [1, 2, 3, 4, 5, 6] rfl
    have hDc := hD.sub (ws' := [(h0, .inr (12, [.ref q1, .ref q2, .ref q3, .ref q4, .ref q5, .int (nI 56), .long al])), (q1, .inl (c1, 8, .inl f1)), (q2, .inl (c2, 8, .inl f2)), (q3, .inl (c3, 64, .inl f3)), (q4, .inl (c4, 64, .inl f4)), (q5, .inl (c5, 64, .inl fc))]) [1, 2, 3, 4, 5, 6] (by decide) rfl
    have hKc := hK.sub (tys' := [(c1, .int), (c2, .int), (c3, .int), (c4, .int), (c5, .byte)]) [0, 1, 2, 3, 4] rfl
    have hFc := va_free (wc := [(h0, .inr (12, [.ref q1, .ref q2, .ref q3, .ref q4, .ref q5, .int (nI 56), .long al])), (q1, .inl (c1, 8, .inl f1)), (q2, .inl (c2, 8, .inl f2)), (q3, .inl (c3, 64, .inl f3)), (q4, .inl (c4, 64, .inl f4)), (q5, .inl (c5, 64, .inl fc))]) hD hS hA [1, 2, 3, 4, 5, 6] rfl
    refine va_callv (va_runV (As := [.int x_11]) (rest := []) ⟨hx, hb, hml, hown, hts⟩ (c_X12_four l dC dI H.size h0 56 q1 q2 q3 q4 q5 c1 c2 c3 c4 c5 f1 f2 f3 f4 fc x_11 al (by omega)) ⟨callB_of 1 hts (gi kt_316) rfl rfl rfl (hts _ kt_285) (hts _ kt_317) (by decide +kernel) ⟨Nat.le_of_ble_eq_true rfl, Nat.le_of_ble_eq_true rfl⟩, (hts _ kt_318), (hts _ kt_319)⟩ ⟨fun a U g mk q => ⟨q.1, PW.calling q.2⟩, va_recv hKc hPc (ci := 12) (q0 := 0) rfl rfl, fun U hU hW => ⟨rfl, PW.mk hU hW hPc hKc hDc hE⟩⟩ rfl rfl hl.1 rfl (lv_room (Nat.le_of_ble_eq_true rfl)) dX12_finish_39 ⟨by show _ + 0 ≤ 0; omega, by show _ + 0 ≤ 0; omega⟩) hS (fun q _ h => hFc q h) hFc (fun u t H1 locs ht hvm hw hB hz1 hk1 hS => ?_)
    obtain ⟨a2_13, g5_14, hB1⟩ := hB
    obtain ⟨hP, hD, hK⟩ := QW.join (wr := [(qb, .inl (cb, 32, .inl fb0))]) hP hD hK [1, 2, 3, 4, 5, 6] [0] rfl rfl (by decide) (by decide) hk1 hFc ht hvm hB1
    generalize H1 = H at hP hS ⊢
    have hK : va_K (dC, dI) vwCl [(c1, .int), (c2, .int), (c3, .int), (c4, .int), (c5, .byte), (cb, .byte)] s := hK.sub [0, 1, 2, 3, 4, 5] rfl
    have hP : va_P (dC, dI) vwCl [(qb, .inl (cb, 32, .inl fb0)), (h0, .inr (12, [.ref q1, .ref q2, .ref q3, .ref q4, .ref q5, .int (nI 60), .long a2_13])), (q1, .inl (c1, 8, .inl f1)), (q2, .inl (c2, 8, .inl f2)), (q3, .inl (c3, 64, .inl f3)), (q4, .inl (c4, 64, .inl f4)), (q5, .inl (c5, 64, .inl g5_14))] H := hP
    have hD : va_D A [(qb, .inl (cb, 32, .inl fb0)), (h0, .inr (12, [.ref q1, .ref q2, .ref q3, .ref q4, .ref q5, .int (nI 60), .long a2_13])), (q1, .inl (c1, 8, .inl f1)), (q2, .inl (c2, 8, .inl f2)), (q3, .inl (c3, 64, .inl f3)), (q4, .inl (c4, 64, .inl f4)), (q5, .inl (c5, 64, .inl g5_14))] := hD
    refine lv_aload_n hx hb dX12_finish_42 rfl (lv_at hl 1 rfl) ?_
    refine lv_lload_n hx hb dX12_finish_43 rfl (lv_at hl 0 rfl) ?_
    refine lv_l2i hx hb dX12_finish_44 rfl ?_
    refine lv_topi (fun x_15 _ => ?_)
    have hPc := hP.sub (ws' := [(h0, .inr (12, [.ref q1, .ref q2, .ref q3, .ref q4, .ref q5, .int (nI 60), .long a2_13])), (q1, .inl (c1, 8, .inl f1)), (q2, .inl (c2, 8, .inl f2)), (q3, .inl (c3, 64, .inl f3)), (q4, .inl (c4, 64, .inl f4)), (q5, .inl (c5, 64, .inl g5_14))]) [1, 2, 3, 4, 5, 6] rfl
    have hDc := hD.sub (ws' := [(h0, .inr (12, [.ref q1, .ref q2, .ref q3, .ref q4, .ref q5, .int (nI 60), .long a2_13])), (q1, .inl (c1, 8, .inl f1)), (q2, .inl (c2, 8, .inl f2)), (q3, .inl (c3, 64, .inl f3)), (q4, .inl (c4, 64, .inl f4)), (q5, .inl (c5, 64, .inl g5_14))]) [1, 2, 3, 4, 5, 6] (by decide) rfl
    have hKc := hK.sub (tys' := [(c1, .int), (c2, .int), (c3, .int), (c4, .int), (c5, .byte)]) [0, 1, 2, 3, 4] rfl
    have hFc := va_free (wc := [(h0, .inr (12, [.ref q1, .ref q2, .ref q3, .ref q4, .ref q5, .int (nI 60), .long a2_13])), (q1, .inl (c1, 8, .inl f1)), (q2, .inl (c2, 8, .inl f2)), (q3, .inl (c3, 64, .inl f3)), (q4, .inl (c4, 64, .inl f4)), (q5, .inl (c5, 64, .inl g5_14))]) hD hS hA [1, 2, 3, 4, 5, 6] rfl
    refine va_callv (va_runV (As := [.int x_15]) (rest := []) ⟨hx, hb, hml, hown, hts⟩ (c_X12_four_b l dC dI H.size h0 q1 q2 q3 q4 q5 c1 c2 c3 c4 c5 f1 f2 f3 f4 g5_14 x_15 a2_13 ) ⟨callB_of 1 hts (gi kt_316) rfl rfl rfl (hts _ kt_285) (hts _ kt_317) (by decide +kernel) ⟨Nat.le_of_ble_eq_true rfl, Nat.le_of_ble_eq_true rfl⟩, (hts _ kt_318), (hts _ kt_319)⟩ ⟨fun a U g mk q => ⟨q.1, PW.calling q.2⟩, va_recv hKc hPc (ci := 12) (q0 := 0) rfl rfl, fun U hU hW => ⟨rfl, PW.mk hU hW hPc hKc hDc hE⟩⟩ rfl rfl hl.1 rfl (lv_room (Nat.le_of_ble_eq_true rfl)) dX12_finish_45 ⟨by show _ + 0 ≤ 0; omega, by show _ + 0 ≤ 0; omega⟩) hS (fun q _ h => hFc q h) hFc (fun u t H1 locs ht hvm hw hB hz1 hk1 hS => ?_)
    obtain ⟨a2_17, g2_18, g3_19, g5_20, hB1⟩ := hB
    obtain ⟨hP, hD, hK⟩ := QW.join (wr := [(qb, .inl (cb, 32, .inl fb0))]) hP hD hK [1, 2, 3, 4, 5, 6] [0] rfl rfl (by decide) (by decide) hk1 hFc ht hvm hB1
    generalize H1 = H at hP hS ⊢
    have hK : va_K (dC, dI) vwCl [(c1, .int), (c2, .int), (c3, .int), (c4, .int), (c5, .byte), (cb, .byte)] s := hK.sub [0, 1, 2, 3, 4, 5] rfl
    have hP : va_P (dC, dI) vwCl [(qb, .inl (cb, 32, .inl fb0)), (h0, .inr (12, [.ref q1, .ref q2, .ref q3, .ref q4, .ref q5, .int 0, .long a2_17])), (q1, .inl (c1, 8, .inl f1)), (q2, .inl (c2, 8, .inl g2_18)), (q3, .inl (c3, 64, .inl g3_19)), (q4, .inl (c4, 64, .inl f4)), (q5, .inl (c5, 64, .inl g5_20))] H := hP
    have hD : va_D A [(qb, .inl (cb, 32, .inl fb0)), (h0, .inr (12, [.ref q1, .ref q2, .ref q3, .ref q4, .ref q5, .int 0, .long a2_17])), (q1, .inl (c1, 8, .inl f1)), (q2, .inl (c2, 8, .inl g2_18)), (q3, .inl (c3, 64, .inl g3_19)), (q4, .inl (c4, 64, .inl f4)), (q5, .inl (c5, 64, .inl g5_20))] := hD
    refine lv_iconst (v := 0) hx hb dX12_finish_48 (by decide) ?_
    refine lv_istore (lv' := [(5, .int 0), (3, .long x_1), (0, .ref h0), (1, .ref qb), (2, .int 0)]) hx hb dX12_finish_49 hl (by decide) rfl (fun ls hl => ?_)
    refine W.widen (k := 0) (n := 0) (by omega) (by omega) ?_
    refine wl_loop (σ := Nat × (Nat → Int32)) A (dC, dI) 51 6 (fun (i1, fd) => [(qb, .inl (cb, 32, .inl fd)), (h0, .inr (12, [.ref q1, .ref q2, .ref q3, .ref q4, .ref q5, .int 0, .long a2_17])), (q1, .inl (c1, 8, .inl f1)), (q2, .inl (c2, 8, .inl g2_18)), (q3, .inl (c3, 64, .inl g3_19)), (q4, .inl (c4, 64, .inl f4)), (q5, .inl (c5, 64, .inl g5_20))]) (fun (i1, fd) => [(5, .int (nI i1)), (3, .long x_1), (0, .ref h0), (1, .ref qb), (2, .int 0)]) (fun (i1, fd) => []) (fun (i1, fd) => 0) (fun (i1, fd) => 0) (fun (i1, fd) => i1 ≤ 32 ∧ BF fd) (fun (i1, fd) => 32 - i1) ?_ (0, fb0) (⟨by omega, hbf⟩) _ _ (hP.sub [0, 1, 2, 3, 4, 5, 6] rfl) (hD.sub [0, 1, 2, 3, 4, 5, 6] (by decide) rfl) hS ls (lv_sub hl [0, 1, 2, 3, 4] rfl)
    rintro ⟨i1, fd⟩ hv_21 ih_22 H locs hP hD hS ls hl
    have hP : va_P (dC, dI) vwCl [(qb, .inl (cb, 32, .inl fd)), (h0, .inr (12, [.ref q1, .ref q2, .ref q3, .ref q4, .ref q5, .int 0, .long a2_17])), (q1, .inl (c1, 8, .inl f1)), (q2, .inl (c2, 8, .inl g2_18)), (q3, .inl (c3, 64, .inl g3_19)), (q4, .inl (c4, 64, .inl f4)), (q5, .inl (c5, 64, .inl g5_20))] H := hP
    have hD : va_D A [(qb, .inl (cb, 32, .inl fd)), (h0, .inr (12, [.ref q1, .ref q2, .ref q3, .ref q4, .ref q5, .int 0, .long a2_17])), (q1, .inl (c1, 8, .inl f1)), (q2, .inl (c2, 8, .inl g2_18)), (q3, .inl (c3, 64, .inl g3_19)), (q4, .inl (c4, 64, .inl f4)), (q5, .inl (c5, 64, .inl g5_20))] := hD
    have hl : lv_has ls 6 [(5, .int (nI i1)), (3, .long x_1), (0, .ref h0), (1, .ref qb), (2, .int 0)] := hl
    have hv_21 : i1 ≤ 32 ∧ BF fd := hv_21
    refine W.widen (k := 0) (n := 0) (Nat.le_refl _) (Nat.le_refl _) ?_
    refine W.eq (g2 := F0 m 51 ls []) rfl ?_
    obtain ⟨hv1, hv2⟩ := hv_21
    refine lv_iload hx hb dX12_finish_51 (lv_at hl 0 rfl) ?_
    refine lv_bipush (v := 32) hx hb dX12_finish_53 (by decide) ?_
    refine lv_icmp_ge (tgt := 91) hx hb dX12_finish_55 (by decide) (fun c_23 => ?_) (fun c_23 => ?_)
    ·
      have hi_24 : 32 ≤ i1 := leN (N := 32) c_23
      have hP9 := hP.sub (ws' := [(qb, .inl (cb, 32, .inl fd))]) [0] rfl
      have hD9 := hD.sub (ws' := [(qb, .inl (cb, 32, .inl fd))]) [0] (by decide) rfl
      have hK9 := hK.sub (tys' := [(cb, .byte)]) [5] rfl
      refine W.widen (k := 0) (n := 0) (by omega) (by omega) ?_
      exact W.vret hx hb hr (fun t ht hW => ⟨⟨(), rfl, trivial, ⟨fd, QW.mk ht hW hP9 hK9 hD9, hv2⟩⟩, hS.F ht⟩) hS.2.2 dX12_finish_91
    ·
      have hi_25 : i1 < 32 := ltN (N := 32) c_23
      refine lv_aload_n hx hb dX12_finish_58 rfl (lv_at hl 3 rfl) ?_
      refine lv_iload_n hx hb dX12_finish_59 rfl (lv_at hl 4 rfl) ?_
      refine lv_iload hx hb dX12_finish_60 (lv_at hl 0 rfl) ?_
      refine lv_iadd hx hb dX12_finish_62 ?_
      refine lv_topi (fun x_26 ex_26 => ?_)
      obtain rfl : x_26 = (nI (0 + i1)) := ex_26.trans (nI_add 0 i1)
      refine lv_aload_n hx hb dX12_finish_63 rfl (lv_at hl 2 rfl) ?_
      refine va_get (D := (dC, dI)) (ci := 12) (v := .ref q2) (C := RX12) (T := TX12) (N := 7) hx hb hts it_12 hown hK hP 1 rfl rfl 1 (by decide) (hts _ kt_290) (fun _ h9 => h9) rfl dX12_finish_64 ?_
      refine lv_iload hx hb dX12_finish_67 (lv_at hl 0 rfl) ?_
      refine lv_iconst (v := 4) hx hb dX12_finish_69 (by decide) ?_
      refine lv_idiv hx hb dX12_finish_70 (by decide) ?_
      refine lv_topi (fun x_27 ex_27 => ?_)
      obtain rfl : x_27 = (nI (i1 / 4)) := ex_27.trans (pk_div (d := 4) (by omega) (by omega) (by omega))
      refine va_iald hx hb hK hP 3 1 rfl rfl (vp_in_nI (by omega) (by omega)) dX12_finish_71 ?_
      refine lv_topi (fun x_28 _ => ?_)
      refine lv_bipush (v := 24) hx hb dX12_finish_72 (by decide) ?_
      refine lv_bipush (v := 8) hx hb dX12_finish_74 (by decide) ?_
      refine lv_iload hx hb dX12_finish_76 (lv_at hl 0 rfl) ?_
      refine lv_iconst (v := 4) hx hb dX12_finish_78 (by decide) ?_
      refine lv_irem hx hb dX12_finish_79 (by decide) ?_
      refine lv_topi (fun x_29 _ => ?_)
      refine lv_imul hx hb dX12_finish_80 ?_
      refine lv_topi (fun x_30 _ => ?_)
      refine lv_isub hx hb dX12_finish_81 ?_
      refine lv_topi (fun x_31 _ => ?_)
      refine lv_ishr hx hb dX12_finish_82 ?_
      refine lv_topi (fun x_32 _ => ?_)
      refine lv_i2b hx hb dX12_finish_83 rfl ?_
      refine lv_topi (fun x_33 _ => ?_)
      refine va_bast hx hb hK hP hD hS 0 5 rfl rfl (vp_in_nI (by omega) (by omega)) dX12_finish_84 (fun H locs hP hD hS => ?_)
      obtain ⟨f_34, hP, hD, hbf_f_34⟩ : ∃ f_34 : Nat → Int32, va_P (dC, dI) vwCl [(qb, .inl (cb, 32, .inl f_34)), (h0, .inr (12, [.ref q1, .ref q2, .ref q3, .ref q4, .ref q5, .int 0, .long a2_17])), (q1, .inl (c1, 8, .inl f1)), (q2, .inl (c2, 8, .inl g2_18)), (q3, .inl (c3, 64, .inl g3_19)), (q4, .inl (c4, 64, .inl f4)), (q5, .inl (c5, 64, .inl g5_20))] H ∧ va_D A [(qb, .inl (cb, 32, .inl f_34)), (h0, .inr (12, [.ref q1, .ref q2, .ref q3, .ref q4, .ref q5, .int 0, .long a2_17])), (q1, .inl (c1, 8, .inl f1)), (q2, .inl (c2, 8, .inl g2_18)), (q3, .inl (c3, 64, .inl g3_19)), (q4, .inl (c4, 64, .inl f4)), (q5, .inl (c5, 64, .inl g5_20))] ∧ BF f_34 := ⟨_, hP, hD, bf_upd hv2 _ _⟩
      refine lv_iinc (v := (nI (i1 + 1))) (lv' := [(5, .int (nI (i1 + 1))), (3, .long x_1), (0, .ref h0), (1, .ref qb), (2, .int 0)]) hx hb dX12_finish_85 hl (k := 0) rfl (nI_1 _) (by decide) rfl (fun ls hl => ?_)
      refine lv_goto (tgt := 51) hx hb dX12_finish_88 (by decide) ?_
      refine W.widen (k := 0) (n := 0) (by omega) (by omega) ?_
      exact ih_22 ((i1 + 1), f_34) (⟨by omega, hbf_f_34⟩) (by show 32 - (i1 + 1) < 32 - i1; omega) _ _ (hP.sub [0, 1, 2, 3, 4, 5, 6] rfl) (hD.sub [0, 1, 2, 3, 4, 5, 6] (by decide) rfl) hS ls (lv_sub hl [0, 1, 2, 3, 4] rfl)
  ·
    have hne : n1 ≠ 56 := fun h => c_7 (by rw [h]; rfl)
    refine lv_aload_n hx hb dX12_finish_25 rfl (lv_at hl 1 rfl) ?_
    refine lv_iconst (v := 0) hx hb dX12_finish_26 (by decide) ?_
    have hPc := hP.sub (ws' := [(h0, .inr (12, [.ref q1, .ref q2, .ref q3, .ref q4, .ref q5, .int (nI n1), .long al])), (q1, .inl (c1, 8, .inl f1)), (q2, .inl (c2, 8, .inl f2)), (q3, .inl (c3, 64, .inl f3)), (q4, .inl (c4, 64, .inl f4)), (q5, .inl (c5, 64, .inl fc))]) [1, 2, 3, 4, 5, 6] rfl
    have hDc := hD.sub (ws' := [(h0, .inr (12, [.ref q1, .ref q2, .ref q3, .ref q4, .ref q5, .int (nI n1), .long al])), (q1, .inl (c1, 8, .inl f1)), (q2, .inl (c2, 8, .inl f2)), (q3, .inl (c3, 64, .inl f3)), (q4, .inl (c4, 64, .inl f4)), (q5, .inl (c5, 64, .inl fc))]) [1, 2, 3, 4, 5, 6] (by decide) rfl
    have hKc := hK.sub (tys' := [(c1, .int), (c2, .int), (c3, .int), (c4, .int), (c5, .byte)]) [0, 1, 2, 3, 4] rfl
    have hFc := va_free (wc := [(h0, .inr (12, [.ref q1, .ref q2, .ref q3, .ref q4, .ref q5, .int (nI n1), .long al])), (q1, .inl (c1, 8, .inl f1)), (q2, .inl (c2, 8, .inl f2)), (q3, .inl (c3, 64, .inl f3)), (q4, .inl (c4, 64, .inl f4)), (q5, .inl (c5, 64, .inl fc))]) hD hS hA [1, 2, 3, 4, 5, 6] rfl
    refine va_callv (va_runV (As := [.int 0]) (rest := []) ⟨hx, hb, hml, hown, hts⟩ (c_X12_one l dC dI H.size h0 n1 q1 q2 q3 q4 q5 c1 c2 c3 c4 c5 f1 f2 f3 f4 fc 0 al (by omega)) ⟨callB_of 1 hts (gi kt_311) rfl rfl rfl (hts _ kt_285) (hts _ kt_312) (by decide +kernel) ⟨Nat.le_of_ble_eq_true rfl, Nat.le_of_ble_eq_true rfl⟩, (hts _ kt_313), (hts _ kt_314)⟩ ⟨fun a U g mk q => ⟨q.1, PW.calling q.2⟩, va_recv hKc hPc (ci := 12) (q0 := 0) rfl rfl, fun U hU hW => ⟨rfl, PW.mk hU hW hPc hKc hDc hE⟩⟩ rfl rfl hl.1 rfl (lv_room (Nat.le_of_ble_eq_true rfl)) dX12_finish_27 ⟨by show _ + 0 ≤ 0; omega, by show _ + 0 ≤ 0; omega⟩) hS (fun q _ h => hFc q h) hFc (fun u t H1 locs ht hvm hw hB hz1 hk1 hS => ?_)
    obtain ⟨a2_37, g5_38, hB1⟩ := hB
    obtain ⟨hP, hD, hK⟩ := QW.join (wr := [(qb, .inl (cb, 32, .inl fb0))]) hP hD hK [1, 2, 3, 4, 5, 6] [0] rfl rfl (by decide) (by decide) hk1 hFc ht hvm hB1
    generalize H1 = H at hP hS ⊢
    have hK : va_K (dC, dI) vwCl [(c1, .int), (c2, .int), (c3, .int), (c4, .int), (c5, .byte), (cb, .byte)] s := hK.sub [0, 1, 2, 3, 4, 5] rfl
    have hP : va_P (dC, dI) vwCl [(qb, .inl (cb, 32, .inl fb0)), (h0, .inr (12, [.ref q1, .ref q2, .ref q3, .ref q4, .ref q5, .int (nI (n1 + 1)), .long a2_37])), (q1, .inl (c1, 8, .inl f1)), (q2, .inl (c2, 8, .inl f2)), (q3, .inl (c3, 64, .inl f3)), (q4, .inl (c4, 64, .inl f4)), (q5, .inl (c5, 64, .inl g5_38))] H := hP
    have hD : va_D A [(qb, .inl (cb, 32, .inl fb0)), (h0, .inr (12, [.ref q1, .ref q2, .ref q3, .ref q4, .ref q5, .int (nI (n1 + 1)), .long a2_37])), (q1, .inl (c1, 8, .inl f1)), (q2, .inl (c2, 8, .inl f2)), (q3, .inl (c3, 64, .inl f3)), (q4, .inl (c4, 64, .inl f4)), (q5, .inl (c5, 64, .inl g5_38))] := hD
    refine lv_goto (tgt := 16) hx hb dX12_finish_30 (by decide) ?_
    refine W.widen (k := 0) (n := 0) (by omega) (by omega) ?_
    exact ih_6 ((n1 + 1), a2_37, g5_38) (by first | omega | exact ⟨by omega, by omega⟩) (by show 56 - (n1 + 1) < 56 - n1; omega) _ _ (hP.sub [0, 1, 2, 3, 4, 5, 6] rfl) (hD.sub [0, 1, 2, 3, 4, 5, 6] (by decide) rfl) hS ls (lv_sub hl [0, 1, 2, 3] rfl)
set_option maxHeartbeats 4000000 in
set_option maxRecDepth 100000 in
theorem c_X15_digest (l : Launch) (dC : Nat → ClassId) (dI : Nat → Nat → Nat) (sz : Nat) (h0 : Nat) (fs : List Value) (y0 : Nat) (y4 : Nat) (y38 : Nat) (y44 : Nat) (z1 : Nat) (z2 : Nat) (z3 : Nat) (z4 : Nat) (z5 : Nat) (qt : Nat) (d1 : ClassId) (d2 : ClassId) (d3 : ClassId) (d4 : ClassId) (d5 : ClassId) (f1 : Nat → Int32) (f2 : Nat → Int32) (f3 : Nat → Int32) (f4 : Nat → Int32) (f5 : Nat → Int32) (ch : ClassId) (fh : Nat → Int32) (hL : fs.length = 59) (hF0 : fs[0]? = some (.ref y0)) (hF1 : fs[1]? = some (.int 0)) (hF2 : fs[2]? = some (.int 0)) (hF3 : fs[3]? = some (.int 0)) (hF4 : fs[4]? = some (.ref y4)) (hF12 : fs[12]? = some (.int 0)) (hF14 : fs[14]? = some (.int 0)) (hF15 : fs[15]? = some (.int 0)) (hF30 : fs[30]? = some (.int 0)) (hF33 : fs[33]? = some (.int 0)) (hF38 : fs[38]? = some (.ref y38)) (hF44 : fs[44]? = some (.ref y44)) (hbf : BF fh) : Met l yX15_digest (.code yX15_digest cX15_digest 4 none :: tb) ({ frames := 5, cells := 0, slots := 0, locals := 120 }) (va_Pc [.ref h0, .ref qt, .int 0, .ref y44] (PW (dC, dI) sz [(h0, .inr (15, fs)), (y38, .inr (12, [.ref z1, .ref z2, .ref z3, .ref z4, .ref z5, .int 0, .long 0])), (z1, .inl (d1, 8, .inl f1)), (z2, .inl (d2, 8, .inl f2)), (z3, .inl (d3, 64, .inl f3)), (z4, .inl (d4, 64, .inl f4)), (z5, .inl (d5, 64, .inl f5)), (y44, .inl (ch, 32, .inl fh))] [(d1, .int), (d2, .int), (d3, .int), (d4, .int), (d5, .byte), (ch, .byte)])) (va_Qv (fun _ : Unit => True) (fun _ T9 => ∃ (fh2 : Nat → Int32), QW (dC, dI) (va_A [(h0, .inr (15, fs)), (y38, .inr (12, [.ref z1, .ref z2, .ref z3, .ref z4, .ref z5, .int 0, .long 0])), (z1, .inl (d1, 8, .inl f1)), (z2, .inl (d2, 8, .inl f2)), (z3, .inl (d3, 64, .inl f3)), (z4, .inl (d4, 64, .inl f4)), (z5, .inl (d5, 64, .inl f5)), (y44, .inl (ch, 32, .inl fh))] sz) [(h0, .inr (15, fs)), (y44, .inl (ch, 32, .inl fh2))] [(ch, .byte)] T9 ∧ BF fh2) (va_A [(h0, .inr (15, fs)), (y38, .inr (12, [.ref z1, .ref z2, .ref z3, .ref z4, .ref z5, .int 0, .long 0])), (z1, .inl (d1, 8, .inl f1)), (z2, .inl (d2, 8, .inl f2)), (z3, .inl (d3, 64, .inl f3)), (z4, .inl (d4, 64, .inl f4)), (z5, .inl (d5, 64, .inl f5)), (y44, .inl (ch, 32, .inl fh))] sz)) 0 0 (va_A [(h0, .inr (15, fs)), (y38, .inr (12, [.ref z1, .ref z2, .ref z3, .ref z4, .ref z5, .int 0, .long 0])), (z1, .inl (d1, 8, .inl f1)), (z2, .inl (d2, 8, .inl f2)), (z3, .inl (d3, 64, .inl f3)), (z4, .inl (d4, 64, .inl f4)), (z5, .inl (d5, 64, .inl f5)), (y44, .inl (ch, 32, .inl fh))] sz) := by
  refine Met.ofW (cc := cX15_digest) (maxL := 4) (ret := none) (by decide) rfl ?_
  intro p e s m args below meth c s₁ B hml hv
  obtain ⟨rfl, hsz, hP, hK, hD0, hE⟩ := hv
  have hx := B.exec
  have hb := B.bytes
  have hr := B.returns
  have hts : ∀ w ∈ tb, w.before _ s = true := fun w h => atoms_spec (ws := .code yX15_digest cX15_digest 4 none :: tb) B.pre w (List.mem_cons_of_mem _ h)
  have hown : s.vm.findClass RX15 = some m.cls := findClass_of_methodNamed B.named
  have hlocks := B.notSynchronized
  subst hsz
  have hD := hD0.self (sz := s.heap.size)
  generalize hAe : va_A [(h0, .inr (15, fs)), (y38, .inr (12, [.ref z1, .ref z2, .ref z3, .ref z4, .ref z5, .int 0, .long 0])), (z1, .inl (d1, 8, .inl f1)), (z2, .inl (d2, 8, .inl f2)), (z3, .inl (d3, 64, .inl f3)), (z4, .inl (d4, 64, .inl f4)), (z5, .inl (d5, 64, .inl f5)), (y44, .inl (ch, 32, .inl fh))] s.heap.size = A at hD ⊢
  have hA : ∀ q : Nat, s.heap.size ≤ q → A q := fun q h => by rw [← hAe]; exact Or.inr h
  have hS : va_S A s.heap s.heap [] := va_S.rf
  have hP : va_P (dC, dI) vwCl [(h0, .inr (15, fs)), (y38, .inr (12, [.ref z1, .ref z2, .ref z3, .ref z4, .ref z5, .int 0, .long 0])), (z1, .inl (d1, 8, .inl f1)), (z2, .inl (d2, 8, .inl f2)), (z3, .inl (d3, 64, .inl f3)), (z4, .inl (d4, 64, .inl f4)), (z5, .inl (d5, 64, .inl f5)), (y44, .inl (ch, 32, .inl fh))] s.heap := hP
  have hl := lv_entry ([.ref h0, .ref qt, .int 0, .ref y44]) (n := 4) (Nat.le_of_ble_eq_true rfl)
  rw [lg_entry_eq]
  generalize (lg_sl ([.ref h0, .ref qt, .int 0, .ref y44]) ++ List.replicate (4 - (lg_sl ([.ref h0, .ref qt, .int 0, .ref y44])).length) Slot.unset).toArray = ls at hl ⊢
  have hl : lv_has ls 4 [(0, .ref h0), (1, .ref qt), (2, .int 0), (3, .ref y44)] := hl
  refine lv_aload_n hx hb dX15_digest_0 rfl (lv_at hl 0 rfl) ?_
  refine va_get (D := (dC, dI)) (ci := 15) (v := .ref y38) (C := RX15) (T := TX15) (N := 59) hx hb hts it_15 hown hK hP 0 rfl rfl 38 (by decide) (hts _ kt_355) (fun _ h9 => h9) hF38 dX15_digest_1 ?_
  have hPc := hP.sub (ws' := [(y38, .inr (12, [.ref z1, .ref z2, .ref z3, .ref z4, .ref z5, .int 0, .long 0])), (z1, .inl (d1, 8, .inl f1)), (z2, .inl (d2, 8, .inl f2)), (z3, .inl (d3, 64, .inl f3)), (z4, .inl (d4, 64, .inl f4)), (z5, .inl (d5, 64, .inl f5))]) [1, 2, 3, 4, 5, 6] rfl
  have hDc := hD.sub (ws' := [(y38, .inr (12, [.ref z1, .ref z2, .ref z3, .ref z4, .ref z5, .int 0, .long 0])), (z1, .inl (d1, 8, .inl f1)), (z2, .inl (d2, 8, .inl f2)), (z3, .inl (d3, 64, .inl f3)), (z4, .inl (d4, 64, .inl f4)), (z5, .inl (d5, 64, .inl f5))]) [1, 2, 3, 4, 5, 6] (by decide) rfl
  have hKc := hK.sub (tys' := [(d1, .int), (d2, .int), (d3, .int), (d4, .int), (d5, .byte)]) [0, 1, 2, 3, 4] rfl
  have hFc := va_free (wc := [(y38, .inr (12, [.ref z1, .ref z2, .ref z3, .ref z4, .ref z5, .int 0, .long 0])), (z1, .inl (d1, 8, .inl f1)), (z2, .inl (d2, 8, .inl f2)), (z3, .inl (d3, 64, .inl f3)), (z4, .inl (d4, 64, .inl f4)), (z5, .inl (d5, 64, .inl f5))]) hD hS hA [1, 2, 3, 4, 5, 6] rfl
  refine va_callv (va_runV (As := []) (rest := []) ⟨hx, hb, hml, hown, hts⟩ (c_X12_begin l dC dI s.heap.size y38 z1 z2 z3 z4 z5 d1 d2 d3 d4 d5 f1 f2 f3 f4 f5 0 0 ) ⟨callB_of 0 hts (gi kt_398) rfl rfl rfl (hts _ kt_285) (hts _ kt_399) (by decide +kernel) ⟨Nat.le_of_ble_eq_true rfl, Nat.le_of_ble_eq_true rfl⟩, (hts _ kt_400), (hts _ kt_401)⟩ ⟨fun a U g mk q => ⟨q.1, PW.calling q.2⟩, va_recv hKc hPc (ci := 12) (q0 := 0) rfl rfl, fun U hU hW => ⟨rfl, PW.mk hU hW hPc hKc hDc hE⟩⟩ rfl rfl hl.1 rfl (lv_room (Nat.le_of_ble_eq_true rfl)) dX15_digest_4 ⟨by show _ + 0 ≤ 0; omega, by show _ + 0 ≤ 0; omega⟩) hS (fun q _ h => hFc q h) hFc (fun u t H1 locs ht hvm hw hB hz1 hk1 hS => ?_)
  obtain ⟨g2_2, hB1⟩ := hB
  obtain ⟨hP, hD, hK⟩ := QW.join (wr := [(h0, .inr (15, fs)), (y44, .inl (ch, 32, .inl fh))]) hP hD hK [1, 2, 3, 4, 5, 6] [0, 7] rfl rfl (by decide) (by decide) hk1 hFc ht hvm hB1
  generalize H1 = H at hP hS ⊢
  have hK : va_K (dC, dI) vwCl [(d1, .int), (d2, .int), (d3, .int), (d4, .int), (d5, .byte), (ch, .byte)] s := hK.sub [0, 1, 2, 3, 4, 5] rfl
  have hP : va_P (dC, dI) vwCl [(h0, .inr (15, fs)), (y44, .inl (ch, 32, .inl fh)), (y38, .inr (12, [.ref z1, .ref z2, .ref z3, .ref z4, .ref z5, .int 0, .long 0])), (z1, .inl (d1, 8, .inl f1)), (z2, .inl (d2, 8, .inl g2_2)), (z3, .inl (d3, 64, .inl f3)), (z4, .inl (d4, 64, .inl f4)), (z5, .inl (d5, 64, .inl f5))] H := hP
  have hD : va_D A [(h0, .inr (15, fs)), (y44, .inl (ch, 32, .inl fh)), (y38, .inr (12, [.ref z1, .ref z2, .ref z3, .ref z4, .ref z5, .int 0, .long 0])), (z1, .inl (d1, 8, .inl f1)), (z2, .inl (d2, 8, .inl g2_2)), (z3, .inl (d3, 64, .inl f3)), (z4, .inl (d4, 64, .inl f4)), (z5, .inl (d5, 64, .inl f5))] := hD
  refine lv_aload_n hx hb dX15_digest_7 rfl (lv_at hl 0 rfl) ?_
  refine va_get (D := (dC, dI)) (ci := 15) (v := .ref y38) (C := RX15) (T := TX15) (N := 59) hx hb hts it_15 hown hK hP 0 rfl rfl 38 (by decide) (hts _ kt_355) (fun _ h9 => h9) hF38 dX15_digest_8 ?_
  refine lv_aload_n hx hb dX15_digest_11 rfl (lv_at hl 1 rfl) ?_
  refine lv_iconst (v := 0) hx hb dX15_digest_12 (by decide) ?_
  refine lv_iload_n hx hb dX15_digest_13 rfl (lv_at hl 2 rfl) ?_
  have hPc := hP.sub (ws' := [(y38, .inr (12, [.ref z1, .ref z2, .ref z3, .ref z4, .ref z5, .int 0, .long 0]))]) [2] rfl
  have hDc := hD.sub (ws' := [(y38, .inr (12, [.ref z1, .ref z2, .ref z3, .ref z4, .ref z5, .int 0, .long 0]))]) [2] (by decide) rfl
  have hKc := hK.sub (tys' := []) [] rfl
  have hFc := va_free (wc := [(y38, .inr (12, [.ref z1, .ref z2, .ref z3, .ref z4, .ref z5, .int 0, .long 0]))]) hD hS hA [2] rfl
  refine va_callv (va_runV (As := [.ref qt, .int 0, .int 0]) (rest := []) ⟨hx, hb, hml, hown, hts⟩ (c_X12_add l dC dI H.size y38 qt z1 z2 z3 z4 z5 ) ⟨callB_of 3 hts (gi kt_402) rfl rfl rfl (hts _ kt_285) (hts _ kt_403) (by decide +kernel) ⟨Nat.le_of_ble_eq_true rfl, Nat.le_of_ble_eq_true rfl⟩, (hts _ kt_404), (hts _ kt_405)⟩ ⟨fun a U g mk q => ⟨q.1, PW.calling q.2⟩, va_recv hKc hPc (ci := 12) (q0 := 0) rfl rfl, fun U hU hW => ⟨rfl, PW.mk hU hW hPc hKc hDc hE⟩⟩ rfl rfl hl.1 rfl (lv_room (Nat.le_of_ble_eq_true rfl)) dX15_digest_14 ⟨by show _ + 0 ≤ 0; omega, by show _ + 0 ≤ 0; omega⟩) hS (fun q _ h => hFc q h) hFc (fun u t H1 locs ht hvm hw hB hz1 hk1 hS => ?_)
  have hB1 := hB
  obtain ⟨hP, hD, hK⟩ := QW.join (wr := [(h0, .inr (15, fs)), (y44, .inl (ch, 32, .inl fh)), (z1, .inl (d1, 8, .inl f1)), (z2, .inl (d2, 8, .inl g2_2)), (z3, .inl (d3, 64, .inl f3)), (z4, .inl (d4, 64, .inl f4)), (z5, .inl (d5, 64, .inl f5))]) hP hD hK [2] [0, 1, 3, 4, 5, 6, 7] rfl rfl (by decide) (by decide) hk1 hFc ht hvm hB1
  generalize H1 = H at hP hS ⊢
  have hK : va_K (dC, dI) vwCl [(d1, .int), (d2, .int), (d3, .int), (d4, .int), (d5, .byte), (ch, .byte)] s := hK.sub [0, 1, 2, 3, 4, 5] rfl
  have hP : va_P (dC, dI) vwCl [(h0, .inr (15, fs)), (y44, .inl (ch, 32, .inl fh)), (z1, .inl (d1, 8, .inl f1)), (z2, .inl (d2, 8, .inl g2_2)), (z3, .inl (d3, 64, .inl f3)), (z4, .inl (d4, 64, .inl f4)), (z5, .inl (d5, 64, .inl f5)), (y38, .inr (12, [.ref z1, .ref z2, .ref z3, .ref z4, .ref z5, .int 0, .long 0]))] H := hP
  have hD : va_D A [(h0, .inr (15, fs)), (y44, .inl (ch, 32, .inl fh)), (z1, .inl (d1, 8, .inl f1)), (z2, .inl (d2, 8, .inl g2_2)), (z3, .inl (d3, 64, .inl f3)), (z4, .inl (d4, 64, .inl f4)), (z5, .inl (d5, 64, .inl f5)), (y38, .inr (12, [.ref z1, .ref z2, .ref z3, .ref z4, .ref z5, .int 0, .long 0]))] := hD
  refine lv_aload_n hx hb dX15_digest_17 rfl (lv_at hl 0 rfl) ?_
  refine va_get (D := (dC, dI)) (ci := 15) (v := .ref y38) (C := RX15) (T := TX15) (N := 59) hx hb hts it_15 hown hK hP 0 rfl rfl 38 (by decide) (hts _ kt_355) (fun _ h9 => h9) hF38 dX15_digest_18 ?_
  refine lv_aload_n hx hb dX15_digest_21 rfl (lv_at hl 3 rfl) ?_
  refine lv_iconst (v := 0) hx hb dX15_digest_22 (by decide) ?_
  have hPc := hP.sub (ws' := [(y38, .inr (12, [.ref z1, .ref z2, .ref z3, .ref z4, .ref z5, .int 0, .long 0])), (z1, .inl (d1, 8, .inl f1)), (z2, .inl (d2, 8, .inl g2_2)), (z3, .inl (d3, 64, .inl f3)), (z4, .inl (d4, 64, .inl f4)), (z5, .inl (d5, 64, .inl f5)), (y44, .inl (ch, 32, .inl fh))]) [7, 2, 3, 4, 5, 6, 1] rfl
  have hDc := hD.sub (ws' := [(y38, .inr (12, [.ref z1, .ref z2, .ref z3, .ref z4, .ref z5, .int 0, .long 0])), (z1, .inl (d1, 8, .inl f1)), (z2, .inl (d2, 8, .inl g2_2)), (z3, .inl (d3, 64, .inl f3)), (z4, .inl (d4, 64, .inl f4)), (z5, .inl (d5, 64, .inl f5)), (y44, .inl (ch, 32, .inl fh))]) [7, 2, 3, 4, 5, 6, 1] (by decide) rfl
  have hKc := hK.sub (tys' := [(d1, .int), (d2, .int), (d3, .int), (d4, .int), (d5, .byte), (ch, .byte)]) [0, 1, 2, 3, 4, 5] rfl
  have hFc := va_free (wc := [(y38, .inr (12, [.ref z1, .ref z2, .ref z3, .ref z4, .ref z5, .int 0, .long 0])), (z1, .inl (d1, 8, .inl f1)), (z2, .inl (d2, 8, .inl g2_2)), (z3, .inl (d3, 64, .inl f3)), (z4, .inl (d4, 64, .inl f4)), (z5, .inl (d5, 64, .inl f5)), (y44, .inl (ch, 32, .inl fh))]) hD hS hA [7, 2, 3, 4, 5, 6, 1] rfl
  refine va_callv (va_runV (As := [.ref y44, .int 0]) (rest := []) ⟨hx, hb, hml, hown, hts⟩ (c_X12_finish_b l dC dI H.size y38 y44 z1 z2 z3 z4 z5 d1 d2 d3 d4 d5 f1 g2_2 f3 f4 f5 ch fh (hbf)) ⟨callB_of 2 hts (gi kt_406) rfl rfl rfl (hts _ kt_285) (hts _ kt_407) (by decide +kernel) ⟨Nat.le_of_ble_eq_true rfl, Nat.le_of_ble_eq_true rfl⟩, (hts _ kt_408), (hts _ kt_409)⟩ ⟨fun a U g mk q => ⟨q.1, PW.calling q.2⟩, va_recv hKc hPc (ci := 12) (q0 := 0) rfl rfl, fun U hU hW => ⟨rfl, PW.mk hU hW hPc hKc hDc hE⟩⟩ rfl rfl hl.1 rfl (lv_room (Nat.le_of_ble_eq_true rfl)) dX15_digest_23 ⟨by show _ + 0 ≤ 0; omega, by show _ + 0 ≤ 0; omega⟩) hS (fun q _ h => hFc q h) hFc (fun u t H1 locs ht hvm hw hB hz1 hk1 hS => ?_)
  obtain ⟨fb2_5, hB1, hf_6⟩ := hB
  obtain ⟨hP, hD, hK⟩ := QW.join (wr := [(h0, .inr (15, fs))]) hP hD hK [7, 2, 3, 4, 5, 6, 1] [0] rfl rfl (by decide) (by decide) hk1 hFc ht hvm hB1
  generalize H1 = H at hP hS ⊢
  have hK : va_K (dC, dI) vwCl [(d1, .int), (d2, .int), (d3, .int), (d4, .int), (d5, .byte), (ch, .byte)] s := hK.sub [0, 1, 2, 3, 4, 5] rfl
  have hP : va_P (dC, dI) vwCl [(h0, .inr (15, fs)), (y44, .inl (ch, 32, .inl fb2_5))] H := hP
  have hD : va_D A [(h0, .inr (15, fs)), (y44, .inl (ch, 32, .inl fb2_5))] := hD
  have hP9 := hP.sub (ws' := [(h0, .inr (15, fs)), (y44, .inl (ch, 32, .inl fb2_5))]) [0, 1] rfl
  have hD9 := hD.sub (ws' := [(h0, .inr (15, fs)), (y44, .inl (ch, 32, .inl fb2_5))]) [0, 1] (by decide) rfl
  have hK9 := hK.sub (tys' := [(ch, .byte)]) [5] rfl
  refine W.widen (k := 0) (n := 0) (by omega) (by omega) ?_
  exact W.vret hx hb hr (fun t ht hW => ⟨⟨(), rfl, trivial, ⟨fb2_5, QW.mk ht hW hP9 hK9 hD9, hf_6⟩⟩, hS.F ht⟩) hS.2.2 dX15_digest_26
set_option maxHeartbeats 4000000 in
set_option maxRecDepth 100000 in
theorem c_X15_digest_ (l : Launch) (dC : Nat → ClassId) (dI : Nat → Nat → Nat) (sz : Nat) (h0 : Nat) (fs : List Value) (y0 : Nat) (y4 : Nat) (y38 : Nat) (y44 : Nat) (z1 : Nat) (z2 : Nat) (z3 : Nat) (z4 : Nat) (z5 : Nat) (d1 : ClassId) (d2 : ClassId) (d3 : ClassId) (d4 : ClassId) (d5 : ClassId) (f1 : Nat → Int32) (f2 : Nat → Int32) (f3 : Nat → Int32) (f4 : Nat → Int32) (f5 : Nat → Int32) (ch : ClassId) (co : ClassId) (fh : Nat → Int32) (fo : Nat → Int32) (hL : fs.length = 59) (hF0 : fs[0]? = some (.ref y0)) (hF1 : fs[1]? = some (.int 0)) (hF2 : fs[2]? = some (.int 0)) (hF3 : fs[3]? = some (.int 0)) (hF4 : fs[4]? = some (.ref y4)) (hF12 : fs[12]? = some (.int 0)) (hF14 : fs[14]? = some (.int 0)) (hF15 : fs[15]? = some (.int 0)) (hF30 : fs[30]? = some (.int 0)) (hF33 : fs[33]? = some (.int 0)) (hF38 : fs[38]? = some (.ref y38)) (hF44 : fs[44]? = some (.ref y44)) (hbf : BF fh) : Met l yX15_digest_ (.code yX15_digest_ cX15_digest_ 2 (some .int) :: tb) ({ frames := 6, cells := 0, slots := 0, locals := 143 }) (va_Pc [.ref h0] (PW (dC, dI) sz [(h0, .inr (15, fs)), (y38, .inr (12, [.ref z1, .ref z2, .ref z3, .ref z4, .ref z5, .int 0, .long 0])), (z1, .inl (d1, 8, .inl f1)), (z2, .inl (d2, 8, .inl f2)), (z3, .inl (d3, 64, .inl f3)), (z4, .inl (d4, 64, .inl f4)), (z5, .inl (d5, 64, .inl f5)), (y44, .inl (ch, 32, .inl fh)), (y4, .inl (co, 6000, .inl fo))] [(d1, .int), (d2, .int), (d3, .int), (d4, .int), (d5, .byte), (ch, .byte), (co, .byte)])) (va_Qi (fun (r : Int32) (_ : Unit) => r = 32) (fun _ T9 => QW (dC, dI) (va_A [(h0, .inr (15, fs)), (y38, .inr (12, [.ref z1, .ref z2, .ref z3, .ref z4, .ref z5, .int 0, .long 0])), (z1, .inl (d1, 8, .inl f1)), (z2, .inl (d2, 8, .inl f2)), (z3, .inl (d3, 64, .inl f3)), (z4, .inl (d4, 64, .inl f4)), (z5, .inl (d5, 64, .inl f5)), (y44, .inl (ch, 32, .inl fh)), (y4, .inl (co, 6000, .inl fo))] sz) [] [] T9) (va_A [(h0, .inr (15, fs)), (y38, .inr (12, [.ref z1, .ref z2, .ref z3, .ref z4, .ref z5, .int 0, .long 0])), (z1, .inl (d1, 8, .inl f1)), (z2, .inl (d2, 8, .inl f2)), (z3, .inl (d3, 64, .inl f3)), (z4, .inl (d4, 64, .inl f4)), (z5, .inl (d5, 64, .inl f5)), (y44, .inl (ch, 32, .inl fh)), (y4, .inl (co, 6000, .inl fo))] sz)) 0 0 (va_A [(h0, .inr (15, fs)), (y38, .inr (12, [.ref z1, .ref z2, .ref z3, .ref z4, .ref z5, .int 0, .long 0])), (z1, .inl (d1, 8, .inl f1)), (z2, .inl (d2, 8, .inl f2)), (z3, .inl (d3, 64, .inl f3)), (z4, .inl (d4, 64, .inl f4)), (z5, .inl (d5, 64, .inl f5)), (y44, .inl (ch, 32, .inl fh)), (y4, .inl (co, 6000, .inl fo))] sz) := by
  refine Met.ofW (cc := cX15_digest_) (maxL := 2) (ret := (some .int)) (by decide) rfl ?_
  intro p e s m args below meth c s₁ B hml hv
  obtain ⟨rfl, hsz, hP, hK, hD0, hE⟩ := hv
  have hx := B.exec
  have hb := B.bytes
  have hr := B.returns
  have hts : ∀ w ∈ tb, w.before _ s = true := fun w h => atoms_spec (ws := .code yX15_digest_ cX15_digest_ 2 (some .int) :: tb) B.pre w (List.mem_cons_of_mem _ h)
  have hown : s.vm.findClass RX15 = some m.cls := findClass_of_methodNamed B.named
  have hlocks := B.notSynchronized
  subst hsz
  have hD := hD0.self (sz := s.heap.size)
  generalize hAe : va_A [(h0, .inr (15, fs)), (y38, .inr (12, [.ref z1, .ref z2, .ref z3, .ref z4, .ref z5, .int 0, .long 0])), (z1, .inl (d1, 8, .inl f1)), (z2, .inl (d2, 8, .inl f2)), (z3, .inl (d3, 64, .inl f3)), (z4, .inl (d4, 64, .inl f4)), (z5, .inl (d5, 64, .inl f5)), (y44, .inl (ch, 32, .inl fh)), (y4, .inl (co, 6000, .inl fo))] s.heap.size = A at hD ⊢
  have hA : ∀ q : Nat, s.heap.size ≤ q → A q := fun q h => by rw [← hAe]; exact Or.inr h
  have hS : va_S A s.heap s.heap [] := va_S.rf
  have hP : va_P (dC, dI) vwCl [(h0, .inr (15, fs)), (y38, .inr (12, [.ref z1, .ref z2, .ref z3, .ref z4, .ref z5, .int 0, .long 0])), (z1, .inl (d1, 8, .inl f1)), (z2, .inl (d2, 8, .inl f2)), (z3, .inl (d3, 64, .inl f3)), (z4, .inl (d4, 64, .inl f4)), (z5, .inl (d5, 64, .inl f5)), (y44, .inl (ch, 32, .inl fh)), (y4, .inl (co, 6000, .inl fo))] s.heap := hP
  have hl := lv_entry ([.ref h0]) (n := 2) (Nat.le_of_ble_eq_true rfl)
  rw [lg_entry_eq]
  generalize (lg_sl ([.ref h0]) ++ List.replicate (2 - (lg_sl ([.ref h0])).length) Slot.unset).toArray = ls at hl ⊢
  have hl : lv_has ls 2 [(0, .ref h0)] := hl
  refine lv_aload_n hx hb dX15_digest__0 rfl (lv_at hl 0 rfl) ?_
  have hPc := hP.sub (ws' := [(h0, .inr (15, fs))]) [0] rfl
  have hDc := hD.sub (ws' := [(h0, .inr (15, fs))]) [0] (by decide) rfl
  have hKc := hK.sub (tys' := []) [] rfl
  have hFc := va_free (wc := [(h0, .inr (15, fs))]) hD hS hA [0] rfl
  refine va_calli (va_runV (As := []) (rest := []) ⟨hx, hb, hml, hown, hts⟩ (c_X15_used l dC dI s.heap.size h0 fs y0 y4 y38 y44 (hL) (hF0) (hF1) (hF2) (hF3) (hF4) (hF12) (hF14) (hF15) (hF30) (hF33) (hF38) (hF44)) ⟨callB_of 0 hts (gi kt_380) rfl rfl rfl (hts _ kt_375) (hts _ kt_381) (by decide +kernel) ⟨Nat.le_of_ble_eq_true rfl, Nat.le_of_ble_eq_true rfl⟩, (hts _ kt_382), (hts _ kt_383)⟩ ⟨fun a U g mk q => ⟨q.1, PW.calling q.2⟩, va_recv hKc hPc (ci := 15) (q0 := 0) rfl rfl, fun U hU hW => ⟨rfl, PW.mk hU hW hPc hKc hDc hE⟩⟩ rfl rfl hl.1 rfl (lv_room (Nat.le_of_ble_eq_true rfl)) dX15_digest__1 ⟨by show _ + 0 ≤ 0; omega, by show _ + 0 ≤ 0; omega⟩) hS (fun q _ h => hFc q h) hFc (fun r_1 u t H1 locs ht hvm hw hB hz1 hk1 hS => ?_)
  obtain ⟨fs2_2, hB1, hf_3, hf_4, hf_5, hf_6, hf_7, hf_8, hf_9, hf_10, hf_11, hf_12, hf_13, hf_14, hf_15⟩ := hB
  obtain ⟨hP, hD, hK⟩ := QW.join (wr := [(y38, .inr (12, [.ref z1, .ref z2, .ref z3, .ref z4, .ref z5, .int 0, .long 0])), (z1, .inl (d1, 8, .inl f1)), (z2, .inl (d2, 8, .inl f2)), (z3, .inl (d3, 64, .inl f3)), (z4, .inl (d4, 64, .inl f4)), (z5, .inl (d5, 64, .inl f5)), (y44, .inl (ch, 32, .inl fh)), (y4, .inl (co, 6000, .inl fo))]) hP hD hK [0] [1, 2, 3, 4, 5, 6, 7, 8] rfl rfl (by decide) (by decide) hk1 hFc ht hvm hB1
  generalize H1 = H at hP hS ⊢
  have hK : va_K (dC, dI) vwCl [(d1, .int), (d2, .int), (d3, .int), (d4, .int), (d5, .byte), (ch, .byte), (co, .byte)] s := hK.sub [0, 1, 2, 3, 4, 5, 6] rfl
  have hP : va_P (dC, dI) vwCl [(y38, .inr (12, [.ref z1, .ref z2, .ref z3, .ref z4, .ref z5, .int 0, .long 0])), (z1, .inl (d1, 8, .inl f1)), (z2, .inl (d2, 8, .inl f2)), (z3, .inl (d3, 64, .inl f3)), (z4, .inl (d4, 64, .inl f4)), (z5, .inl (d5, 64, .inl f5)), (y44, .inl (ch, 32, .inl fh)), (y4, .inl (co, 6000, .inl fo)), (h0, .inr (15, fs2_2))] H := hP
  have hD : va_D A [(y38, .inr (12, [.ref z1, .ref z2, .ref z3, .ref z4, .ref z5, .int 0, .long 0])), (z1, .inl (d1, 8, .inl f1)), (z2, .inl (d2, 8, .inl f2)), (z3, .inl (d3, 64, .inl f3)), (z4, .inl (d4, 64, .inl f4)), (z5, .inl (d5, 64, .inl f5)), (y44, .inl (ch, 32, .inl fh)), (y4, .inl (co, 6000, .inl fo)), (h0, .inr (15, fs2_2))] := hD
  have hw : r_1 = 0 := hw
  subst hw
  refine lv_istore_n (lv' := [(1, .int 0), (0, .ref h0)]) hx hb dX15_digest__4 rfl hl (by decide) rfl (fun ls hl => ?_)
  refine lv_aload_n hx hb dX15_digest__5 rfl (lv_at hl 1 rfl) ?_
  refine lv_aload_n hx hb dX15_digest__6 rfl (lv_at hl 1 rfl) ?_
  refine va_get (D := (dC, dI)) (ci := 15) (v := .ref y0) (C := RX15) (T := TX15) (N := 59) hx hb hts it_15 hown hK hP 8 rfl rfl 0 (by decide) (hts _ kt_321) (fun _ h9 => h9) hf_4 dX15_digest__7 ?_
  refine lv_iload_n hx hb dX15_digest__10 rfl (lv_at hl 0 rfl) ?_
  refine lv_aload_n hx hb dX15_digest__11 rfl (lv_at hl 1 rfl) ?_
  refine va_get (D := (dC, dI)) (ci := 15) (v := .ref y44) (C := RX15) (T := TX15) (N := 59) hx hb hts it_15 hown hK hP 8 rfl rfl 44 (by decide) (hts _ kt_361) (fun _ h9 => h9) hf_15 dX15_digest__12 ?_
  have hPc := hP.sub (ws' := [(h0, .inr (15, fs2_2)), (y38, .inr (12, [.ref z1, .ref z2, .ref z3, .ref z4, .ref z5, .int 0, .long 0])), (z1, .inl (d1, 8, .inl f1)), (z2, .inl (d2, 8, .inl f2)), (z3, .inl (d3, 64, .inl f3)), (z4, .inl (d4, 64, .inl f4)), (z5, .inl (d5, 64, .inl f5)), (y44, .inl (ch, 32, .inl fh))]) [8, 0, 1, 2, 3, 4, 5, 6] rfl
  have hDc := hD.sub (ws' := [(h0, .inr (15, fs2_2)), (y38, .inr (12, [.ref z1, .ref z2, .ref z3, .ref z4, .ref z5, .int 0, .long 0])), (z1, .inl (d1, 8, .inl f1)), (z2, .inl (d2, 8, .inl f2)), (z3, .inl (d3, 64, .inl f3)), (z4, .inl (d4, 64, .inl f4)), (z5, .inl (d5, 64, .inl f5)), (y44, .inl (ch, 32, .inl fh))]) [8, 0, 1, 2, 3, 4, 5, 6] (by decide) rfl
  have hKc := hK.sub (tys' := [(d1, .int), (d2, .int), (d3, .int), (d4, .int), (d5, .byte), (ch, .byte)]) [0, 1, 2, 3, 4, 5] rfl
  have hFc := va_free (wc := [(h0, .inr (15, fs2_2)), (y38, .inr (12, [.ref z1, .ref z2, .ref z3, .ref z4, .ref z5, .int 0, .long 0])), (z1, .inl (d1, 8, .inl f1)), (z2, .inl (d2, 8, .inl f2)), (z3, .inl (d3, 64, .inl f3)), (z4, .inl (d4, 64, .inl f4)), (z5, .inl (d5, 64, .inl f5)), (y44, .inl (ch, 32, .inl fh))]) hD hS hA [8, 0, 1, 2, 3, 4, 5, 6] rfl
  refine va_callv (va_runV (As := [.ref y0, .int 0, .ref y44]) (rest := []) ⟨hx, hb, hml, hown, hts⟩ (c_X15_digest l dC dI H.size h0 fs2_2 y0 y4 y38 y44 z1 z2 z3 z4 z5 y0 d1 d2 d3 d4 d5 f1 f2 f3 f4 f5 ch fh (hf_3) (hf_4) (hf_5) (hf_6) (hf_7) (hf_8) (hf_9) (hf_10) (hf_11) (hf_12) (hf_13) (hf_14) (hf_15) (hbf)) ⟨callB_of 3 hts (gi kt_410) rfl rfl rfl (hts _ kt_375) (hts _ kt_411) (by decide +kernel) ⟨Nat.le_of_ble_eq_true rfl, Nat.le_of_ble_eq_true rfl⟩, (hts _ kt_412), (hts _ kt_413)⟩ ⟨fun a U g mk q => ⟨q.1, PW.calling q.2⟩, va_recv hKc hPc (ci := 15) (q0 := 0) rfl rfl, fun U hU hW => ⟨rfl, PW.mk hU hW hPc hKc hDc hE⟩⟩ rfl rfl hl.1 rfl (lv_room (Nat.le_of_ble_eq_true rfl)) dX15_digest__15 ⟨by show _ + 0 ≤ 0; omega, by show _ + 0 ≤ 0; omega⟩) hS (fun q _ h => hFc q h) hFc (fun u t H1 locs ht hvm hw hB hz1 hk1 hS => ?_)
  obtain ⟨fh2_17, hB1, hf_18⟩ := hB
  obtain ⟨hP, hD, hK⟩ := QW.join (wr := [(y4, .inl (co, 6000, .inl fo))]) hP hD hK [8, 0, 1, 2, 3, 4, 5, 6] [7] rfl rfl (by decide) (by decide) hk1 hFc ht hvm hB1
  generalize H1 = H at hP hS ⊢
  have hK : va_K (dC, dI) vwCl [(d1, .int), (d2, .int), (d3, .int), (d4, .int), (d5, .byte), (ch, .byte), (co, .byte)] s := hK.sub [0, 1, 2, 3, 4, 5, 6] rfl
  have hP : va_P (dC, dI) vwCl [(y4, .inl (co, 6000, .inl fo)), (h0, .inr (15, fs2_2)), (y44, .inl (ch, 32, .inl fh2_17))] H := hP
  have hD : va_D A [(y4, .inl (co, 6000, .inl fo)), (h0, .inr (15, fs2_2)), (y44, .inl (ch, 32, .inl fh2_17))] := hD
  refine lv_aload_n hx hb dX15_digest__18 rfl (lv_at hl 1 rfl) ?_
  refine va_get (D := (dC, dI)) (ci := 15) (v := .ref y44) (C := RX15) (T := TX15) (N := 59) hx hb hts it_15 hown hK hP 1 rfl rfl 44 (by decide) (hts _ kt_361) (fun _ h9 => h9) hf_15 dX15_digest__19 ?_
  refine lv_iconst (v := 0) hx hb dX15_digest__22 (by decide) ?_
  refine lv_aload_n hx hb dX15_digest__23 rfl (lv_at hl 1 rfl) ?_
  refine va_get (D := (dC, dI)) (ci := 15) (v := .ref y4) (C := RX15) (T := TX15) (N := 59) hx hb hts it_15 hown hK hP 1 rfl rfl 4 (by decide) (hts _ kt_322) (fun _ h9 => h9) hf_8 dX15_digest__24 ?_
  refine lv_iconst (v := 0) hx hb dX15_digest__27 (by decide) ?_
  refine lv_bipush (v := 32) hx hb dX15_digest__28 (by decide) ?_
  refine va_copyi hx hb (by rw [hml]; exact hl.1.symm) hown (hts _ kt_414) (hts _ kt_242) (hts _ kt_243) (hts _ kt_244) hK hP hD hS 2 0 5 6 rfl rfl rfl rfl rfl (by decide) (by decide) (by decide) (by decide) (by decide) (fun i _ => hf_18 _) (Nat.le_of_ble_eq_true rfl) (by decide) dX15_digest__30 (fun H locs hP hD hS => ?_)
  obtain ⟨f_19, hP, hD⟩ : ∃ f_19 : Nat → Int32, va_P (dC, dI) vwCl [(y4, .inl (co, 6000, .inl f_19)), (h0, .inr (15, fs2_2)), (y44, .inl (ch, 32, .inl fh2_17))] H ∧ va_D A [(y4, .inl (co, 6000, .inl f_19)), (h0, .inr (15, fs2_2)), (y44, .inl (ch, 32, .inl fh2_17))] := ⟨_, hP, hD⟩
  refine lv_aload_n hx hb dX15_digest__33 rfl (lv_at hl 1 rfl) ?_
  refine lv_bipush (v := 32) hx hb dX15_digest__34 (by decide) ?_
  refine va_put (D := (dC, dI)) (ci := 15) (v := .int 32) (ty := .int) (C := RX15) (T := TX15) (N := 59) hx hb hts it_15 tyX15 tyX15_ok nmX15 hown hK hP hD hS 1 rfl rfl 2 (by decide) (hts _ kt_397) (fun _ h9 => h9) rfl (by decide +kernel) rfl rfl (by rw [hf_3]; decide) dX15_digest__36 (fun H locs hP hD hS => ?_)
  obtain ⟨fs_20, hP, hD, hfs_20_L, hfs_20_0, hfs_20_1, hfs_20_2, hfs_20_3, hfs_20_4, hfs_20_12, hfs_20_14, hfs_20_15, hfs_20_30, hfs_20_33, hfs_20_38, hfs_20_44⟩ : ∃ fs_20 : List Value, va_P (dC, dI) vwCl [(y4, .inl (co, 6000, .inl f_19)), (h0, .inr (15, fs_20)), (y44, .inl (ch, 32, .inl fh2_17))] H ∧ va_D A [(y4, .inl (co, 6000, .inl f_19)), (h0, .inr (15, fs_20)), (y44, .inl (ch, 32, .inl fh2_17))] ∧ fs_20.length = 59 ∧ fs_20[0]? = some (.ref y0) ∧ fs_20[1]? = some (.int 0) ∧ fs_20[2]? = some (.int 32) ∧ fs_20[3]? = some (.int 0) ∧ fs_20[4]? = some (.ref y4) ∧ fs_20[12]? = some (.int 0) ∧ fs_20[14]? = some (.int 0) ∧ fs_20[15]? = some (.int 0) ∧ fs_20[30]? = some (.int 0) ∧ fs_20[33]? = some (.int 0) ∧ fs_20[38]? = some (.ref y38) ∧ fs_20[44]? = some (.ref y44) := ⟨_, hP, hD, ov_len hf_3, ov_ne (by decide) hf_4, ov_ne (by decide) hf_5, ov_self (by rw [hf_3]; decide), ov_ne (by decide) hf_7, ov_ne (by decide) hf_8, ov_ne (by decide) hf_9, ov_ne (by decide) hf_10, ov_ne (by decide) hf_11, ov_ne (by decide) hf_12, ov_ne (by decide) hf_13, ov_ne (by decide) hf_14, ov_ne (by decide) hf_15⟩
  refine lv_bipush (v := 32) hx hb dX15_digest__39 (by decide) ?_
  have hP9 := hP.sub (ws' := []) [] rfl
  have hD9 := hD.sub (ws' := []) [] (by decide) rfl
  have hK9 := hK.sub (tys' := []) [] rfl
  refine W.widen (k := 0) (n := 0) (by omega) (by omega) ?_
  exact W.iret (v := 32) hx hb hr (fun t ht hW => ⟨⟨32, (), rfl, rfl, QW.mk ht hW hP9 hK9 hD9⟩, hS.F ht⟩) hS.2.2 dX15_digest__41
