theorem dX15_digest__0 : decode cX15_digest_ 0 = .ok (.aload_n 0, 1) := by decide +kernel
theorem dX15_digest__1 : decode cX15_digest_ 1 = .ok (.invokevirtual 174, 3) := by decide +kernel
theorem dX15_digest__4 : decode cX15_digest_ 4 = .ok (.istore_n 1, 1) := by decide +kernel
theorem dX15_digest__5 : decode cX15_digest_ 5 = .ok (.aload_n 0, 1) := by decide +kernel
theorem dX15_digest__6 : decode cX15_digest_ 6 = .ok (.aload_n 0, 1) := by decide +kernel
theorem dX15_digest__7 : decode cX15_digest_ 7 = .ok (.getfield 31, 3) := by decide +kernel
theorem dX15_digest__10 : decode cX15_digest_ 10 = .ok (.iload_n 1, 1) := by decide +kernel
theorem dX15_digest__11 : decode cX15_digest_ 11 = .ok (.aload_n 0, 1) := by decide +kernel
theorem dX15_digest__12 : decode cX15_digest_ 12 = .ok (.getfield 129, 3) := by decide +kernel
theorem dX15_digest__15 : decode cX15_digest_ 15 = .ok (.invokevirtual 519, 3) := by decide +kernel
theorem dX15_digest__18 : decode cX15_digest_ 18 = .ok (.aload_n 0, 1) := by decide +kernel
theorem dX15_digest__19 : decode cX15_digest_ 19 = .ok (.getfield 129, 3) := by decide +kernel
theorem dX15_digest__22 : decode cX15_digest_ 22 = .ok (.iconst 0, 1) := by decide +kernel
theorem dX15_digest__23 : decode cX15_digest_ 23 = .ok (.aload_n 0, 1) := by decide +kernel
theorem dX15_digest__24 : decode cX15_digest_ 24 = .ok (.getfield 35, 3) := by decide +kernel
theorem dX15_digest__27 : decode cX15_digest_ 27 = .ok (.iconst 0, 1) := by decide +kernel
theorem dX15_digest__28 : decode cX15_digest_ 28 = .ok (.bipush 32, 2) := by decide +kernel
theorem dX15_digest__30 : decode cX15_digest_ 30 = .ok (.invokestatic 358, 3) := by decide +kernel
theorem dX15_digest__33 : decode cX15_digest_ 33 = .ok (.aload_n 0, 1) := by decide +kernel
theorem dX15_digest__34 : decode cX15_digest_ 34 = .ok (.bipush 32, 2) := by decide +kernel
theorem dX15_digest__36 : decode cX15_digest_ 36 = .ok (.putfield 385, 3) := by decide +kernel
theorem dX15_digest__39 : decode cX15_digest_ 39 = .ok (.bipush 32, 2) := by decide +kernel
theorem dX15_digest__41 : decode cX15_digest_ 41 = .ok (.ireturn, 1) := by decide +kernel
theorem dX15_end_0 : decode cX15_end 0 = .ok (.iload_n 1, 1) := by decide +kernel
theorem dX15_end_1 : decode cX15_end 1 = .ok (.i2l, 1) := by decide +kernel
theorem dX15_end_2 : decode cX15_end 2 = .ok (.lconst 0, 1) := by decide +kernel
theorem dX15_end_3 : decode cX15_end 3 = .ok (.aload_n 0, 1) := by decide +kernel
theorem dX15_end_4 : decode cX15_end 4 = .ok (.getfield 166, 3) := by decide +kernel
theorem dX15_end_7 : decode cX15_end 7 = .ok (.i2l, 1) := by decide +kernel
theorem dX15_end_8 : decode cX15_end 8 = .ok (.invokestatic 170, 3) := by decide +kernel
theorem dX15_end_11 : decode cX15_end 11 = .ok (.ifCond .ne 5, 3) := by decide +kernel
theorem dX15_end_14 : decode cX15_end 14 = .ok (.iconst (-1), 1) := by decide +kernel
theorem dX15_end_15 : decode cX15_end 15 = .ok (.ireturn, 1) := by decide +kernel
theorem dX15_end_16 : decode cX15_end 16 = .ok (.aload_n 0, 1) := by decide +kernel
theorem dX15_end_17 : decode cX15_end 17 = .ok (.iload_n 1, 1) := by decide +kernel
theorem dX15_end_18 : decode cX15_end 18 = .ok (.putfield 166, 3) := by decide +kernel
theorem dX15_end_21 : decode cX15_end 21 = .ok (.iload_n 1, 1) := by decide +kernel
theorem dX15_end_22 : decode cX15_end 22 = .ok (.ireturn, 1) := by decide +kernel
theorem dX15_forget_0 : decode cX15_forget 0 = .ok (.aload_n 0, 1) := by decide +kernel
theorem dX15_forget_1 : decode cX15_forget 1 = .ok (.getfield 177, 3) := by decide +kernel
theorem dX15_forget_4 : decode cX15_forget 4 = .ok (.istore_n 1, 1) := by decide +kernel
theorem dX15_forget_5 : decode cX15_forget 5 = .ok (.aload_n 0, 1) := by decide +kernel
theorem dX15_forget_6 : decode cX15_forget 6 = .ok (.iconst 0, 1) := by decide +kernel
theorem dX15_forget_7 : decode cX15_forget 7 = .ok (.putfield 177, 3) := by decide +kernel
theorem dX15_forget_10 : decode cX15_forget 10 = .ok (.iload_n 1, 1) := by decide +kernel
theorem dX15_forget_11 : decode cX15_forget 11 = .ok (.ireturn, 1) := by decide +kernel
theorem dX15_house_0 : decode cX15_house 0 = .ok (.aload_n 0, 1) := by decide +kernel
theorem dX15_house_1 : decode cX15_house 1 = .ok (.invokevirtual 174, 3) := by decide +kernel
theorem dX15_house_4 : decode cX15_house 4 = .ok (.istore_n 1, 1) := by decide +kernel
theorem dX15_house_5 : decode cX15_house 5 = .ok (.aload_n 0, 1) := by decide +kernel
theorem dX15_house_6 : decode cX15_house 6 = .ok (.getfield 31, 3) := by decide +kernel
theorem dX15_house_9 : decode cX15_house 9 = .ok (.iconst 0, 1) := by decide +kernel
theorem dX15_house_10 : decode cX15_house 10 = .ok (.iload_n 1, 1) := by decide +kernel
theorem dX15_house_11 : decode cX15_house 11 = .ok (.invokestatic 182, 3) := by decide +kernel
theorem dX15_house_14 : decode cX15_house 14 = .ok (.ifCond .ne 5, 3) := by decide +kernel
theorem dX15_house_17 : decode cX15_house 17 = .ok (.iconst (-1), 1) := by decide +kernel
theorem dX15_house_18 : decode cX15_house 18 = .ok (.ireturn, 1) := by decide +kernel
theorem dX15_house_19 : decode cX15_house 19 = .ok (.aload_n 0, 1) := by decide +kernel
theorem dX15_house_20 : decode cX15_house 20 = .ok (.getfield 157, 3) := by decide +kernel
theorem dX15_house_23 : decode cX15_house 23 = .ok (.aload_n 0, 1) := by decide +kernel
theorem dX15_house_24 : decode cX15_house 24 = .ok (.getfield 31, 3) := by decide +kernel
theorem dX15_house_27 : decode cX15_house 27 = .ok (.iconst 0, 1) := by decide +kernel
theorem dX15_house_28 : decode cX15_house 28 = .ok (.iload_n 1, 1) := by decide +kernel
theorem dX15_house_29 : decode cX15_house 29 = .ok (.invokevirtual 186, 3) := by decide +kernel
theorem dX15_house_32 : decode cX15_house 32 = .ok (.aload_n 0, 1) := by decide +kernel
theorem dX15_house_33 : decode cX15_house 33 = .ok (.aload_n 0, 1) := by decide +kernel
theorem dX15_house_34 : decode cX15_house 34 = .ok (.getfield 157, 3) := by decide +kernel
theorem dX15_house_37 : decode cX15_house 37 = .ok (.aload_n 0, 1) := by decide +kernel
theorem dX15_house_38 : decode cX15_house 38 = .ok (.getfield 160, 3) := by decide +kernel
theorem dX15_house_41 : decode cX15_house 41 = .ok (.invokevirtual 565, 3) := by decide +kernel
theorem dX15_house_44 : decode cX15_house 44 = .ok (.aload_n 0, 1) := by decide +kernel
theorem dX15_house_45 : decode cX15_house 45 = .ok (.aload_n 0, 1) := by decide +kernel
theorem dX15_house_46 : decode cX15_house 46 = .ok (.getfield 160, 3) := by decide +kernel
theorem dX15_house_49 : decode cX15_house 49 = .ok (.invokevirtual 392, 3) := by decide +kernel
theorem dX15_house_52 : decode cX15_house 52 = .ok (.ireturn, 1) := by decide +kernel
theorem dX15_octet_0 : decode cX15_octet 0 = .ok (.iload_n 1, 1) := by decide +kernel
theorem dX15_octet_1 : decode cX15_octet 1 = .ok (.i2l, 1) := by decide +kernel
theorem dX15_octet_2 : decode cX15_octet 2 = .ok (.ldc2_w 603, 3) := by decide +kernel
theorem dX15_octet_5 : decode cX15_octet 5 = .ok (.aload_n 0, 1) := by decide +kernel
theorem dX15_octet_6 : decode cX15_octet 6 = .ok (.getfield 385, 3) := by decide +kernel
theorem dX15_octet_9 : decode cX15_octet 9 = .ok (.iconst 1, 1) := by decide +kernel
theorem dX15_octet_10 : decode cX15_octet 10 = .ok (.isub, 1) := by decide +kernel
theorem dX15_octet_11 : decode cX15_octet 11 = .ok (.i2l, 1) := by decide +kernel
theorem dX15_octet_12 : decode cX15_octet 12 = .ok (.invokestatic 170, 3) := by decide +kernel
theorem dX15_octet_15 : decode cX15_octet 15 = .ok (.ifCond .ne 6, 3) := by decide +kernel
theorem dX15_octet_18 : decode cX15_octet 18 = .ok (.bipush (-2), 2) := by decide +kernel
theorem dX15_octet_20 : decode cX15_octet 20 = .ok (.ireturn, 1) := by decide +kernel
theorem dX15_octet_21 : decode cX15_octet 21 = .ok (.iload_n 1, 1) := by decide +kernel
theorem dX15_octet_22 : decode cX15_octet 22 = .ok (.ifCond .ge 10, 3) := by decide +kernel
theorem dX15_octet_25 : decode cX15_octet 25 = .ok (.aload_n 0, 1) := by decide +kernel
theorem dX15_octet_26 : decode cX15_octet 26 = .ok (.getfield 385, 3) := by decide +kernel
theorem dX15_octet_29 : decode cX15_octet 29 = .ok (.goto 13, 3) := by decide +kernel
theorem dX15_octet_32 : decode cX15_octet 32 = .ok (.aload_n 0, 1) := by decide +kernel
theorem dX15_octet_33 : decode cX15_octet 33 = .ok (.getfield 35, 3) := by decide +kernel
theorem dX15_octet_36 : decode cX15_octet 36 = .ok (.iload_n 1, 1) := by decide +kernel
theorem dX15_octet_37 : decode cX15_octet 37 = .ok (.baload, 1) := by decide +kernel
theorem dX15_octet_38 : decode cX15_octet 38 = .ok (.sipush 255, 3) := by decide +kernel
theorem dX15_octet_41 : decode cX15_octet 41 = .ok (.iand, 1) := by decide +kernel
theorem dX15_octet_42 : decode cX15_octet 42 = .ok (.ireturn, 1) := by decide +kernel
theorem dX15_sender_0 : decode cX15_sender 0 = .ok (.aload_n 0, 1) := by decide +kernel
theorem dX15_sender_1 : decode cX15_sender 1 = .ok (.invokevirtual 174, 3) := by decide +kernel
theorem dX15_sender_4 : decode cX15_sender 4 = .ok (.istore_n 2, 1) := by decide +kernel
theorem dX15_sender_5 : decode cX15_sender 5 = .ok (.iconst 0, 1) := by decide +kernel
theorem dX15_sender_6 : decode cX15_sender 6 = .ok (.istore_n 3, 1) := by decide +kernel
theorem dX15_sender_7 : decode cX15_sender 7 = .ok (.iload_n 3, 1) := by decide +kernel
theorem dX15_sender_8 : decode cX15_sender 8 = .ok (.iload_n 2, 1) := by decide +kernel
theorem dX15_sender_9 : decode cX15_sender 9 = .ok (.if_icmp .ge 20, 3) := by decide +kernel
theorem dX15_sender_12 : decode cX15_sender 12 = .ok (.aload_n 0, 1) := by decide +kernel
theorem dX15_sender_13 : decode cX15_sender 13 = .ok (.getfield 31, 3) := by decide +kernel
theorem dX15_sender_16 : decode cX15_sender 16 = .ok (.iload_n 3, 1) := by decide +kernel
theorem dX15_sender_17 : decode cX15_sender 17 = .ok (.baload, 1) := by decide +kernel
theorem dX15_sender_18 : decode cX15_sender 18 = .ok (.bipush 64, 2) := by decide +kernel
theorem dX15_sender_20 : decode cX15_sender 20 = .ok (.if_icmp .eq 9, 3) := by decide +kernel
theorem dX15_sender_23 : decode cX15_sender 23 = .ok (.iinc 3 1, 3) := by decide +kernel
theorem dX15_sender_26 : decode cX15_sender 26 = .ok (.goto (-19), 3) := by decide +kernel
theorem dX15_sender_29 : decode cX15_sender 29 = .ok (.iload_n 3, 1) := by decide +kernel
theorem dX15_sender_30 : decode cX15_sender 30 = .ok (.iload_n 2, 1) := by decide +kernel
theorem dX15_sender_31 : decode cX15_sender 31 = .ok (.if_icmp .eq 29, 3) := by decide +kernel
theorem dX15_sender_34 : decode cX15_sender 34 = .ok (.iload_n 3, 1) := by decide +kernel
theorem dX15_sender_35 : decode cX15_sender 35 = .ok (.i2l, 1) := by decide +kernel
theorem dX15_sender_36 : decode cX15_sender 36 = .ok (.lconst 1, 1) := by decide +kernel
theorem dX15_sender_37 : decode cX15_sender 37 = .ok (.ldc2_w 200, 3) := by decide +kernel
theorem dX15_sender_40 : decode cX15_sender 40 = .ok (.invokestatic 170, 3) := by decide +kernel
theorem dX15_sender_43 : decode cX15_sender 43 = .ok (.ifCond .eq 17, 3) := by decide +kernel
theorem dX15_sender_46 : decode cX15_sender 46 = .ok (.aload_n 0, 1) := by decide +kernel
theorem dX15_sender_47 : decode cX15_sender 47 = .ok (.getfield 31, 3) := by decide +kernel
theorem dX15_sender_50 : decode cX15_sender 50 = .ok (.iload_n 3, 1) := by decide +kernel
theorem dX15_sender_51 : decode cX15_sender 51 = .ok (.iconst 1, 1) := by decide +kernel
theorem dX15_sender_52 : decode cX15_sender 52 = .ok (.iadd, 1) := by decide +kernel
theorem dX15_sender_53 : decode cX15_sender 53 = .ok (.iload_n 2, 1) := by decide +kernel
theorem dX15_sender_54 : decode cX15_sender 54 = .ok (.invokestatic 182, 3) := by decide +kernel
theorem dX15_sender_57 : decode cX15_sender 57 = .ok (.ifCond .ne 5, 3) := by decide +kernel
theorem dX15_sender_60 : decode cX15_sender 60 = .ok (.iconst (-1), 1) := by decide +kernel
theorem dX15_sender_61 : decode cX15_sender 61 = .ok (.ireturn, 1) := by decide +kernel
theorem dX15_sender_62 : decode cX15_sender 62 = .ok (.iconst 0, 1) := by decide +kernel
theorem dX15_sender_63 : decode cX15_sender 63 = .ok (.istore 4, 2) := by decide +kernel
theorem dX15_sender_65 : decode cX15_sender 65 = .ok (.iload 4, 2) := by decide +kernel
theorem dX15_sender_67 : decode cX15_sender 67 = .ok (.iload_n 3, 1) := by decide +kernel
theorem dX15_sender_68 : decode cX15_sender 68 = .ok (.if_icmp .ge 64, 3) := by decide +kernel
theorem dX15_sender_71 : decode cX15_sender 71 = .ok (.aload_n 0, 1) := by decide +kernel
theorem dX15_sender_72 : decode cX15_sender 72 = .ok (.getfield 31, 3) := by decide +kernel
theorem dX15_sender_75 : decode cX15_sender 75 = .ok (.iload 4, 2) := by decide +kernel
theorem dX15_sender_77 : decode cX15_sender 77 = .ok (.baload, 1) := by decide +kernel
theorem dX15_sender_78 : decode cX15_sender 78 = .ok (.istore 5, 2) := by decide +kernel
theorem dX15_sender_80 : decode cX15_sender 80 = .ok (.iload 5, 2) := by decide +kernel
theorem dX15_sender_82 : decode cX15_sender 82 = .ok (.invokestatic 3, 3) := by decide +kernel
theorem dX15_sender_85 : decode cX15_sender 85 = .ok (.ifCond .ne 41, 3) := by decide +kernel
theorem dX15_sender_88 : decode cX15_sender 88 = .ok (.iload 5, 2) := by decide +kernel
theorem dX15_sender_90 : decode cX15_sender 90 = .ok (.invokestatic 202, 3) := by decide +kernel
theorem dX15_sender_93 : decode cX15_sender 93 = .ok (.ifCond .ne 33, 3) := by decide +kernel
theorem dX15_sender_96 : decode cX15_sender 96 = .ok (.iload 5, 2) := by decide +kernel
theorem dX15_sender_98 : decode cX15_sender 98 = .ok (.bipush 46, 2) := by decide +kernel
theorem dX15_sender_100 : decode cX15_sender 100 = .ok (.if_icmp .eq 26, 3) := by decide +kernel
theorem dX15_sender_103 : decode cX15_sender 103 = .ok (.iload 5, 2) := by decide +kernel
theorem dX15_sender_105 : decode cX15_sender 105 = .ok (.bipush 45, 2) := by decide +kernel
theorem dX15_sender_107 : decode cX15_sender 107 = .ok (.if_icmp .eq 19, 3) := by decide +kernel
theorem dX15_sender_110 : decode cX15_sender 110 = .ok (.iload 5, 2) := by decide +kernel
theorem dX15_sender_112 : decode cX15_sender 112 = .ok (.bipush 95, 2) := by decide +kernel
theorem dX15_sender_114 : decode cX15_sender 114 = .ok (.if_icmp .eq 12, 3) := by decide +kernel
theorem dX15_sender_117 : decode cX15_sender 117 = .ok (.iload 5, 2) := by decide +kernel
theorem dX15_sender_119 : decode cX15_sender 119 = .ok (.bipush 43, 2) := by decide +kernel
theorem dX15_sender_121 : decode cX15_sender 121 = .ok (.if_icmp .eq 5, 3) := by decide +kernel
theorem dX15_sender_124 : decode cX15_sender 124 = .ok (.iconst (-1), 1) := by decide +kernel
theorem dX15_sender_125 : decode cX15_sender 125 = .ok (.ireturn, 1) := by decide +kernel
theorem dX15_sender_126 : decode cX15_sender 126 = .ok (.iinc 4 1, 3) := by decide +kernel
theorem dX15_sender_129 : decode cX15_sender 129 = .ok (.goto (-64), 3) := by decide +kernel
theorem dX15_sender_132 : decode cX15_sender 132 = .ok (.aload_n 0, 1) := by decide +kernel
theorem dX15_sender_133 : decode cX15_sender 133 = .ok (.getfield 57, 3) := by decide +kernel
theorem dX15_sender_136 : decode cX15_sender 136 = .ok (.aload_n 0, 1) := by decide +kernel
theorem dX15_sender_137 : decode cX15_sender 137 = .ok (.getfield 31, 3) := by decide +kernel
theorem dX15_sender_140 : decode cX15_sender 140 = .ok (.iconst 0, 1) := by decide +kernel
theorem dX15_sender_141 : decode cX15_sender 141 = .ok (.iload_n 3, 1) := by decide +kernel
theorem dX15_sender_142 : decode cX15_sender 142 = .ok (.invokevirtual 186, 3) := by decide +kernel
theorem dX15_sender_145 : decode cX15_sender 145 = .ok (.aload_n 0, 1) := by decide +kernel
theorem dX15_sender_146 : decode cX15_sender 146 = .ok (.getfield 61, 3) := by decide +kernel
theorem dX15_sender_149 : decode cX15_sender 149 = .ok (.aload_n 0, 1) := by decide +kernel
theorem dX15_sender_150 : decode cX15_sender 150 = .ok (.getfield 31, 3) := by decide +kernel
theorem dX15_sender_153 : decode cX15_sender 153 = .ok (.iload_n 3, 1) := by decide +kernel
theorem dX15_sender_154 : decode cX15_sender 154 = .ok (.iconst 1, 1) := by decide +kernel
theorem dX15_sender_155 : decode cX15_sender 155 = .ok (.iadd, 1) := by decide +kernel
theorem dX15_sender_156 : decode cX15_sender 156 = .ok (.iload_n 2, 1) := by decide +kernel
theorem dX15_sender_157 : decode cX15_sender 157 = .ok (.invokevirtual 186, 3) := by decide +kernel
theorem dX15_sender_160 : decode cX15_sender 160 = .ok (.aload_n 0, 1) := by decide +kernel
theorem dX15_sender_161 : decode cX15_sender 161 = .ok (.iload_n 1, 1) := by decide +kernel
theorem dX15_sender_162 : decode cX15_sender 162 = .ok (.putfield 205, 3) := by decide +kernel
theorem dX15_sender_165 : decode cX15_sender 165 = .ok (.aload_n 0, 1) := by decide +kernel
theorem dX15_sender_166 : decode cX15_sender 166 = .ok (.iconst 1, 1) := by decide +kernel
theorem dX15_sender_167 : decode cX15_sender 167 = .ok (.putfield 208, 3) := by decide +kernel
theorem dX15_sender_170 : decode cX15_sender 170 = .ok (.iconst 0, 1) := by decide +kernel
theorem dX15_sender_171 : decode cX15_sender 171 = .ok (.ireturn, 1) := by decide +kernel
theorem dX15_used_0 : decode cX15_used 0 = .ok (.aload_n 0, 1) := by decide +kernel
theorem dX15_used_1 : decode cX15_used 1 = .ok (.getfield 166, 3) := by decide +kernel
theorem dX15_used_4 : decode cX15_used 4 = .ok (.istore_n 1, 1) := by decide +kernel
theorem dX15_used_5 : decode cX15_used 5 = .ok (.aload_n 0, 1) := by decide +kernel
theorem dX15_used_6 : decode cX15_used 6 = .ok (.iconst 0, 1) := by decide +kernel
theorem dX15_used_7 : decode cX15_used 7 = .ok (.putfield 166, 3) := by decide +kernel
theorem dX15_used_10 : decode cX15_used 10 = .ok (.iload_n 1, 1) := by decide +kernel
theorem dX15_used_11 : decode cX15_used 11 = .ok (.ireturn, 1) := by decide +kernel
theorem kt_1060 : Cond.fieldLink RX15 166 "PostGateModel" "tapeMany" "I" ∈ tb := tb_at (i := 1290) (by decide +kernel) (by decide +kernel)
theorem kt_1061 : Cond.code yX15_used cX15_used 2 (some .int) ∈ tb := tb_at (i := 1485) (by decide +kernel) (by decide +kernel)
theorem kt_1062 : Cond.methodLink RX15 174 yX15_used ∈ tb := tb_at (i := 1482) (by decide +kernel) (by decide +kernel)
theorem kt_1063 : Cond.instanceMethod yX15_used ∈ tb := tb_at (i := 1484) (by decide +kernel) (by decide +kernel)
theorem kt_1064 : Cond.selects RX15 yX15_used yX15_used ∈ tb := tb_at (i := 42) (by decide +kernel) (by decide +kernel)
theorem kt_1065 : Cond.fieldLink RX15 31 "PostGateModel" "tape" "[B" ∈ tb := tb_at (i := 1289) (by decide +kernel) (by decide +kernel)
theorem kt_1066 : Cond.constantLong RX15 603 (-1) ∈ tb := tb_at (i := 1898) (by decide +kernel) (by decide +kernel)
theorem kt_1067 : Cond.constantLong RX15 200 30 ∈ tb := tb_at (i := 1515) (by decide +kernel) (by decide +kernel)
theorem rtf_id {ty : TyM} {h : Nat} {e : TyE} (hT : ty h = e) : rtf ty h e = ty := by
  funext a
  by_cases c : a = h
  · subst c
    rw [rtf_self, hT]
  · exact rtf_ne c
theorem in_0z {x : Int32} {zt : Nat} {r : Int32} (hr : r = (if (0 : Int64) ≤ x.toInt64 ∧ x.toInt64 ≤ (nI zt).toInt64 then 1 else 0)) (hz : zt ≤ 10000) : (r = 0 ∧ ¬ (¬ x < 0 ∧ ¬ nI zt < x)) ∨ (r = 1 ∧ (¬ x < 0 ∧ ¬ nI zt < x)) := by
  have e1 : ((0 : Int64) ≤ x.toInt64 ∧ x.toInt64 ≤ (nI zt).toInt64) ↔ (¬ x < 0 ∧ ¬ nI zt < x) := by
    rw [show (0 : Int64) = (0 : Int32).toInt64 from by decide, l64, l64, Int32.not_lt, Int32.not_lt]
  by_cases c : (¬ x < 0 ∧ ¬ nI zt < x)
  · rw [if_pos (e1.mpr c)] at hr
    exact Or.inr ⟨hr, c⟩
  · rw [if_neg (fun h => c (e1.mp h))] at hr
    exact Or.inl ⟨hr, c⟩
set_option maxHeartbeats 4000000 in
set_option maxRecDepth 100000 in
theorem s_X15_used (l : Launch) (dC : Nat → ClassId) (dI : Nat → Nat → Nat) (cs : Nat → ClassId) (ty : TyM) (gm : Nat → Nat → Nat) (L : List Nat) (sz : Nat) (F : Nat → va_E) (h0 : Nat) (ρ : Nat) (ta : Nat) (ou : Nat) (so : Nat) (ad : Nat) (na : Nat) (va : Nat) (lc : Nat) (dm : Nat) (tg : Nat) (pe : Nat) (ml : Nat) (bg : Nat) (co : Nat) (sp : Nat) (nb0 : Nat) (nb1 : Nat) (nb2 : Nat) (pl : Nat) (se : Nat) (ke : Nat) (wi : Nat) (hs : Nat) (mo : Nat) (po : Nat) (nu : Nat) (pr : Nat) (sq : Nat) (xa : Nat) (sa : Nat) (n64 : Nat) (m64 : Nat) (ex : Nat) (wh : Nat) (sd : Nat) (tk : Nat) (hd : Nat) (ak : Nat) (ho : Nat) (ot : Nat) (sx : Nat) (s0 : Nat) (s1 : Nat) (s2 : Nat) (nf : Nat) (bd : Nat) (mm : Nat) (ze : Nat) (zt : Nat) (zo : Nat) (v11 : Int32) (v12 : Int32) (v14 : Int32) (v15 : Int32) (v17 : Int32) (v18 : Int32) (v19 : Int32) (v20 : Int32) (v21 : Int32) (v22 : Int32) (v33 : Int32) (v52 : Int32) (v53 : Int32) (v54 : Int32) (hW : WTm ty gm L) (hL_h0 : h0 ∈ L) (hT_h0 : ty h0 = (15, ρ, [ta, ou, so, ad, na, va, lc, dm, tg, pe, ml, bg, co, sp, nb0, nb1, nb2, pl, se, ke, wi, hs, mo, po, nu, pr, sq, xa, sa, n64, m64, ex, wh, sd, tk, hd, ak, ho, ot, sx, s0, s1, s2, nf, bd, mm, ze, zt])) (hF0 : F h0 = .inr (15, (.ref ta) :: (.int (nI zt)) :: (.int (nI zo)) :: (.int (nI ze)) :: (.ref ou) :: (.ref so) :: (.ref ad) :: (.ref na) :: (.ref va) :: (.ref lc) :: (.ref dm) :: (.int v11) :: (.int v12) :: (.ref tg) :: (.int v14) :: (.int v15) :: (.ref pe) :: (.int v17) :: (.int v18) :: (.int v19) :: (.int v20) :: (.int v21) :: (.int v22) :: (.ref ml) :: (.ref bg) :: (.ref co) :: (.ref sp) :: (.ref nb0) :: (.ref nb1) :: (.ref nb2) :: (.int (nI nf)) :: (.int (nI bd)) :: (.int (nI mm)) :: (.int v33) :: (.ref pl) :: (.ref se) :: (.ref ke) :: (.ref wi) :: (.ref hs) :: (.ref mo) :: (.ref po) :: (.ref nu) :: (.ref pr) :: (.ref sq) :: (.ref xa) :: (.ref sa) :: (.ref n64) :: (.ref m64) :: (.ref ex) :: (.ref wh) :: (.ref sd) :: (.ref tk) :: (.int v52) :: (.int v53) :: (.int v54) :: (.ref hd) :: (.ref ak) :: (.ref ho) :: (.ref ot) :: [])) (hzo : zo ≤ 6000) (hze : ze ≤ 40) (h33 : ((v33 = 0 ∧ nf = 0) ∨ (v33 = 1 ∧ 1 ≤ nf))) (h54 : (v54 = 0 ∨ v54 = 1)) : Met l yX15_used (.code yX15_used cX15_used 2 (some .int) :: tb) ({ frames := 0, cells := 0, slots := 0, locals := 0 }) (va_Pc [.ref h0] (PTm (dC, dI) cs ty gm L F sz)) (va_Qi (fun (r : Int32) (_ : Unit) => r = nI zt) (fun _ T9 => ∃ F2 : Nat → va_E, ∃ ty2 : TyM, ty2 = rtf ty h0 (15, ρ, [ta, ou, so, ad, na, va, lc, dm, tg, pe, ml, bg, co, sp, nb0, nb1, nb2, pl, se, ke, wi, hs, mo, po, nu, pr, sq, xa, sa, n64, m64, ex, wh, sd, tk, hd, ak, ho, ot, sx, s0, s1, s2, nf, bd, mm, ze, 0]) ∧ QTm (dC, dI) cs ty2 gm L [ρ] F F2 (va_A (va_pl L F) sz) T9 ∧ WTm ty2 gm L ∧ F2 h0 = .inr (15, (.ref ta) :: (.int 0) :: (.int (nI zo)) :: (.int (nI ze)) :: (.ref ou) :: (.ref so) :: (.ref ad) :: (.ref na) :: (.ref va) :: (.ref lc) :: (.ref dm) :: (.int v11) :: (.int v12) :: (.ref tg) :: (.int v14) :: (.int v15) :: (.ref pe) :: (.int v17) :: (.int v18) :: (.int v19) :: (.int v20) :: (.int v21) :: (.int v22) :: (.ref ml) :: (.ref bg) :: (.ref co) :: (.ref sp) :: (.ref nb0) :: (.ref nb1) :: (.ref nb2) :: (.int (nI nf)) :: (.int (nI bd)) :: (.int (nI mm)) :: (.int v33) :: (.ref pl) :: (.ref se) :: (.ref ke) :: (.ref wi) :: (.ref hs) :: (.ref mo) :: (.ref po) :: (.ref nu) :: (.ref pr) :: (.ref sq) :: (.ref xa) :: (.ref sa) :: (.ref n64) :: (.ref m64) :: (.ref ex) :: (.ref wh) :: (.ref sd) :: (.ref tk) :: (.int v52) :: (.int v53) :: (.int v54) :: (.ref hd) :: (.ref ak) :: (.ref ho) :: (.ref ot) :: [])) (va_A (va_pl L F) sz)) 0 0 (va_A (va_pl L F) sz) := by
  refine Met.ofW (cc := cX15_used) (maxL := 2) (ret := (some .int)) (by decide) rfl ?_
  intro p e s m args below meth c s₁ B hml hv
  obtain ⟨rfl, hsz, hP, hK, hD0, hE, hO⟩ := hv
  have hx := B.exec
  have hb := B.bytes
  have hr := B.returns
  have hts : ∀ w ∈ tb, w.before _ s = true := fun w h => atoms_spec (ws := .code yX15_used cX15_used 2 (some .int) :: tb) B.pre w (List.mem_cons_of_mem _ h)
  have hown : s.vm.findClass RX15 = some m.cls := findClass_of_methodNamed B.named
  have hlocks := B.notSynchronized
  subst hsz
  have hD := hD0.self (sz := s.heap.size)
  generalize hAe : va_A (va_pl L F) s.heap.size = A at hD ⊢
  have hA : ∀ q : Nat, s.heap.size ≤ q → A q := fun q h => by rw [← hAe]; exact Or.inr h
  have hS : va_S A s.heap s.heap [] := va_S.rf
  have hR : FR ty [ρ] F F := FR.refl
  have hl := lv_entry ([.ref h0]) (n := 2) (Nat.le_of_ble_eq_true rfl)
  rw [lg_entry_eq]
  generalize (lg_sl ([.ref h0]) ++ List.replicate (2 - (lg_sl ([.ref h0])).length) Slot.unset).toArray = ls at hl ⊢
  have hl : lv_has ls 2 [(0, .ref h0)] := hl
  obtain ⟨hq_23, hq_24, hq_25, hq_26, hq_27, hgO, hgA, hgB⟩ := hW.sc hL_h0 hT_h0
  refine lv_aload_n hx hb dX15_used_0 rfl (lv_at hl 0 rfl) ?_
  refine pg_get (ci := 15) (v := .int (nI zt)) (C := RX15) (T := TX15) (N := 59) hx hb hts it_15 hown hK hP hL_h0 hF0 rfl 1 (by decide) (hts _ kt_1060) (fun _ h9 => h9) rfl dX15_used_1 ?_
  refine lv_istore_n (lv' := [(1, .int (nI zt)), (0, .ref h0)]) hx hb dX15_used_4 rfl hl (by decide) rfl (fun ls hl => ?_)
  refine lv_aload_n hx hb dX15_used_5 rfl (lv_at hl 1 rfl) ?_
  refine lv_iconst (v := 0) hx hb dX15_used_6 (by decide) ?_
  refine pg_put (ci := 15) (v := .int 0) (ty := .int) (C := RX15) (T := TX15) (N := 59) hx hb hts it_15 tyX15 tyX15_ok nmX15 hown hK hP hD hS hL_h0 hF0 rfl 1 (by decide) (hts _ kt_1060) (fun _ h9 => h9) rfl (by decide +kernel) (rfl) (rfl) (Nat.le_of_ble_eq_true rfl) dX15_used_7 (fun H locs hP hD hS => ?_)
  obtain ⟨F_28, he_29, hP, hD, hR⟩ : ∃ G, G = va_up F h0 (.inr (15, (.ref ta) :: (.int 0) :: (.int (nI zo)) :: (.int (nI ze)) :: (.ref ou) :: (.ref so) :: (.ref ad) :: (.ref na) :: (.ref va) :: (.ref lc) :: (.ref dm) :: (.int v11) :: (.int v12) :: (.ref tg) :: (.int v14) :: (.int v15) :: (.ref pe) :: (.int v17) :: (.int v18) :: (.int v19) :: (.int v20) :: (.int v21) :: (.int v22) :: (.ref ml) :: (.ref bg) :: (.ref co) :: (.ref sp) :: (.ref nb0) :: (.ref nb1) :: (.ref nb2) :: (.int (nI nf)) :: (.int (nI bd)) :: (.int (nI mm)) :: (.int v33) :: (.ref pl) :: (.ref se) :: (.ref ke) :: (.ref wi) :: (.ref hs) :: (.ref mo) :: (.ref po) :: (.ref nu) :: (.ref pr) :: (.ref sq) :: (.ref xa) :: (.ref sa) :: (.ref n64) :: (.ref m64) :: (.ref ex) :: (.ref wh) :: (.ref sd) :: (.ref tk) :: (.int v52) :: (.int v53) :: (.int v54) :: (.ref hd) :: (.ref ak) :: (.ref ho) :: (.ref ot) :: [])) ∧ va_P (dC, dI) vwCl (va_pl L G) H ∧ va_D A (va_pl L G) ∧ FR ty [ρ] F G := ⟨_, rfl, hP, hD, hR.up hT_h0 (by simp)⟩
  obtain ⟨ty, hty, hT_h0, hW, hO, hR⟩ : ∃ t9 : TyM, t9 = rtf ty h0 (15, ρ, [ta, ou, so, ad, na, va, lc, dm, tg, pe, ml, bg, co, sp, nb0, nb1, nb2, pl, se, ke, wi, hs, mo, po, nu, pr, sq, xa, sa, n64, m64, ex, wh, sd, tk, hd, ak, ho, ot, sx, s0, s1, s2, nf, bd, mm, ze, 0]) ∧ t9 h0 = (15, ρ, [ta, ou, so, ad, na, va, lc, dm, tg, pe, ml, bg, co, sp, nb0, nb1, nb2, pl, se, ke, wi, hs, mo, po, nu, pr, sq, xa, sa, n64, m64, ex, wh, sd, tk, hd, ak, ho, ot, sx, s0, s1, s2, nf, bd, mm, ze, 0]) ∧ WTm t9 gm L ∧ OKm cs t9 gm L F_28 ∧ FR t9 [ρ] F F_28 := ⟨_, rfl, rtf_self, hW.zt hL_h0 hT_h0 (by omega), (by rw [he_29]; exact OKm.retype hO hT_h0 (shm.mod rtf_self ⟨zo, v11, v12, v14, v15, v17, v18, v19, v20, v21, v22, v33, v52, v53, v54, rfl, (by first | omega | assumption | exact Or.inl rfl | exact Or.inr rfl), (by first | omega | assumption | exact Or.inl rfl | exact Or.inr rfl), (by first | omega | assumption | exact Or.inl rfl | exact Or.inr rfl), (by first | omega | assumption | exact Or.inl rfl | exact Or.inr rfl)⟩)), FR.retype hT_h0 hR⟩
  have hF_30 : F_28 h0 = .inr (15, (.ref ta) :: (.int 0) :: (.int (nI zo)) :: (.int (nI ze)) :: (.ref ou) :: (.ref so) :: (.ref ad) :: (.ref na) :: (.ref va) :: (.ref lc) :: (.ref dm) :: (.int v11) :: (.int v12) :: (.ref tg) :: (.int v14) :: (.int v15) :: (.ref pe) :: (.int v17) :: (.int v18) :: (.int v19) :: (.int v20) :: (.int v21) :: (.int v22) :: (.ref ml) :: (.ref bg) :: (.ref co) :: (.ref sp) :: (.ref nb0) :: (.ref nb1) :: (.ref nb2) :: (.int (nI nf)) :: (.int (nI bd)) :: (.int (nI mm)) :: (.int v33) :: (.ref pl) :: (.ref se) :: (.ref ke) :: (.ref wi) :: (.ref hs) :: (.ref mo) :: (.ref po) :: (.ref nu) :: (.ref pr) :: (.ref sq) :: (.ref xa) :: (.ref sa) :: (.ref n64) :: (.ref m64) :: (.ref ex) :: (.ref wh) :: (.ref sd) :: (.ref tk) :: (.int v52) :: (.int v53) :: (.int v54) :: (.ref hd) :: (.ref ak) :: (.ref ho) :: (.ref ot) :: []) := by rw [he_29]; exact up_self
  obtain ⟨hq_53, hq_54, hq_55, hq_56, hq_57, hgO, hgA, hgB⟩ := hW.sc hL_h0 hT_h0
  refine lv_iload_n hx hb dX15_used_10 rfl (lv_at hl 0 rfl) ?_
  refine W.widen (k := 0) (n := 0) (by omega) (by omega) ?_
  exact W.iret (v := (nI zt)) hx hb hr (fun t ht hWm => ⟨⟨(nI zt), (), rfl, rfl, ⟨F_28, ty, hty, QTm.mk ht hP hD hO hR, hW, hF_30⟩⟩, hS.F ht⟩) hS.2.2 dX15_used_11
set_option maxHeartbeats 4000000 in
set_option maxRecDepth 100000 in
theorem s_X15_end (l : Launch) (dC : Nat → ClassId) (dI : Nat → Nat → Nat) (cs : Nat → ClassId) (ty : TyM) (gm : Nat → Nat → Nat) (L : List Nat) (sz : Nat) (F : Nat → va_E) (h0 : Nat) (ρ : Nat) (ta : Nat) (ou : Nat) (so : Nat) (ad : Nat) (na : Nat) (va : Nat) (lc : Nat) (dm : Nat) (tg : Nat) (pe : Nat) (ml : Nat) (bg : Nat) (co : Nat) (sp : Nat) (nb0 : Nat) (nb1 : Nat) (nb2 : Nat) (pl : Nat) (se : Nat) (ke : Nat) (wi : Nat) (hs : Nat) (mo : Nat) (po : Nat) (nu : Nat) (pr : Nat) (sq : Nat) (xa : Nat) (sa : Nat) (n64 : Nat) (m64 : Nat) (ex : Nat) (wh : Nat) (sd : Nat) (tk : Nat) (hd : Nat) (ak : Nat) (ho : Nat) (ot : Nat) (sx : Nat) (s0 : Nat) (s1 : Nat) (s2 : Nat) (nf : Nat) (bd : Nat) (mm : Nat) (ze : Nat) (zt : Nat) (x1 : Int32) (hW : WTm ty gm L) (hL_h0 : h0 ∈ L) (hT_h0 : ty h0 = (15, ρ, [ta, ou, so, ad, na, va, lc, dm, tg, pe, ml, bg, co, sp, nb0, nb1, nb2, pl, se, ke, wi, hs, mo, po, nu, pr, sq, xa, sa, n64, m64, ex, wh, sd, tk, hd, ak, ho, ot, sx, s0, s1, s2, nf, bd, mm, ze, zt])) : Met l yX15_end (.code yX15_end cX15_end 2 (some .int) :: tb) ({ frames := 1, cells := 0, slots := 0, locals := 25 }) (va_Pc [.ref h0, .int x1] (PTm (dC, dI) cs ty gm L F sz)) (va_Qi (fun (r : Int32) (_ : Unit) => r = (if ¬ x1 < 0 ∧ ¬ nI zt < x1 then x1 else (-1))) (fun _ T9 => ∃ F2 : Nat → va_E, ∃ ty2 : TyM, ty2 = rtf ty h0 (15, ρ, [ta, ou, so, ad, na, va, lc, dm, tg, pe, ml, bg, co, sp, nb0, nb1, nb2, pl, se, ke, wi, hs, mo, po, nu, pr, sq, xa, sa, n64, m64, ex, wh, sd, tk, hd, ak, ho, ot, sx, s0, s1, s2, nf, bd, mm, ze, (if ¬ x1 < 0 ∧ ¬ nI zt < x1 then x1.toNatClampNeg else zt)]) ∧ QTm (dC, dI) cs ty2 gm L [ρ] F F2 (va_A (va_pl L F) sz) T9 ∧ WTm ty2 gm L) (va_A (va_pl L F) sz)) 0 0 (va_A (va_pl L F) sz) := by
  refine Met.ofW (cc := cX15_end) (maxL := 2) (ret := (some .int)) (by decide) rfl ?_
  intro p e s m args below meth c s₁ B hml hv
  obtain ⟨rfl, hsz, hP, hK, hD0, hE, hO⟩ := hv
  have hx := B.exec
  have hb := B.bytes
  have hr := B.returns
  have hts : ∀ w ∈ tb, w.before _ s = true := fun w h => atoms_spec (ws := .code yX15_end cX15_end 2 (some .int) :: tb) B.pre w (List.mem_cons_of_mem _ h)
  have hown : s.vm.findClass RX15 = some m.cls := findClass_of_methodNamed B.named
  have hlocks := B.notSynchronized
  subst hsz
  have hD := hD0.self (sz := s.heap.size)
  generalize hAe : va_A (va_pl L F) s.heap.size = A at hD ⊢
  have hA : ∀ q : Nat, s.heap.size ≤ q → A q := fun q h => by rw [← hAe]; exact Or.inr h
  have hS : va_S A s.heap s.heap [] := va_S.rf
  have hR : FR ty [ρ] F F := FR.refl
  have hl := lv_entry ([.ref h0, .int x1]) (n := 2) (Nat.le_of_ble_eq_true rfl)
  rw [lg_entry_eq]
  generalize (lg_sl ([.ref h0, .int x1]) ++ List.replicate (2 - (lg_sl ([.ref h0, .int x1])).length) Slot.unset).toArray = ls at hl ⊢
  have hl : lv_has ls 2 [(0, .ref h0), (1, .int x1)] := hl
  obtain ⟨hq_23, hq_24, hq_25, hq_26, hq_27, hgO, hgA, hgB⟩ := hW.sc hL_h0 hT_h0
  refine lv_iload_n hx hb dX15_end_0 rfl (lv_at hl 1 rfl) ?_
  refine lv_i2l (v := x1.toInt64) hx hb dX15_end_1 rfl ?_
  refine lv_lconst (v := 0) hx hb dX15_end_2 (by decide) ?_
  refine lv_aload_n hx hb dX15_end_3 rfl (lv_at hl 0 rfl) ?_
  obtain ⟨zo_28, v11_29, v12_30, v14_31, v15_32, v17_33, v18_34, v19_35, v20_36, v21_37, v22_38, v33_39, v52_40, v53_41, v54_42, hF_43, hq_44, hq_45, hq_46, hq_47⟩ := hO.mod hL_h0 hT_h0
  refine pg_get (ci := 15) (v := .int (nI zt)) (C := RX15) (T := TX15) (N := 59) hx hb hts it_15 hown hK hP hL_h0 hF_43 rfl 1 (by decide) (hts _ kt_1060) (fun _ h9 => h9) rfl dX15_end_4 ?_
  refine lv_i2l (v := (nI zt).toInt64) hx hb dX15_end_7 rfl ?_
  have hFc := pg_free hD hS hA
  refine va_calli (va_runS (As := [.long x1.toInt64, .long 0, .long ((nI zt).toInt64)]) (rest := []) ⟨hx, hb, hml, hown, hts⟩ (s_X15_in l dC dI cs ty gm L s.heap.size F x1.toInt64 0 ((nI zt).toInt64) hW ) ⟨callB_of 3 hts (gi kt_675) rfl rfl rfl (hts _ kt_659) (hts _ kt_695) (by decide +kernel) ⟨Nat.le_of_ble_eq_true rfl, Nat.le_of_ble_eq_true rfl⟩, (hts _ kt_676)⟩ ⟨fun a U g mk q => ⟨q.1, PTm.calling q.2⟩, fun U hU hWm => ⟨rfl, PTm.mk hU hWm hP hK hD hE hO⟩⟩ rfl rfl hl.1 rfl (lv_room (Nat.le_of_ble_eq_true rfl)) dX15_end_8 ⟨by show _ + 0 ≤ 0; omega, by show _ + 0 ≤ 0; omega⟩) hS (fun q _ h => hFc q h) hFc (fun r_48 u t H1 locs ht hvm hw hB hz1 hk1 hS => ?_)
  obtain ⟨F_49, hB1⟩ := hB
  obtain rfl : F = F_49 := (funext (fun a => hB1.2.2.2 a List.not_mem_nil)).symm
  obtain ⟨hP, hD, hO, hR⟩ := QTm.back hB1 ht hFc hR (fun q h => absurd h List.not_mem_nil)
  generalize H1 = H at hP hS ⊢
  have hw : r_48 = (if 0 ≤ x1.toInt64 ∧ x1.toInt64 ≤ (nI zt).toInt64 then 1 else 0) := hw
  have hw_50 := hw
  refine lv_if_ne (tgt := 16) hx hb dX15_end_11 (by decide) (fun c_51 => ?_) (fun c_51 => ?_)
  ·
    have hcE : ¬ x1 < 0 ∧ ¬ nI zt < x1 := (in_0z hw_50 (by omega)).elim (fun h => absurd h.1 c_51) And.right
    obtain ⟨k, hk, rfl⟩ := nI_of hcE.1
    have hkz : k ≤ zt := Nat.not_lt.mp (fun h => hcE.2 ((nI_ltI (by omega) hk).mpr h))
    refine lv_aload_n hx hb dX15_end_16 rfl (lv_at hl 0 rfl) ?_
    refine lv_iload_n hx hb dX15_end_17 rfl (lv_at hl 1 rfl) ?_
    refine pg_put (ci := 15) (v := .int (nI k)) (ty := .int) (C := RX15) (T := TX15) (N := 59) hx hb hts it_15 tyX15 tyX15_ok nmX15 hown hK hP hD hS hL_h0 hF_43 rfl 1 (by decide) (hts _ kt_1060) (fun _ h9 => h9) rfl (by decide +kernel) (rfl) (rfl) (Nat.le_of_ble_eq_true rfl) dX15_end_18 (fun H locs hP hD hS => ?_)
    obtain ⟨F_52, he_53, hP, hD, hR⟩ : ∃ G, G = va_up F h0 (.inr (15, (.ref ta) :: (.int (nI k)) :: (.int (nI zo_28)) :: (.int (nI ze)) :: (.ref ou) :: (.ref so) :: (.ref ad) :: (.ref na) :: (.ref va) :: (.ref lc) :: (.ref dm) :: (.int v11_29) :: (.int v12_30) :: (.ref tg) :: (.int v14_31) :: (.int v15_32) :: (.ref pe) :: (.int v17_33) :: (.int v18_34) :: (.int v19_35) :: (.int v20_36) :: (.int v21_37) :: (.int v22_38) :: (.ref ml) :: (.ref bg) :: (.ref co) :: (.ref sp) :: (.ref nb0) :: (.ref nb1) :: (.ref nb2) :: (.int (nI nf)) :: (.int (nI bd)) :: (.int (nI mm)) :: (.int v33_39) :: (.ref pl) :: (.ref se) :: (.ref ke) :: (.ref wi) :: (.ref hs) :: (.ref mo) :: (.ref po) :: (.ref nu) :: (.ref pr) :: (.ref sq) :: (.ref xa) :: (.ref sa) :: (.ref n64) :: (.ref m64) :: (.ref ex) :: (.ref wh) :: (.ref sd) :: (.ref tk) :: (.int v52_40) :: (.int v53_41) :: (.int v54_42) :: (.ref hd) :: (.ref ak) :: (.ref ho) :: (.ref ot) :: [])) ∧ va_P (dC, dI) vwCl (va_pl L G) H ∧ va_D A (va_pl L G) ∧ FR ty [ρ] F G := ⟨_, rfl, hP, hD, hR.up hT_h0 (by simp)⟩
    obtain ⟨ty, hty, hT_h0, hW, hO, hR⟩ : ∃ t9 : TyM, t9 = rtf ty h0 (15, ρ, [ta, ou, so, ad, na, va, lc, dm, tg, pe, ml, bg, co, sp, nb0, nb1, nb2, pl, se, ke, wi, hs, mo, po, nu, pr, sq, xa, sa, n64, m64, ex, wh, sd, tk, hd, ak, ho, ot, sx, s0, s1, s2, nf, bd, mm, ze, k]) ∧ t9 h0 = (15, ρ, [ta, ou, so, ad, na, va, lc, dm, tg, pe, ml, bg, co, sp, nb0, nb1, nb2, pl, se, ke, wi, hs, mo, po, nu, pr, sq, xa, sa, n64, m64, ex, wh, sd, tk, hd, ak, ho, ot, sx, s0, s1, s2, nf, bd, mm, ze, k]) ∧ WTm t9 gm L ∧ OKm cs t9 gm L F_52 ∧ FR t9 [ρ] F F_52 := ⟨_, rfl, rtf_self, hW.zt hL_h0 hT_h0 (by omega), (by rw [he_53]; exact OKm.retype hO hT_h0 (shm.mod rtf_self ⟨zo_28, v11_29, v12_30, v14_31, v15_32, v17_33, v18_34, v19_35, v20_36, v21_37, v22_38, v33_39, v52_40, v53_41, v54_42, rfl, (by first | omega | assumption | exact Or.inl rfl | exact Or.inr rfl), (by first | omega | assumption | exact Or.inl rfl | exact Or.inr rfl), (by first | omega | assumption | exact Or.inl rfl | exact Or.inr rfl), (by first | omega | assumption | exact Or.inl rfl | exact Or.inr rfl)⟩)), FR.retype hT_h0 hR⟩
    have hF_54 : F_52 h0 = .inr (15, (.ref ta) :: (.int (nI k)) :: (.int (nI zo_28)) :: (.int (nI ze)) :: (.ref ou) :: (.ref so) :: (.ref ad) :: (.ref na) :: (.ref va) :: (.ref lc) :: (.ref dm) :: (.int v11_29) :: (.int v12_30) :: (.ref tg) :: (.int v14_31) :: (.int v15_32) :: (.ref pe) :: (.int v17_33) :: (.int v18_34) :: (.int v19_35) :: (.int v20_36) :: (.int v21_37) :: (.int v22_38) :: (.ref ml) :: (.ref bg) :: (.ref co) :: (.ref sp) :: (.ref nb0) :: (.ref nb1) :: (.ref nb2) :: (.int (nI nf)) :: (.int (nI bd)) :: (.int (nI mm)) :: (.int v33_39) :: (.ref pl) :: (.ref se) :: (.ref ke) :: (.ref wi) :: (.ref hs) :: (.ref mo) :: (.ref po) :: (.ref nu) :: (.ref pr) :: (.ref sq) :: (.ref xa) :: (.ref sa) :: (.ref n64) :: (.ref m64) :: (.ref ex) :: (.ref wh) :: (.ref sd) :: (.ref tk) :: (.int v52_40) :: (.int v53_41) :: (.int v54_42) :: (.ref hd) :: (.ref ak) :: (.ref ho) :: (.ref ot) :: []) := by rw [he_53]; exact up_self
    obtain ⟨hq_77, hq_78, hq_79, hq_80, hq_81, hgO, hgA, hgB⟩ := hW.sc hL_h0 hT_h0
    refine lv_iload_n hx hb dX15_end_21 rfl (lv_at hl 1 rfl) ?_
    refine W.widen (k := 0) (n := 0) (by omega) (by omega) ?_
    exact W.iret (v := (nI k)) hx hb hr (fun t ht hWm => ⟨⟨(nI k), (), rfl, (by rw [if_pos hcE]), ⟨F_52, ty, (by rw [if_pos hcE, nI_clamp hk]; exact hty), QTm.mk ht hP hD hO hR, hW⟩⟩, hS.F ht⟩) hS.2.2 dX15_end_22
  ·
    have hcN : ¬ (¬ x1 < 0 ∧ ¬ nI zt < x1) := (in_0z hw_50 (by omega)).elim And.right (fun h => absurd (h.1.symm.trans c_51) (by decide))
    refine lv_iconst (v := (-1)) hx hb dX15_end_14 (by decide) ?_
    refine W.widen (k := 0) (n := 0) (by omega) (by omega) ?_
    exact W.iret (v := (-1)) hx hb hr (fun t ht hWm => ⟨⟨(-1), (), rfl, (by rw [if_neg hcN]), ⟨F, ty, (by rw [if_neg hcN]; exact (rtf_id hT_h0).symm), QTm.mk ht hP hD hO hR, hW⟩⟩, hS.F ht⟩) hS.2.2 dX15_end_15
set_option maxHeartbeats 4000000 in
set_option maxRecDepth 100000 in
theorem s_X15_forget (l : Launch) (dC : Nat → ClassId) (dI : Nat → Nat → Nat) (cs : Nat → ClassId) (ty : TyM) (gm : Nat → Nat → Nat) (L : List Nat) (sz : Nat) (F : Nat → va_E) (h0 : Nat) (ρ : Nat) (ta : Nat) (ou : Nat) (so : Nat) (ad : Nat) (na : Nat) (va : Nat) (lc : Nat) (dm : Nat) (tg : Nat) (pe : Nat) (ml : Nat) (bg : Nat) (co : Nat) (sp : Nat) (nb0 : Nat) (nb1 : Nat) (nb2 : Nat) (pl : Nat) (se : Nat) (ke : Nat) (wi : Nat) (hs : Nat) (mo : Nat) (po : Nat) (nu : Nat) (pr : Nat) (sq : Nat) (xa : Nat) (sa : Nat) (n64 : Nat) (m64 : Nat) (ex : Nat) (wh : Nat) (sd : Nat) (tk : Nat) (hd : Nat) (ak : Nat) (ho : Nat) (ot : Nat) (sx : Nat) (s0 : Nat) (s1 : Nat) (s2 : Nat) (nf : Nat) (bd : Nat) (mm : Nat) (ze : Nat) (zt : Nat) (hW : WTm ty gm L) (hL_h0 : h0 ∈ L) (hT_h0 : ty h0 = (15, ρ, [ta, ou, so, ad, na, va, lc, dm, tg, pe, ml, bg, co, sp, nb0, nb1, nb2, pl, se, ke, wi, hs, mo, po, nu, pr, sq, xa, sa, n64, m64, ex, wh, sd, tk, hd, ak, ho, ot, sx, s0, s1, s2, nf, bd, mm, ze, zt])) : Met l yX15_forget (.code yX15_forget cX15_forget 2 (some .int) :: tb) ({ frames := 0, cells := 0, slots := 0, locals := 0 }) (va_Pc [.ref h0] (PTm (dC, dI) cs ty gm L F sz)) (va_Qi (fun (r : Int32) (_ : Unit) => r = nI ze) (fun _ T9 => ∃ F2 : Nat → va_E, ∃ ty2 : TyM, ty2 = rtf ty h0 (15, ρ, [ta, ou, so, ad, na, va, lc, dm, tg, pe, ml, bg, co, sp, nb0, nb1, nb2, pl, se, ke, wi, hs, mo, po, nu, pr, sq, xa, sa, n64, m64, ex, wh, sd, tk, hd, ak, ho, ot, sx, s0, s1, s2, nf, bd, mm, 0, zt]) ∧ QTm (dC, dI) cs ty2 gm L [ρ] F F2 (va_A (va_pl L F) sz) T9 ∧ WTm ty2 gm L) (va_A (va_pl L F) sz)) 0 0 (va_A (va_pl L F) sz) := by
  refine Met.ofW (cc := cX15_forget) (maxL := 2) (ret := (some .int)) (by decide) rfl ?_
  intro p e s m args below meth c s₁ B hml hv
  obtain ⟨rfl, hsz, hP, hK, hD0, hE, hO⟩ := hv
  have hx := B.exec
  have hb := B.bytes
  have hr := B.returns
  have hts : ∀ w ∈ tb, w.before _ s = true := fun w h => atoms_spec (ws := .code yX15_forget cX15_forget 2 (some .int) :: tb) B.pre w (List.mem_cons_of_mem _ h)
  have hown : s.vm.findClass RX15 = some m.cls := findClass_of_methodNamed B.named
  have hlocks := B.notSynchronized
  subst hsz
  have hD := hD0.self (sz := s.heap.size)
  generalize hAe : va_A (va_pl L F) s.heap.size = A at hD ⊢
  have hA : ∀ q : Nat, s.heap.size ≤ q → A q := fun q h => by rw [← hAe]; exact Or.inr h
  have hS : va_S A s.heap s.heap [] := va_S.rf
  have hR : FR ty [ρ] F F := FR.refl
  have hl := lv_entry ([.ref h0]) (n := 2) (Nat.le_of_ble_eq_true rfl)
  rw [lg_entry_eq]
  generalize (lg_sl ([.ref h0]) ++ List.replicate (2 - (lg_sl ([.ref h0])).length) Slot.unset).toArray = ls at hl ⊢
  have hl : lv_has ls 2 [(0, .ref h0)] := hl
  obtain ⟨hq_23, hq_24, hq_25, hq_26, hq_27, hgO, hgA, hgB⟩ := hW.sc hL_h0 hT_h0
  refine lv_aload_n hx hb dX15_forget_0 rfl (lv_at hl 0 rfl) ?_
  obtain ⟨zo_28, v11_29, v12_30, v14_31, v15_32, v17_33, v18_34, v19_35, v20_36, v21_37, v22_38, v33_39, v52_40, v53_41, v54_42, hF_43, hq_44, hq_45, hq_46, hq_47⟩ := hO.mod hL_h0 hT_h0
  refine pg_get (ci := 15) (v := .int (nI ze)) (C := RX15) (T := TX15) (N := 59) hx hb hts it_15 hown hK hP hL_h0 hF_43 rfl 3 (by decide) (hts _ kt_714) (fun _ h9 => h9) rfl dX15_forget_1 ?_
  refine lv_istore_n (lv' := [(1, .int (nI ze)), (0, .ref h0)]) hx hb dX15_forget_4 rfl hl (by decide) rfl (fun ls hl => ?_)
  refine lv_aload_n hx hb dX15_forget_5 rfl (lv_at hl 1 rfl) ?_
  refine lv_iconst (v := 0) hx hb dX15_forget_6 (by decide) ?_
  refine pg_put (ci := 15) (v := .int 0) (ty := .int) (C := RX15) (T := TX15) (N := 59) hx hb hts it_15 tyX15 tyX15_ok nmX15 hown hK hP hD hS hL_h0 hF_43 rfl 3 (by decide) (hts _ kt_714) (fun _ h9 => h9) rfl (by decide +kernel) (rfl) (rfl) (Nat.le_of_ble_eq_true rfl) dX15_forget_7 (fun H locs hP hD hS => ?_)
  obtain ⟨F_48, he_49, hP, hD, hR⟩ : ∃ G, G = va_up F h0 (.inr (15, (.ref ta) :: (.int (nI zt)) :: (.int (nI zo_28)) :: (.int 0) :: (.ref ou) :: (.ref so) :: (.ref ad) :: (.ref na) :: (.ref va) :: (.ref lc) :: (.ref dm) :: (.int v11_29) :: (.int v12_30) :: (.ref tg) :: (.int v14_31) :: (.int v15_32) :: (.ref pe) :: (.int v17_33) :: (.int v18_34) :: (.int v19_35) :: (.int v20_36) :: (.int v21_37) :: (.int v22_38) :: (.ref ml) :: (.ref bg) :: (.ref co) :: (.ref sp) :: (.ref nb0) :: (.ref nb1) :: (.ref nb2) :: (.int (nI nf)) :: (.int (nI bd)) :: (.int (nI mm)) :: (.int v33_39) :: (.ref pl) :: (.ref se) :: (.ref ke) :: (.ref wi) :: (.ref hs) :: (.ref mo) :: (.ref po) :: (.ref nu) :: (.ref pr) :: (.ref sq) :: (.ref xa) :: (.ref sa) :: (.ref n64) :: (.ref m64) :: (.ref ex) :: (.ref wh) :: (.ref sd) :: (.ref tk) :: (.int v52_40) :: (.int v53_41) :: (.int v54_42) :: (.ref hd) :: (.ref ak) :: (.ref ho) :: (.ref ot) :: [])) ∧ va_P (dC, dI) vwCl (va_pl L G) H ∧ va_D A (va_pl L G) ∧ FR ty [ρ] F G := ⟨_, rfl, hP, hD, hR.up hT_h0 (by simp)⟩
  obtain ⟨ty, hty, hT_h0, hW, hO, hR⟩ : ∃ t9 : TyM, t9 = rtf ty h0 (15, ρ, [ta, ou, so, ad, na, va, lc, dm, tg, pe, ml, bg, co, sp, nb0, nb1, nb2, pl, se, ke, wi, hs, mo, po, nu, pr, sq, xa, sa, n64, m64, ex, wh, sd, tk, hd, ak, ho, ot, sx, s0, s1, s2, nf, bd, mm, 0, zt]) ∧ t9 h0 = (15, ρ, [ta, ou, so, ad, na, va, lc, dm, tg, pe, ml, bg, co, sp, nb0, nb1, nb2, pl, se, ke, wi, hs, mo, po, nu, pr, sq, xa, sa, n64, m64, ex, wh, sd, tk, hd, ak, ho, ot, sx, s0, s1, s2, nf, bd, mm, 0, zt]) ∧ WTm t9 gm L ∧ OKm cs t9 gm L F_48 ∧ FR t9 [ρ] F F_48 := ⟨_, rfl, rtf_self, hW.ze hL_h0 hT_h0, (by rw [he_49]; exact OKm.retype hO hT_h0 (shm.mod rtf_self ⟨zo_28, v11_29, v12_30, v14_31, v15_32, v17_33, v18_34, v19_35, v20_36, v21_37, v22_38, v33_39, v52_40, v53_41, v54_42, rfl, (by first | omega | assumption | exact Or.inl rfl | exact Or.inr rfl), (by first | omega | assumption | exact Or.inl rfl | exact Or.inr rfl), (by first | omega | assumption | exact Or.inl rfl | exact Or.inr rfl), (by first | omega | assumption | exact Or.inl rfl | exact Or.inr rfl)⟩)), FR.retype hT_h0 hR⟩
  have hF_50 : F_48 h0 = .inr (15, (.ref ta) :: (.int (nI zt)) :: (.int (nI zo_28)) :: (.int 0) :: (.ref ou) :: (.ref so) :: (.ref ad) :: (.ref na) :: (.ref va) :: (.ref lc) :: (.ref dm) :: (.int v11_29) :: (.int v12_30) :: (.ref tg) :: (.int v14_31) :: (.int v15_32) :: (.ref pe) :: (.int v17_33) :: (.int v18_34) :: (.int v19_35) :: (.int v20_36) :: (.int v21_37) :: (.int v22_38) :: (.ref ml) :: (.ref bg) :: (.ref co) :: (.ref sp) :: (.ref nb0) :: (.ref nb1) :: (.ref nb2) :: (.int (nI nf)) :: (.int (nI bd)) :: (.int (nI mm)) :: (.int v33_39) :: (.ref pl) :: (.ref se) :: (.ref ke) :: (.ref wi) :: (.ref hs) :: (.ref mo) :: (.ref po) :: (.ref nu) :: (.ref pr) :: (.ref sq) :: (.ref xa) :: (.ref sa) :: (.ref n64) :: (.ref m64) :: (.ref ex) :: (.ref wh) :: (.ref sd) :: (.ref tk) :: (.int v52_40) :: (.int v53_41) :: (.int v54_42) :: (.ref hd) :: (.ref ak) :: (.ref ho) :: (.ref ot) :: []) := by rw [he_49]; exact up_self
  obtain ⟨hq_73, hq_74, hq_75, hq_76, hq_77, hgO, hgA, hgB⟩ := hW.sc hL_h0 hT_h0
  refine lv_iload_n hx hb dX15_forget_10 rfl (lv_at hl 0 rfl) ?_
  refine W.widen (k := 0) (n := 0) (by omega) (by omega) ?_
  exact W.iret (v := (nI ze)) hx hb hr (fun t ht hWm => ⟨⟨(nI ze), (), rfl, rfl, ⟨F_48, ty, hty, QTm.mk ht hP hD hO hR, hW⟩⟩, hS.F ht⟩) hS.2.2 dX15_forget_11
set_option maxHeartbeats 4000000 in
set_option maxRecDepth 100000 in
theorem s_X15_digest_ (l : Launch) (dC : Nat → ClassId) (dI : Nat → Nat → Nat) (cs : Nat → ClassId) (ty : TyM) (gm : Nat → Nat → Nat) (L : List Nat) (sz : Nat) (F : Nat → va_E) (h0 : Nat) (ρ : Nat) (ta : Nat) (ou : Nat) (so : Nat) (ad : Nat) (na : Nat) (va : Nat) (lc : Nat) (dm : Nat) (tg : Nat) (pe : Nat) (ml : Nat) (bg : Nat) (co : Nat) (sp : Nat) (nb0 : Nat) (nb1 : Nat) (nb2 : Nat) (pl : Nat) (se : Nat) (ke : Nat) (wi : Nat) (hs : Nat) (mo : Nat) (po : Nat) (nu : Nat) (pr : Nat) (sq : Nat) (xa : Nat) (sa : Nat) (n64 : Nat) (m64 : Nat) (ex : Nat) (wh : Nat) (sd : Nat) (tk : Nat) (hd : Nat) (ak : Nat) (ho : Nat) (ot : Nat) (sx : Nat) (s0 : Nat) (s1 : Nat) (s2 : Nat) (nf : Nat) (bd : Nat) (mm : Nat) (ze : Nat) (zt : Nat) (hW : WTm ty gm L) (hL_h0 : h0 ∈ L) (hT_h0 : ty h0 = (15, ρ, [ta, ou, so, ad, na, va, lc, dm, tg, pe, ml, bg, co, sp, nb0, nb1, nb2, pl, se, ke, wi, hs, mo, po, nu, pr, sq, xa, sa, n64, m64, ex, wh, sd, tk, hd, ak, ho, ot, sx, s0, s1, s2, nf, bd, mm, ze, zt])) : Met l yX15_digest_ (.code yX15_digest_ cX15_digest_ 2 (some .int) :: tb) ({ frames := 6, cells := 0, slots := 0, locals := 143 }) (va_Pc [.ref h0] (PTm (dC, dI) cs ty gm L F sz)) (va_Qi (fun (r : Int32) (_ : Unit) => r = 32) (fun _ T9 => ∃ F2 : Nat → va_E, ∃ ty2 : TyM, ty2 = rtf ty h0 (15, ρ, [ta, ou, so, ad, na, va, lc, dm, tg, pe, ml, bg, co, sp, nb0, nb1, nb2, pl, se, ke, wi, hs, mo, po, nu, pr, sq, xa, sa, n64, m64, ex, wh, sd, tk, hd, ak, ho, ot, sx, s0, s1, s2, nf, bd, mm, ze, 0]) ∧ QTm (dC, dI) cs ty2 gm L [ρ, ρ + 2, ρ + 17, ρ + 19] F F2 (va_A (va_pl L F) sz) T9 ∧ WTm ty2 gm L) (va_A (va_pl L F) sz)) 0 0 (va_A (va_pl L F) sz) := by
  refine Met.ofW (cc := cX15_digest_) (maxL := 2) (ret := (some .int)) (by decide) rfl ?_
  intro p e s m args below meth c s₁ B hml hv
  obtain ⟨rfl, hsz, hP, hK, hD0, hE, hO⟩ := hv
  have hx := B.exec
  have hb := B.bytes
  have hr := B.returns
  have hts : ∀ w ∈ tb, w.before _ s = true := fun w h => atoms_spec (ws := .code yX15_digest_ cX15_digest_ 2 (some .int) :: tb) B.pre w (List.mem_cons_of_mem _ h)
  have hown : s.vm.findClass RX15 = some m.cls := findClass_of_methodNamed B.named
  have hlocks := B.notSynchronized
  subst hsz
  have hD := hD0.self (sz := s.heap.size)
  generalize hAe : va_A (va_pl L F) s.heap.size = A at hD ⊢
  have hA : ∀ q : Nat, s.heap.size ≤ q → A q := fun q h => by rw [← hAe]; exact Or.inr h
  have hS : va_S A s.heap s.heap [] := va_S.rf
  have hR : FR ty [ρ, ρ + 2, ρ + 17, ρ + 19] F F := FR.refl
  have hl := lv_entry ([.ref h0]) (n := 2) (Nat.le_of_ble_eq_true rfl)
  rw [lg_entry_eq]
  generalize (lg_sl ([.ref h0]) ++ List.replicate (2 - (lg_sl ([.ref h0])).length) Slot.unset).toArray = ls at hl ⊢
  have hl : lv_has ls 2 [(0, .ref h0)] := hl
  obtain ⟨hq_23, hq_24, hq_25, hq_26, hq_27, hgO, hgA, hgB⟩ := hW.sc hL_h0 hT_h0
  refine lv_aload_n hx hb dX15_digest__0 rfl (lv_at hl 0 rfl) ?_
  obtain ⟨zo_28, v11_29, v12_30, v14_31, v15_32, v17_33, v18_34, v19_35, v20_36, v21_37, v22_38, v33_39, v52_40, v53_41, v54_42, hF_43, hq_44, hq_45, hq_46, hq_47⟩ := hO.mod hL_h0 hT_h0
  have hFc := pg_free hD hS hA
  refine va_calli (va_runV (As := []) (rest := []) ⟨hx, hb, hml, hown, hts⟩ (s_X15_used l dC dI cs ty gm L s.heap.size F h0 ρ ta ou so ad na va lc dm tg pe ml bg co sp nb0 nb1 nb2 pl se ke wi hs mo po nu pr sq xa sa n64 m64 ex wh sd tk hd ak ho ot sx s0 s1 s2 nf bd mm ze zt zo_28 v11_29 v12_30 v14_31 v15_32 v17_33 v18_34 v19_35 v20_36 v21_37 v22_38 v33_39 v52_40 v53_41 v54_42 hW hL_h0 hT_h0 hF_43 (by first | omega | assumption) (by first | omega | assumption) (by first | omega | assumption) (by first | omega | assumption)) ⟨callB_of 0 hts (gi kt_1061) rfl rfl rfl (hts _ kt_659) (hts _ kt_1062) (by decide +kernel) ⟨Nat.le_of_ble_eq_true rfl, Nat.le_of_ble_eq_true rfl⟩, (hts _ kt_1063), (hts _ kt_1064)⟩ ⟨fun a U g mk q => ⟨q.1, PTm.calling q.2⟩, pg_recv hK hP hL_h0 hF_43 (q := (RX15, TX15, 59)) rfl, fun U hU hWm => ⟨rfl, PTm.mk hU hWm hP hK hD hE hO⟩⟩ rfl rfl hl.1 rfl (lv_room (Nat.le_of_ble_eq_true rfl)) dX15_digest__1 ⟨by show _ + 0 ≤ 0; omega, by show _ + 0 ≤ 0; omega⟩) hS (fun q _ h => hFc q h) hFc (fun r_48 u t H1 locs ht hvm hw hB hz1 hk1 hS => ?_)
  obtain ⟨F_49, ty9, hty9, hB1, hW9, hq_50⟩ := hB
  subst hty9
  have hR9 := FR.retype (im2 := [ta, ou, so, ad, na, va, lc, dm, tg, pe, ml, bg, co, sp, nb0, nb1, nb2, pl, se, ke, wi, hs, mo, po, nu, pr, sq, xa, sa, n64, m64, ex, wh, sd, tk, hd, ak, ho, ot, sx, s0, s1, s2, nf, bd, mm, ze, 0]) hT_h0 hR
  obtain ⟨hP, hD, hO, hR⟩ := QTm.back hB1 ht hFc hR9 (fun q h => by simp only [List.mem_cons, List.not_mem_nil, or_false] at h ⊢; omega)
  obtain ⟨ty, hty, hT_h0, hW, hO, hR⟩ : ∃ t9 : TyM, t9 = rtf ty h0 (15, ρ, [ta, ou, so, ad, na, va, lc, dm, tg, pe, ml, bg, co, sp, nb0, nb1, nb2, pl, se, ke, wi, hs, mo, po, nu, pr, sq, xa, sa, n64, m64, ex, wh, sd, tk, hd, ak, ho, ot, sx, s0, s1, s2, nf, bd, mm, ze, 0]) ∧ t9 h0 = (15, ρ, [ta, ou, so, ad, na, va, lc, dm, tg, pe, ml, bg, co, sp, nb0, nb1, nb2, pl, se, ke, wi, hs, mo, po, nu, pr, sq, xa, sa, n64, m64, ex, wh, sd, tk, hd, ak, ho, ot, sx, s0, s1, s2, nf, bd, mm, ze, 0]) ∧ WTm t9 gm L ∧ OKm cs t9 gm L F_49 ∧ FR t9 [ρ, ρ + 2, ρ + 17, ρ + 19] F F_49 := ⟨_, rfl, rtf_self, hW9, hO, hR⟩
  generalize H1 = H at hP hS ⊢
  have hw : r_48 = nI zt := hw
  subst hw
  obtain ⟨hq_73, hq_74, hq_75, hq_76, hq_77, hgO, hgA, hgB⟩ := hW.sc hL_h0 hT_h0
  refine lv_istore_n (lv' := [(1, .int (nI zt)), (0, .ref h0)]) hx hb dX15_digest__4 rfl hl (by decide) rfl (fun ls hl => ?_)
  refine lv_aload_n hx hb dX15_digest__5 rfl (lv_at hl 1 rfl) ?_
  refine lv_aload_n hx hb dX15_digest__6 rfl (lv_at hl 1 rfl) ?_
  refine pg_get (ci := 15) (v := .ref ta) (C := RX15) (T := TX15) (N := 59) hx hb hts it_15 hown hK hP hL_h0 hq_50 rfl 0 (by decide) (hts _ kt_1065) (fun _ h9 => h9) rfl dX15_digest__7 ?_
  refine lv_iload_n hx hb dX15_digest__10 rfl (lv_at hl 0 rfl) ?_
  refine lv_aload_n hx hb dX15_digest__11 rfl (lv_at hl 1 rfl) ?_
  refine pg_get (ci := 15) (v := .ref xa) (C := RX15) (T := TX15) (N := 59) hx hb hts it_15 hown hK hP hL_h0 hq_50 rfl 44 (by decide) (hts _ kt_940) (fun _ h9 => h9) rfl dX15_digest__12 ?_
  obtain ⟨hi_78, ht_79⟩ := hW.f_ta hL_h0 hT_h0
  obtain ⟨hq_80, hq_81⟩ := hW.octs hi_78 ht_79
  obtain ⟨hi_82, ht_83⟩ := hW.f_xa hL_h0 hT_h0
  obtain ⟨hq_84, hq_85⟩ := hW.octs hi_82 ht_83
  have hFc := pg_free hD hS hA
  refine va_callv (va_runV (As := [.ref ta, .int (nI zt), .ref xa]) (rest := []) ⟨hx, hb, hml, hown, hts⟩ (s_X15_digest l dC dI cs ty gm L H.size F_49 h0 ρ ta ou so ad na va lc dm tg pe ml bg co sp nb0 nb1 nb2 pl se ke wi hs mo po nu pr sq xa sa n64 m64 ex wh sd tk hd ak ho ot sx s0 s1 s2 nf bd mm ze 0 ta (ρ + 1) 3000 xa (ρ + 19) 32 zt hW hL_h0 hT_h0 hi_78 ht_79 hi_82 ht_83 (by first | omega | assumption) (by first | omega | assumption)) ⟨callB_of 3 hts (gi kt_1012) rfl rfl rfl (hts _ kt_659) (hts _ kt_1013) (by decide +kernel) ⟨Nat.le_of_ble_eq_true rfl, Nat.le_of_ble_eq_true rfl⟩, (hts _ kt_1014), (hts _ kt_1015)⟩ ⟨fun a U g mk q => ⟨q.1, PTm.calling q.2⟩, pg_recv hK hP hL_h0 hq_50 (q := (RX15, TX15, 59)) rfl, fun U hU hWm => ⟨rfl, PTm.mk hU hWm hP hK hD hE hO⟩⟩ rfl rfl hl.1 rfl (lv_room (Nat.le_of_ble_eq_true rfl)) dX15_digest__15 ⟨by show _ + 0 ≤ 0; omega, by show _ + 0 ≤ 0; omega⟩) hS (fun q _ h => hFc q h) hFc (fun u t H1 locs ht hvm hw hB hz1 hk1 hS => ?_)
  obtain ⟨F_87, hB1⟩ := hB
  obtain ⟨hP, hD, hO, hR⟩ := QTm.back hB1 ht hFc hR (fun q h => by simp only [List.mem_cons, List.not_mem_nil, or_false] at h ⊢; omega)
  have hF_88 : F_87 h0 = .inr (15, (.ref ta) :: (.int 0) :: (.int (nI zo_28)) :: (.int (nI ze)) :: (.ref ou) :: (.ref so) :: (.ref ad) :: (.ref na) :: (.ref va) :: (.ref lc) :: (.ref dm) :: (.int v11_29) :: (.int v12_30) :: (.ref tg) :: (.int v14_31) :: (.int v15_32) :: (.ref pe) :: (.int v17_33) :: (.int v18_34) :: (.int v19_35) :: (.int v20_36) :: (.int v21_37) :: (.int v22_38) :: (.ref ml) :: (.ref bg) :: (.ref co) :: (.ref sp) :: (.ref nb0) :: (.ref nb1) :: (.ref nb2) :: (.int (nI nf)) :: (.int (nI bd)) :: (.int (nI mm)) :: (.int v33_39) :: (.ref pl) :: (.ref se) :: (.ref ke) :: (.ref wi) :: (.ref hs) :: (.ref mo) :: (.ref po) :: (.ref nu) :: (.ref pr) :: (.ref sq) :: (.ref xa) :: (.ref sa) :: (.ref n64) :: (.ref m64) :: (.ref ex) :: (.ref wh) :: (.ref sd) :: (.ref tk) :: (.int v52_40) :: (.int v53_41) :: (.int v54_42) :: (.ref hd) :: (.ref ak) :: (.ref ho) :: (.ref ot) :: []) := (hB1.2.2.2 h0 (by rw [hT_h0]; simp)).trans hq_50
  generalize H1 = H at hP hS ⊢
  refine lv_aload_n hx hb dX15_digest__18 rfl (lv_at hl 1 rfl) ?_
  refine pg_get (ci := 15) (v := .ref xa) (C := RX15) (T := TX15) (N := 59) hx hb hts it_15 hown hK hP hL_h0 hF_88 rfl 44 (by decide) (hts _ kt_940) (fun _ h9 => h9) rfl dX15_digest__19 ?_
  refine lv_iconst (v := 0) hx hb dX15_digest__22 (by decide) ?_
  refine lv_aload_n hx hb dX15_digest__23 rfl (lv_at hl 1 rfl) ?_
  refine pg_get (ci := 15) (v := .ref ou) (C := RX15) (T := TX15) (N := 59) hx hb hts it_15 hown hK hP hL_h0 hF_88 rfl 4 (by decide) (hts _ kt_912) (fun _ h9 => h9) rfl dX15_digest__24 ?_
  refine lv_iconst (v := 0) hx hb dX15_digest__27 (by decide) ?_
  refine lv_bipush (v := 32) hx hb dX15_digest__28 (by decide) ?_
  obtain ⟨f_89, hF_90, hq_91⟩ := hO.octs hi_82 ht_83
  obtain ⟨hi_92, ht_93⟩ := hW.f_ou hL_h0 hT_h0
  obtain ⟨hq_94, hq_95⟩ := hW.octs hi_92 ht_93
  obtain ⟨f_96, hF_97, hq_98⟩ := hO.octs hi_92 ht_93
  refine pg_copyi hx hb (by rw [hml]; exact hl.1.symm) hown (hts _ kt_913) (hts _ kt_29) (hts _ kt_30) (hts _ kt_31) hK hP hD hS hi_82 hi_92 1 1 hF_90 hF_97 rfl rfl rfl (by decide) (by decide) (by decide) (by decide) (by decide) (fun _ _ => hq_91 _) (Nat.le_of_ble_eq_true rfl) (by decide) dX15_digest__30 (fun H locs hP hD hS => ?_)
  obtain ⟨F_99, he_100, hP, hD, hO, hR⟩ : ∃ G, G = va_up F_87 ou (.inl (cs 17, 6000, .inl (va_cpy f_89 f_96 (0 : Int32).toNatClampNeg (0 : Int32).toNatClampNeg (32 : Int32).toNatClampNeg))) ∧ va_P (dC, dI) vwCl (va_pl L G) H ∧ va_D A (va_pl L G) ∧ OKm cs ty gm L G ∧ FR ty [ρ, ρ + 2, ρ + 17, ρ + 19] F G := ⟨_, rfl, hP, hD, hO.up (shm.octs ht_93 ⟨_, rfl, bfm_cpy hq_91 hq_98 _ _ _⟩), hR.up ht_93 (by simp)⟩
  have hF_101 : F_99 ou = .inl (cs 17, 6000, .inl (va_cpy f_89 f_96 (0 : Int32).toNatClampNeg (0 : Int32).toNatClampNeg (32 : Int32).toNatClampNeg)) := by rw [he_100]; exact up_self
  have hF_102 : F_99 h0 = .inr (15, (.ref ta) :: (.int 0) :: (.int (nI zo_28)) :: (.int (nI ze)) :: (.ref ou) :: (.ref so) :: (.ref ad) :: (.ref na) :: (.ref va) :: (.ref lc) :: (.ref dm) :: (.int v11_29) :: (.int v12_30) :: (.ref tg) :: (.int v14_31) :: (.int v15_32) :: (.ref pe) :: (.int v17_33) :: (.int v18_34) :: (.int v19_35) :: (.int v20_36) :: (.int v21_37) :: (.int v22_38) :: (.ref ml) :: (.ref bg) :: (.ref co) :: (.ref sp) :: (.ref nb0) :: (.ref nb1) :: (.ref nb2) :: (.int (nI nf)) :: (.int (nI bd)) :: (.int (nI mm)) :: (.int v33_39) :: (.ref pl) :: (.ref se) :: (.ref ke) :: (.ref wi) :: (.ref hs) :: (.ref mo) :: (.ref po) :: (.ref nu) :: (.ref pr) :: (.ref sq) :: (.ref xa) :: (.ref sa) :: (.ref n64) :: (.ref m64) :: (.ref ex) :: (.ref wh) :: (.ref sd) :: (.ref tk) :: (.int v52_40) :: (.int v53_41) :: (.int v54_42) :: (.ref hd) :: (.ref ak) :: (.ref ho) :: (.ref ot) :: []) := by rw [he_100, up_ne (ne_ty hT_h0 ht_93 (by simp))]; exact hF_88
  have hF_103 : F_99 xa = .inl (cs 17, 32, .inl f_89) := by rw [he_100, up_ne (ne_ty2 ht_83 ht_93 (by simp))]; exact hF_90
  obtain ⟨f_104, hF_101, hq_105⟩ : ∃ f : Nat → Int32, F_99 ou = .inl (cs 17, 6000, .inl f) ∧ BFm f := ⟨_, hF_101, bfm_cpy hq_91 hq_98 _ _ _⟩
  refine lv_aload_n hx hb dX15_digest__33 rfl (lv_at hl 1 rfl) ?_
  refine lv_bipush (v := 32) hx hb dX15_digest__34 (by decide) ?_
  refine pg_put (ci := 15) (v := .int 32) (ty := .int) (C := RX15) (T := TX15) (N := 59) hx hb hts it_15 tyX15 tyX15_ok nmX15 hown hK hP hD hS hL_h0 hF_102 rfl 2 (by decide) (hts _ kt_914) (fun _ h9 => h9) rfl (by decide +kernel) (rfl) (rfl) (Nat.le_of_ble_eq_true rfl) dX15_digest__36 (fun H locs hP hD hS => ?_)
  obtain ⟨F_106, he_107, hP, hD, hO, hR⟩ : ∃ G, G = va_up F_99 h0 (.inr (15, (.ref ta) :: (.int 0) :: (.int 32) :: (.int (nI ze)) :: (.ref ou) :: (.ref so) :: (.ref ad) :: (.ref na) :: (.ref va) :: (.ref lc) :: (.ref dm) :: (.int v11_29) :: (.int v12_30) :: (.ref tg) :: (.int v14_31) :: (.int v15_32) :: (.ref pe) :: (.int v17_33) :: (.int v18_34) :: (.int v19_35) :: (.int v20_36) :: (.int v21_37) :: (.int v22_38) :: (.ref ml) :: (.ref bg) :: (.ref co) :: (.ref sp) :: (.ref nb0) :: (.ref nb1) :: (.ref nb2) :: (.int (nI nf)) :: (.int (nI bd)) :: (.int (nI mm)) :: (.int v33_39) :: (.ref pl) :: (.ref se) :: (.ref ke) :: (.ref wi) :: (.ref hs) :: (.ref mo) :: (.ref po) :: (.ref nu) :: (.ref pr) :: (.ref sq) :: (.ref xa) :: (.ref sa) :: (.ref n64) :: (.ref m64) :: (.ref ex) :: (.ref wh) :: (.ref sd) :: (.ref tk) :: (.int v52_40) :: (.int v53_41) :: (.int v54_42) :: (.ref hd) :: (.ref ak) :: (.ref ho) :: (.ref ot) :: [])) ∧ va_P (dC, dI) vwCl (va_pl L G) H ∧ va_D A (va_pl L G) ∧ OKm cs ty gm L G ∧ FR ty [ρ, ρ + 2, ρ + 17, ρ + 19] F G := ⟨_, rfl, hP, hD, hO.up (shm.mod hT_h0 ⟨32, v11_29, v12_30, v14_31, v15_32, v17_33, v18_34, v19_35, v20_36, v21_37, v22_38, v33_39, v52_40, v53_41, v54_42, rfl, (by first | omega | assumption | exact Or.inl rfl | exact Or.inr rfl), (by first | omega | assumption | exact Or.inl rfl | exact Or.inr rfl), (by first | omega | assumption | exact Or.inl rfl | exact Or.inr rfl), (by first | omega | assumption | exact Or.inl rfl | exact Or.inr rfl)⟩), hR.up hT_h0 (by simp)⟩
  have hF_108 : F_106 h0 = .inr (15, (.ref ta) :: (.int 0) :: (.int 32) :: (.int (nI ze)) :: (.ref ou) :: (.ref so) :: (.ref ad) :: (.ref na) :: (.ref va) :: (.ref lc) :: (.ref dm) :: (.int v11_29) :: (.int v12_30) :: (.ref tg) :: (.int v14_31) :: (.int v15_32) :: (.ref pe) :: (.int v17_33) :: (.int v18_34) :: (.int v19_35) :: (.int v20_36) :: (.int v21_37) :: (.int v22_38) :: (.ref ml) :: (.ref bg) :: (.ref co) :: (.ref sp) :: (.ref nb0) :: (.ref nb1) :: (.ref nb2) :: (.int (nI nf)) :: (.int (nI bd)) :: (.int (nI mm)) :: (.int v33_39) :: (.ref pl) :: (.ref se) :: (.ref ke) :: (.ref wi) :: (.ref hs) :: (.ref mo) :: (.ref po) :: (.ref nu) :: (.ref pr) :: (.ref sq) :: (.ref xa) :: (.ref sa) :: (.ref n64) :: (.ref m64) :: (.ref ex) :: (.ref wh) :: (.ref sd) :: (.ref tk) :: (.int v52_40) :: (.int v53_41) :: (.int v54_42) :: (.ref hd) :: (.ref ak) :: (.ref ho) :: (.ref ot) :: []) := by rw [he_107]; exact up_self
  have hF_109 : F_106 ou = .inl (cs 17, 6000, .inl f_104) := by rw [he_107, up_ne (ne_ty ht_93 hT_h0 (by simp))]; exact hF_101
  have hF_110 : F_106 xa = .inl (cs 17, 32, .inl f_89) := by rw [he_107, up_ne (ne_ty ht_83 hT_h0 (by simp))]; exact hF_103
  refine lv_bipush (v := 32) hx hb dX15_digest__39 (by decide) ?_
  refine W.widen (k := 0) (n := 0) (by omega) (by omega) ?_
  exact W.iret (v := 32) hx hb hr (fun t ht hWm => ⟨⟨32, (), rfl, rfl, ⟨F_106, ty, hty, QTm.mk ht hP hD hO hR, hW⟩⟩, hS.F ht⟩) hS.2.2 dX15_digest__41
set_option maxHeartbeats 4000000 in
set_option maxRecDepth 100000 in
theorem s_X15_octet (l : Launch) (dC : Nat → ClassId) (dI : Nat → Nat → Nat) (cs : Nat → ClassId) (ty : TyM) (gm : Nat → Nat → Nat) (L : List Nat) (sz : Nat) (F : Nat → va_E) (h0 : Nat) (ρ : Nat) (ta : Nat) (ou : Nat) (so : Nat) (ad : Nat) (na : Nat) (va : Nat) (lc : Nat) (dm : Nat) (tg : Nat) (pe : Nat) (ml : Nat) (bg : Nat) (co : Nat) (sp : Nat) (nb0 : Nat) (nb1 : Nat) (nb2 : Nat) (pl : Nat) (se : Nat) (ke : Nat) (wi : Nat) (hs : Nat) (mo : Nat) (po : Nat) (nu : Nat) (pr : Nat) (sq : Nat) (xa : Nat) (sa : Nat) (n64 : Nat) (m64 : Nat) (ex : Nat) (wh : Nat) (sd : Nat) (tk : Nat) (hd : Nat) (ak : Nat) (ho : Nat) (ot : Nat) (sx : Nat) (s0 : Nat) (s1 : Nat) (s2 : Nat) (nf : Nat) (bd : Nat) (mm : Nat) (ze : Nat) (zt : Nat) (x1 : Int32) (hW : WTm ty gm L) (hL_h0 : h0 ∈ L) (hT_h0 : ty h0 = (15, ρ, [ta, ou, so, ad, na, va, lc, dm, tg, pe, ml, bg, co, sp, nb0, nb1, nb2, pl, se, ke, wi, hs, mo, po, nu, pr, sq, xa, sa, n64, m64, ex, wh, sd, tk, hd, ak, ho, ot, sx, s0, s1, s2, nf, bd, mm, ze, zt])) : Met l yX15_octet (.code yX15_octet cX15_octet 2 (some .int) :: tb) ({ frames := 1, cells := 0, slots := 0, locals := 25 }) (va_Pc [.ref h0, .int x1] (PTm (dC, dI) cs ty gm L F sz)) (va_Qi (fun (r : Int32) (_ : Unit) => True) (fun _ T9 => ∃ F2 : Nat → va_E, QTm (dC, dI) cs ty gm L [] F F2 (va_A (va_pl L F) sz) T9) (va_A (va_pl L F) sz)) 0 0 (va_A (va_pl L F) sz) := by
  refine Met.ofW (cc := cX15_octet) (maxL := 2) (ret := (some .int)) (by decide) rfl ?_
  intro p e s m args below meth c s₁ B hml hv
  obtain ⟨rfl, hsz, hP, hK, hD0, hE, hO⟩ := hv
  have hx := B.exec
  have hb := B.bytes
  have hr := B.returns
  have hts : ∀ w ∈ tb, w.before _ s = true := fun w h => atoms_spec (ws := .code yX15_octet cX15_octet 2 (some .int) :: tb) B.pre w (List.mem_cons_of_mem _ h)
  have hown : s.vm.findClass RX15 = some m.cls := findClass_of_methodNamed B.named
  have hlocks := B.notSynchronized
  subst hsz
  have hD := hD0.self (sz := s.heap.size)
  generalize hAe : va_A (va_pl L F) s.heap.size = A at hD ⊢
  have hA : ∀ q : Nat, s.heap.size ≤ q → A q := fun q h => by rw [← hAe]; exact Or.inr h
  have hS : va_S A s.heap s.heap [] := va_S.rf
  have hR : FR ty [] F F := FR.refl
  have hl := lv_entry ([.ref h0, .int x1]) (n := 2) (Nat.le_of_ble_eq_true rfl)
  rw [lg_entry_eq]
  generalize (lg_sl ([.ref h0, .int x1]) ++ List.replicate (2 - (lg_sl ([.ref h0, .int x1])).length) Slot.unset).toArray = ls at hl ⊢
  have hl : lv_has ls 2 [(0, .ref h0), (1, .int x1)] := hl
  obtain ⟨hq_23, hq_24, hq_25, hq_26, hq_27, hgO, hgA, hgB⟩ := hW.sc hL_h0 hT_h0
  refine lv_iload_n hx hb dX15_octet_0 rfl (lv_at hl 1 rfl) ?_
  refine lv_i2l (v := x1.toInt64) hx hb dX15_octet_1 rfl ?_
  refine lv_ldc2 (v := (-1)) hx hb hown (hts _ kt_1066) dX15_octet_2 ?_
  refine lv_aload_n hx hb dX15_octet_5 rfl (lv_at hl 0 rfl) ?_
  obtain ⟨zo_28, v11_29, v12_30, v14_31, v15_32, v17_33, v18_34, v19_35, v20_36, v21_37, v22_38, v33_39, v52_40, v53_41, v54_42, hF_43, hq_44, hq_45, hq_46, hq_47⟩ := hO.mod hL_h0 hT_h0
  refine pg_get (ci := 15) (v := .int (nI zo_28)) (C := RX15) (T := TX15) (N := 59) hx hb hts it_15 hown hK hP hL_h0 hF_43 rfl 2 (by decide) (hts _ kt_914) (fun _ h9 => h9) rfl dX15_octet_6 ?_
  refine lv_iconst (v := 1) hx hb dX15_octet_9 (by decide) ?_
  refine lv_isub hx hb dX15_octet_10 ?_
  refine lv_topi (fun x_48 ex_48 => ?_)
  obtain rfl : x_48 = ((nI zo_28) - 1) := ex_48.trans (rfl)
  refine lv_i2l (v := ((nI zo_28) - 1).toInt64) hx hb dX15_octet_11 rfl ?_
  have hFc := pg_free hD hS hA
  refine va_calli (va_runS (As := [.long x1.toInt64, .long (-1), .long (((nI zo_28) - 1).toInt64)]) (rest := []) ⟨hx, hb, hml, hown, hts⟩ (s_X15_in l dC dI cs ty gm L s.heap.size F x1.toInt64 (-1) (((nI zo_28) - 1).toInt64) hW ) ⟨callB_of 3 hts (gi kt_675) rfl rfl rfl (hts _ kt_659) (hts _ kt_695) (by decide +kernel) ⟨Nat.le_of_ble_eq_true rfl, Nat.le_of_ble_eq_true rfl⟩, (hts _ kt_676)⟩ ⟨fun a U g mk q => ⟨q.1, PTm.calling q.2⟩, fun U hU hWm => ⟨rfl, PTm.mk hU hWm hP hK hD hE hO⟩⟩ rfl rfl hl.1 rfl (lv_room (Nat.le_of_ble_eq_true rfl)) dX15_octet_12 ⟨by show _ + 0 ≤ 0; omega, by show _ + 0 ≤ 0; omega⟩) hS (fun q _ h => hFc q h) hFc (fun r_49 u t H1 locs ht hvm hw hB hz1 hk1 hS => ?_)
  obtain ⟨F_50, hB1⟩ := hB
  obtain rfl : F = F_50 := (funext (fun a => hB1.2.2.2 a List.not_mem_nil)).symm
  obtain ⟨hP, hD, hO, hR⟩ := QTm.back hB1 ht hFc hR (fun q h => absurd h List.not_mem_nil)
  generalize H1 = H at hP hS ⊢
  have hw : r_49 = (if (-1) ≤ x1.toInt64 ∧ x1.toInt64 ≤ ((nI zo_28) - 1).toInt64 then 1 else 0) := hw
  have hw_51 := hw
  refine lv_if_ne (tgt := 21) hx hb dX15_octet_15 (by decide) (fun c_52 => ?_) (fun c_52 => ?_)
  ·
    refine lv_iload_n hx hb dX15_octet_21 rfl (lv_at hl 1 rfl) ?_
    refine lv_if_ge (tgt := 32) hx hb dX15_octet_22 (by decide) (fun c_53 => ?_) (fun c_53 => ?_)
    ·
      have hin := in_int hw_51 c_52
      rw [Int32.toInt_toInt64, show (1 : Int32) = nI 1 from rfl, pk_sub_toInt (by omega) (by omega)] at hin
      obtain ⟨k, hk, rfl⟩ := nI_of (Int32.not_lt.mpr c_53)
      rw [nI_toInt hk] at hin
      refine lv_aload_n hx hb dX15_octet_32 rfl (lv_at hl 0 rfl) ?_
      refine pg_get (ci := 15) (v := .ref ou) (C := RX15) (T := TX15) (N := 59) hx hb hts it_15 hown hK hP hL_h0 hF_43 rfl 4 (by decide) (hts _ kt_912) (fun _ h9 => h9) rfl dX15_octet_33 ?_
      refine lv_iload_n hx hb dX15_octet_36 rfl (lv_at hl 1 rfl) ?_
      obtain ⟨hi_54, ht_55⟩ := hW.f_ou hL_h0 hT_h0
      obtain ⟨hq_56, hq_57⟩ := hW.octs hi_54 ht_55
      obtain ⟨f_58, hF_59, hq_60⟩ := hO.octs hi_54 ht_55
      refine pg_bald hx hb hK hP hi_54 1 hF_59 rfl (vp_in_nI (by omega) (by omega)) dX15_octet_37 ?_
      refine lv_topi (fun x_61 ex_61 => ?_)
      obtain rfl : x_61 = f_58 k := ex_61.trans (congrArg f_58 (show ((nI k) : Int32).toNatClampNeg = k from nI_clamp (by omega)))
      refine lv_sipush (v := 255) hx hb dX15_octet_38 (by decide) ?_
      refine lv_iand hx hb dX15_octet_41 ?_
      refine lv_topi (fun x_62 _ => ?_)
      refine W.widen (k := 0) (n := 0) (by omega) (by omega) ?_
      exact W.iret (v := x_62) hx hb hr (fun t ht hWm => ⟨⟨x_62, (), rfl, trivial, ⟨F, QTm.mk ht hP hD hO hR⟩⟩, hS.F ht⟩) hS.2.2 dX15_octet_42
    ·
      refine lv_aload_n hx hb dX15_octet_25 rfl (lv_at hl 0 rfl) ?_
      refine pg_get (ci := 15) (v := .int (nI zo_28)) (C := RX15) (T := TX15) (N := 59) hx hb hts it_15 hown hK hP hL_h0 hF_43 rfl 2 (by decide) (hts _ kt_914) (fun _ h9 => h9) rfl dX15_octet_26 ?_
      refine lv_goto (tgt := 42) hx hb dX15_octet_29 (by decide) ?_
      refine W.widen (k := 0) (n := 0) (by omega) (by omega) ?_
      exact W.iret (v := (nI zo_28)) hx hb hr (fun t ht hWm => ⟨⟨(nI zo_28), (), rfl, trivial, ⟨F, QTm.mk ht hP hD hO hR⟩⟩, hS.F ht⟩) hS.2.2 dX15_octet_42
  ·
    refine lv_bipush (v := (-2)) hx hb dX15_octet_18 (by decide) ?_
    refine W.widen (k := 0) (n := 0) (by omega) (by omega) ?_
    exact W.iret (v := (-2)) hx hb hr (fun t ht hWm => ⟨⟨(-2), (), rfl, trivial, ⟨F, QTm.mk ht hP hD hO hR⟩⟩, hS.F ht⟩) hS.2.2 dX15_octet_20
set_option maxHeartbeats 4000000 in
set_option maxRecDepth 100000 in
theorem s_X15_sender (l : Launch) (dC : Nat → ClassId) (dI : Nat → Nat → Nat) (cs : Nat → ClassId) (ty : TyM) (gm : Nat → Nat → Nat) (L : List Nat) (sz : Nat) (F : Nat → va_E) (h0 : Nat) (ρ : Nat) (ta : Nat) (ou : Nat) (so : Nat) (ad : Nat) (na : Nat) (va : Nat) (lc : Nat) (dm : Nat) (tg : Nat) (pe : Nat) (ml : Nat) (bg : Nat) (co : Nat) (sp : Nat) (nb0 : Nat) (nb1 : Nat) (nb2 : Nat) (pl : Nat) (se : Nat) (ke : Nat) (wi : Nat) (hs : Nat) (mo : Nat) (po : Nat) (nu : Nat) (pr : Nat) (sq : Nat) (xa : Nat) (sa : Nat) (n64 : Nat) (m64 : Nat) (ex : Nat) (wh : Nat) (sd : Nat) (tk : Nat) (hd : Nat) (ak : Nat) (ho : Nat) (ot : Nat) (sx : Nat) (s0 : Nat) (s1 : Nat) (s2 : Nat) (nf : Nat) (bd : Nat) (mm : Nat) (ze : Nat) (zt : Nat) (x1 : Int32) (hW : WTm ty gm L) (hL_h0 : h0 ∈ L) (hT_h0 : ty h0 = (15, ρ, [ta, ou, so, ad, na, va, lc, dm, tg, pe, ml, bg, co, sp, nb0, nb1, nb2, pl, se, ke, wi, hs, mo, po, nu, pr, sq, xa, sa, n64, m64, ex, wh, sd, tk, hd, ak, ho, ot, sx, s0, s1, s2, nf, bd, mm, ze, zt])) : Met l yX15_sender (.code yX15_sender cX15_sender 6 (some .int) :: tb) ({ frames := 3, cells := 0, slots := 0, locals := 94 }) (va_Pc [.ref h0, .int x1] (PTm (dC, dI) cs ty gm L F sz)) (va_Qi (fun (r : Int32) (_ : Unit) => True) (fun _ T9 => ∃ F2 : Nat → va_E, ∃ ty2 : TyM, ty2 = rtf ty h0 (15, ρ, [ta, ou, so, ad, na, va, lc, dm, tg, pe, ml, bg, co, sp, nb0, nb1, nb2, pl, se, ke, wi, hs, mo, po, nu, pr, sq, xa, sa, n64, m64, ex, wh, sd, tk, hd, ak, ho, ot, sx, s0, s1, s2, nf, bd, mm, ze, 0]) ∧ QTm (dC, dI) cs ty2 gm L [ρ, ρ + 5] F F2 (va_A (va_pl L F) sz) T9 ∧ WTm ty2 gm L) (va_A (va_pl L F) sz)) 0 0 (va_A (va_pl L F) sz) := by
  refine Met.ofW (cc := cX15_sender) (maxL := 6) (ret := (some .int)) (by decide) rfl ?_
  intro p e s m args below meth c s₁ B hml hv
  obtain ⟨rfl, hsz, hP, hK, hD0, hE, hO⟩ := hv
  have hx := B.exec
  have hb := B.bytes
  have hr := B.returns
  have hts : ∀ w ∈ tb, w.before _ s = true := fun w h => atoms_spec (ws := .code yX15_sender cX15_sender 6 (some .int) :: tb) B.pre w (List.mem_cons_of_mem _ h)
  have hown : s.vm.findClass RX15 = some m.cls := findClass_of_methodNamed B.named
  have hlocks := B.notSynchronized
  subst hsz
  have hD := hD0.self (sz := s.heap.size)
  generalize hAe : va_A (va_pl L F) s.heap.size = A at hD ⊢
  have hA : ∀ q : Nat, s.heap.size ≤ q → A q := fun q h => by rw [← hAe]; exact Or.inr h
  have hS : va_S A s.heap s.heap [] := va_S.rf
  have hR : FR ty [ρ, ρ + 5] F F := FR.refl
  have hl := lv_entry ([.ref h0, .int x1]) (n := 6) (Nat.le_of_ble_eq_true rfl)
  rw [lg_entry_eq]
  generalize (lg_sl ([.ref h0, .int x1]) ++ List.replicate (6 - (lg_sl ([.ref h0, .int x1])).length) Slot.unset).toArray = ls at hl ⊢
  have hl : lv_has ls 6 [(0, .ref h0), (1, .int x1)] := hl
  obtain ⟨hq_23, hq_24, hq_25, hq_26, hq_27, hgO, hgA, hgB⟩ := hW.sc hL_h0 hT_h0
  refine lv_aload_n hx hb dX15_sender_0 rfl (lv_at hl 0 rfl) ?_
  obtain ⟨zo_28, v11_29, v12_30, v14_31, v15_32, v17_33, v18_34, v19_35, v20_36, v21_37, v22_38, v33_39, v52_40, v53_41, v54_42, hF_43, hq_44, hq_45, hq_46, hq_47⟩ := hO.mod hL_h0 hT_h0
  have hFc := pg_free hD hS hA
  refine va_calli (va_runV (As := []) (rest := []) ⟨hx, hb, hml, hown, hts⟩ (s_X15_used l dC dI cs ty gm L s.heap.size F h0 ρ ta ou so ad na va lc dm tg pe ml bg co sp nb0 nb1 nb2 pl se ke wi hs mo po nu pr sq xa sa n64 m64 ex wh sd tk hd ak ho ot sx s0 s1 s2 nf bd mm ze zt zo_28 v11_29 v12_30 v14_31 v15_32 v17_33 v18_34 v19_35 v20_36 v21_37 v22_38 v33_39 v52_40 v53_41 v54_42 hW hL_h0 hT_h0 hF_43 (by first | omega | assumption) (by first | omega | assumption) (by first | omega | assumption) (by first | omega | assumption)) ⟨callB_of 0 hts (gi kt_1061) rfl rfl rfl (hts _ kt_659) (hts _ kt_1062) (by decide +kernel) ⟨Nat.le_of_ble_eq_true rfl, Nat.le_of_ble_eq_true rfl⟩, (hts _ kt_1063), (hts _ kt_1064)⟩ ⟨fun a U g mk q => ⟨q.1, PTm.calling q.2⟩, pg_recv hK hP hL_h0 hF_43 (q := (RX15, TX15, 59)) rfl, fun U hU hWm => ⟨rfl, PTm.mk hU hWm hP hK hD hE hO⟩⟩ rfl rfl hl.1 rfl (lv_room (Nat.le_of_ble_eq_true rfl)) dX15_sender_1 ⟨by show _ + 0 ≤ 0; omega, by show _ + 0 ≤ 0; omega⟩) hS (fun q _ h => hFc q h) hFc (fun r_48 u t H1 locs ht hvm hw hB hz1 hk1 hS => ?_)
  obtain ⟨F_49, ty9, hty9, hB1, hW9, hq_50⟩ := hB
  subst hty9
  have hR9 := FR.retype (im2 := [ta, ou, so, ad, na, va, lc, dm, tg, pe, ml, bg, co, sp, nb0, nb1, nb2, pl, se, ke, wi, hs, mo, po, nu, pr, sq, xa, sa, n64, m64, ex, wh, sd, tk, hd, ak, ho, ot, sx, s0, s1, s2, nf, bd, mm, ze, 0]) hT_h0 hR
  obtain ⟨hP, hD, hO, hR⟩ := QTm.back hB1 ht hFc hR9 (fun q h => by simp only [List.mem_cons, List.not_mem_nil, or_false] at h ⊢; omega)
  obtain ⟨ty, hty, hT_h0, hW, hO, hR⟩ : ∃ t9 : TyM, t9 = rtf ty h0 (15, ρ, [ta, ou, so, ad, na, va, lc, dm, tg, pe, ml, bg, co, sp, nb0, nb1, nb2, pl, se, ke, wi, hs, mo, po, nu, pr, sq, xa, sa, n64, m64, ex, wh, sd, tk, hd, ak, ho, ot, sx, s0, s1, s2, nf, bd, mm, ze, 0]) ∧ t9 h0 = (15, ρ, [ta, ou, so, ad, na, va, lc, dm, tg, pe, ml, bg, co, sp, nb0, nb1, nb2, pl, se, ke, wi, hs, mo, po, nu, pr, sq, xa, sa, n64, m64, ex, wh, sd, tk, hd, ak, ho, ot, sx, s0, s1, s2, nf, bd, mm, ze, 0]) ∧ WTm t9 gm L ∧ OKm cs t9 gm L F_49 ∧ FR t9 [ρ, ρ + 5] F F_49 := ⟨_, rfl, rtf_self, hW9, hO, hR⟩
  generalize H1 = H at hP hS ⊢
  have hw : r_48 = nI zt := hw
  subst hw
  obtain ⟨hq_73, hq_74, hq_75, hq_76, hq_77, hgO, hgA, hgB⟩ := hW.sc hL_h0 hT_h0
  refine lv_istore_n (lv' := [(2, .int (nI zt)), (0, .ref h0), (1, .int x1)]) hx hb dX15_sender_4 rfl hl (by decide) rfl (fun ls hl => ?_)
  refine lv_iconst (v := 0) hx hb dX15_sender_5 (by decide) ?_
  refine lv_istore_n (lv' := [(3, .int 0), (2, .int (nI zt)), (0, .ref h0), (1, .int x1)]) hx hb dX15_sender_6 rfl hl (by decide) rfl (fun ls hl => ?_)
  refine W.widen (k := 0) (n := 0) (by omega) (by omega) ?_
  refine pl_loopm (σ := Nat) A (dC, dI) cs ty gm L [ρ, ρ + 5] F 7 6 (fun j => [(3, .int (nI j)), (2, .int (nI zt)), (0, .ref h0), (1, .int x1)]) (fun j => []) (fun j _ => j ≤ zt) (fun j => zt - j) ?_ 0 F_49 (by omega) hO hR _ _ hP hD hS ls (lv_sub hl [0, 1, 2, 3] rfl)
  rintro j F_78 hv_79 hO hR ih_80 H locs hP hD hS ls hl
  have hl : lv_has ls 6 [(3, .int (nI j)), (2, .int (nI zt)), (0, .ref h0), (1, .int x1)] := hl
  have hv_79 : j ≤ zt := hv_79
  refine W.eq (g2 := F0 m 7 ls []) rfl ?_
  refine lv_iload_n hx hb dX15_sender_7 rfl (lv_at hl 0 rfl) ?_
  refine lv_iload_n hx hb dX15_sender_8 rfl (lv_at hl 1 rfl) ?_
  refine lv_icmp_ge (tgt := 29) hx hb dX15_sender_9 (by decide) (fun c_81 => ?_) (fun c_81 => ?_)
  ·
    have hi_82 : zt ≤ j := leN (N := zt) c_81
    refine lv_iload_n hx hb dX15_sender_29 rfl (lv_at hl 0 rfl) ?_
    refine lv_iload_n hx hb dX15_sender_30 rfl (lv_at hl 1 rfl) ?_
    refine lv_icmp_eq (tgt := 60) hx hb dX15_sender_31 (by decide) (fun c_83 => ?_) (fun c_83 => ?_)
    ·
      have hi_84 : j = zt := (nI_eq (a := j) (b := zt) (by omega) (by omega)).mp c_83
      refine lv_iconst (v := (-1)) hx hb dX15_sender_60 (by decide) ?_
      refine W.widen (k := 0) (n := 0) (by omega) (by omega) ?_
      exact W.iret (v := (-1)) hx hb hr (fun t ht hWm => ⟨⟨(-1), (), rfl, trivial, ⟨F_78, ty, hty, QTm.mk ht hP hD hO hR, hW⟩⟩, hS.F ht⟩) hS.2.2 dX15_sender_61
    ·
      have hi_85 : j ≠ zt := fun q => c_83 (by rw [q])
      refine lv_iload_n hx hb dX15_sender_34 rfl (lv_at hl 0 rfl) ?_
      refine lv_i2l (v := (nI j).toInt64) hx hb dX15_sender_35 rfl ?_
      refine lv_lconst (v := 1) hx hb dX15_sender_36 (by decide) ?_
      refine lv_ldc2 (v := 30) hx hb hown (hts _ kt_1067) dX15_sender_37 ?_
      have hFc := pg_free hD hS hA
      refine va_calli (va_runS (As := [.long ((nI j).toInt64), .long 1, .long 30]) (rest := []) ⟨hx, hb, hml, hown, hts⟩ (s_X15_in l dC dI cs ty gm L H.size F_78 ((nI j).toInt64) 1 30 hW ) ⟨callB_of 3 hts (gi kt_675) rfl rfl rfl (hts _ kt_659) (hts _ kt_695) (by decide +kernel) ⟨Nat.le_of_ble_eq_true rfl, Nat.le_of_ble_eq_true rfl⟩, (hts _ kt_676)⟩ ⟨fun a U g mk q => ⟨q.1, PTm.calling q.2⟩, fun U hU hWm => ⟨rfl, PTm.mk hU hWm hP hK hD hE hO⟩⟩ rfl rfl hl.1 rfl (lv_room (Nat.le_of_ble_eq_true rfl)) dX15_sender_40 ⟨by show _ + 0 ≤ 0; omega, by show _ + 0 ≤ 0; omega⟩) hS (fun q _ h => hFc q h) hFc (fun r_86 u t H1 locs ht hvm hw hB hz1 hk1 hS => ?_)
      obtain ⟨F_87, hB1⟩ := hB
      obtain rfl : F_78 = F_87 := (funext (fun a => hB1.2.2.2 a List.not_mem_nil)).symm
      obtain ⟨hP, hD, hO, hR⟩ := QTm.back hB1 ht hFc hR (fun q h => absurd h List.not_mem_nil)
      generalize H1 = H at hP hS ⊢
      have hw : r_86 = (if 1 ≤ (nI j).toInt64 ∧ (nI j).toInt64 ≤ 30 then 1 else 0) := hw
      have hw_88 := hw
      refine lv_if_eq (tgt := 60) hx hb dX15_sender_43 (by decide) (fun c_89 => ?_) (fun c_89 => ?_)
      ·
        refine lv_iconst (v := (-1)) hx hb dX15_sender_60 (by decide) ?_
        refine W.widen (k := 0) (n := 0) (by omega) (by omega) ?_
        exact W.iret (v := (-1)) hx hb hr (fun t ht hWm => ⟨⟨(-1), (), rfl, trivial, ⟨F_78, ty, hty, QTm.mk ht hP hD hO hR, hW⟩⟩, hS.F ht⟩) hS.2.2 dX15_sender_61
      ·
        have hin := in_nat (lo := 1) (hi := 30) hw_88 c_89 (by decide) (by decide) (by omega)
        refine lv_aload_n hx hb dX15_sender_46 rfl (lv_at hl 2 rfl) ?_
        obtain ⟨zo_90, v11_91, v12_92, v14_93, v15_94, v17_95, v18_96, v19_97, v20_98, v21_99, v22_100, v33_101, v52_102, v53_103, v54_104, hF_105, hq_106, hq_107, hq_108, hq_109⟩ := hO.mod hL_h0 hT_h0
        refine pg_get (ci := 15) (v := .ref ta) (C := RX15) (T := TX15) (N := 59) hx hb hts it_15 hown hK hP hL_h0 hF_105 rfl 0 (by decide) (hts _ kt_1065) (fun _ h9 => h9) rfl dX15_sender_47 ?_
        refine lv_iload_n hx hb dX15_sender_50 rfl (lv_at hl 0 rfl) ?_
        refine lv_iconst (v := 1) hx hb dX15_sender_51 (by decide) ?_
        refine lv_iadd hx hb dX15_sender_52 ?_
        refine lv_topi (fun x_110 ex_110 => ?_)
        obtain rfl : x_110 = (nI (j + 1)) := ex_110.trans (nI_add j 1)
        refine lv_iload_n hx hb dX15_sender_53 rfl (lv_at hl 1 rfl) ?_
        obtain ⟨hi_111, ht_112⟩ := hW.f_ta hL_h0 hT_h0
        obtain ⟨hq_113, hq_114⟩ := hW.octs hi_111 ht_112
        have hFc := pg_free hD hS hA
        refine va_calli (va_runS (As := [.ref ta, .int (nI (j + 1)), .int (nI zt)]) (rest := []) ⟨hx, hb, hml, hown, hts⟩ (s_X14_isName_ l dC dI cs ty gm L H.size F_78 ta (ρ + 1) 3000 (j + 1) zt hW hi_111 ht_112 (by first | omega | assumption) (by first | omega | assumption)) ⟨callB_of 3 hts (gi kt_679) rfl rfl rfl (hts _ kt_666) (hts _ kt_853) (by decide +kernel) ⟨Nat.le_of_ble_eq_true rfl, Nat.le_of_ble_eq_true rfl⟩, (hts _ kt_681)⟩ ⟨fun a U g mk q => ⟨q.1, PTm.calling q.2⟩, fun U hU hWm => ⟨rfl, PTm.mk hU hWm hP hK hD hE hO⟩⟩ rfl rfl hl.1 rfl (lv_room (Nat.le_of_ble_eq_true rfl)) dX15_sender_54 ⟨by show _ + 0 ≤ 0; omega, by show _ + 0 ≤ 0; omega⟩) hS (fun q _ h => hFc q h) hFc (fun r_115 u t H1 locs ht hvm hw hB hz1 hk1 hS => ?_)
        obtain ⟨F_116, hB1⟩ := hB
        obtain rfl : F_78 = F_116 := (funext (fun a => hB1.2.2.2 a List.not_mem_nil)).symm
        obtain ⟨hP, hD, hO, hR⟩ := QTm.back hB1 ht hFc hR (fun q h => absurd h List.not_mem_nil)
        generalize H1 = H at hP hS ⊢
        have hw : (r_115 = 0 ∨ (r_115 = 1 ∧ (j + 1) < zt ∧ zt ≤ j + 61)) := hw
        have hw_117 := hw
        refine lv_if_ne (tgt := 62) hx hb dX15_sender_57 (by decide) (fun c_118 => ?_) (fun c_118 => ?_)
        ·
          have hnm := bit1 hw_117 c_118
          refine lv_iconst (v := 0) hx hb dX15_sender_62 (by decide) ?_
          refine lv_istore (lv' := [(4, .int 0), (3, .int (nI j)), (2, .int (nI zt)), (0, .ref h0), (1, .int x1)]) hx hb dX15_sender_63 hl (by decide) rfl (fun ls hl => ?_)
          refine W.widen (k := 0) (n := 0) (by omega) (by omega) ?_
          refine pl_loopm (σ := Nat) A (dC, dI) cs ty gm L [ρ, ρ + 5] F 65 6 (fun i => [(4, .int (nI i)), (3, .int (nI j)), (2, .int (nI zt)), (0, .ref h0), (1, .int x1)]) (fun i => []) (fun i _ => i ≤ j) (fun i => j - i) ?_ 0 F_78 (by omega) hO hR _ _ hP hD hS ls (lv_sub hl [0, 1, 2, 3, 4] rfl)
          rintro i F_119 hv_120 hO hR ih_121 H locs hP hD hS ls hl
          have hl : lv_has ls 6 [(4, .int (nI i)), (3, .int (nI j)), (2, .int (nI zt)), (0, .ref h0), (1, .int x1)] := hl
          have hv_120 : i ≤ j := hv_120
          refine W.eq (g2 := F0 m 65 ls []) rfl ?_
          refine lv_iload hx hb dX15_sender_65 (lv_at hl 0 rfl) ?_
          refine lv_iload_n hx hb dX15_sender_67 rfl (lv_at hl 1 rfl) ?_
          refine lv_icmp_ge (tgt := 132) hx hb dX15_sender_68 (by decide) (fun c_122 => ?_) (fun c_122 => ?_)
          ·
            have hi_123 : j ≤ i := leN (N := j) c_122
            refine lv_aload_n hx hb dX15_sender_132 rfl (lv_at hl 3 rfl) ?_
            obtain ⟨zo_124, v11_125, v12_126, v14_127, v15_128, v17_129, v18_130, v19_131, v20_132, v21_133, v22_134, v33_135, v52_136, v53_137, v54_138, hF_139, hq_140, hq_141, hq_142, hq_143⟩ := hO.mod hL_h0 hT_h0
            refine pg_get (ci := 15) (v := .ref lc) (C := RX15) (T := TX15) (N := 59) hx hb hts it_15 hown hK hP hL_h0 hF_139 rfl 9 (by decide) (hts _ kt_768) (fun _ h9 => h9) rfl dX15_sender_133 ?_
            refine lv_aload_n hx hb dX15_sender_136 rfl (lv_at hl 3 rfl) ?_
            refine pg_get (ci := 15) (v := .ref ta) (C := RX15) (T := TX15) (N := 59) hx hb hts it_15 hown hK hP hL_h0 hF_139 rfl 0 (by decide) (hts _ kt_1065) (fun _ h9 => h9) rfl dX15_sender_137 ?_
            refine lv_iconst (v := 0) hx hb dX15_sender_140 (by decide) ?_
            refine lv_iload_n hx hb dX15_sender_141 rfl (lv_at hl 1 rfl) ?_
            refine W.eq (g2 := F0 m 142 ls [.int (nI j), .int (nI 0), .ref ta, .ref lc]) rfl ?_
            obtain ⟨hi_144, r_51, ht_145⟩ := hW.f_lc hL_h0 hT_h0
            obtain ⟨hi_146, ht_147, hq_148⟩ := hW.txt hi_144 ht_145
            have hFc := pg_free hD hS hA
            obtain ⟨z_149, hF_150, hq_151⟩ := hO.txt hi_144 ht_145
            refine va_callv (va_runV (As := [.ref ta, .int (nI 0), .int (nI j)]) (rest := []) ⟨hx, hb, hml, hown, hts⟩ (s_X14_set l dC dI cs ty gm L H.size F_119 lc (ρ + 5) r_51 30 ta (ρ + 1) 3000 0 j hW hi_144 ht_145 hi_111 ht_112 (by first | omega | assumption) (by first | omega | assumption) (by first | omega | assumption)) ⟨callB_of 3 hts (gi kt_969) rfl rfl rfl (hts _ kt_666) (hts _ kt_970) (by decide +kernel) ⟨Nat.le_of_ble_eq_true rfl, Nat.le_of_ble_eq_true rfl⟩, (hts _ kt_971), (hts _ kt_972)⟩ ⟨fun a U g mk q => ⟨q.1, PTm.calling q.2⟩, pg_recv hK hP hi_144 hF_150 (q := (RX14, TX14, 2)) rfl, fun U hU hWm => ⟨rfl, PTm.mk hU hWm hP hK hD hE hO⟩⟩ rfl rfl hl.1 rfl (lv_room (Nat.le_of_ble_eq_true rfl)) dX15_sender_142 ⟨by show _ + 0 ≤ 0; omega, by show _ + 0 ≤ 0; omega⟩) hS (fun q _ h => hFc q h) hFc (fun u t H1 locs ht hvm hw hB hz1 hk1 hS => ?_)
            obtain ⟨F_153, hB1, hq_154⟩ := hB
            obtain ⟨hP, hD, hO, hR⟩ := QTm.back hB1 ht hFc hR (fun q h => by simp only [List.mem_cons, List.not_mem_nil, or_false] at h ⊢; omega)
            have hF_155 : F_153 h0 = .inr (15, (.ref ta) :: (.int (nI 0)) :: (.int (nI zo_124)) :: (.int (nI ze)) :: (.ref ou) :: (.ref so) :: (.ref ad) :: (.ref na) :: (.ref va) :: (.ref lc) :: (.ref dm) :: (.int v11_125) :: (.int v12_126) :: (.ref tg) :: (.int v14_127) :: (.int v15_128) :: (.ref pe) :: (.int v17_129) :: (.int v18_130) :: (.int v19_131) :: (.int v20_132) :: (.int v21_133) :: (.int v22_134) :: (.ref ml) :: (.ref bg) :: (.ref co) :: (.ref sp) :: (.ref nb0) :: (.ref nb1) :: (.ref nb2) :: (.int (nI nf)) :: (.int (nI bd)) :: (.int (nI mm)) :: (.int v33_135) :: (.ref pl) :: (.ref se) :: (.ref ke) :: (.ref wi) :: (.ref hs) :: (.ref mo) :: (.ref po) :: (.ref nu) :: (.ref pr) :: (.ref sq) :: (.ref xa) :: (.ref sa) :: (.ref n64) :: (.ref m64) :: (.ref ex) :: (.ref wh) :: (.ref sd) :: (.ref tk) :: (.int v52_136) :: (.int v53_137) :: (.int v54_138) :: (.ref hd) :: (.ref ak) :: (.ref ho) :: (.ref ot) :: []) := (hB1.2.2.2 h0 (by rw [hT_h0]; simp)).trans hF_139
            generalize H1 = H at hP hS ⊢
            refine lv_aload_n hx hb dX15_sender_145 rfl (lv_at hl 3 rfl) ?_
            refine pg_get (ci := 15) (v := .ref dm) (C := RX15) (T := TX15) (N := 59) hx hb hts it_15 hown hK hP hL_h0 hF_155 rfl 10 (by decide) (hts _ kt_767) (fun _ h9 => h9) rfl dX15_sender_146 ?_
            refine lv_aload_n hx hb dX15_sender_149 rfl (lv_at hl 3 rfl) ?_
            refine pg_get (ci := 15) (v := .ref ta) (C := RX15) (T := TX15) (N := 59) hx hb hts it_15 hown hK hP hL_h0 hF_155 rfl 0 (by decide) (hts _ kt_1065) (fun _ h9 => h9) rfl dX15_sender_150 ?_
            refine lv_iload_n hx hb dX15_sender_153 rfl (lv_at hl 1 rfl) ?_
            refine lv_iconst (v := 1) hx hb dX15_sender_154 (by decide) ?_
            refine lv_iadd hx hb dX15_sender_155 ?_
            refine lv_topi (fun x_156 ex_156 => ?_)
            obtain rfl : x_156 = (nI (j + 1)) := ex_156.trans (nI_add j 1)
            refine lv_iload_n hx hb dX15_sender_156 rfl (lv_at hl 2 rfl) ?_
            obtain ⟨hi_157, r_52, ht_158⟩ := hW.f_dm hL_h0 hT_h0
            obtain ⟨hi_159, ht_160, hq_161⟩ := hW.txt hi_157 ht_158
            have hFc := pg_free hD hS hA
            obtain ⟨z_162, hF_163, hq_164⟩ := hO.txt hi_157 ht_158
            refine va_callv (va_runV (As := [.ref ta, .int (nI (j + 1)), .int (nI zt)]) (rest := []) ⟨hx, hb, hml, hown, hts⟩ (s_X14_set l dC dI cs ty gm L H.size F_153 dm (ρ + 5) r_52 60 ta (ρ + 1) 3000 (j + 1) zt hW hi_157 ht_158 hi_111 ht_112 (by first | omega | assumption) (by first | omega | assumption) (by first | omega | assumption)) ⟨callB_of 3 hts (gi kt_969) rfl rfl rfl (hts _ kt_666) (hts _ kt_970) (by decide +kernel) ⟨Nat.le_of_ble_eq_true rfl, Nat.le_of_ble_eq_true rfl⟩, (hts _ kt_971), (hts _ kt_972)⟩ ⟨fun a U g mk q => ⟨q.1, PTm.calling q.2⟩, pg_recv hK hP hi_157 hF_163 (q := (RX14, TX14, 2)) rfl, fun U hU hWm => ⟨rfl, PTm.mk hU hWm hP hK hD hE hO⟩⟩ rfl rfl hl.1 rfl (lv_room (Nat.le_of_ble_eq_true rfl)) dX15_sender_157 ⟨by show _ + 0 ≤ 0; omega, by show _ + 0 ≤ 0; omega⟩) hS (fun q _ h => hFc q h) hFc (fun u t H1 locs ht hvm hw hB hz1 hk1 hS => ?_)
            obtain ⟨F_166, hB1, hq_167⟩ := hB
            obtain ⟨hP, hD, hO, hR⟩ := QTm.back hB1 ht hFc hR (fun q h => by simp only [List.mem_cons, List.not_mem_nil, or_false] at h ⊢; omega)
            have hF_168 : F_166 h0 = .inr (15, (.ref ta) :: (.int (nI 0)) :: (.int (nI zo_124)) :: (.int (nI ze)) :: (.ref ou) :: (.ref so) :: (.ref ad) :: (.ref na) :: (.ref va) :: (.ref lc) :: (.ref dm) :: (.int v11_125) :: (.int v12_126) :: (.ref tg) :: (.int v14_127) :: (.int v15_128) :: (.ref pe) :: (.int v17_129) :: (.int v18_130) :: (.int v19_131) :: (.int v20_132) :: (.int v21_133) :: (.int v22_134) :: (.ref ml) :: (.ref bg) :: (.ref co) :: (.ref sp) :: (.ref nb0) :: (.ref nb1) :: (.ref nb2) :: (.int (nI nf)) :: (.int (nI bd)) :: (.int (nI mm)) :: (.int v33_135) :: (.ref pl) :: (.ref se) :: (.ref ke) :: (.ref wi) :: (.ref hs) :: (.ref mo) :: (.ref po) :: (.ref nu) :: (.ref pr) :: (.ref sq) :: (.ref xa) :: (.ref sa) :: (.ref n64) :: (.ref m64) :: (.ref ex) :: (.ref wh) :: (.ref sd) :: (.ref tk) :: (.int v52_136) :: (.int v53_137) :: (.int v54_138) :: (.ref hd) :: (.ref ak) :: (.ref ho) :: (.ref ot) :: []) := (hB1.2.2.2 h0 (by rw [hT_h0]; simp)).trans hF_155
            generalize H1 = H at hP hS ⊢
            refine lv_aload_n hx hb dX15_sender_160 rfl (lv_at hl 3 rfl) ?_
            refine lv_iload_n hx hb dX15_sender_161 rfl (lv_at hl 4 rfl) ?_
            refine pg_put (ci := 15) (v := .int x1) (ty := .int) (C := RX15) (T := TX15) (N := 59) hx hb hts it_15 tyX15 tyX15_ok nmX15 hown hK hP hD hS hL_h0 hF_168 rfl 11 (by decide) (hts _ kt_719) (fun _ h9 => h9) rfl (by decide +kernel) (rfl) (rfl) (Nat.le_of_ble_eq_true rfl) dX15_sender_162 (fun H locs hP hD hS => ?_)
            obtain ⟨F_169, he_170, hP, hD, hO, hR⟩ : ∃ G, G = va_up F_166 h0 (.inr (15, (.ref ta) :: (.int (nI 0)) :: (.int (nI zo_124)) :: (.int (nI ze)) :: (.ref ou) :: (.ref so) :: (.ref ad) :: (.ref na) :: (.ref va) :: (.ref lc) :: (.ref dm) :: (.int x1) :: (.int v12_126) :: (.ref tg) :: (.int v14_127) :: (.int v15_128) :: (.ref pe) :: (.int v17_129) :: (.int v18_130) :: (.int v19_131) :: (.int v20_132) :: (.int v21_133) :: (.int v22_134) :: (.ref ml) :: (.ref bg) :: (.ref co) :: (.ref sp) :: (.ref nb0) :: (.ref nb1) :: (.ref nb2) :: (.int (nI nf)) :: (.int (nI bd)) :: (.int (nI mm)) :: (.int v33_135) :: (.ref pl) :: (.ref se) :: (.ref ke) :: (.ref wi) :: (.ref hs) :: (.ref mo) :: (.ref po) :: (.ref nu) :: (.ref pr) :: (.ref sq) :: (.ref xa) :: (.ref sa) :: (.ref n64) :: (.ref m64) :: (.ref ex) :: (.ref wh) :: (.ref sd) :: (.ref tk) :: (.int v52_136) :: (.int v53_137) :: (.int v54_138) :: (.ref hd) :: (.ref ak) :: (.ref ho) :: (.ref ot) :: [])) ∧ va_P (dC, dI) vwCl (va_pl L G) H ∧ va_D A (va_pl L G) ∧ OKm cs ty gm L G ∧ FR ty [ρ, ρ + 5] F G := ⟨_, rfl, hP, hD, hO.up (shm.mod hT_h0 ⟨zo_124, x1, v12_126, v14_127, v15_128, v17_129, v18_130, v19_131, v20_132, v21_133, v22_134, v33_135, v52_136, v53_137, v54_138, rfl, (by first | omega | assumption | exact Or.inl rfl | exact Or.inr rfl), (by first | omega | assumption | exact Or.inl rfl | exact Or.inr rfl), (by first | omega | assumption | exact Or.inl rfl | exact Or.inr rfl), (by first | omega | assumption | exact Or.inl rfl | exact Or.inr rfl)⟩), hR.up hT_h0 (by simp)⟩
            have hF_171 : F_169 h0 = .inr (15, (.ref ta) :: (.int (nI 0)) :: (.int (nI zo_124)) :: (.int (nI ze)) :: (.ref ou) :: (.ref so) :: (.ref ad) :: (.ref na) :: (.ref va) :: (.ref lc) :: (.ref dm) :: (.int x1) :: (.int v12_126) :: (.ref tg) :: (.int v14_127) :: (.int v15_128) :: (.ref pe) :: (.int v17_129) :: (.int v18_130) :: (.int v19_131) :: (.int v20_132) :: (.int v21_133) :: (.int v22_134) :: (.ref ml) :: (.ref bg) :: (.ref co) :: (.ref sp) :: (.ref nb0) :: (.ref nb1) :: (.ref nb2) :: (.int (nI nf)) :: (.int (nI bd)) :: (.int (nI mm)) :: (.int v33_135) :: (.ref pl) :: (.ref se) :: (.ref ke) :: (.ref wi) :: (.ref hs) :: (.ref mo) :: (.ref po) :: (.ref nu) :: (.ref pr) :: (.ref sq) :: (.ref xa) :: (.ref sa) :: (.ref n64) :: (.ref m64) :: (.ref ex) :: (.ref wh) :: (.ref sd) :: (.ref tk) :: (.int v52_136) :: (.int v53_137) :: (.int v54_138) :: (.ref hd) :: (.ref ak) :: (.ref ho) :: (.ref ot) :: []) := by rw [he_170]; exact up_self
            have hF_172 : F_169 dm = .inr (14, [.ref r_52, .int (nI (zt - (j + 1)))]) := by rw [he_170, up_ne (ne_ty ht_158 hT_h0 (by simp))]; exact hq_167
            refine lv_aload_n hx hb dX15_sender_165 rfl (lv_at hl 3 rfl) ?_
            refine lv_iconst (v := 1) hx hb dX15_sender_166 (by decide) ?_
            refine pg_put (ci := 15) (v := .int 1) (ty := .boolean) (C := RX15) (T := TX15) (N := 59) hx hb hts it_15 tyX15 tyX15_ok nmX15 hown hK hP hD hS hL_h0 hF_171 rfl 12 (by decide) (hts _ kt_991) (fun _ h9 => h9) rfl (by decide +kernel) (rfl) (rfl) (Nat.le_of_ble_eq_true rfl) dX15_sender_167 (fun H locs hP hD hS => ?_)
            obtain ⟨F_173, he_174, hP, hD, hO, hR⟩ : ∃ G, G = va_up F_169 h0 (.inr (15, (.ref ta) :: (.int (nI 0)) :: (.int (nI zo_124)) :: (.int (nI ze)) :: (.ref ou) :: (.ref so) :: (.ref ad) :: (.ref na) :: (.ref va) :: (.ref lc) :: (.ref dm) :: (.int x1) :: (.int 1) :: (.ref tg) :: (.int v14_127) :: (.int v15_128) :: (.ref pe) :: (.int v17_129) :: (.int v18_130) :: (.int v19_131) :: (.int v20_132) :: (.int v21_133) :: (.int v22_134) :: (.ref ml) :: (.ref bg) :: (.ref co) :: (.ref sp) :: (.ref nb0) :: (.ref nb1) :: (.ref nb2) :: (.int (nI nf)) :: (.int (nI bd)) :: (.int (nI mm)) :: (.int v33_135) :: (.ref pl) :: (.ref se) :: (.ref ke) :: (.ref wi) :: (.ref hs) :: (.ref mo) :: (.ref po) :: (.ref nu) :: (.ref pr) :: (.ref sq) :: (.ref xa) :: (.ref sa) :: (.ref n64) :: (.ref m64) :: (.ref ex) :: (.ref wh) :: (.ref sd) :: (.ref tk) :: (.int v52_136) :: (.int v53_137) :: (.int v54_138) :: (.ref hd) :: (.ref ak) :: (.ref ho) :: (.ref ot) :: [])) ∧ va_P (dC, dI) vwCl (va_pl L G) H ∧ va_D A (va_pl L G) ∧ OKm cs ty gm L G ∧ FR ty [ρ, ρ + 5] F G := ⟨_, rfl, hP, hD, hO.up (shm.mod hT_h0 ⟨zo_124, x1, 1, v14_127, v15_128, v17_129, v18_130, v19_131, v20_132, v21_133, v22_134, v33_135, v52_136, v53_137, v54_138, rfl, (by first | omega | assumption | exact Or.inl rfl | exact Or.inr rfl), (by first | omega | assumption | exact Or.inl rfl | exact Or.inr rfl), (by first | omega | assumption | exact Or.inl rfl | exact Or.inr rfl), (by first | omega | assumption | exact Or.inl rfl | exact Or.inr rfl)⟩), hR.up hT_h0 (by simp)⟩
            have hF_175 : F_173 h0 = .inr (15, (.ref ta) :: (.int (nI 0)) :: (.int (nI zo_124)) :: (.int (nI ze)) :: (.ref ou) :: (.ref so) :: (.ref ad) :: (.ref na) :: (.ref va) :: (.ref lc) :: (.ref dm) :: (.int x1) :: (.int 1) :: (.ref tg) :: (.int v14_127) :: (.int v15_128) :: (.ref pe) :: (.int v17_129) :: (.int v18_130) :: (.int v19_131) :: (.int v20_132) :: (.int v21_133) :: (.int v22_134) :: (.ref ml) :: (.ref bg) :: (.ref co) :: (.ref sp) :: (.ref nb0) :: (.ref nb1) :: (.ref nb2) :: (.int (nI nf)) :: (.int (nI bd)) :: (.int (nI mm)) :: (.int v33_135) :: (.ref pl) :: (.ref se) :: (.ref ke) :: (.ref wi) :: (.ref hs) :: (.ref mo) :: (.ref po) :: (.ref nu) :: (.ref pr) :: (.ref sq) :: (.ref xa) :: (.ref sa) :: (.ref n64) :: (.ref m64) :: (.ref ex) :: (.ref wh) :: (.ref sd) :: (.ref tk) :: (.int v52_136) :: (.int v53_137) :: (.int v54_138) :: (.ref hd) :: (.ref ak) :: (.ref ho) :: (.ref ot) :: []) := by rw [he_174]; exact up_self
            have hF_176 : F_173 dm = .inr (14, [.ref r_52, .int (nI (zt - (j + 1)))]) := by rw [he_174, up_ne (ne_ty ht_158 hT_h0 (by simp))]; exact hF_172
            refine lv_iconst (v := 0) hx hb dX15_sender_170 (by decide) ?_
            refine W.widen (k := 0) (n := 0) (by omega) (by omega) ?_
            exact W.iret (v := 0) hx hb hr (fun t ht hWm => ⟨⟨0, (), rfl, trivial, ⟨F_173, ty, hty, QTm.mk ht hP hD hO hR, hW⟩⟩, hS.F ht⟩) hS.2.2 dX15_sender_171
          ·
            have hi_177 : i < j := ltN (N := j) c_122
            refine lv_aload_n hx hb dX15_sender_71 rfl (lv_at hl 3 rfl) ?_
            obtain ⟨zo_178, v11_179, v12_180, v14_181, v15_182, v17_183, v18_184, v19_185, v20_186, v21_187, v22_188, v33_189, v52_190, v53_191, v54_192, hF_193, hq_194, hq_195, hq_196, hq_197⟩ := hO.mod hL_h0 hT_h0
            refine pg_get (ci := 15) (v := .ref ta) (C := RX15) (T := TX15) (N := 59) hx hb hts it_15 hown hK hP hL_h0 hF_193 rfl 0 (by decide) (hts _ kt_1065) (fun _ h9 => h9) rfl dX15_sender_72 ?_
            refine lv_iload hx hb dX15_sender_75 (lv_at hl 0 rfl) ?_
            obtain ⟨f_198, hF_199, hq_200⟩ := hO.octs hi_111 ht_112
            refine pg_bald hx hb hK hP hi_111 1 hF_199 rfl (vp_in_nI (by omega) (by omega)) dX15_sender_77 ?_
            refine lv_topi (fun x_201 ex_201 => ?_)
            obtain rfl : x_201 = f_198 i := ex_201.trans (congrArg f_198 (show ((nI i) : Int32).toNatClampNeg = i from nI_clamp (by omega)))
            refine lv_istore (lv' := [(5, .int (f_198 i)), (4, .int (nI i)), (3, .int (nI j)), (2, .int (nI zt)), (0, .ref h0), (1, .int x1)]) hx hb dX15_sender_78 hl (by decide) rfl (fun ls hl => ?_)
            have hF_204 : F ta = .inl (cs 17, 3000, .inl f_198) := (hR ta (by rw [ht_112]; simp)).symm.trans hF_199
            refine W.widen (k := 0) (n := 0) (by omega) (by omega) ?_
            refine pl_cutm (σ := Unit) A (dC, dI) cs ty gm L [ρ, ρ + 5] F 126 6 (fun u0 => [(4, .int (nI i)), (3, .int (nI j)), (2, .int (nI zt)), (0, .ref h0), (1, .int x1)]) (fun u0 => []) (fun u0 _ => True) ?_ (fun jn_202 => ?_)
            ·
              rintro u0 F_203 hv_205 hO hR H locs hP hD hS ls hl
              have hl : lv_has ls 6 [(4, .int (nI i)), (3, .int (nI j)), (2, .int (nI zt)), (0, .ref h0), (1, .int x1)] := hl
              have hv_205 : True := hv_205
              refine W.eq (g2 := F0 m 126 ls []) rfl ?_
              have hF_206 : F_203 ta = .inl (cs 17, 3000, .inl f_198) := (hR ta (by rw [ht_112]; simp)).trans hF_204
              refine lv_iinc (v := (nI (i + 1))) (lv' := [(4, .int (nI (i + 1))), (3, .int (nI j)), (2, .int (nI zt)), (0, .ref h0), (1, .int x1)]) hx hb dX15_sender_126 hl (k := 0) rfl (nI_1 _) (by decide) rfl (fun ls hl => ?_)
              refine lv_goto (tgt := 65) hx hb dX15_sender_129 (by decide) ?_
              refine W.widen (k := 0) (n := 0) (by omega) (by omega) ?_
              exact ih_121 (i + 1) F_203 (by first | omega | exact ⟨by omega, by omega⟩ | trivial) (by show j - (i + 1) < j - i; omega) hO hR _ _ hP hD hS ls (lv_sub hl [0, 1, 2, 3, 4] rfl)
            ·
              refine lv_iload hx hb dX15_sender_80 (lv_at hl 0 rfl) ?_
              have hFc := pg_free hD hS hA
              refine va_calli (va_runS (As := [.int (f_198 i)]) (rest := []) ⟨hx, hb, hml, hown, hts⟩ (s_X15_isSmall l dC dI cs ty gm L H.size F_119 (f_198 i) hW ) ⟨callB_of 1 hts (gi kt_658) rfl rfl rfl (hts _ kt_659) (hts _ kt_660) (by decide +kernel) ⟨Nat.le_of_ble_eq_true rfl, Nat.le_of_ble_eq_true rfl⟩, (hts _ kt_661)⟩ ⟨fun a U g mk q => ⟨q.1, PTm.calling q.2⟩, fun U hU hWm => ⟨rfl, PTm.mk hU hWm hP hK hD hE hO⟩⟩ rfl rfl hl.1 rfl (lv_room (Nat.le_of_ble_eq_true rfl)) dX15_sender_82 ⟨by show _ + 0 ≤ 0; omega, by show _ + 0 ≤ 0; omega⟩) hS (fun q _ h => hFc q h) hFc (fun r_207 u t H1 locs ht hvm hw hB hz1 hk1 hS => ?_)
              obtain ⟨F_208, hB1⟩ := hB
              obtain rfl : F_119 = F_208 := (funext (fun a => hB1.2.2.2 a List.not_mem_nil)).symm
              obtain ⟨hP, hD, hO, hR⟩ := QTm.back hB1 ht hFc hR (fun q h => absurd h List.not_mem_nil)
              generalize H1 = H at hP hS ⊢
              have hw : (r_207 = 0 ∨ r_207 = 1) := hw
              have hw_209 := hw
              refine lv_if_ne (tgt := 126) hx hb dX15_sender_85 (by decide) (fun c_210 => ?_) (fun c_210 => ?_)
              ·
                refine W.widen (k := 0) (n := 0) (by omega) (by omega) ?_
                exact jn_202 () F_119 (trivial) hO hR _ _ hP hD hS ls (lv_sub hl [1, 2, 3, 4, 5] rfl)
              ·
                refine lv_iload hx hb dX15_sender_88 (lv_at hl 0 rfl) ?_
                have hFc := pg_free hD hS hA
                refine va_calli (va_runS (As := [.int (f_198 i)]) (rest := []) ⟨hx, hb, hml, hown, hts⟩ (s_X15_isDigit l dC dI cs ty gm L H.size F_119 (f_198 i) hW ) ⟨callB_of 1 hts (gi kt_677) rfl rfl rfl (hts _ kt_659) (hts _ kt_697) (by decide +kernel) ⟨Nat.le_of_ble_eq_true rfl, Nat.le_of_ble_eq_true rfl⟩, (hts _ kt_678)⟩ ⟨fun a U g mk q => ⟨q.1, PTm.calling q.2⟩, fun U hU hWm => ⟨rfl, PTm.mk hU hWm hP hK hD hE hO⟩⟩ rfl rfl hl.1 rfl (lv_room (Nat.le_of_ble_eq_true rfl)) dX15_sender_90 ⟨by show _ + 0 ≤ 0; omega, by show _ + 0 ≤ 0; omega⟩) hS (fun q _ h => hFc q h) hFc (fun r_211 u t H1 locs ht hvm hw hB hz1 hk1 hS => ?_)
                obtain ⟨F_212, hB1⟩ := hB
                obtain rfl : F_119 = F_212 := (funext (fun a => hB1.2.2.2 a List.not_mem_nil)).symm
                obtain ⟨hP, hD, hO, hR⟩ := QTm.back hB1 ht hFc hR (fun q h => absurd h List.not_mem_nil)
                generalize H1 = H at hP hS ⊢
                have hw : (r_211 = 0 ∨ r_211 = 1) := hw
                have hw_213 := hw
                refine lv_if_ne (tgt := 126) hx hb dX15_sender_93 (by decide) (fun c_214 => ?_) (fun c_214 => ?_)
                ·
                  refine W.widen (k := 0) (n := 0) (by omega) (by omega) ?_
                  exact jn_202 () F_119 (trivial) hO hR _ _ hP hD hS ls (lv_sub hl [1, 2, 3, 4, 5] rfl)
                ·
                  refine lv_iload hx hb dX15_sender_96 (lv_at hl 0 rfl) ?_
                  refine lv_bipush (v := 46) hx hb dX15_sender_98 (by decide) ?_
                  refine lv_icmp_eq (tgt := 126) hx hb dX15_sender_100 (by decide) (fun c_215 => ?_) (fun c_215 => ?_)
                  ·
                    refine W.widen (k := 0) (n := 0) (by omega) (by omega) ?_
                    exact jn_202 () F_119 (trivial) hO hR _ _ hP hD hS ls (lv_sub hl [1, 2, 3, 4, 5] rfl)
                  ·
                    refine lv_iload hx hb dX15_sender_103 (lv_at hl 0 rfl) ?_
                    refine lv_bipush (v := 45) hx hb dX15_sender_105 (by decide) ?_
                    refine lv_icmp_eq (tgt := 126) hx hb dX15_sender_107 (by decide) (fun c_216 => ?_) (fun c_216 => ?_)
                    ·
                      refine W.widen (k := 0) (n := 0) (by omega) (by omega) ?_
                      exact jn_202 () F_119 (trivial) hO hR _ _ hP hD hS ls (lv_sub hl [1, 2, 3, 4, 5] rfl)
                    ·
                      refine lv_iload hx hb dX15_sender_110 (lv_at hl 0 rfl) ?_
                      refine lv_bipush (v := 95) hx hb dX15_sender_112 (by decide) ?_
                      refine lv_icmp_eq (tgt := 126) hx hb dX15_sender_114 (by decide) (fun c_217 => ?_) (fun c_217 => ?_)
                      ·
                        refine W.widen (k := 0) (n := 0) (by omega) (by omega) ?_
                        exact jn_202 () F_119 (trivial) hO hR _ _ hP hD hS ls (lv_sub hl [1, 2, 3, 4, 5] rfl)
                      ·
                        refine lv_iload hx hb dX15_sender_117 (lv_at hl 0 rfl) ?_
                        refine lv_bipush (v := 43) hx hb dX15_sender_119 (by decide) ?_
                        refine lv_icmp_eq (tgt := 126) hx hb dX15_sender_121 (by decide) (fun c_218 => ?_) (fun c_218 => ?_)
                        ·
                          refine W.widen (k := 0) (n := 0) (by omega) (by omega) ?_
                          exact jn_202 () F_119 (trivial) hO hR _ _ hP hD hS ls (lv_sub hl [1, 2, 3, 4, 5] rfl)
                        ·
                          refine lv_iconst (v := (-1)) hx hb dX15_sender_124 (by decide) ?_
                          refine W.widen (k := 0) (n := 0) (by omega) (by omega) ?_
                          exact W.iret (v := (-1)) hx hb hr (fun t ht hWm => ⟨⟨(-1), (), rfl, trivial, ⟨F_119, ty, hty, QTm.mk ht hP hD hO hR, hW⟩⟩, hS.F ht⟩) hS.2.2 dX15_sender_125
        ·
          refine lv_iconst (v := (-1)) hx hb dX15_sender_60 (by decide) ?_
          refine W.widen (k := 0) (n := 0) (by omega) (by omega) ?_
          exact W.iret (v := (-1)) hx hb hr (fun t ht hWm => ⟨⟨(-1), (), rfl, trivial, ⟨F_78, ty, hty, QTm.mk ht hP hD hO hR, hW⟩⟩, hS.F ht⟩) hS.2.2 dX15_sender_61
  ·
    have hi_219 : j < zt := ltN (N := zt) c_81
    refine lv_aload_n hx hb dX15_sender_12 rfl (lv_at hl 2 rfl) ?_
    obtain ⟨zo_220, v11_221, v12_222, v14_223, v15_224, v17_225, v18_226, v19_227, v20_228, v21_229, v22_230, v33_231, v52_232, v53_233, v54_234, hF_235, hq_236, hq_237, hq_238, hq_239⟩ := hO.mod hL_h0 hT_h0
    refine pg_get (ci := 15) (v := .ref ta) (C := RX15) (T := TX15) (N := 59) hx hb hts it_15 hown hK hP hL_h0 hF_235 rfl 0 (by decide) (hts _ kt_1065) (fun _ h9 => h9) rfl dX15_sender_13 ?_
    refine lv_iload_n hx hb dX15_sender_16 rfl (lv_at hl 0 rfl) ?_
    obtain ⟨hi_240, ht_241⟩ := hW.f_ta hL_h0 hT_h0
    obtain ⟨hq_242, hq_243⟩ := hW.octs hi_240 ht_241
    obtain ⟨f_244, hF_245, hq_246⟩ := hO.octs hi_240 ht_241
    refine pg_bald hx hb hK hP hi_240 1 hF_245 rfl (vp_in_nI (by omega) (by omega)) dX15_sender_17 ?_
    refine lv_topi (fun x_247 ex_247 => ?_)
    obtain rfl : x_247 = f_244 j := ex_247.trans (congrArg f_244 (show ((nI j) : Int32).toNatClampNeg = j from nI_clamp (by omega)))
    refine lv_bipush (v := 64) hx hb dX15_sender_18 (by decide) ?_
    refine lv_icmp_eq (tgt := 29) hx hb dX15_sender_20 (by decide) (fun c_248 => ?_) (fun c_248 => ?_)
    ·
      refine lv_iload_n hx hb dX15_sender_29 rfl (lv_at hl 0 rfl) ?_
      refine lv_iload_n hx hb dX15_sender_30 rfl (lv_at hl 1 rfl) ?_
      refine lv_icmp_eq (tgt := 60) hx hb dX15_sender_31 (by decide) (fun c_249 => ?_) (fun c_249 => ?_)
      ·
        have hi_250 : j = zt := (nI_eq (a := j) (b := zt) (by omega) (by omega)).mp c_249
        refine lv_iconst (v := (-1)) hx hb dX15_sender_60 (by decide) ?_
        refine W.widen (k := 0) (n := 0) (by omega) (by omega) ?_
        exact W.iret (v := (-1)) hx hb hr (fun t ht hWm => ⟨⟨(-1), (), rfl, trivial, ⟨F_78, ty, hty, QTm.mk ht hP hD hO hR, hW⟩⟩, hS.F ht⟩) hS.2.2 dX15_sender_61
      ·
        have hi_251 : j ≠ zt := fun q => c_249 (by rw [q])
        refine lv_iload_n hx hb dX15_sender_34 rfl (lv_at hl 0 rfl) ?_
        refine lv_i2l (v := (nI j).toInt64) hx hb dX15_sender_35 rfl ?_
        refine lv_lconst (v := 1) hx hb dX15_sender_36 (by decide) ?_
        refine lv_ldc2 (v := 30) hx hb hown (hts _ kt_1067) dX15_sender_37 ?_
        have hFc := pg_free hD hS hA
        refine va_calli (va_runS (As := [.long ((nI j).toInt64), .long 1, .long 30]) (rest := []) ⟨hx, hb, hml, hown, hts⟩ (s_X15_in l dC dI cs ty gm L H.size F_78 ((nI j).toInt64) 1 30 hW ) ⟨callB_of 3 hts (gi kt_675) rfl rfl rfl (hts _ kt_659) (hts _ kt_695) (by decide +kernel) ⟨Nat.le_of_ble_eq_true rfl, Nat.le_of_ble_eq_true rfl⟩, (hts _ kt_676)⟩ ⟨fun a U g mk q => ⟨q.1, PTm.calling q.2⟩, fun U hU hWm => ⟨rfl, PTm.mk hU hWm hP hK hD hE hO⟩⟩ rfl rfl hl.1 rfl (lv_room (Nat.le_of_ble_eq_true rfl)) dX15_sender_40 ⟨by show _ + 0 ≤ 0; omega, by show _ + 0 ≤ 0; omega⟩) hS (fun q _ h => hFc q h) hFc (fun r_252 u t H1 locs ht hvm hw hB hz1 hk1 hS => ?_)
        obtain ⟨F_253, hB1⟩ := hB
        obtain rfl : F_78 = F_253 := (funext (fun a => hB1.2.2.2 a List.not_mem_nil)).symm
        obtain ⟨hP, hD, hO, hR⟩ := QTm.back hB1 ht hFc hR (fun q h => absurd h List.not_mem_nil)
        generalize H1 = H at hP hS ⊢
        have hw : r_252 = (if 1 ≤ (nI j).toInt64 ∧ (nI j).toInt64 ≤ 30 then 1 else 0) := hw
        have hw_254 := hw
        refine lv_if_eq (tgt := 60) hx hb dX15_sender_43 (by decide) (fun c_255 => ?_) (fun c_255 => ?_)
        ·
          refine lv_iconst (v := (-1)) hx hb dX15_sender_60 (by decide) ?_
          refine W.widen (k := 0) (n := 0) (by omega) (by omega) ?_
          exact W.iret (v := (-1)) hx hb hr (fun t ht hWm => ⟨⟨(-1), (), rfl, trivial, ⟨F_78, ty, hty, QTm.mk ht hP hD hO hR, hW⟩⟩, hS.F ht⟩) hS.2.2 dX15_sender_61
        ·
          have hin := in_nat (lo := 1) (hi := 30) hw_254 c_255 (by decide) (by decide) (by omega)
          refine lv_aload_n hx hb dX15_sender_46 rfl (lv_at hl 2 rfl) ?_
          refine pg_get (ci := 15) (v := .ref ta) (C := RX15) (T := TX15) (N := 59) hx hb hts it_15 hown hK hP hL_h0 hF_235 rfl 0 (by decide) (hts _ kt_1065) (fun _ h9 => h9) rfl dX15_sender_47 ?_
          refine lv_iload_n hx hb dX15_sender_50 rfl (lv_at hl 0 rfl) ?_
          refine lv_iconst (v := 1) hx hb dX15_sender_51 (by decide) ?_
          refine lv_iadd hx hb dX15_sender_52 ?_
          refine lv_topi (fun x_256 ex_256 => ?_)
          obtain rfl : x_256 = (nI (j + 1)) := ex_256.trans (nI_add j 1)
          refine lv_iload_n hx hb dX15_sender_53 rfl (lv_at hl 1 rfl) ?_
          have hFc := pg_free hD hS hA
          refine va_calli (va_runS (As := [.ref ta, .int (nI (j + 1)), .int (nI zt)]) (rest := []) ⟨hx, hb, hml, hown, hts⟩ (s_X14_isName_ l dC dI cs ty gm L H.size F_78 ta (ρ + 1) 3000 (j + 1) zt hW hi_240 ht_241 (by first | omega | assumption) (by first | omega | assumption)) ⟨callB_of 3 hts (gi kt_679) rfl rfl rfl (hts _ kt_666) (hts _ kt_853) (by decide +kernel) ⟨Nat.le_of_ble_eq_true rfl, Nat.le_of_ble_eq_true rfl⟩, (hts _ kt_681)⟩ ⟨fun a U g mk q => ⟨q.1, PTm.calling q.2⟩, fun U hU hWm => ⟨rfl, PTm.mk hU hWm hP hK hD hE hO⟩⟩ rfl rfl hl.1 rfl (lv_room (Nat.le_of_ble_eq_true rfl)) dX15_sender_54 ⟨by show _ + 0 ≤ 0; omega, by show _ + 0 ≤ 0; omega⟩) hS (fun q _ h => hFc q h) hFc (fun r_257 u t H1 locs ht hvm hw hB hz1 hk1 hS => ?_)
          obtain ⟨F_258, hB1⟩ := hB
          obtain rfl : F_78 = F_258 := (funext (fun a => hB1.2.2.2 a List.not_mem_nil)).symm
          obtain ⟨hP, hD, hO, hR⟩ := QTm.back hB1 ht hFc hR (fun q h => absurd h List.not_mem_nil)
          generalize H1 = H at hP hS ⊢
          have hw : (r_257 = 0 ∨ (r_257 = 1 ∧ (j + 1) < zt ∧ zt ≤ j + 61)) := hw
          have hw_259 := hw
          refine lv_if_ne (tgt := 62) hx hb dX15_sender_57 (by decide) (fun c_260 => ?_) (fun c_260 => ?_)
          ·
            have hnm := bit1 hw_259 c_260
            refine lv_iconst (v := 0) hx hb dX15_sender_62 (by decide) ?_
            refine lv_istore (lv' := [(4, .int 0), (3, .int (nI j)), (2, .int (nI zt)), (0, .ref h0), (1, .int x1)]) hx hb dX15_sender_63 hl (by decide) rfl (fun ls hl => ?_)
            refine W.widen (k := 0) (n := 0) (by omega) (by omega) ?_
            have hF_262 : F ta = .inl (cs 17, 3000, .inl f_244) := (hR ta (by rw [ht_241]; simp)).symm.trans hF_245
            refine pl_loopm (σ := Nat) A (dC, dI) cs ty gm L [ρ, ρ + 5] F 65 6 (fun i => [(4, .int (nI i)), (3, .int (nI j)), (2, .int (nI zt)), (0, .ref h0), (1, .int x1)]) (fun i => []) (fun i _ => i ≤ j) (fun i => j - i) ?_ 0 F_78 (by omega) hO hR _ _ hP hD hS ls (lv_sub hl [0, 1, 2, 3, 4] rfl)
            rintro i F_261 hv_263 hO hR ih_264 H locs hP hD hS ls hl
            have hl : lv_has ls 6 [(4, .int (nI i)), (3, .int (nI j)), (2, .int (nI zt)), (0, .ref h0), (1, .int x1)] := hl
            have hv_263 : i ≤ j := hv_263
            refine W.eq (g2 := F0 m 65 ls []) rfl ?_
            have hF_265 : F_261 ta = .inl (cs 17, 3000, .inl f_244) := (hR ta (by rw [ht_241]; simp)).trans hF_262
            refine lv_iload hx hb dX15_sender_65 (lv_at hl 0 rfl) ?_
            refine lv_iload_n hx hb dX15_sender_67 rfl (lv_at hl 1 rfl) ?_
            refine lv_icmp_ge (tgt := 132) hx hb dX15_sender_68 (by decide) (fun c_266 => ?_) (fun c_266 => ?_)
            ·
              have hi_267 : j ≤ i := leN (N := j) c_266
              refine lv_aload_n hx hb dX15_sender_132 rfl (lv_at hl 3 rfl) ?_
              obtain ⟨zo_268, v11_269, v12_270, v14_271, v15_272, v17_273, v18_274, v19_275, v20_276, v21_277, v22_278, v33_279, v52_280, v53_281, v54_282, hF_283, hq_284, hq_285, hq_286, hq_287⟩ := hO.mod hL_h0 hT_h0
              refine pg_get (ci := 15) (v := .ref lc) (C := RX15) (T := TX15) (N := 59) hx hb hts it_15 hown hK hP hL_h0 hF_283 rfl 9 (by decide) (hts _ kt_768) (fun _ h9 => h9) rfl dX15_sender_133 ?_
              refine lv_aload_n hx hb dX15_sender_136 rfl (lv_at hl 3 rfl) ?_
              refine pg_get (ci := 15) (v := .ref ta) (C := RX15) (T := TX15) (N := 59) hx hb hts it_15 hown hK hP hL_h0 hF_283 rfl 0 (by decide) (hts _ kt_1065) (fun _ h9 => h9) rfl dX15_sender_137 ?_
              refine lv_iconst (v := 0) hx hb dX15_sender_140 (by decide) ?_
              refine lv_iload_n hx hb dX15_sender_141 rfl (lv_at hl 1 rfl) ?_
              refine W.eq (g2 := F0 m 142 ls [.int (nI j), .int (nI 0), .ref ta, .ref lc]) rfl ?_
              obtain ⟨hi_288, r_51, ht_289⟩ := hW.f_lc hL_h0 hT_h0
              obtain ⟨hi_290, ht_291, hq_292⟩ := hW.txt hi_288 ht_289
              have hFc := pg_free hD hS hA
              obtain ⟨z_293, hF_294, hq_295⟩ := hO.txt hi_288 ht_289
              refine va_callv (va_runV (As := [.ref ta, .int (nI 0), .int (nI j)]) (rest := []) ⟨hx, hb, hml, hown, hts⟩ (s_X14_set l dC dI cs ty gm L H.size F_261 lc (ρ + 5) r_51 30 ta (ρ + 1) 3000 0 j hW hi_288 ht_289 hi_240 ht_241 (by first | omega | assumption) (by first | omega | assumption) (by first | omega | assumption)) ⟨callB_of 3 hts (gi kt_969) rfl rfl rfl (hts _ kt_666) (hts _ kt_970) (by decide +kernel) ⟨Nat.le_of_ble_eq_true rfl, Nat.le_of_ble_eq_true rfl⟩, (hts _ kt_971), (hts _ kt_972)⟩ ⟨fun a U g mk q => ⟨q.1, PTm.calling q.2⟩, pg_recv hK hP hi_288 hF_294 (q := (RX14, TX14, 2)) rfl, fun U hU hWm => ⟨rfl, PTm.mk hU hWm hP hK hD hE hO⟩⟩ rfl rfl hl.1 rfl (lv_room (Nat.le_of_ble_eq_true rfl)) dX15_sender_142 ⟨by show _ + 0 ≤ 0; omega, by show _ + 0 ≤ 0; omega⟩) hS (fun q _ h => hFc q h) hFc (fun u t H1 locs ht hvm hw hB hz1 hk1 hS => ?_)
              obtain ⟨F_297, hB1, hq_298⟩ := hB
              obtain ⟨hP, hD, hO, hR⟩ := QTm.back hB1 ht hFc hR (fun q h => by simp only [List.mem_cons, List.not_mem_nil, or_false] at h ⊢; omega)
              have hF_299 : F_297 ta = .inl (cs 17, 3000, .inl f_244) := (hB1.2.2.2 ta (by rw [ht_241]; simp)).trans hF_265
              have hF_300 : F_297 h0 = .inr (15, (.ref ta) :: (.int (nI 0)) :: (.int (nI zo_268)) :: (.int (nI ze)) :: (.ref ou) :: (.ref so) :: (.ref ad) :: (.ref na) :: (.ref va) :: (.ref lc) :: (.ref dm) :: (.int v11_269) :: (.int v12_270) :: (.ref tg) :: (.int v14_271) :: (.int v15_272) :: (.ref pe) :: (.int v17_273) :: (.int v18_274) :: (.int v19_275) :: (.int v20_276) :: (.int v21_277) :: (.int v22_278) :: (.ref ml) :: (.ref bg) :: (.ref co) :: (.ref sp) :: (.ref nb0) :: (.ref nb1) :: (.ref nb2) :: (.int (nI nf)) :: (.int (nI bd)) :: (.int (nI mm)) :: (.int v33_279) :: (.ref pl) :: (.ref se) :: (.ref ke) :: (.ref wi) :: (.ref hs) :: (.ref mo) :: (.ref po) :: (.ref nu) :: (.ref pr) :: (.ref sq) :: (.ref xa) :: (.ref sa) :: (.ref n64) :: (.ref m64) :: (.ref ex) :: (.ref wh) :: (.ref sd) :: (.ref tk) :: (.int v52_280) :: (.int v53_281) :: (.int v54_282) :: (.ref hd) :: (.ref ak) :: (.ref ho) :: (.ref ot) :: []) := (hB1.2.2.2 h0 (by rw [hT_h0]; simp)).trans hF_283
              generalize H1 = H at hP hS ⊢
              refine lv_aload_n hx hb dX15_sender_145 rfl (lv_at hl 3 rfl) ?_
              refine pg_get (ci := 15) (v := .ref dm) (C := RX15) (T := TX15) (N := 59) hx hb hts it_15 hown hK hP hL_h0 hF_300 rfl 10 (by decide) (hts _ kt_767) (fun _ h9 => h9) rfl dX15_sender_146 ?_
              refine lv_aload_n hx hb dX15_sender_149 rfl (lv_at hl 3 rfl) ?_
              refine pg_get (ci := 15) (v := .ref ta) (C := RX15) (T := TX15) (N := 59) hx hb hts it_15 hown hK hP hL_h0 hF_300 rfl 0 (by decide) (hts _ kt_1065) (fun _ h9 => h9) rfl dX15_sender_150 ?_
              refine lv_iload_n hx hb dX15_sender_153 rfl (lv_at hl 1 rfl) ?_
              refine lv_iconst (v := 1) hx hb dX15_sender_154 (by decide) ?_
              refine lv_iadd hx hb dX15_sender_155 ?_
              refine lv_topi (fun x_301 ex_301 => ?_)
              obtain rfl : x_301 = (nI (j + 1)) := ex_301.trans (nI_add j 1)
              refine lv_iload_n hx hb dX15_sender_156 rfl (lv_at hl 2 rfl) ?_
              obtain ⟨hi_302, r_52, ht_303⟩ := hW.f_dm hL_h0 hT_h0
              obtain ⟨hi_304, ht_305, hq_306⟩ := hW.txt hi_302 ht_303
              have hFc := pg_free hD hS hA
              obtain ⟨z_307, hF_308, hq_309⟩ := hO.txt hi_302 ht_303
              refine va_callv (va_runV (As := [.ref ta, .int (nI (j + 1)), .int (nI zt)]) (rest := []) ⟨hx, hb, hml, hown, hts⟩ (s_X14_set l dC dI cs ty gm L H.size F_297 dm (ρ + 5) r_52 60 ta (ρ + 1) 3000 (j + 1) zt hW hi_302 ht_303 hi_240 ht_241 (by first | omega | assumption) (by first | omega | assumption) (by first | omega | assumption)) ⟨callB_of 3 hts (gi kt_969) rfl rfl rfl (hts _ kt_666) (hts _ kt_970) (by decide +kernel) ⟨Nat.le_of_ble_eq_true rfl, Nat.le_of_ble_eq_true rfl⟩, (hts _ kt_971), (hts _ kt_972)⟩ ⟨fun a U g mk q => ⟨q.1, PTm.calling q.2⟩, pg_recv hK hP hi_302 hF_308 (q := (RX14, TX14, 2)) rfl, fun U hU hWm => ⟨rfl, PTm.mk hU hWm hP hK hD hE hO⟩⟩ rfl rfl hl.1 rfl (lv_room (Nat.le_of_ble_eq_true rfl)) dX15_sender_157 ⟨by show _ + 0 ≤ 0; omega, by show _ + 0 ≤ 0; omega⟩) hS (fun q _ h => hFc q h) hFc (fun u t H1 locs ht hvm hw hB hz1 hk1 hS => ?_)
              obtain ⟨F_311, hB1, hq_312⟩ := hB
              obtain ⟨hP, hD, hO, hR⟩ := QTm.back hB1 ht hFc hR (fun q h => by simp only [List.mem_cons, List.not_mem_nil, or_false] at h ⊢; omega)
              have hF_313 : F_311 ta = .inl (cs 17, 3000, .inl f_244) := (hB1.2.2.2 ta (by rw [ht_241]; simp)).trans hF_299
              have hF_314 : F_311 h0 = .inr (15, (.ref ta) :: (.int (nI 0)) :: (.int (nI zo_268)) :: (.int (nI ze)) :: (.ref ou) :: (.ref so) :: (.ref ad) :: (.ref na) :: (.ref va) :: (.ref lc) :: (.ref dm) :: (.int v11_269) :: (.int v12_270) :: (.ref tg) :: (.int v14_271) :: (.int v15_272) :: (.ref pe) :: (.int v17_273) :: (.int v18_274) :: (.int v19_275) :: (.int v20_276) :: (.int v21_277) :: (.int v22_278) :: (.ref ml) :: (.ref bg) :: (.ref co) :: (.ref sp) :: (.ref nb0) :: (.ref nb1) :: (.ref nb2) :: (.int (nI nf)) :: (.int (nI bd)) :: (.int (nI mm)) :: (.int v33_279) :: (.ref pl) :: (.ref se) :: (.ref ke) :: (.ref wi) :: (.ref hs) :: (.ref mo) :: (.ref po) :: (.ref nu) :: (.ref pr) :: (.ref sq) :: (.ref xa) :: (.ref sa) :: (.ref n64) :: (.ref m64) :: (.ref ex) :: (.ref wh) :: (.ref sd) :: (.ref tk) :: (.int v52_280) :: (.int v53_281) :: (.int v54_282) :: (.ref hd) :: (.ref ak) :: (.ref ho) :: (.ref ot) :: []) := (hB1.2.2.2 h0 (by rw [hT_h0]; simp)).trans hF_300
              generalize H1 = H at hP hS ⊢
              refine lv_aload_n hx hb dX15_sender_160 rfl (lv_at hl 3 rfl) ?_
              refine lv_iload_n hx hb dX15_sender_161 rfl (lv_at hl 4 rfl) ?_
              refine pg_put (ci := 15) (v := .int x1) (ty := .int) (C := RX15) (T := TX15) (N := 59) hx hb hts it_15 tyX15 tyX15_ok nmX15 hown hK hP hD hS hL_h0 hF_314 rfl 11 (by decide) (hts _ kt_719) (fun _ h9 => h9) rfl (by decide +kernel) (rfl) (rfl) (Nat.le_of_ble_eq_true rfl) dX15_sender_162 (fun H locs hP hD hS => ?_)
              obtain ⟨F_315, he_316, hP, hD, hO, hR⟩ : ∃ G, G = va_up F_311 h0 (.inr (15, (.ref ta) :: (.int (nI 0)) :: (.int (nI zo_268)) :: (.int (nI ze)) :: (.ref ou) :: (.ref so) :: (.ref ad) :: (.ref na) :: (.ref va) :: (.ref lc) :: (.ref dm) :: (.int x1) :: (.int v12_270) :: (.ref tg) :: (.int v14_271) :: (.int v15_272) :: (.ref pe) :: (.int v17_273) :: (.int v18_274) :: (.int v19_275) :: (.int v20_276) :: (.int v21_277) :: (.int v22_278) :: (.ref ml) :: (.ref bg) :: (.ref co) :: (.ref sp) :: (.ref nb0) :: (.ref nb1) :: (.ref nb2) :: (.int (nI nf)) :: (.int (nI bd)) :: (.int (nI mm)) :: (.int v33_279) :: (.ref pl) :: (.ref se) :: (.ref ke) :: (.ref wi) :: (.ref hs) :: (.ref mo) :: (.ref po) :: (.ref nu) :: (.ref pr) :: (.ref sq) :: (.ref xa) :: (.ref sa) :: (.ref n64) :: (.ref m64) :: (.ref ex) :: (.ref wh) :: (.ref sd) :: (.ref tk) :: (.int v52_280) :: (.int v53_281) :: (.int v54_282) :: (.ref hd) :: (.ref ak) :: (.ref ho) :: (.ref ot) :: [])) ∧ va_P (dC, dI) vwCl (va_pl L G) H ∧ va_D A (va_pl L G) ∧ OKm cs ty gm L G ∧ FR ty [ρ, ρ + 5] F G := ⟨_, rfl, hP, hD, hO.up (shm.mod hT_h0 ⟨zo_268, x1, v12_270, v14_271, v15_272, v17_273, v18_274, v19_275, v20_276, v21_277, v22_278, v33_279, v52_280, v53_281, v54_282, rfl, (by first | omega | assumption | exact Or.inl rfl | exact Or.inr rfl), (by first | omega | assumption | exact Or.inl rfl | exact Or.inr rfl), (by first | omega | assumption | exact Or.inl rfl | exact Or.inr rfl), (by first | omega | assumption | exact Or.inl rfl | exact Or.inr rfl)⟩), hR.up hT_h0 (by simp)⟩
              have hF_317 : F_315 h0 = .inr (15, (.ref ta) :: (.int (nI 0)) :: (.int (nI zo_268)) :: (.int (nI ze)) :: (.ref ou) :: (.ref so) :: (.ref ad) :: (.ref na) :: (.ref va) :: (.ref lc) :: (.ref dm) :: (.int x1) :: (.int v12_270) :: (.ref tg) :: (.int v14_271) :: (.int v15_272) :: (.ref pe) :: (.int v17_273) :: (.int v18_274) :: (.int v19_275) :: (.int v20_276) :: (.int v21_277) :: (.int v22_278) :: (.ref ml) :: (.ref bg) :: (.ref co) :: (.ref sp) :: (.ref nb0) :: (.ref nb1) :: (.ref nb2) :: (.int (nI nf)) :: (.int (nI bd)) :: (.int (nI mm)) :: (.int v33_279) :: (.ref pl) :: (.ref se) :: (.ref ke) :: (.ref wi) :: (.ref hs) :: (.ref mo) :: (.ref po) :: (.ref nu) :: (.ref pr) :: (.ref sq) :: (.ref xa) :: (.ref sa) :: (.ref n64) :: (.ref m64) :: (.ref ex) :: (.ref wh) :: (.ref sd) :: (.ref tk) :: (.int v52_280) :: (.int v53_281) :: (.int v54_282) :: (.ref hd) :: (.ref ak) :: (.ref ho) :: (.ref ot) :: []) := by rw [he_316]; exact up_self
              have hF_318 : F_315 ta = .inl (cs 17, 3000, .inl f_244) := by rw [he_316, up_ne (ne_ty ht_241 hT_h0 (by simp))]; exact hF_313
              have hF_319 : F_315 dm = .inr (14, [.ref r_52, .int (nI (zt - (j + 1)))]) := by rw [he_316, up_ne (ne_ty ht_303 hT_h0 (by simp))]; exact hq_312
              refine lv_aload_n hx hb dX15_sender_165 rfl (lv_at hl 3 rfl) ?_
              refine lv_iconst (v := 1) hx hb dX15_sender_166 (by decide) ?_
              refine pg_put (ci := 15) (v := .int 1) (ty := .boolean) (C := RX15) (T := TX15) (N := 59) hx hb hts it_15 tyX15 tyX15_ok nmX15 hown hK hP hD hS hL_h0 hF_317 rfl 12 (by decide) (hts _ kt_991) (fun _ h9 => h9) rfl (by decide +kernel) (rfl) (rfl) (Nat.le_of_ble_eq_true rfl) dX15_sender_167 (fun H locs hP hD hS => ?_)
              obtain ⟨F_320, he_321, hP, hD, hO, hR⟩ : ∃ G, G = va_up F_315 h0 (.inr (15, (.ref ta) :: (.int (nI 0)) :: (.int (nI zo_268)) :: (.int (nI ze)) :: (.ref ou) :: (.ref so) :: (.ref ad) :: (.ref na) :: (.ref va) :: (.ref lc) :: (.ref dm) :: (.int x1) :: (.int 1) :: (.ref tg) :: (.int v14_271) :: (.int v15_272) :: (.ref pe) :: (.int v17_273) :: (.int v18_274) :: (.int v19_275) :: (.int v20_276) :: (.int v21_277) :: (.int v22_278) :: (.ref ml) :: (.ref bg) :: (.ref co) :: (.ref sp) :: (.ref nb0) :: (.ref nb1) :: (.ref nb2) :: (.int (nI nf)) :: (.int (nI bd)) :: (.int (nI mm)) :: (.int v33_279) :: (.ref pl) :: (.ref se) :: (.ref ke) :: (.ref wi) :: (.ref hs) :: (.ref mo) :: (.ref po) :: (.ref nu) :: (.ref pr) :: (.ref sq) :: (.ref xa) :: (.ref sa) :: (.ref n64) :: (.ref m64) :: (.ref ex) :: (.ref wh) :: (.ref sd) :: (.ref tk) :: (.int v52_280) :: (.int v53_281) :: (.int v54_282) :: (.ref hd) :: (.ref ak) :: (.ref ho) :: (.ref ot) :: [])) ∧ va_P (dC, dI) vwCl (va_pl L G) H ∧ va_D A (va_pl L G) ∧ OKm cs ty gm L G ∧ FR ty [ρ, ρ + 5] F G := ⟨_, rfl, hP, hD, hO.up (shm.mod hT_h0 ⟨zo_268, x1, 1, v14_271, v15_272, v17_273, v18_274, v19_275, v20_276, v21_277, v22_278, v33_279, v52_280, v53_281, v54_282, rfl, (by first | omega | assumption | exact Or.inl rfl | exact Or.inr rfl), (by first | omega | assumption | exact Or.inl rfl | exact Or.inr rfl), (by first | omega | assumption | exact Or.inl rfl | exact Or.inr rfl), (by first | omega | assumption | exact Or.inl rfl | exact Or.inr rfl)⟩), hR.up hT_h0 (by simp)⟩
              have hF_322 : F_320 h0 = .inr (15, (.ref ta) :: (.int (nI 0)) :: (.int (nI zo_268)) :: (.int (nI ze)) :: (.ref ou) :: (.ref so) :: (.ref ad) :: (.ref na) :: (.ref va) :: (.ref lc) :: (.ref dm) :: (.int x1) :: (.int 1) :: (.ref tg) :: (.int v14_271) :: (.int v15_272) :: (.ref pe) :: (.int v17_273) :: (.int v18_274) :: (.int v19_275) :: (.int v20_276) :: (.int v21_277) :: (.int v22_278) :: (.ref ml) :: (.ref bg) :: (.ref co) :: (.ref sp) :: (.ref nb0) :: (.ref nb1) :: (.ref nb2) :: (.int (nI nf)) :: (.int (nI bd)) :: (.int (nI mm)) :: (.int v33_279) :: (.ref pl) :: (.ref se) :: (.ref ke) :: (.ref wi) :: (.ref hs) :: (.ref mo) :: (.ref po) :: (.ref nu) :: (.ref pr) :: (.ref sq) :: (.ref xa) :: (.ref sa) :: (.ref n64) :: (.ref m64) :: (.ref ex) :: (.ref wh) :: (.ref sd) :: (.ref tk) :: (.int v52_280) :: (.int v53_281) :: (.int v54_282) :: (.ref hd) :: (.ref ak) :: (.ref ho) :: (.ref ot) :: []) := by rw [he_321]; exact up_self
              have hF_323 : F_320 ta = .inl (cs 17, 3000, .inl f_244) := by rw [he_321, up_ne (ne_ty ht_241 hT_h0 (by simp))]; exact hF_318
              have hF_324 : F_320 dm = .inr (14, [.ref r_52, .int (nI (zt - (j + 1)))]) := by rw [he_321, up_ne (ne_ty ht_303 hT_h0 (by simp))]; exact hF_319
              refine lv_iconst (v := 0) hx hb dX15_sender_170 (by decide) ?_
              refine W.widen (k := 0) (n := 0) (by omega) (by omega) ?_
              exact W.iret (v := 0) hx hb hr (fun t ht hWm => ⟨⟨0, (), rfl, trivial, ⟨F_320, ty, hty, QTm.mk ht hP hD hO hR, hW⟩⟩, hS.F ht⟩) hS.2.2 dX15_sender_171
            ·
              have hi_325 : i < j := ltN (N := j) c_266
              refine lv_aload_n hx hb dX15_sender_71 rfl (lv_at hl 3 rfl) ?_
              obtain ⟨zo_326, v11_327, v12_328, v14_329, v15_330, v17_331, v18_332, v19_333, v20_334, v21_335, v22_336, v33_337, v52_338, v53_339, v54_340, hF_341, hq_342, hq_343, hq_344, hq_345⟩ := hO.mod hL_h0 hT_h0
              refine pg_get (ci := 15) (v := .ref ta) (C := RX15) (T := TX15) (N := 59) hx hb hts it_15 hown hK hP hL_h0 hF_341 rfl 0 (by decide) (hts _ kt_1065) (fun _ h9 => h9) rfl dX15_sender_72 ?_
              refine lv_iload hx hb dX15_sender_75 (lv_at hl 0 rfl) ?_
              refine pg_bald hx hb hK hP hi_240 1 hF_265 rfl (vp_in_nI (by omega) (by omega)) dX15_sender_77 ?_
              refine lv_topi (fun x_346 ex_346 => ?_)
              obtain rfl : x_346 = f_244 i := ex_346.trans (congrArg f_244 (show ((nI i) : Int32).toNatClampNeg = i from nI_clamp (by omega)))
              refine lv_istore (lv' := [(5, .int (f_244 i)), (4, .int (nI i)), (3, .int (nI j)), (2, .int (nI zt)), (0, .ref h0), (1, .int x1)]) hx hb dX15_sender_78 hl (by decide) rfl (fun ls hl => ?_)
              have hF_349 : F ta = .inl (cs 17, 3000, .inl f_244) := (hR ta (by rw [ht_241]; simp)).symm.trans hF_265
              refine W.widen (k := 0) (n := 0) (by omega) (by omega) ?_
              refine pl_cutm (σ := Unit) A (dC, dI) cs ty gm L [ρ, ρ + 5] F 126 6 (fun u0 => [(4, .int (nI i)), (3, .int (nI j)), (2, .int (nI zt)), (0, .ref h0), (1, .int x1)]) (fun u0 => []) (fun u0 _ => True) ?_ (fun jn_347 => ?_)
              ·
                rintro u0 F_348 hv_350 hO hR H locs hP hD hS ls hl
                have hl : lv_has ls 6 [(4, .int (nI i)), (3, .int (nI j)), (2, .int (nI zt)), (0, .ref h0), (1, .int x1)] := hl
                have hv_350 : True := hv_350
                refine W.eq (g2 := F0 m 126 ls []) rfl ?_
                have hF_351 : F_348 ta = .inl (cs 17, 3000, .inl f_244) := (hR ta (by rw [ht_241]; simp)).trans hF_349
                refine lv_iinc (v := (nI (i + 1))) (lv' := [(4, .int (nI (i + 1))), (3, .int (nI j)), (2, .int (nI zt)), (0, .ref h0), (1, .int x1)]) hx hb dX15_sender_126 hl (k := 0) rfl (nI_1 _) (by decide) rfl (fun ls hl => ?_)
                refine lv_goto (tgt := 65) hx hb dX15_sender_129 (by decide) ?_
                refine W.widen (k := 0) (n := 0) (by omega) (by omega) ?_
                exact ih_264 (i + 1) F_348 (by first | omega | exact ⟨by omega, by omega⟩ | trivial) (by show j - (i + 1) < j - i; omega) hO hR _ _ hP hD hS ls (lv_sub hl [0, 1, 2, 3, 4] rfl)
              ·
                refine lv_iload hx hb dX15_sender_80 (lv_at hl 0 rfl) ?_
                have hFc := pg_free hD hS hA
                refine va_calli (va_runS (As := [.int (f_244 i)]) (rest := []) ⟨hx, hb, hml, hown, hts⟩ (s_X15_isSmall l dC dI cs ty gm L H.size F_261 (f_244 i) hW ) ⟨callB_of 1 hts (gi kt_658) rfl rfl rfl (hts _ kt_659) (hts _ kt_660) (by decide +kernel) ⟨Nat.le_of_ble_eq_true rfl, Nat.le_of_ble_eq_true rfl⟩, (hts _ kt_661)⟩ ⟨fun a U g mk q => ⟨q.1, PTm.calling q.2⟩, fun U hU hWm => ⟨rfl, PTm.mk hU hWm hP hK hD hE hO⟩⟩ rfl rfl hl.1 rfl (lv_room (Nat.le_of_ble_eq_true rfl)) dX15_sender_82 ⟨by show _ + 0 ≤ 0; omega, by show _ + 0 ≤ 0; omega⟩) hS (fun q _ h => hFc q h) hFc (fun r_352 u t H1 locs ht hvm hw hB hz1 hk1 hS => ?_)
                obtain ⟨F_353, hB1⟩ := hB
                obtain rfl : F_261 = F_353 := (funext (fun a => hB1.2.2.2 a List.not_mem_nil)).symm
                obtain ⟨hP, hD, hO, hR⟩ := QTm.back hB1 ht hFc hR (fun q h => absurd h List.not_mem_nil)
                generalize H1 = H at hP hS ⊢
                have hw : (r_352 = 0 ∨ r_352 = 1) := hw
                have hw_354 := hw
                refine lv_if_ne (tgt := 126) hx hb dX15_sender_85 (by decide) (fun c_355 => ?_) (fun c_355 => ?_)
                ·
                  refine W.widen (k := 0) (n := 0) (by omega) (by omega) ?_
                  exact jn_347 () F_261 (trivial) hO hR _ _ hP hD hS ls (lv_sub hl [1, 2, 3, 4, 5] rfl)
                ·
                  refine lv_iload hx hb dX15_sender_88 (lv_at hl 0 rfl) ?_
                  have hFc := pg_free hD hS hA
                  refine va_calli (va_runS (As := [.int (f_244 i)]) (rest := []) ⟨hx, hb, hml, hown, hts⟩ (s_X15_isDigit l dC dI cs ty gm L H.size F_261 (f_244 i) hW ) ⟨callB_of 1 hts (gi kt_677) rfl rfl rfl (hts _ kt_659) (hts _ kt_697) (by decide +kernel) ⟨Nat.le_of_ble_eq_true rfl, Nat.le_of_ble_eq_true rfl⟩, (hts _ kt_678)⟩ ⟨fun a U g mk q => ⟨q.1, PTm.calling q.2⟩, fun U hU hWm => ⟨rfl, PTm.mk hU hWm hP hK hD hE hO⟩⟩ rfl rfl hl.1 rfl (lv_room (Nat.le_of_ble_eq_true rfl)) dX15_sender_90 ⟨by show _ + 0 ≤ 0; omega, by show _ + 0 ≤ 0; omega⟩) hS (fun q _ h => hFc q h) hFc (fun r_356 u t H1 locs ht hvm hw hB hz1 hk1 hS => ?_)
                  obtain ⟨F_357, hB1⟩ := hB
                  obtain rfl : F_261 = F_357 := (funext (fun a => hB1.2.2.2 a List.not_mem_nil)).symm
                  obtain ⟨hP, hD, hO, hR⟩ := QTm.back hB1 ht hFc hR (fun q h => absurd h List.not_mem_nil)
                  generalize H1 = H at hP hS ⊢
                  have hw : (r_356 = 0 ∨ r_356 = 1) := hw
                  have hw_358 := hw
                  refine lv_if_ne (tgt := 126) hx hb dX15_sender_93 (by decide) (fun c_359 => ?_) (fun c_359 => ?_)
                  ·
                    refine W.widen (k := 0) (n := 0) (by omega) (by omega) ?_
                    exact jn_347 () F_261 (trivial) hO hR _ _ hP hD hS ls (lv_sub hl [1, 2, 3, 4, 5] rfl)
                  ·
                    refine lv_iload hx hb dX15_sender_96 (lv_at hl 0 rfl) ?_
                    refine lv_bipush (v := 46) hx hb dX15_sender_98 (by decide) ?_
                    refine lv_icmp_eq (tgt := 126) hx hb dX15_sender_100 (by decide) (fun c_360 => ?_) (fun c_360 => ?_)
                    ·
                      refine W.widen (k := 0) (n := 0) (by omega) (by omega) ?_
                      exact jn_347 () F_261 (trivial) hO hR _ _ hP hD hS ls (lv_sub hl [1, 2, 3, 4, 5] rfl)
                    ·
                      refine lv_iload hx hb dX15_sender_103 (lv_at hl 0 rfl) ?_
                      refine lv_bipush (v := 45) hx hb dX15_sender_105 (by decide) ?_
                      refine lv_icmp_eq (tgt := 126) hx hb dX15_sender_107 (by decide) (fun c_361 => ?_) (fun c_361 => ?_)
                      ·
                        refine W.widen (k := 0) (n := 0) (by omega) (by omega) ?_
                        exact jn_347 () F_261 (trivial) hO hR _ _ hP hD hS ls (lv_sub hl [1, 2, 3, 4, 5] rfl)
                      ·
                        refine lv_iload hx hb dX15_sender_110 (lv_at hl 0 rfl) ?_
                        refine lv_bipush (v := 95) hx hb dX15_sender_112 (by decide) ?_
                        refine lv_icmp_eq (tgt := 126) hx hb dX15_sender_114 (by decide) (fun c_362 => ?_) (fun c_362 => ?_)
                        ·
                          refine W.widen (k := 0) (n := 0) (by omega) (by omega) ?_
                          exact jn_347 () F_261 (trivial) hO hR _ _ hP hD hS ls (lv_sub hl [1, 2, 3, 4, 5] rfl)
                        ·
                          refine lv_iload hx hb dX15_sender_117 (lv_at hl 0 rfl) ?_
                          refine lv_bipush (v := 43) hx hb dX15_sender_119 (by decide) ?_
                          refine lv_icmp_eq (tgt := 126) hx hb dX15_sender_121 (by decide) (fun c_363 => ?_) (fun c_363 => ?_)
                          ·
                            refine W.widen (k := 0) (n := 0) (by omega) (by omega) ?_
                            exact jn_347 () F_261 (trivial) hO hR _ _ hP hD hS ls (lv_sub hl [1, 2, 3, 4, 5] rfl)
                          ·
                            refine lv_iconst (v := (-1)) hx hb dX15_sender_124 (by decide) ?_
                            refine W.widen (k := 0) (n := 0) (by omega) (by omega) ?_
                            exact W.iret (v := (-1)) hx hb hr (fun t ht hWm => ⟨⟨(-1), (), rfl, trivial, ⟨F_261, ty, hty, QTm.mk ht hP hD hO hR, hW⟩⟩, hS.F ht⟩) hS.2.2 dX15_sender_125
          ·
            refine lv_iconst (v := (-1)) hx hb dX15_sender_60 (by decide) ?_
            refine W.widen (k := 0) (n := 0) (by omega) (by omega) ?_
            exact W.iret (v := (-1)) hx hb hr (fun t ht hWm => ⟨⟨(-1), (), rfl, trivial, ⟨F_78, ty, hty, QTm.mk ht hP hD hO hR, hW⟩⟩, hS.F ht⟩) hS.2.2 dX15_sender_61
    ·
      refine lv_iinc (v := (nI (j + 1))) (lv' := [(3, .int (nI (j + 1))), (2, .int (nI zt)), (0, .ref h0), (1, .int x1)]) hx hb dX15_sender_23 hl (k := 0) rfl (nI_1 _) (by decide) rfl (fun ls hl => ?_)
      refine lv_goto (tgt := 7) hx hb dX15_sender_26 (by decide) ?_
      refine W.widen (k := 0) (n := 0) (by omega) (by omega) ?_
      exact ih_80 (j + 1) F_78 (by first | omega | exact ⟨by omega, by omega⟩ | trivial) (by show zt - (j + 1) < zt - j; omega) hO hR _ _ hP hD hS ls (lv_sub hl [0, 1, 2, 3] rfl)
set_option maxHeartbeats 4000000 in
set_option maxRecDepth 100000 in
theorem s_X15_house (l : Launch) (dC : Nat → ClassId) (dI : Nat → Nat → Nat) (cs : Nat → ClassId) (ty : TyM) (gm : Nat → Nat → Nat) (L : List Nat) (sz : Nat) (F : Nat → va_E) (h0 : Nat) (ρ : Nat) (ta : Nat) (ou : Nat) (so : Nat) (ad : Nat) (na : Nat) (va : Nat) (lc : Nat) (dm : Nat) (tg : Nat) (pe : Nat) (ml : Nat) (bg : Nat) (co : Nat) (sp : Nat) (nb0 : Nat) (nb1 : Nat) (nb2 : Nat) (pl : Nat) (se : Nat) (ke : Nat) (wi : Nat) (hs : Nat) (mo : Nat) (po : Nat) (nu : Nat) (pr : Nat) (sq : Nat) (xa : Nat) (sa : Nat) (n64 : Nat) (m64 : Nat) (ex : Nat) (wh : Nat) (sd : Nat) (tk : Nat) (hd : Nat) (ak : Nat) (ho : Nat) (ot : Nat) (sx : Nat) (s0 : Nat) (s1 : Nat) (s2 : Nat) (nf : Nat) (bd : Nat) (mm : Nat) (ze : Nat) (zt : Nat) (hW : WTm ty gm L) (hL_h0 : h0 ∈ L) (hT_h0 : ty h0 = (15, ρ, [ta, ou, so, ad, na, va, lc, dm, tg, pe, ml, bg, co, sp, nb0, nb1, nb2, pl, se, ke, wi, hs, mo, po, nu, pr, sq, xa, sa, n64, m64, ex, wh, sd, tk, hd, ak, ho, ot, sx, s0, s1, s2, nf, bd, mm, ze, zt])) : Met l yX15_house (.code yX15_house cX15_house 2 (some .int) :: tb) ({ frames := 4, cells := 0, slots := 0, locals := 119 }) (va_Pc [.ref h0] (PTm (dC, dI) cs ty gm L F sz)) (va_Qi (fun (r : Int32) (_ : Unit) => True) (fun _ T9 => ∃ F2 : Nat → va_E, ∃ ty2 : TyM, ty2 = rtf ty h0 (15, ρ, [ta, ou, so, ad, na, va, lc, dm, tg, pe, ml, bg, co, sp, nb0, nb1, nb2, pl, se, ke, wi, hs, mo, po, nu, pr, sq, xa, sa, n64, m64, ex, wh, sd, tk, hd, ak, ho, ot, sx, s0, s1, s2, nf, bd, mm, ze, 0]) ∧ QTm (dC, dI) cs ty2 gm L [ρ, ρ + 2, ρ + 28, ρ + 29] F F2 (va_A (va_pl L F) sz) T9 ∧ WTm ty2 gm L) (va_A (va_pl L F) sz)) 0 0 (va_A (va_pl L F) sz) := by
  refine Met.ofW (cc := cX15_house) (maxL := 2) (ret := (some .int)) (by decide) rfl ?_
  intro p e s m args below meth c s₁ B hml hv
  obtain ⟨rfl, hsz, hP, hK, hD0, hE, hO⟩ := hv
  have hx := B.exec
  have hb := B.bytes
  have hr := B.returns
  have hts : ∀ w ∈ tb, w.before _ s = true := fun w h => atoms_spec (ws := .code yX15_house cX15_house 2 (some .int) :: tb) B.pre w (List.mem_cons_of_mem _ h)
  have hown : s.vm.findClass RX15 = some m.cls := findClass_of_methodNamed B.named
  have hlocks := B.notSynchronized
  subst hsz
  have hD := hD0.self (sz := s.heap.size)
  generalize hAe : va_A (va_pl L F) s.heap.size = A at hD ⊢
  have hA : ∀ q : Nat, s.heap.size ≤ q → A q := fun q h => by rw [← hAe]; exact Or.inr h
  have hS : va_S A s.heap s.heap [] := va_S.rf
  have hR : FR ty [ρ, ρ + 2, ρ + 28, ρ + 29] F F := FR.refl
  have hl := lv_entry ([.ref h0]) (n := 2) (Nat.le_of_ble_eq_true rfl)
  rw [lg_entry_eq]
  generalize (lg_sl ([.ref h0]) ++ List.replicate (2 - (lg_sl ([.ref h0])).length) Slot.unset).toArray = ls at hl ⊢
  have hl : lv_has ls 2 [(0, .ref h0)] := hl
  obtain ⟨hq_23, hq_24, hq_25, hq_26, hq_27, hgO, hgA, hgB⟩ := hW.sc hL_h0 hT_h0
  refine lv_aload_n hx hb dX15_house_0 rfl (lv_at hl 0 rfl) ?_
  obtain ⟨zo_28, v11_29, v12_30, v14_31, v15_32, v17_33, v18_34, v19_35, v20_36, v21_37, v22_38, v33_39, v52_40, v53_41, v54_42, hF_43, hq_44, hq_45, hq_46, hq_47⟩ := hO.mod hL_h0 hT_h0
  have hFc := pg_free hD hS hA
  refine va_calli (va_runV (As := []) (rest := []) ⟨hx, hb, hml, hown, hts⟩ (s_X15_used l dC dI cs ty gm L s.heap.size F h0 ρ ta ou so ad na va lc dm tg pe ml bg co sp nb0 nb1 nb2 pl se ke wi hs mo po nu pr sq xa sa n64 m64 ex wh sd tk hd ak ho ot sx s0 s1 s2 nf bd mm ze zt zo_28 v11_29 v12_30 v14_31 v15_32 v17_33 v18_34 v19_35 v20_36 v21_37 v22_38 v33_39 v52_40 v53_41 v54_42 hW hL_h0 hT_h0 hF_43 (by first | omega | assumption) (by first | omega | assumption) (by first | omega | assumption) (by first | omega | assumption)) ⟨callB_of 0 hts (gi kt_1061) rfl rfl rfl (hts _ kt_659) (hts _ kt_1062) (by decide +kernel) ⟨Nat.le_of_ble_eq_true rfl, Nat.le_of_ble_eq_true rfl⟩, (hts _ kt_1063), (hts _ kt_1064)⟩ ⟨fun a U g mk q => ⟨q.1, PTm.calling q.2⟩, pg_recv hK hP hL_h0 hF_43 (q := (RX15, TX15, 59)) rfl, fun U hU hWm => ⟨rfl, PTm.mk hU hWm hP hK hD hE hO⟩⟩ rfl rfl hl.1 rfl (lv_room (Nat.le_of_ble_eq_true rfl)) dX15_house_1 ⟨by show _ + 0 ≤ 0; omega, by show _ + 0 ≤ 0; omega⟩) hS (fun q _ h => hFc q h) hFc (fun r_48 u t H1 locs ht hvm hw hB hz1 hk1 hS => ?_)
  obtain ⟨F_49, ty9, hty9, hB1, hW9, hq_50⟩ := hB
  subst hty9
  have hR9 := FR.retype (im2 := [ta, ou, so, ad, na, va, lc, dm, tg, pe, ml, bg, co, sp, nb0, nb1, nb2, pl, se, ke, wi, hs, mo, po, nu, pr, sq, xa, sa, n64, m64, ex, wh, sd, tk, hd, ak, ho, ot, sx, s0, s1, s2, nf, bd, mm, ze, 0]) hT_h0 hR
  obtain ⟨hP, hD, hO, hR⟩ := QTm.back hB1 ht hFc hR9 (fun q h => by simp only [List.mem_cons, List.not_mem_nil, or_false] at h ⊢; omega)
  obtain ⟨ty, hty, hT_h0, hW, hO, hR⟩ : ∃ t9 : TyM, t9 = rtf ty h0 (15, ρ, [ta, ou, so, ad, na, va, lc, dm, tg, pe, ml, bg, co, sp, nb0, nb1, nb2, pl, se, ke, wi, hs, mo, po, nu, pr, sq, xa, sa, n64, m64, ex, wh, sd, tk, hd, ak, ho, ot, sx, s0, s1, s2, nf, bd, mm, ze, 0]) ∧ t9 h0 = (15, ρ, [ta, ou, so, ad, na, va, lc, dm, tg, pe, ml, bg, co, sp, nb0, nb1, nb2, pl, se, ke, wi, hs, mo, po, nu, pr, sq, xa, sa, n64, m64, ex, wh, sd, tk, hd, ak, ho, ot, sx, s0, s1, s2, nf, bd, mm, ze, 0]) ∧ WTm t9 gm L ∧ OKm cs t9 gm L F_49 ∧ FR t9 [ρ, ρ + 2, ρ + 28, ρ + 29] F F_49 := ⟨_, rfl, rtf_self, hW9, hO, hR⟩
  generalize H1 = H at hP hS ⊢
  have hw : r_48 = nI zt := hw
  subst hw
  obtain ⟨hq_73, hq_74, hq_75, hq_76, hq_77, hgO, hgA, hgB⟩ := hW.sc hL_h0 hT_h0
  refine lv_istore_n (lv' := [(1, .int (nI zt)), (0, .ref h0)]) hx hb dX15_house_4 rfl hl (by decide) rfl (fun ls hl => ?_)
  refine lv_aload_n hx hb dX15_house_5 rfl (lv_at hl 1 rfl) ?_
  refine pg_get (ci := 15) (v := .ref ta) (C := RX15) (T := TX15) (N := 59) hx hb hts it_15 hown hK hP hL_h0 hq_50 rfl 0 (by decide) (hts _ kt_1065) (fun _ h9 => h9) rfl dX15_house_6 ?_
  refine lv_iconst (v := 0) hx hb dX15_house_9 (by decide) ?_
  refine lv_iload_n hx hb dX15_house_10 rfl (lv_at hl 0 rfl) ?_
  refine W.eq (g2 := F0 m 11 ls [.int (nI zt), .int (nI 0), .ref ta]) rfl ?_
  obtain ⟨hi_78, ht_79⟩ := hW.f_ta hL_h0 hT_h0
  obtain ⟨hq_80, hq_81⟩ := hW.octs hi_78 ht_79
  have hFc := pg_free hD hS hA
  refine va_calli (va_runS (As := [.ref ta, .int (nI 0), .int (nI zt)]) (rest := []) ⟨hx, hb, hml, hown, hts⟩ (s_X14_isName_ l dC dI cs ty gm L H.size F_49 ta (ρ + 1) 3000 0 zt hW hi_78 ht_79 (by first | omega | assumption) (by first | omega | assumption)) ⟨callB_of 3 hts (gi kt_679) rfl rfl rfl (hts _ kt_666) (hts _ kt_853) (by decide +kernel) ⟨Nat.le_of_ble_eq_true rfl, Nat.le_of_ble_eq_true rfl⟩, (hts _ kt_681)⟩ ⟨fun a U g mk q => ⟨q.1, PTm.calling q.2⟩, fun U hU hWm => ⟨rfl, PTm.mk hU hWm hP hK hD hE hO⟩⟩ rfl rfl hl.1 rfl (lv_room (Nat.le_of_ble_eq_true rfl)) dX15_house_11 ⟨by show _ + 0 ≤ 0; omega, by show _ + 0 ≤ 0; omega⟩) hS (fun q _ h => hFc q h) hFc (fun r_82 u t H1 locs ht hvm hw hB hz1 hk1 hS => ?_)
  obtain ⟨F_83, hB1⟩ := hB
  obtain rfl : F_49 = F_83 := (funext (fun a => hB1.2.2.2 a List.not_mem_nil)).symm
  obtain ⟨hP, hD, hO, hR⟩ := QTm.back hB1 ht hFc hR (fun q h => absurd h List.not_mem_nil)
  generalize H1 = H at hP hS ⊢
  have hw : (r_82 = 0 ∨ (r_82 = 1 ∧ 0 < zt ∧ zt ≤ 0 + 60)) := hw
  have hw_84 := hw
  refine lv_if_ne (tgt := 19) hx hb dX15_house_14 (by decide) (fun c_85 => ?_) (fun c_85 => ?_)
  ·
    have hnm := bit1 hw_84 c_85
    refine lv_aload_n hx hb dX15_house_19 rfl (lv_at hl 1 rfl) ?_
    refine pg_get (ci := 15) (v := .ref ak) (C := RX15) (T := TX15) (N := 59) hx hb hts it_15 hown hK hP hL_h0 hq_50 rfl 56 (by decide) (hts _ kt_1035) (fun _ h9 => h9) rfl dX15_house_20 ?_
    refine lv_aload_n hx hb dX15_house_23 rfl (lv_at hl 1 rfl) ?_
    refine pg_get (ci := 15) (v := .ref ta) (C := RX15) (T := TX15) (N := 59) hx hb hts it_15 hown hK hP hL_h0 hq_50 rfl 0 (by decide) (hts _ kt_1065) (fun _ h9 => h9) rfl dX15_house_24 ?_
    refine lv_iconst (v := 0) hx hb dX15_house_27 (by decide) ?_
    refine lv_iload_n hx hb dX15_house_28 rfl (lv_at hl 0 rfl) ?_
    refine W.eq (g2 := F0 m 29 ls [.int (nI zt), .int (nI 0), .ref ta, .ref ak]) rfl ?_
    obtain ⟨hi_86, r_70, ht_87⟩ := hW.f_ak hL_h0 hT_h0
    obtain ⟨hi_88, ht_89, hq_90⟩ := hW.txt hi_86 ht_87
    have hFc := pg_free hD hS hA
    obtain ⟨z_91, hF_92, hq_93⟩ := hO.txt hi_86 ht_87
    refine va_callv (va_runV (As := [.ref ta, .int (nI 0), .int (nI zt)]) (rest := []) ⟨hx, hb, hml, hown, hts⟩ (s_X14_set l dC dI cs ty gm L H.size F_49 ak (ρ + 28) r_70 6000 ta (ρ + 1) 3000 0 zt hW hi_86 ht_87 hi_78 ht_79 (by first | omega | assumption) (by first | omega | assumption) (by first | omega | assumption)) ⟨callB_of 3 hts (gi kt_969) rfl rfl rfl (hts _ kt_666) (hts _ kt_970) (by decide +kernel) ⟨Nat.le_of_ble_eq_true rfl, Nat.le_of_ble_eq_true rfl⟩, (hts _ kt_971), (hts _ kt_972)⟩ ⟨fun a U g mk q => ⟨q.1, PTm.calling q.2⟩, pg_recv hK hP hi_86 hF_92 (q := (RX14, TX14, 2)) rfl, fun U hU hWm => ⟨rfl, PTm.mk hU hWm hP hK hD hE hO⟩⟩ rfl rfl hl.1 rfl (lv_room (Nat.le_of_ble_eq_true rfl)) dX15_house_29 ⟨by show _ + 0 ≤ 0; omega, by show _ + 0 ≤ 0; omega⟩) hS (fun q _ h => hFc q h) hFc (fun u t H1 locs ht hvm hw hB hz1 hk1 hS => ?_)
    obtain ⟨F_95, hB1, hq_96⟩ := hB
    obtain ⟨hP, hD, hO, hR⟩ := QTm.back hB1 ht hFc hR (fun q h => by simp only [List.mem_cons, List.not_mem_nil, or_false] at h ⊢; omega)
    have hF_97 : F_95 h0 = .inr (15, (.ref ta) :: (.int 0) :: (.int (nI zo_28)) :: (.int (nI ze)) :: (.ref ou) :: (.ref so) :: (.ref ad) :: (.ref na) :: (.ref va) :: (.ref lc) :: (.ref dm) :: (.int v11_29) :: (.int v12_30) :: (.ref tg) :: (.int v14_31) :: (.int v15_32) :: (.ref pe) :: (.int v17_33) :: (.int v18_34) :: (.int v19_35) :: (.int v20_36) :: (.int v21_37) :: (.int v22_38) :: (.ref ml) :: (.ref bg) :: (.ref co) :: (.ref sp) :: (.ref nb0) :: (.ref nb1) :: (.ref nb2) :: (.int (nI nf)) :: (.int (nI bd)) :: (.int (nI mm)) :: (.int v33_39) :: (.ref pl) :: (.ref se) :: (.ref ke) :: (.ref wi) :: (.ref hs) :: (.ref mo) :: (.ref po) :: (.ref nu) :: (.ref pr) :: (.ref sq) :: (.ref xa) :: (.ref sa) :: (.ref n64) :: (.ref m64) :: (.ref ex) :: (.ref wh) :: (.ref sd) :: (.ref tk) :: (.int v52_40) :: (.int v53_41) :: (.int v54_42) :: (.ref hd) :: (.ref ak) :: (.ref ho) :: (.ref ot) :: []) := (hB1.2.2.2 h0 (by rw [hT_h0]; simp)).trans hq_50
    generalize H1 = H at hP hS ⊢
    refine lv_aload_n hx hb dX15_house_32 rfl (lv_at hl 1 rfl) ?_
    refine lv_aload_n hx hb dX15_house_33 rfl (lv_at hl 1 rfl) ?_
    refine pg_get (ci := 15) (v := .ref ak) (C := RX15) (T := TX15) (N := 59) hx hb hts it_15 hown hK hP hL_h0 hF_97 rfl 56 (by decide) (hts _ kt_1035) (fun _ h9 => h9) rfl dX15_house_34 ?_
    refine lv_aload_n hx hb dX15_house_37 rfl (lv_at hl 1 rfl) ?_
    refine pg_get (ci := 15) (v := .ref ho) (C := RX15) (T := TX15) (N := 59) hx hb hts it_15 hown hK hP hL_h0 hF_97 rfl 57 (by decide) (hts _ kt_997) (fun _ h9 => h9) rfl dX15_house_38 ?_
    obtain ⟨hi_98, r_71, ht_99⟩ := hW.f_ho hL_h0 hT_h0
    obtain ⟨hi_100, ht_101, hq_102⟩ := hW.txt hi_98 ht_99
    have hFc := pg_free hD hS hA
    refine va_callv (va_runV (As := [.ref ak, .ref ho]) (rest := []) ⟨hx, hb, hml, hown, hts⟩ (s_X15_houseOf l dC dI cs ty gm L H.size F_95 h0 ρ ta ou so ad na va lc dm tg pe ml bg co sp nb0 nb1 nb2 pl se ke wi hs mo po nu pr sq xa sa n64 m64 ex wh sd tk hd ak ho ot sx s0 s1 s2 nf bd mm ze 0 ak (ρ + 28) r_70 6000 ho (ρ + 29) r_71 6000 (zt - 0) hW hL_h0 hT_h0 hi_86 ht_87 hi_98 ht_99 hq_96 (by first | omega | assumption) (by first | omega | assumption)) ⟨callB_of 2 hts (gi kt_998) rfl rfl rfl (hts _ kt_659) (hts _ kt_999) (by decide +kernel) ⟨Nat.le_of_ble_eq_true rfl, Nat.le_of_ble_eq_true rfl⟩, (hts _ kt_1000), (hts _ kt_1001)⟩ ⟨fun a U g mk q => ⟨q.1, PTm.calling q.2⟩, pg_recv hK hP hL_h0 hF_97 (q := (RX15, TX15, 59)) rfl, fun U hU hWm => ⟨rfl, PTm.mk hU hWm hP hK hD hE hO⟩⟩ rfl rfl hl.1 rfl (lv_room (Nat.le_of_ble_eq_true rfl)) dX15_house_41 ⟨by show _ + 0 ≤ 0; omega, by show _ + 0 ≤ 0; omega⟩) hS (fun q _ h => hFc q h) hFc (fun u t H1 locs ht hvm hw hB hz1 hk1 hS => ?_)
    obtain ⟨F_104, y2_105, hB1, hq_106, hq_107⟩ := hB
    obtain ⟨hP, hD, hO, hR⟩ := QTm.back hB1 ht hFc hR (fun q h => by simp only [List.mem_cons, List.not_mem_nil, or_false] at h ⊢; omega)
    have hF_108 : F_104 h0 = .inr (15, (.ref ta) :: (.int 0) :: (.int (nI zo_28)) :: (.int (nI ze)) :: (.ref ou) :: (.ref so) :: (.ref ad) :: (.ref na) :: (.ref va) :: (.ref lc) :: (.ref dm) :: (.int v11_29) :: (.int v12_30) :: (.ref tg) :: (.int v14_31) :: (.int v15_32) :: (.ref pe) :: (.int v17_33) :: (.int v18_34) :: (.int v19_35) :: (.int v20_36) :: (.int v21_37) :: (.int v22_38) :: (.ref ml) :: (.ref bg) :: (.ref co) :: (.ref sp) :: (.ref nb0) :: (.ref nb1) :: (.ref nb2) :: (.int (nI nf)) :: (.int (nI bd)) :: (.int (nI mm)) :: (.int v33_39) :: (.ref pl) :: (.ref se) :: (.ref ke) :: (.ref wi) :: (.ref hs) :: (.ref mo) :: (.ref po) :: (.ref nu) :: (.ref pr) :: (.ref sq) :: (.ref xa) :: (.ref sa) :: (.ref n64) :: (.ref m64) :: (.ref ex) :: (.ref wh) :: (.ref sd) :: (.ref tk) :: (.int v52_40) :: (.int v53_41) :: (.int v54_42) :: (.ref hd) :: (.ref ak) :: (.ref ho) :: (.ref ot) :: []) := (hB1.2.2.2 h0 (by rw [hT_h0]; simp)).trans hF_97
    have hF_109 : F_104 ak = .inr (14, [.ref r_70, .int (nI (zt - 0))]) := (hB1.2.2.2 ak (by rw [ht_87]; simp)).trans hq_96
    generalize H1 = H at hP hS ⊢
    refine lv_aload_n hx hb dX15_house_44 rfl (lv_at hl 1 rfl) ?_
    refine lv_aload_n hx hb dX15_house_45 rfl (lv_at hl 1 rfl) ?_
    refine pg_get (ci := 15) (v := .ref ho) (C := RX15) (T := TX15) (N := 59) hx hb hts it_15 hown hK hP hL_h0 hF_108 rfl 57 (by decide) (hts _ kt_997) (fun _ h9 => h9) rfl dX15_house_46 ?_
    have hFc := pg_free hD hS hA
    refine va_calli (va_runV (As := [.ref ho]) (rest := []) ⟨hx, hb, hml, hown, hts⟩ (s_X15_tell l dC dI cs ty gm L H.size F_104 h0 ρ ta ou so ad na va lc dm tg pe ml bg co sp nb0 nb1 nb2 pl se ke wi hs mo po nu pr sq xa sa n64 m64 ex wh sd tk hd ak ho ot sx s0 s1 s2 nf bd mm ze 0 ho (ρ + 29) r_71 hW hL_h0 hT_h0 hi_98 ht_99) ⟨callB_of 1 hts (gi kt_919) rfl rfl rfl (hts _ kt_659) (hts _ kt_920) (by decide +kernel) ⟨Nat.le_of_ble_eq_true rfl, Nat.le_of_ble_eq_true rfl⟩, (hts _ kt_921), (hts _ kt_922)⟩ ⟨fun a U g mk q => ⟨q.1, PTm.calling q.2⟩, pg_recv hK hP hL_h0 hF_108 (q := (RX15, TX15, 59)) rfl, fun U hU hWm => ⟨rfl, PTm.mk hU hWm hP hK hD hE hO⟩⟩ rfl rfl hl.1 rfl (lv_room (Nat.le_of_ble_eq_true rfl)) dX15_house_49 ⟨by show _ + 0 ≤ 0; omega, by show _ + 0 ≤ 0; omega⟩) hS (fun q _ h => hFc q h) hFc (fun r_110 u t H1 locs ht hvm hw hB hz1 hk1 hS => ?_)
    obtain ⟨F_111, hB1⟩ := hB
    obtain ⟨hP, hD, hO, hR⟩ := QTm.back hB1 ht hFc hR (fun q h => by simp only [List.mem_cons, List.not_mem_nil, or_false] at h ⊢; omega)
    have hF_112 : F_111 ak = .inr (14, [.ref r_70, .int (nI (zt - 0))]) := (hB1.2.2.2 ak (by rw [ht_87]; simp)).trans hF_109
    have hF_113 : F_111 ho = .inr (14, [.ref r_71, .int (nI y2_105)]) := (hB1.2.2.2 ho (by rw [ht_99]; simp)).trans hq_106
    generalize H1 = H at hP hS ⊢
    have hw : True := hw
    have hw_114 := hw
    refine W.widen (k := 0) (n := 0) (by omega) (by omega) ?_
    exact W.iret (v := r_110) hx hb hr (fun t ht hWm => ⟨⟨r_110, (), rfl, trivial, ⟨F_111, ty, hty, QTm.mk ht hP hD hO hR, hW⟩⟩, hS.F ht⟩) hS.2.2 dX15_house_52
  ·
    refine lv_iconst (v := (-1)) hx hb dX15_house_17 (by decide) ?_
    refine W.widen (k := 0) (n := 0) (by omega) (by omega) ?_
    exact W.iret (v := (-1)) hx hb hr (fun t ht hWm => ⟨⟨(-1), (), rfl, trivial, ⟨F_49, ty, hty, QTm.mk ht hP hD hO hR, hW⟩⟩, hS.F ht⟩) hS.2.2 dX15_house_18
