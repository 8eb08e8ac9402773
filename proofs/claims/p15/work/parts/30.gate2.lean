theorem dX11_digest_0 : decode cX11_digest 0 = .ok (.aload_n 0, 1) := by decide +kernel
theorem dX11_digest_1 : decode cX11_digest 1 = .ok (.getfield 54, 3) := by decide +kernel
theorem dX11_digest_4 : decode cX11_digest 4 = .ok (.aload_n 0, 1) := by decide +kernel
theorem dX11_digest_5 : decode cX11_digest 5 = .ok (.getfield 14, 3) := by decide +kernel
theorem dX11_digest_8 : decode cX11_digest 8 = .ok (.aload_n 0, 1) := by decide +kernel
theorem dX11_digest_9 : decode cX11_digest 9 = .ok (.getfield 14, 3) := by decide +kernel
theorem dX11_digest_12 : decode cX11_digest 12 = .ok (.getfield 68, 3) := by decide +kernel
theorem dX11_digest_15 : decode cX11_digest 15 = .ok (.aload_n 0, 1) := by decide +kernel
theorem dX11_digest_16 : decode cX11_digest 16 = .ok (.getfield 18, 3) := by decide +kernel
theorem dX11_digest_19 : decode cX11_digest 19 = .ok (.invokevirtual 173, 3) := by decide +kernel
theorem dX11_digest_22 : decode cX11_digest 22 = .ok (.aload_n 0, 1) := by decide +kernel
theorem dX11_digest_23 : decode cX11_digest 23 = .ok (.getfield 14, 3) := by decide +kernel
theorem dX11_digest_26 : decode cX11_digest 26 = .ok (.invokevirtual 82, 3) := by decide +kernel
theorem dX11_digest_29 : decode cX11_digest 29 = .ok (.aload_n 0, 1) := by decide +kernel
theorem dX11_digest_30 : decode cX11_digest 30 = .ok (.getfield 18, 3) := by decide +kernel
theorem dX11_digest_33 : decode cX11_digest 33 = .ok (.getfield 68, 3) := by decide +kernel
theorem dX11_digest_36 : decode cX11_digest 36 = .ok (.ireturn, 1) := by decide +kernel
theorem dX11_hasAlignedSeal_0 : decode cX11_hasAlignedSeal 0 = .ok (.iconst 0, 1) := by decide +kernel
theorem dX11_hasAlignedSeal_1 : decode cX11_hasAlignedSeal 1 = .ok (.istore_n 2, 1) := by decide +kernel
theorem dX11_hasAlignedSeal_2 : decode cX11_hasAlignedSeal 2 = .ok (.iload_n 2, 1) := by decide +kernel
theorem dX11_hasAlignedSeal_3 : decode cX11_hasAlignedSeal 3 = .ok (.aload_n 0, 1) := by decide +kernel
theorem dX11_hasAlignedSeal_4 : decode cX11_hasAlignedSeal 4 = .ok (.getfield 61, 3) := by decide +kernel
theorem dX11_hasAlignedSeal_7 : decode cX11_hasAlignedSeal 7 = .ok (.getfield 109, 3) := by decide +kernel
theorem dX11_hasAlignedSeal_10 : decode cX11_hasAlignedSeal 10 = .ok (.if_icmp .ge 68, 3) := by decide +kernel
theorem dX11_hasAlignedSeal_13 : decode cX11_hasAlignedSeal 13 = .ok (.aload_n 0, 1) := by decide +kernel
theorem dX11_hasAlignedSeal_14 : decode cX11_hasAlignedSeal 14 = .ok (.getfield 61, 3) := by decide +kernel
theorem dX11_hasAlignedSeal_17 : decode cX11_hasAlignedSeal 17 = .ok (.iload_n 2, 1) := by decide +kernel
theorem dX11_hasAlignedSeal_18 : decode cX11_hasAlignedSeal 18 = .ok (.ldc 112, 2) := by decide +kernel
theorem dX11_hasAlignedSeal_20 : decode cX11_hasAlignedSeal 20 = .ok (.invokevirtual 165, 3) := by decide +kernel
theorem dX11_hasAlignedSeal_23 : decode cX11_hasAlignedSeal 23 = .ok (.ifCond .eq 49, 3) := by decide +kernel
theorem dX11_hasAlignedSeal_26 : decode cX11_hasAlignedSeal 26 = .ok (.aload_n 0, 1) := by decide +kernel
theorem dX11_hasAlignedSeal_27 : decode cX11_hasAlignedSeal 27 = .ok (.getfield 40, 3) := by decide +kernel
theorem dX11_hasAlignedSeal_30 : decode cX11_hasAlignedSeal 30 = .ok (.aload_n 0, 1) := by decide +kernel
theorem dX11_hasAlignedSeal_31 : decode cX11_hasAlignedSeal 31 = .ok (.getfield 61, 3) := by decide +kernel
theorem dX11_hasAlignedSeal_34 : decode cX11_hasAlignedSeal 34 = .ok (.iload_n 2, 1) := by decide +kernel
theorem dX11_hasAlignedSeal_35 : decode cX11_hasAlignedSeal 35 = .ok (.iload_n 1, 1) := by decide +kernel
theorem dX11_hasAlignedSeal_36 : decode cX11_hasAlignedSeal 36 = .ok (.invokevirtual 122, 3) := by decide +kernel
theorem dX11_hasAlignedSeal_39 : decode cX11_hasAlignedSeal 39 = .ok (.iconst 2, 1) := by decide +kernel
theorem dX11_hasAlignedSeal_40 : decode cX11_hasAlignedSeal 40 = .ok (.if_icmp .eq 6, 3) := by decide +kernel
theorem dX11_hasAlignedSeal_43 : decode cX11_hasAlignedSeal 43 = .ok (.goto 29, 3) := by decide +kernel
theorem dX11_hasAlignedSeal_46 : decode cX11_hasAlignedSeal 46 = .ok (.aload_n 0, 1) := by decide +kernel
theorem dX11_hasAlignedSeal_47 : decode cX11_hasAlignedSeal 47 = .ok (.getfield 47, 3) := by decide +kernel
theorem dX11_hasAlignedSeal_50 : decode cX11_hasAlignedSeal 50 = .ok (.aload_n 0, 1) := by decide +kernel
theorem dX11_hasAlignedSeal_51 : decode cX11_hasAlignedSeal 51 = .ok (.getfield 40, 3) := by decide +kernel
theorem dX11_hasAlignedSeal_54 : decode cX11_hasAlignedSeal 54 = .ok (.getfield 169, 3) := by decide +kernel
theorem dX11_hasAlignedSeal_57 : decode cX11_hasAlignedSeal 57 = .ok (.aload_n 0, 1) := by decide +kernel
theorem dX11_hasAlignedSeal_58 : decode cX11_hasAlignedSeal 58 = .ok (.getfield 47, 3) := by decide +kernel
theorem dX11_hasAlignedSeal_61 : decode cX11_hasAlignedSeal 61 = .ok (.getfield 170, 3) := by decide +kernel
theorem dX11_hasAlignedSeal_64 : decode cX11_hasAlignedSeal 64 = .ok (.invokevirtual 154, 3) := by decide +kernel
theorem dX11_hasAlignedSeal_67 : decode cX11_hasAlignedSeal 67 = .ok (.ifCond .eq 5, 3) := by decide +kernel
theorem dX11_hasAlignedSeal_70 : decode cX11_hasAlignedSeal 70 = .ok (.iconst 1, 1) := by decide +kernel
theorem dX11_hasAlignedSeal_71 : decode cX11_hasAlignedSeal 71 = .ok (.ireturn, 1) := by decide +kernel
theorem dX11_hasAlignedSeal_72 : decode cX11_hasAlignedSeal 72 = .ok (.iinc 2 1, 3) := by decide +kernel
theorem dX11_hasAlignedSeal_75 : decode cX11_hasAlignedSeal 75 = .ok (.goto (-73), 3) := by decide +kernel
theorem dX11_hasAlignedSeal_78 : decode cX11_hasAlignedSeal 78 = .ok (.iconst 0, 1) := by decide +kernel
theorem dX11_hasAlignedSeal_79 : decode cX11_hasAlignedSeal 79 = .ok (.ireturn, 1) := by decide +kernel
theorem dX11_house_0 : decode cX11_house 0 = .ok (.aload_n 0, 1) := by decide +kernel
theorem dX11_house_1 : decode cX11_house 1 = .ok (.getfield 14, 3) := by decide +kernel
theorem dX11_house_4 : decode cX11_house 4 = .ok (.iconst 0, 1) := by decide +kernel
theorem dX11_house_5 : decode cX11_house 5 = .ok (.aload_n 0, 1) := by decide +kernel
theorem dX11_house_6 : decode cX11_house 6 = .ok (.getfield 14, 3) := by decide +kernel
theorem dX11_house_9 : decode cX11_house 9 = .ok (.getfield 68, 3) := by decide +kernel
theorem dX11_house_12 : decode cX11_house 12 = .ok (.invokevirtual 133, 3) := by decide +kernel
theorem dX11_house_15 : decode cX11_house 15 = .ok (.ifCond .ne 12, 3) := by decide +kernel
theorem dX11_house_18 : decode cX11_house 18 = .ok (.aload_n 0, 1) := by decide +kernel
theorem dX11_house_19 : decode cX11_house 19 = .ok (.getfield 14, 3) := by decide +kernel
theorem dX11_house_22 : decode cX11_house 22 = .ok (.invokevirtual 82, 3) := by decide +kernel
theorem dX11_house_25 : decode cX11_house 25 = .ok (.iconst (-1), 1) := by decide +kernel
theorem dX11_house_26 : decode cX11_house 26 = .ok (.ireturn, 1) := by decide +kernel
theorem dX11_house_27 : decode cX11_house 27 = .ok (.aload_n 0, 1) := by decide +kernel
theorem dX11_house_28 : decode cX11_house 28 = .ok (.getfield 18, 3) := by decide +kernel
theorem dX11_house_31 : decode cX11_house 31 = .ok (.invokevirtual 82, 3) := by decide +kernel
theorem dX11_house_34 : decode cX11_house 34 = .ok (.aload_n 0, 1) := by decide +kernel
theorem dX11_house_35 : decode cX11_house 35 = .ok (.getfield 18, 3) := by decide +kernel
theorem dX11_house_38 : decode cX11_house 38 = .ok (.aload_n 0, 1) := by decide +kernel
theorem dX11_house_39 : decode cX11_house 39 = .ok (.getfield 14, 3) := by decide +kernel
theorem dX11_house_42 : decode cX11_house 42 = .ok (.aload_n 0, 1) := by decide +kernel
theorem dX11_house_43 : decode cX11_house 43 = .ok (.getfield 24, 3) := by decide +kernel
theorem dX11_house_46 : decode cX11_house 46 = .ok (.aload_n 0, 1) := by decide +kernel
theorem dX11_house_47 : decode cX11_house 47 = .ok (.getfield 14, 3) := by decide +kernel
theorem dX11_house_50 : decode cX11_house 50 = .ok (.invokevirtual 137, 3) := by decide +kernel
theorem dX11_house_53 : decode cX11_house 53 = .ok (.aload_n 0, 1) := by decide +kernel
theorem dX11_house_54 : decode cX11_house 54 = .ok (.getfield 14, 3) := by decide +kernel
theorem dX11_house_57 : decode cX11_house 57 = .ok (.getfield 68, 3) := by decide +kernel
theorem dX11_house_60 : decode cX11_house 60 = .ok (.invokevirtual 141, 3) := by decide +kernel
theorem dX11_house_63 : decode cX11_house 63 = .ok (.aload_n 0, 1) := by decide +kernel
theorem dX11_house_64 : decode cX11_house 64 = .ok (.getfield 14, 3) := by decide +kernel
theorem dX11_house_67 : decode cX11_house 67 = .ok (.invokevirtual 82, 3) := by decide +kernel
theorem dX11_house_70 : decode cX11_house 70 = .ok (.aload_n 0, 1) := by decide +kernel
theorem dX11_house_71 : decode cX11_house 71 = .ok (.getfield 18, 3) := by decide +kernel
theorem dX11_house_74 : decode cX11_house 74 = .ok (.getfield 68, 3) := by decide +kernel
theorem dX11_house_77 : decode cX11_house 77 = .ok (.ireturn, 1) := by decide +kernel
theorem dX11_octet_0 : decode cX11_octet 0 = .ok (.iload_n 1, 1) := by decide +kernel
theorem dX11_octet_1 : decode cX11_octet 1 = .ok (.iconst (-1), 1) := by decide +kernel
theorem dX11_octet_2 : decode cX11_octet 2 = .ok (.if_icmp .ne 11, 3) := by decide +kernel
theorem dX11_octet_5 : decode cX11_octet 5 = .ok (.aload_n 0, 1) := by decide +kernel
theorem dX11_octet_6 : decode cX11_octet 6 = .ok (.getfield 18, 3) := by decide +kernel
theorem dX11_octet_9 : decode cX11_octet 9 = .ok (.getfield 68, 3) := by decide +kernel
theorem dX11_octet_12 : decode cX11_octet 12 = .ok (.ireturn, 1) := by decide +kernel
theorem dX11_octet_13 : decode cX11_octet 13 = .ok (.iload_n 1, 1) := by decide +kernel
theorem dX11_octet_14 : decode cX11_octet 14 = .ok (.ifCond .lt 14, 3) := by decide +kernel
theorem dX11_octet_17 : decode cX11_octet 17 = .ok (.iload_n 1, 1) := by decide +kernel
theorem dX11_octet_18 : decode cX11_octet 18 = .ok (.aload_n 0, 1) := by decide +kernel
theorem dX11_octet_19 : decode cX11_octet 19 = .ok (.getfield 18, 3) := by decide +kernel
theorem dX11_octet_22 : decode cX11_octet 22 = .ok (.getfield 68, 3) := by decide +kernel
theorem dX11_octet_25 : decode cX11_octet 25 = .ok (.if_icmp .lt 8, 3) := by decide +kernel
theorem dX11_octet_28 : decode cX11_octet 28 = .ok (.bipush (-2), 2) := by decide +kernel
theorem dX11_octet_30 : decode cX11_octet 30 = .ok (.goto 11, 3) := by decide +kernel
theorem dX11_octet_33 : decode cX11_octet 33 = .ok (.aload_n 0, 1) := by decide +kernel
theorem dX11_octet_34 : decode cX11_octet 34 = .ok (.getfield 18, 3) := by decide +kernel
theorem dX11_octet_37 : decode cX11_octet 37 = .ok (.iload_n 1, 1) := by decide +kernel
theorem dX11_octet_38 : decode cX11_octet 38 = .ok (.invokevirtual 177, 3) := by decide +kernel
theorem dX11_octet_41 : decode cX11_octet 41 = .ok (.ireturn, 1) := by decide +kernel
theorem dX11_plainBody_0 : decode cX11_plainBody 0 = .ok (.aload_n 0, 1) := by decide +kernel
theorem dX11_plainBody_1 : decode cX11_plainBody 1 = .ok (.getfield 61, 3) := by decide +kernel
theorem dX11_plainBody_4 : decode cX11_plainBody 4 = .ok (.getfield 109, 3) := by decide +kernel
theorem dX11_plainBody_7 : decode cX11_plainBody 7 = .ok (.ifCond .ne 6, 3) := by decide +kernel
theorem dX11_plainBody_10 : decode cX11_plainBody 10 = .ok (.bipush (-2), 2) := by decide +kernel
theorem dX11_plainBody_12 : decode cX11_plainBody 12 = .ok (.ireturn, 1) := by decide +kernel
theorem dX11_plainBody_13 : decode cX11_plainBody 13 = .ok (.aload_n 0, 1) := by decide +kernel
theorem dX11_plainBody_14 : decode cX11_plainBody 14 = .ok (.getfield 18, 3) := by decide +kernel
theorem dX11_plainBody_17 : decode cX11_plainBody 17 = .ok (.invokevirtual 82, 3) := by decide +kernel
theorem dX11_plainBody_20 : decode cX11_plainBody 20 = .ok (.aload_n 0, 1) := by decide +kernel
theorem dX11_plainBody_21 : decode cX11_plainBody 21 = .ok (.getfield 61, 3) := by decide +kernel
theorem dX11_plainBody_24 : decode cX11_plainBody 24 = .ok (.aload_n 0, 1) := by decide +kernel
theorem dX11_plainBody_25 : decode cX11_plainBody 25 = .ok (.getfield 18, 3) := by decide +kernel
theorem dX11_plainBody_28 : decode cX11_plainBody 28 = .ok (.iload_n 1, 1) := by decide +kernel
theorem dX11_plainBody_29 : decode cX11_plainBody 29 = .ok (.invokevirtual 125, 3) := by decide +kernel
theorem dX11_plainBody_32 : decode cX11_plainBody 32 = .ok (.aload_n 0, 1) := by decide +kernel
theorem dX11_plainBody_33 : decode cX11_plainBody 33 = .ok (.getfield 18, 3) := by decide +kernel
theorem dX11_plainBody_36 : decode cX11_plainBody 36 = .ok (.getfield 68, 3) := by decide +kernel
theorem dX11_plainBody_39 : decode cX11_plainBody 39 = .ok (.ireturn, 1) := by decide +kernel
theorem dX11_plainField_0 : decode cX11_plainField 0 = .ok (.iload_n 1, 1) := by decide +kernel
theorem dX11_plainField_1 : decode cX11_plainField 1 = .ok (.ifCond .lt 14, 3) := by decide +kernel
theorem dX11_plainField_4 : decode cX11_plainField 4 = .ok (.iload_n 1, 1) := by decide +kernel
theorem dX11_plainField_5 : decode cX11_plainField 5 = .ok (.aload_n 0, 1) := by decide +kernel
theorem dX11_plainField_6 : decode cX11_plainField 6 = .ok (.getfield 61, 3) := by decide +kernel
theorem dX11_plainField_9 : decode cX11_plainField 9 = .ok (.getfield 109, 3) := by decide +kernel
theorem dX11_plainField_12 : decode cX11_plainField 12 = .ok (.if_icmp .lt 6, 3) := by decide +kernel
theorem dX11_plainField_15 : decode cX11_plainField 15 = .ok (.bipush (-2), 2) := by decide +kernel
theorem dX11_plainField_17 : decode cX11_plainField 17 = .ok (.ireturn, 1) := by decide +kernel
theorem dX11_plainField_18 : decode cX11_plainField 18 = .ok (.aload_n 0, 1) := by decide +kernel
theorem dX11_plainField_19 : decode cX11_plainField 19 = .ok (.getfield 18, 3) := by decide +kernel
theorem dX11_plainField_22 : decode cX11_plainField 22 = .ok (.invokevirtual 82, 3) := by decide +kernel
theorem dX11_plainField_25 : decode cX11_plainField 25 = .ok (.aload_n 0, 1) := by decide +kernel
theorem dX11_plainField_26 : decode cX11_plainField 26 = .ok (.getfield 61, 3) := by decide +kernel
theorem dX11_plainField_29 : decode cX11_plainField 29 = .ok (.aload_n 0, 1) := by decide +kernel
theorem dX11_plainField_30 : decode cX11_plainField 30 = .ok (.getfield 18, 3) := by decide +kernel
theorem dX11_plainField_33 : decode cX11_plainField 33 = .ok (.iload_n 1, 1) := by decide +kernel
theorem dX11_plainField_34 : decode cX11_plainField 34 = .ok (.iload_n 2, 1) := by decide +kernel
theorem dX11_plainField_35 : decode cX11_plainField 35 = .ok (.iconst 0, 1) := by decide +kernel
theorem dX11_plainField_36 : decode cX11_plainField 36 = .ok (.iconst 0, 1) := by decide +kernel
theorem dX11_plainField_37 : decode cX11_plainField 37 = .ok (.invokevirtual 129, 3) := by decide +kernel
theorem dX11_plainField_40 : decode cX11_plainField 40 = .ok (.aload_n 0, 1) := by decide +kernel
theorem dX11_plainField_41 : decode cX11_plainField 41 = .ok (.getfield 18, 3) := by decide +kernel
theorem dX11_plainField_44 : decode cX11_plainField 44 = .ok (.getfield 68, 3) := by decide +kernel
theorem dX11_plainField_47 : decode cX11_plainField 47 = .ok (.ireturn, 1) := by decide +kernel
theorem dX11_sealed_0 : decode cX11_sealed 0 = .ok (.iload_n 2, 1) := by decide +kernel
theorem dX11_sealed_1 : decode cX11_sealed 1 = .ok (.ifCond .ge 5, 3) := by decide +kernel
theorem dX11_sealed_4 : decode cX11_sealed 4 = .ok (.iconst (-1), 1) := by decide +kernel
theorem dX11_sealed_5 : decode cX11_sealed 5 = .ok (.ireturn, 1) := by decide +kernel
theorem dX11_sealed_6 : decode cX11_sealed 6 = .ok (.aload_n 0, 1) := by decide +kernel
theorem dX11_sealed_7 : decode cX11_sealed 7 = .ok (.getfield 61, 3) := by decide +kernel
theorem dX11_sealed_10 : decode cX11_sealed 10 = .ok (.ldc 112, 2) := by decide +kernel
theorem dX11_sealed_12 : decode cX11_sealed 12 = .ok (.iload_n 1, 1) := by decide +kernel
theorem dX11_sealed_13 : decode cX11_sealed 13 = .ok (.invokevirtual 118, 3) := by decide +kernel
theorem dX11_sealed_16 : decode cX11_sealed 16 = .ok (.istore_n 3, 1) := by decide +kernel
theorem dX11_sealed_17 : decode cX11_sealed 17 = .ok (.iload_n 3, 1) := by decide +kernel
theorem dX11_sealed_18 : decode cX11_sealed 18 = .ok (.ifCond .ge 8, 3) := by decide +kernel
theorem dX11_sealed_21 : decode cX11_sealed 21 = .ok (.bipush (-2), 2) := by decide +kernel
theorem dX11_sealed_23 : decode cX11_sealed 23 = .ok (.goto 16, 3) := by decide +kernel
theorem dX11_sealed_26 : decode cX11_sealed 26 = .ok (.aload_n 0, 1) := by decide +kernel
theorem dX11_sealed_27 : decode cX11_sealed 27 = .ok (.getfield 40, 3) := by decide +kernel
theorem dX11_sealed_30 : decode cX11_sealed 30 = .ok (.aload_n 0, 1) := by decide +kernel
theorem dX11_sealed_31 : decode cX11_sealed 31 = .ok (.getfield 61, 3) := by decide +kernel
theorem dX11_sealed_34 : decode cX11_sealed 34 = .ok (.iload_n 3, 1) := by decide +kernel
theorem dX11_sealed_35 : decode cX11_sealed 35 = .ok (.iload_n 2, 1) := by decide +kernel
theorem dX11_sealed_36 : decode cX11_sealed 36 = .ok (.invokevirtual 122, 3) := by decide +kernel
theorem dX11_sealed_39 : decode cX11_sealed 39 = .ok (.ireturn, 1) := by decide +kernel
theorem kt_520 : Cond.methodLink RX11 118 yX4_fieldOf ∈ tb := tb_at (i := 838) (by decide +kernel) (by decide +kernel)
theorem kt_521 : Cond.fieldLink RX11 40 "PostGate" "sealer" "LPostGate$Sealer;" ∈ tb := tb_at (i := 461) (by decide +kernel) (by decide +kernel)
theorem kt_522 : Cond.code yX7_judge cX7_judge 5 (some .int) ∈ tb := tb_at (i := 845) (by decide +kernel) (by decide +kernel)
theorem kt_523 : Cond.methodLink RX11 122 yX7_judge ∈ tb := tb_at (i := 842) (by decide +kernel) (by decide +kernel)
theorem kt_524 : Cond.instanceMethod yX7_judge ∈ tb := tb_at (i := 843) (by decide +kernel) (by decide +kernel)
theorem kt_525 : Cond.selects RX7 yX7_judge yX7_judge ∈ tb := tb_at (i := 844) (by decide +kernel) (by decide +kernel)
theorem kt_526 : Cond.fieldLink RX11 18 "PostGate" "out" "LPostGate$Bytes;" ∈ tb := tb_at (i := 458) (by decide +kernel) (by decide +kernel)
theorem kt_527 : Cond.methodLink RX11 82 yX0_clear ∈ tb := tb_at (i := 551) (by decide +kernel) (by decide +kernel)
theorem kt_528 : Cond.methodLink RX11 125 yX4_addBody ∈ tb := tb_at (i := 1087) (by decide +kernel) (by decide +kernel)
theorem kt_529 : Cond.methodLink RX11 129 yX4_addFieldWithout ∈ tb := tb_at (i := 1092) (by decide +kernel) (by decide +kernel)
theorem kt_530 : Cond.methodLink RX11 133 yX0_isName ∈ tb := tb_at (i := 1097) (by decide +kernel) (by decide +kernel)
theorem kt_531 : Cond.methodLink RX11 137 yX2_houseStart ∈ tb := tb_at (i := 1098) (by decide +kernel) (by decide +kernel)
theorem kt_532 : Cond.methodLink RX11 141 yX0_addRange ∈ tb := tb_at (i := 1115) (by decide +kernel) (by decide +kernel)
theorem kt_533 : Cond.methodLink RX11 165 yX4_isNamed ∈ tb := tb_at (i := 1184) (by decide +kernel) (by decide +kernel)
theorem kt_534 : Cond.fieldLink RX11 47 "PostGate" "policy" "LPostGate$Policy;" ∈ tb := tb_at (i := 462) (by decide +kernel) (by decide +kernel)
theorem kt_535 : Cond.code yX5_isAligned cX5_isAligned 3 (some .boolean) ∈ tb := tb_at (i := 1172) (by decide +kernel) (by decide +kernel)
theorem kt_536 : Cond.methodLink RX11 154 yX5_isAligned ∈ tb := tb_at (i := 1169) (by decide +kernel) (by decide +kernel)
theorem kt_537 : Cond.instanceMethod yX5_isAligned ∈ tb := tb_at (i := 1170) (by decide +kernel) (by decide +kernel)
theorem kt_538 : Cond.selects RX5 yX5_isAligned yX5_isAligned ∈ tb := tb_at (i := 1171) (by decide +kernel) (by decide +kernel)
theorem kt_539 : Cond.fieldLink RX11 54 "PostGate" "sha" "LPostGate$Sha;" ∈ tb := tb_at (i := 463) (by decide +kernel) (by decide +kernel)
theorem kt_540 : Cond.methodLink RX11 173 yX8_sumOf ∈ tb := tb_at (i := 1189) (by decide +kernel) (by decide +kernel)
theorem kt_541 : Cond.methodLink RX11 177 yX0_at ∈ tb := tb_at (i := 1194) (by decide +kernel) (by decide +kernel)
theorem kn_20 : Cond.fieldLinkNest RX11 109 "PostGate$Message" "count" "I" "PostGate" ∈ nw := nw_at (i := 361) (by decide +kernel) rfl
theorem kn_21 : Cond.fieldLinkNest RX11 169 "PostGate$Sealer" "domain" "LPostGate$Bytes;" "PostGate" ∈ nw := nw_at (i := 256) (by decide +kernel) rfl
theorem kn_22 : Cond.fieldLinkNest RX11 170 "PostGate$Policy" "strictSeal" "Z" "PostGate" ∈ nw := nw_at (i := 324) (by decide +kernel) rfl
set_option maxHeartbeats 4000000 in
set_option maxRecDepth 100000 in
theorem s_X11_sealed (l : Launch) (dC : Nat → ClassId) (dI : Nat → Nat → Nat) (cs : Nat → ClassId) (ty : TyM) (L : List Nat) (sz : Nat) (F : Nat → va_E) (h0 : Nat) (ρ : Nat) (ta : Nat) (ou : Nat) (di : Nat) (ea : Nat) (ck : Nat) (sl : Nat) (po : Nat) (hs : Nat) (zt : Nat) (x1 : Int32) (x2 : Int32) (hW : WT ty L) (hL_h0 : h0 ∈ L) (hT_h0 : ty h0 = (11, ρ, [ta, ou, di, ea, ck, sl, po, hs])) (hTS : TS F ta zt) : Met l yX11_sealed (.code yX11_sealed cX11_sealed 4 (some .int) :: tb) ({ frames := 10, cells := 0, slots := 0, locals := 223 }) (va_Pc [.ref h0, .int x1, .int x2] (PTE (dC, dI) cs ty L F sz [])) (va_Qi (fun (r : Int32) (_ : Unit) => True) (fun _ T9 => ∃ F2 : Nat → va_E, QT (dC, dI) cs ty L [ρ + 7, ρ + 8, ρ + 9, ρ + 10, ρ + 11, ρ + 12, ρ + 13, ρ + 14, ρ + 79, ρ + 80, ρ + 81, ρ + 82, ρ + 89, ρ + 90, ρ + 91, ρ + 92, ρ + 93, ρ + 94, ρ + 95, ρ + 96, ρ + 97, ρ + 98, ρ + 99, ρ + 100, ρ + 101, ρ + 102] F F2 (va_A (va_pl L F) sz) T9 ∧ TS F2 ta (zt)) (va_A (va_pl L F) sz)) 0 0 (va_A (va_pl L F) sz) := by
  refine Met.ofW (cc := cX11_sealed) (maxL := 4) (ret := (some .int)) (by decide) rfl ?_
  intro p e s m args below meth c s₁ B hml hv
  obtain ⟨rfl, ⟨hsz, hP, hK, hD0, hE, hO⟩, hG, hX⟩ := hv
  have hx := B.exec
  have hb := B.bytes
  have hr := B.returns
  have hts : ∀ w ∈ tb, w.before _ s = true := fun w h => atoms_spec (ws := .code yX11_sealed cX11_sealed 4 (some .int) :: tb) B.pre w (List.mem_cons_of_mem _ h)
  have hown : s.vm.findClass RX11 = some m.cls := findClass_of_methodNamed B.named
  have hlocks := B.notSynchronized
  subst hsz
  have hD := hD0.self (sz := s.heap.size)
  generalize hAe : va_A (va_pl L F) s.heap.size = A at hD hG hX ⊢
  have hA : ∀ q : Nat, s.heap.size ≤ q → A q := fun q h => by rw [← hAe]; exact Or.inr h
  have hS : va_S A s.heap s.heap [] := va_S.rf
  have hR : FR ty [ρ + 7, ρ + 8, ρ + 9, ρ + 10, ρ + 11, ρ + 12, ρ + 13, ρ + 14, ρ + 79, ρ + 80, ρ + 81, ρ + 82, ρ + 89, ρ + 90, ρ + 91, ρ + 92, ρ + 93, ρ + 94, ρ + 95, ρ + 96, ρ + 97, ρ + 98, ρ + 99, ρ + 100, ρ + 101, ρ + 102] F F := FR.refl
  have hl := lv_entry ([.ref h0, .int x1, .int x2]) (n := 4) (Nat.le_of_ble_eq_true rfl)
  rw [lg_entry_eq]
  generalize (lg_sl ([.ref h0, .int x1, .int x2]) ++ List.replicate (4 - (lg_sl ([.ref h0, .int x1, .int x2])).length) Slot.unset).toArray = ls at hl ⊢
  have hl : lv_has ls 4 [(0, .ref h0), (1, .int x1), (2, .int x2)] := hl
  obtain ⟨hi_1, ⟨r_2, ht_3⟩, hi_4, ⟨r_5, ht_6⟩, hi_7, ht_8, hi_9, ⟨w0_10, w1_11, w2_12, w3_13, nm_14, te_15, ht_16⟩, hi_17, ⟨l1_18, lx_19, ly0_20, ly1_21, ly2_22, k1_23, kx_24, ky0_25, ky1_26, ky2_27, w0_28, w1_29, w2_30, w3_31, w4_32, w5_33, w6_34, w7_35, w8_36, tk_37, h1_38, hx_39, hy_40, hw_41, pw_42, px_43, py_44, pz_45, pu_46, ht_47⟩, hi_48, ⟨w0_49, w1_50, rc_51, rx_52, ry0_53, ry1_54, ry2_55, ht_56⟩, hi_57, ⟨hx_58, hy_59, hw_60, ht_61⟩⟩ := hW.gate hL_h0 hT_h0
  obtain ⟨le_62, sp_63, μ_64, ν_65, hF_66, hq_67, hq_68, hq_69, hq_70, hq_71, hq_72⟩ := hO.gate hL_h0 hT_h0
  obtain ⟨x_73, y0_74, y1_75, y2_76, ht_77⟩ := id hq_68
  obtain ⟨x_78, y0_79, y1_80, y2_81, ht_82⟩ := id hq_70
  obtain ⟨hi_83, ht_84, hq_85⟩ := hW.bytes hi_1 ht_3
  obtain ⟨z_86, o_87, hF_88, hq_89, hq_90⟩ := hO.bytes hi_1 ht_3
  have hts_91 := ts_of hF_88 hTS
  have hzt := (hTS).1
  refine lv_iload_n hx hb dX11_sealed_0 rfl (lv_at hl 2 rfl) ?_
  refine lv_if_ge (tgt := 6) hx hb dX11_sealed_1 (by decide) (fun c_92 => ?_) (fun c_92 => ?_)
  ·
    refine lv_aload_n hx hb dX11_sealed_6 rfl (lv_at hl 0 rfl) ?_
    refine pg_get (ci := 11) (v := .ref le_62) (C := RX11) (T := TX11) (N := 9) hx hb hts it_11 hown hK hP hL_h0 hF_66 rfl 7 (by decide) (hts _ kt_518) (fun _ h9 => h9) rfl dX11_sealed_7 ?_
    obtain ⟨q_93, v_94, hr_q_93, hXc_q_93⟩ := hG.2.2.2.2 ("PostGate", 112, "dkim-signature", [100, 107, 105, 109, 45, 115, 105, 103, 110, 97, 116, 117, 114, 101]) (by decide +kernel)
    have hXc_q_93 : SXc q_93 v_94 14 (cct [100, 107, 105, 109, 45, 115, 105, 103, 110, 97, 116, 117, 114, 101]) A s s.heap := hXc_q_93
    have hX_q_93 : SX q_93 v_94 14 A s s.heap := hXc_q_93.sx
    obtain ⟨xo_q_93, xc_q_93, xv_q_93, xt_q_93, xn_q_93⟩ := id hXc_q_93
    have hr_q_93 : vk_R "PostGate" 112 "dkim-signature" q_93 s := hr_q_93
    refine va_ldcS hx hb hown hr_q_93 dX11_sealed_10 ?_
    refine lv_iload_n hx hb dX11_sealed_12 rfl (lv_at hl 1 rfl) ?_
    have hFc := pg_free hD hS hA
    obtain ⟨hi_95, hi_96, hi_97, hi_98, ⟨r_99, ht_100⟩, ht_101, ht_102, ht_103⟩ := hW.msg hq_67 ht_77
    obtain ⟨z_104, v0_105, hF_106, hq_107⟩ := hO.msg hq_67 ht_77
    refine va_calli (va_runV (As := [.ref q_93, .int x1]) (rest := []) ⟨hx, hb, hml, hown, hts⟩ (s_X4_fieldOf l dC dI cs ty L s.heap.size F le_62 μ_64 x_73 y0_74 y1_75 y2_76 q_93 v_94 14 x1 hW hq_67 ht_77) ⟨callB_of 2 hts (gi kt_486) rfl rfl rfl (hts _ kt_211) (hts _ kt_520) (by decide +kernel) ⟨Nat.le_of_ble_eq_true rfl, Nat.le_of_ble_eq_true rfl⟩, (hts _ kt_488), (hts _ kt_489)⟩ ⟨fun a U g mk q => ⟨q.1, PTE.calling q.2⟩, pg_recv hK hP hq_67 hF_106 (q := (RX4, TX4, 6)) rfl, fun U hU hWm => ⟨rfl, PTE.mk hU hWm hP hK hD hE hO hG (fun x hx => by rw [List.mem_singleton] at hx; subst hx; exact hX_q_93) hS hFc⟩⟩ rfl rfl hl.1 rfl (lv_room (Nat.le_of_ble_eq_true rfl)) dX11_sealed_13 ⟨by show _ + 0 ≤ 0; omega, by show _ + 0 ≤ 0; omega⟩) hS (fun q _ h => hFc q h) hFc (fun r_108 u t H1 locs ht hvm hw hB hz1 hk1 hS => ?_)
    obtain ⟨F_109, hB1⟩ := hB
    obtain rfl : F = F_109 := (funext (fun a => hB1.2.2.2 a List.not_mem_nil)).symm
    obtain ⟨hP, hD, hO, hR⟩ := QT.back hB1 ht hFc hR (fun q h => absurd h List.not_mem_nil)
    generalize H1 = H at hP hS ⊢
    have hw : (r_108 = (-1) ∨ ∃ j : Nat, j < 20 ∧ r_108 = nI j) := hw
    have hw_110 := hw
    refine lv_istore_n (lv' := [(3, .int r_108), (0, .ref h0), (1, .int x1), (2, .int x2)]) hx hb dX11_sealed_16 rfl hl (by decide) rfl (fun ls hl => ?_)
    refine lv_iload_n hx hb dX11_sealed_17 rfl (lv_at hl 0 rfl) ?_
    refine lv_if_ge (tgt := 26) hx hb dX11_sealed_18 (by decide) (fun c_111 => ?_) (fun c_111 => ?_)
    ·
      obtain ⟨j, hj, ej⟩ := rowB hw_110 c_111
      subst ej
      refine lv_aload_n hx hb dX11_sealed_26 rfl (lv_at hl 1 rfl) ?_
      refine pg_get (ci := 11) (v := .ref sl) (C := RX11) (T := TX11) (N := 9) hx hb hts it_11 hown hK hP hL_h0 hF_66 rfl 4 (by decide) (hts _ kt_521) (fun _ h9 => h9) rfl dX11_sealed_27 ?_
      refine lv_aload_n hx hb dX11_sealed_30 rfl (lv_at hl 1 rfl) ?_
      refine pg_get (ci := 11) (v := .ref le_62) (C := RX11) (T := TX11) (N := 9) hx hb hts it_11 hown hK hP hL_h0 hF_66 rfl 7 (by decide) (hts _ kt_518) (fun _ h9 => h9) rfl dX11_sealed_31 ?_
      refine lv_iload_n hx hb dX11_sealed_34 rfl (lv_at hl 0 rfl) ?_
      refine lv_iload_n hx hb dX11_sealed_35 rfl (lv_at hl 3 rfl) ?_
      have hFc := pg_free hD hS hA
      obtain ⟨hi_112, ht_113, hi_114, ht_115, hi_116, ht_117, hi_118, ⟨r_119, ht_120⟩, hi_121, ⟨r_122, ht_123⟩, hi_124, ⟨r_125, ht_126⟩, hi_127, ⟨r_128, ht_129⟩, hi_130, ⟨r_131, ht_132⟩, hi_133, ⟨r_134, ht_135⟩, hi_136, ⟨r_137, ht_138⟩, hi_139, ⟨r_140, ht_141⟩, hi_142, ⟨r_143, ht_144⟩, hi_145, ht_146, hi_147, ht_148, hi_149, ht_150⟩ := hW.slr hi_17 ht_47
      have ht_115 : ty l1_18 = (9, ρ + 9, [lx_19, 3000, ly0_20, ly1_21, ly2_22]) := ht_115
      have ht_117 : ty k1_23 = (9, ρ + 11, [kx_24, 700, ky0_25, ky1_26, ky2_27]) := ht_117
      have ht_120 : ty w0_28 = (0, ρ + 89, [r_119, 60]) := ht_120
      have ht_123 : ty w1_29 = (0, ρ + 90, [r_122, 60]) := ht_123
      have ht_126 : ty w2_30 = (0, ρ + 91, [r_125, 32]) := ht_126
      have ht_129 : ty w3_31 = (0, ρ + 92, [r_128, 64]) := ht_129
      have ht_132 : ty w4_32 = (0, ρ + 93, [r_131, 64]) := ht_132
      have ht_135 : ty w5_33 = (0, ρ + 94, [r_134, 32]) := ht_135
      have ht_138 : ty w6_34 = (0, ρ + 95, [r_137, 64]) := ht_138
      have ht_141 : ty w7_35 = (0, ρ + 96, [r_140, 64]) := ht_141
      have ht_144 : ty w8_36 = (0, ρ + 97, [r_143, 6100]) := ht_144
      have ht_146 : ty tk_37 = (18, ρ + 98, [20]) := ht_146
      have ht_148 : ty h1_38 = (8, ρ + 13, [hx_39, hy_40, hw_41]) := ht_148
      have ht_150 : ty pw_42 = (6, ρ + 14, [px_43, py_44, pz_45, pu_46]) := ht_150
      obtain ⟨v0_151, v1_152, hF_153⟩ := hO.slr hi_17 ht_47
      refine va_calli (va_runV (As := [.ref le_62, .int (nI j), .int x2]) (rest := []) ⟨hx, hb, hml, hown, hts⟩ (s_X7_judge l dC dI cs ty L H.size F sl (ρ + 7) di (ρ + 3) ea l1_18 lx_19 ly0_20 ly1_21 ly2_22 k1_23 kx_24 ky0_25 ky1_26 ky2_27 w0_28 w1_29 w2_30 w3_31 w4_32 w5_33 w6_34 w7_35 w8_36 tk_37 h1_38 hx_39 hy_40 hw_41 pw_42 px_43 py_44 pz_45 pu_46 le_62 μ_64 x_73 y0_74 y1_75 y2_76 j x2 hW hi_17 ht_47 hq_67 ht_77 (by omega)) ⟨callB_of 3 hts (gi kt_522) rfl rfl rfl (hts _ kt_322) (hts _ kt_523) (by decide +kernel) ⟨Nat.le_of_ble_eq_true rfl, Nat.le_of_ble_eq_true rfl⟩, (hts _ kt_524), (hts _ kt_525)⟩ ⟨fun a U g mk q => ⟨q.1, PTE.calling q.2⟩, pg_recv hK hP hi_17 hF_153 (q := (RX7, TX7, 17)) rfl, fun U hU hWm => ⟨rfl, PTE.mk hU hWm hP hK hD hE hO hG (fun x hx => absurd hx List.not_mem_nil) hS hFc⟩⟩ rfl rfl hl.1 rfl (lv_room (Nat.le_of_ble_eq_true rfl)) dX11_sealed_36 ⟨by show _ + 0 ≤ 0; omega, by show _ + 0 ≤ 0; omega⟩) hS (fun q _ h => hFc q h) hFc (fun r_154 u t H1 locs ht hvm hw hB hz1 hk1 hS => ?_)
      obtain ⟨F_155, hB1⟩ := hB
      obtain ⟨hP, hD, hO, hR⟩ := QT.back hB1 ht hFc hR (fun q h => by simp only [List.mem_cons, List.not_mem_nil, or_false] at h ⊢; omega)
      have hF_156 : F_155 h0 = .inr (11, [.ref ta, .ref ou, .ref di, .ref ck, .ref sl, .ref po, .ref hs, .ref le_62, .ref sp_63]) := (hB1.2.2.2 h0 (by rw [hT_h0]; simp <;> omega)).trans hF_66
      have hF_157 : F_155 ta = .inr (0, [.ref r_2, .int (nI zt), .int 0]) := (hB1.2.2.2 ta (by rw [ht_3]; simp <;> omega)).trans hts_91
      generalize H1 = H at hP hS ⊢
      have hw : True := hw
      have hw_158 := hw
      refine W.widen (k := 0) (n := 0) (by omega) (by omega) ?_
      exact W.iret (v := r_154) hx hb hr (fun t ht hWm => ⟨⟨r_154, (), rfl, trivial, ⟨F_155, QT.mk ht hP hD hO hR, ⟨hzt, _, hF_157⟩⟩⟩, hS.F ht⟩) hS.2.2 dX11_sealed_39
    ·
      refine lv_bipush (v := (-2)) hx hb dX11_sealed_21 (by decide) ?_
      refine lv_goto (tgt := 39) hx hb dX11_sealed_23 (by decide) ?_
      refine W.widen (k := 0) (n := 0) (by omega) (by omega) ?_
      exact W.iret (v := (-2)) hx hb hr (fun t ht hWm => ⟨⟨(-2), (), rfl, trivial, ⟨F, QT.mk ht hP hD hO hR, ⟨hzt, _, hts_91⟩⟩⟩, hS.F ht⟩) hS.2.2 dX11_sealed_39
  ·
    refine lv_iconst (v := (-1)) hx hb dX11_sealed_4 (by decide) ?_
    refine W.widen (k := 0) (n := 0) (by omega) (by omega) ?_
    exact W.iret (v := (-1)) hx hb hr (fun t ht hWm => ⟨⟨(-1), (), rfl, trivial, ⟨F, QT.mk ht hP hD hO hR, ⟨hzt, _, hts_91⟩⟩⟩, hS.F ht⟩) hS.2.2 dX11_sealed_5
set_option maxHeartbeats 4000000 in
set_option maxRecDepth 100000 in
theorem s_X11_plainBody (l : Launch) (dC : Nat → ClassId) (dI : Nat → Nat → Nat) (cs : Nat → ClassId) (ty : TyM) (L : List Nat) (sz : Nat) (F : Nat → va_E) (h0 : Nat) (ρ : Nat) (ta : Nat) (ou : Nat) (di : Nat) (ea : Nat) (ck : Nat) (sl : Nat) (po : Nat) (hs : Nat) (zt : Nat) (x1 : Int32) (hW : WT ty L) (hL_h0 : h0 ∈ L) (hT_h0 : ty h0 = (11, ρ, [ta, ou, di, ea, ck, sl, po, hs])) (hTS : TS F ta zt) : Met l yX11_plainBody (.code yX11_plainBody cX11_plainBody 2 (some .int) :: tb) ({ frames := 3, cells := 0, slots := 0, locals := 97 }) (va_Pc [.ref h0, .int x1] (PT (dC, dI) cs ty L F sz)) (va_Qi (fun (r : Int32) (_ : Unit) => True) (fun _ T9 => ∃ F2 : Nat → va_E, QT (dC, dI) cs ty L [ρ + 2] F F2 (va_A (va_pl L F) sz) T9 ∧ TS F2 ta (zt)) (va_A (va_pl L F) sz)) 0 0 (va_A (va_pl L F) sz) := by
  refine Met.ofW (cc := cX11_plainBody) (maxL := 2) (ret := (some .int)) (by decide) rfl ?_
  intro p e s m args below meth c s₁ B hml hv
  obtain ⟨rfl, hsz, hP, hK, hD0, hE, hO⟩ := hv
  have hx := B.exec
  have hb := B.bytes
  have hr := B.returns
  have hts : ∀ w ∈ tb, w.before _ s = true := fun w h => atoms_spec (ws := .code yX11_plainBody cX11_plainBody 2 (some .int) :: tb) B.pre w (List.mem_cons_of_mem _ h)
  have hown : s.vm.findClass RX11 = some m.cls := findClass_of_methodNamed B.named
  have hlocks := B.notSynchronized
  subst hsz
  have hD := hD0.self (sz := s.heap.size)
  generalize hAe : va_A (va_pl L F) s.heap.size = A at hD ⊢
  have hA : ∀ q : Nat, s.heap.size ≤ q → A q := fun q h => by rw [← hAe]; exact Or.inr h
  have hS : va_S A s.heap s.heap [] := va_S.rf
  have hR : FR ty [ρ + 2] F F := FR.refl
  have hl := lv_entry ([.ref h0, .int x1]) (n := 2) (Nat.le_of_ble_eq_true rfl)
  rw [lg_entry_eq]
  generalize (lg_sl ([.ref h0, .int x1]) ++ List.replicate (2 - (lg_sl ([.ref h0, .int x1])).length) Slot.unset).toArray = ls at hl ⊢
  have hl : lv_has ls 2 [(0, .ref h0), (1, .int x1)] := hl
  obtain ⟨hi_1, ⟨r_2, ht_3⟩, hi_4, ⟨r_5, ht_6⟩, hi_7, ht_8, hi_9, ⟨w0_10, w1_11, w2_12, w3_13, nm_14, te_15, ht_16⟩, hi_17, ⟨l1_18, lx_19, ly0_20, ly1_21, ly2_22, k1_23, kx_24, ky0_25, ky1_26, ky2_27, w0_28, w1_29, w2_30, w3_31, w4_32, w5_33, w6_34, w7_35, w8_36, tk_37, h1_38, hx_39, hy_40, hw_41, pw_42, px_43, py_44, pz_45, pu_46, ht_47⟩, hi_48, ⟨w0_49, w1_50, rc_51, rx_52, ry0_53, ry1_54, ry2_55, ht_56⟩, hi_57, ⟨hx_58, hy_59, hw_60, ht_61⟩⟩ := hW.gate hL_h0 hT_h0
  obtain ⟨le_62, sp_63, μ_64, ν_65, hF_66, hq_67, hq_68, hq_69, hq_70, hq_71, hq_72⟩ := hO.gate hL_h0 hT_h0
  obtain ⟨x_73, y0_74, y1_75, y2_76, ht_77⟩ := id hq_68
  obtain ⟨x_78, y0_79, y1_80, y2_81, ht_82⟩ := id hq_70
  obtain ⟨hi_83, ht_84, hq_85⟩ := hW.bytes hi_1 ht_3
  obtain ⟨z_86, o_87, hF_88, hq_89, hq_90⟩ := hO.bytes hi_1 ht_3
  have hts_91 := ts_of hF_88 hTS
  have hzt := (hTS).1
  refine lv_aload_n hx hb dX11_plainBody_0 rfl (lv_at hl 0 rfl) ?_
  refine pg_get (ci := 11) (v := .ref le_62) (C := RX11) (T := TX11) (N := 9) hx hb hts it_11 hown hK hP hL_h0 hF_66 rfl 7 (by decide) (hts _ kt_518) (fun _ h9 => h9) rfl dX11_plainBody_1 ?_
  obtain ⟨hi_92, hi_93, hi_94, hi_95, ⟨r_96, ht_97⟩, ht_98, ht_99, ht_100⟩ := hW.msg hq_67 ht_77
  obtain ⟨z_101, v0_102, hF_103, hq_104⟩ := hO.msg hq_67 ht_77
  refine pg_getN (ci := 4) (v := .int (nI z_101)) (C := RX4) (T := TX4) (N := 6) hx hb hts it_4 hown hK hP hq_67 hF_103 rfl 4 (by decide) (hE.nest kn_20) (fun _ h9 => h9) rfl dX11_plainBody_4 ?_
  refine lv_if_ne (tgt := 13) hx hb dX11_plainBody_7 (by decide) (fun c_105 => ?_) (fun c_105 => ?_)
  ·
    refine lv_aload_n hx hb dX11_plainBody_13 rfl (lv_at hl 0 rfl) ?_
    refine pg_get (ci := 11) (v := .ref ou) (C := RX11) (T := TX11) (N := 9) hx hb hts it_11 hown hK hP hL_h0 hF_66 rfl 1 (by decide) (hts _ kt_526) (fun _ h9 => h9) rfl dX11_plainBody_14 ?_
    have hFc := pg_free hD hS hA
    obtain ⟨hi_107, ht_108, hq_109⟩ := hW.bytes hi_4 ht_6
    obtain ⟨z_110, o_111, hF_112, hq_113, hq_114⟩ := hO.bytes hi_4 ht_6
    refine va_callv (va_runV (As := []) (rest := []) ⟨hx, hb, hml, hown, hts⟩ (s_X0_clear l dC dI cs ty L s.heap.size F ou (ρ + 2) r_5 3000 hW hi_4 ht_6) ⟨callB_of 0 hts (gi kt_32) rfl rfl rfl (hts _ kt_1) (hts _ kt_527) (by decide +kernel) ⟨Nat.le_of_ble_eq_true rfl, Nat.le_of_ble_eq_true rfl⟩, (hts _ kt_34), (hts _ kt_35)⟩ ⟨fun a U g mk q => ⟨q.1, PT.calling q.2⟩, pg_recv hK hP hi_4 hF_112 (q := (RX0, TX0, 3)) rfl, fun U hU hWm => ⟨rfl, PT.mk hU hWm hP hK hD hE hO⟩⟩ rfl rfl hl.1 rfl (lv_room (Nat.le_of_ble_eq_true rfl)) dX11_plainBody_17 ⟨by show _ + 0 ≤ 0; omega, by show _ + 0 ≤ 0; omega⟩) hS (fun q _ h => hFc q h) hFc (fun u t H1 locs ht hvm hw hB hz1 hk1 hS => ?_)
    obtain ⟨F_116, hB1, hq_117⟩ := hB
    obtain ⟨hP, hD, hO, hR⟩ := QT.back hB1 ht hFc hR (fun q h => by simp only [List.mem_cons, List.not_mem_nil, or_false] at h ⊢; omega)
    have hF_118 : F_116 h0 = .inr (11, [.ref ta, .ref ou, .ref di, .ref ck, .ref sl, .ref po, .ref hs, .ref le_62, .ref sp_63]) := (hB1.2.2.2 h0 (by rw [hT_h0]; simp)).trans hF_66
    have hF_119 : F_116 ta = .inr (0, [.ref r_2, .int (nI zt), .int 0]) := (hB1.2.2.2 ta (by rw [ht_3]; simp)).trans hts_91
    generalize H1 = H at hP hS ⊢
    refine lv_aload_n hx hb dX11_plainBody_20 rfl (lv_at hl 0 rfl) ?_
    refine pg_get (ci := 11) (v := .ref le_62) (C := RX11) (T := TX11) (N := 9) hx hb hts it_11 hown hK hP hL_h0 hF_118 rfl 7 (by decide) (hts _ kt_518) (fun _ h9 => h9) rfl dX11_plainBody_21 ?_
    refine lv_aload_n hx hb dX11_plainBody_24 rfl (lv_at hl 0 rfl) ?_
    refine pg_get (ci := 11) (v := .ref ou) (C := RX11) (T := TX11) (N := 9) hx hb hts it_11 hown hK hP hL_h0 hF_118 rfl 1 (by decide) (hts _ kt_526) (fun _ h9 => h9) rfl dX11_plainBody_25 ?_
    refine lv_iload_n hx hb dX11_plainBody_28 rfl (lv_at hl 1 rfl) ?_
    have hFc := pg_free hD hS hA
    obtain ⟨z_120, v0_121, hF_122, hq_123⟩ := hO.msg hq_67 ht_77
    refine va_callv (va_runV (As := [.ref ou, .int x1]) (rest := []) ⟨hx, hb, hml, hown, hts⟩ (s_X4_addBody l dC dI cs ty L H.size F_116 le_62 μ_64 x_73 y0_74 y1_75 y2_76 ou (ρ + 2) r_5 3000 x1 hW hq_67 ht_77 hi_4 ht_6) ⟨callB_of 2 hts (gi kt_392) rfl rfl rfl (hts _ kt_211) (hts _ kt_528) (by decide +kernel) ⟨Nat.le_of_ble_eq_true rfl, Nat.le_of_ble_eq_true rfl⟩, (hts _ kt_394), (hts _ kt_395)⟩ ⟨fun a U g mk q => ⟨q.1, PT.calling q.2⟩, pg_recv hK hP hq_67 hF_122 (q := (RX4, TX4, 6)) rfl, fun U hU hWm => ⟨rfl, PT.mk hU hWm hP hK hD hE hO⟩⟩ rfl rfl hl.1 rfl (lv_room (Nat.le_of_ble_eq_true rfl)) dX11_plainBody_29 ⟨by show _ + 0 ≤ 0; omega, by show _ + 0 ≤ 0; omega⟩) hS (fun q _ h => hFc q h) hFc (fun u t H1 locs ht hvm hw hB hz1 hk1 hS => ?_)
    obtain ⟨F_125, hB1⟩ := hB
    obtain ⟨hP, hD, hO, hR⟩ := QT.back hB1 ht hFc hR (fun q h => by simp only [List.mem_cons, List.not_mem_nil, or_false] at h ⊢; omega)
    have hF_126 : F_125 h0 = .inr (11, [.ref ta, .ref ou, .ref di, .ref ck, .ref sl, .ref po, .ref hs, .ref le_62, .ref sp_63]) := (hB1.2.2.2 h0 (by rw [hT_h0]; simp)).trans hF_118
    have hF_127 : F_125 ta = .inr (0, [.ref r_2, .int (nI zt), .int 0]) := (hB1.2.2.2 ta (by rw [ht_3]; simp)).trans hF_119
    generalize H1 = H at hP hS ⊢
    refine lv_aload_n hx hb dX11_plainBody_32 rfl (lv_at hl 0 rfl) ?_
    refine pg_get (ci := 11) (v := .ref ou) (C := RX11) (T := TX11) (N := 9) hx hb hts it_11 hown hK hP hL_h0 hF_126 rfl 1 (by decide) (hts _ kt_526) (fun _ h9 => h9) rfl dX11_plainBody_33 ?_
    obtain ⟨z_128, o_129, hF_130, hq_131, hq_132⟩ := hO.bytes hi_4 ht_6
    refine pg_getN (ci := 0) (v := .int (nI z_128)) (C := RX0) (T := TX0) (N := 3) hx hb hts it_0 hown hK hP hi_4 hF_130 rfl 1 (by decide) (hE.nest kn_17) (fun _ h9 => h9) rfl dX11_plainBody_36 ?_
    refine W.widen (k := 0) (n := 0) (by omega) (by omega) ?_
    exact W.iret (v := (nI z_128)) hx hb hr (fun t ht hWm => ⟨⟨(nI z_128), (), rfl, trivial, ⟨F_125, QT.mk ht hP hD hO hR, ⟨hzt, _, hF_127⟩⟩⟩, hS.F ht⟩) hS.2.2 dX11_plainBody_39
  ·
    refine lv_bipush (v := (-2)) hx hb dX11_plainBody_10 (by decide) ?_
    refine W.widen (k := 0) (n := 0) (by omega) (by omega) ?_
    exact W.iret (v := (-2)) hx hb hr (fun t ht hWm => ⟨⟨(-2), (), rfl, trivial, ⟨F, QT.mk ht hP hD hO hR, ⟨hzt, _, hts_91⟩⟩⟩, hS.F ht⟩) hS.2.2 dX11_plainBody_12
set_option maxHeartbeats 4000000 in
set_option maxRecDepth 100000 in
theorem s_X11_plainField (l : Launch) (dC : Nat → ClassId) (dI : Nat → Nat → Nat) (cs : Nat → ClassId) (ty : TyM) (L : List Nat) (sz : Nat) (F : Nat → va_E) (h0 : Nat) (ρ : Nat) (ta : Nat) (ou : Nat) (di : Nat) (ea : Nat) (ck : Nat) (sl : Nat) (po : Nat) (hs : Nat) (zt : Nat) (x1 : Int32) (x2 : Int32) (hW : WT ty L) (hL_h0 : h0 ∈ L) (hT_h0 : ty h0 = (11, ρ, [ta, ou, di, ea, ck, sl, po, hs])) (hTS : TS F ta zt) : Met l yX11_plainField (.code yX11_plainField cX11_plainField 3 (some .int) :: tb) ({ frames := 3, cells := 0, slots := 0, locals := 100 }) (va_Pc [.ref h0, .int x1, .int x2] (PT (dC, dI) cs ty L F sz)) (va_Qi (fun (r : Int32) (_ : Unit) => True) (fun _ T9 => ∃ F2 : Nat → va_E, QT (dC, dI) cs ty L [ρ + 2] F F2 (va_A (va_pl L F) sz) T9 ∧ TS F2 ta (zt)) (va_A (va_pl L F) sz)) 0 0 (va_A (va_pl L F) sz) := by
  refine Met.ofW (cc := cX11_plainField) (maxL := 3) (ret := (some .int)) (by decide) rfl ?_
  intro p e s m args below meth c s₁ B hml hv
  obtain ⟨rfl, hsz, hP, hK, hD0, hE, hO⟩ := hv
  have hx := B.exec
  have hb := B.bytes
  have hr := B.returns
  have hts : ∀ w ∈ tb, w.before _ s = true := fun w h => atoms_spec (ws := .code yX11_plainField cX11_plainField 3 (some .int) :: tb) B.pre w (List.mem_cons_of_mem _ h)
  have hown : s.vm.findClass RX11 = some m.cls := findClass_of_methodNamed B.named
  have hlocks := B.notSynchronized
  subst hsz
  have hD := hD0.self (sz := s.heap.size)
  generalize hAe : va_A (va_pl L F) s.heap.size = A at hD ⊢
  have hA : ∀ q : Nat, s.heap.size ≤ q → A q := fun q h => by rw [← hAe]; exact Or.inr h
  have hS : va_S A s.heap s.heap [] := va_S.rf
  have hR : FR ty [ρ + 2] F F := FR.refl
  have hl := lv_entry ([.ref h0, .int x1, .int x2]) (n := 3) (Nat.le_of_ble_eq_true rfl)
  rw [lg_entry_eq]
  generalize (lg_sl ([.ref h0, .int x1, .int x2]) ++ List.replicate (3 - (lg_sl ([.ref h0, .int x1, .int x2])).length) Slot.unset).toArray = ls at hl ⊢
  have hl : lv_has ls 3 [(0, .ref h0), (1, .int x1), (2, .int x2)] := hl
  obtain ⟨hi_1, ⟨r_2, ht_3⟩, hi_4, ⟨r_5, ht_6⟩, hi_7, ht_8, hi_9, ⟨w0_10, w1_11, w2_12, w3_13, nm_14, te_15, ht_16⟩, hi_17, ⟨l1_18, lx_19, ly0_20, ly1_21, ly2_22, k1_23, kx_24, ky0_25, ky1_26, ky2_27, w0_28, w1_29, w2_30, w3_31, w4_32, w5_33, w6_34, w7_35, w8_36, tk_37, h1_38, hx_39, hy_40, hw_41, pw_42, px_43, py_44, pz_45, pu_46, ht_47⟩, hi_48, ⟨w0_49, w1_50, rc_51, rx_52, ry0_53, ry1_54, ry2_55, ht_56⟩, hi_57, ⟨hx_58, hy_59, hw_60, ht_61⟩⟩ := hW.gate hL_h0 hT_h0
  obtain ⟨le_62, sp_63, μ_64, ν_65, hF_66, hq_67, hq_68, hq_69, hq_70, hq_71, hq_72⟩ := hO.gate hL_h0 hT_h0
  obtain ⟨x_73, y0_74, y1_75, y2_76, ht_77⟩ := id hq_68
  obtain ⟨x_78, y0_79, y1_80, y2_81, ht_82⟩ := id hq_70
  obtain ⟨hi_83, ht_84, hq_85⟩ := hW.bytes hi_1 ht_3
  obtain ⟨z_86, o_87, hF_88, hq_89, hq_90⟩ := hO.bytes hi_1 ht_3
  have hts_91 := ts_of hF_88 hTS
  have hzt := (hTS).1
  refine lv_iload_n hx hb dX11_plainField_0 rfl (lv_at hl 1 rfl) ?_
  refine lv_if_lt (tgt := 15) hx hb dX11_plainField_1 (by decide) (fun c_92 => ?_) (fun c_92 => ?_)
  ·
    refine lv_bipush (v := (-2)) hx hb dX11_plainField_15 (by decide) ?_
    refine W.widen (k := 0) (n := 0) (by omega) (by omega) ?_
    exact W.iret (v := (-2)) hx hb hr (fun t ht hWm => ⟨⟨(-2), (), rfl, trivial, ⟨F, QT.mk ht hP hD hO hR, ⟨hzt, _, hts_91⟩⟩⟩, hS.F ht⟩) hS.2.2 dX11_plainField_17
  ·
    refine lv_iload_n hx hb dX11_plainField_4 rfl (lv_at hl 1 rfl) ?_
    refine lv_aload_n hx hb dX11_plainField_5 rfl (lv_at hl 0 rfl) ?_
    refine pg_get (ci := 11) (v := .ref le_62) (C := RX11) (T := TX11) (N := 9) hx hb hts it_11 hown hK hP hL_h0 hF_66 rfl 7 (by decide) (hts _ kt_518) (fun _ h9 => h9) rfl dX11_plainField_6 ?_
    obtain ⟨hi_93, hi_94, hi_95, hi_96, ⟨r_97, ht_98⟩, ht_99, ht_100, ht_101⟩ := hW.msg hq_67 ht_77
    obtain ⟨z_102, v0_103, hF_104, hq_105⟩ := hO.msg hq_67 ht_77
    refine pg_getN (ci := 4) (v := .int (nI z_102)) (C := RX4) (T := TX4) (N := 6) hx hb hts it_4 hown hK hP hq_67 hF_104 rfl 4 (by decide) (hE.nest kn_20) (fun _ h9 => h9) rfl dX11_plainField_9 ?_
    refine lv_icmp_lt (tgt := 18) hx hb dX11_plainField_12 (by decide) (fun c_106 => ?_) (fun c_106 => ?_)
    ·
      refine lv_aload_n hx hb dX11_plainField_18 rfl (lv_at hl 0 rfl) ?_
      refine pg_get (ci := 11) (v := .ref ou) (C := RX11) (T := TX11) (N := 9) hx hb hts it_11 hown hK hP hL_h0 hF_66 rfl 1 (by decide) (hts _ kt_526) (fun _ h9 => h9) rfl dX11_plainField_19 ?_
      have hFc := pg_free hD hS hA
      obtain ⟨hi_107, ht_108, hq_109⟩ := hW.bytes hi_4 ht_6
      obtain ⟨z_110, o_111, hF_112, hq_113, hq_114⟩ := hO.bytes hi_4 ht_6
      refine va_callv (va_runV (As := []) (rest := []) ⟨hx, hb, hml, hown, hts⟩ (s_X0_clear l dC dI cs ty L s.heap.size F ou (ρ + 2) r_5 3000 hW hi_4 ht_6) ⟨callB_of 0 hts (gi kt_32) rfl rfl rfl (hts _ kt_1) (hts _ kt_527) (by decide +kernel) ⟨Nat.le_of_ble_eq_true rfl, Nat.le_of_ble_eq_true rfl⟩, (hts _ kt_34), (hts _ kt_35)⟩ ⟨fun a U g mk q => ⟨q.1, PT.calling q.2⟩, pg_recv hK hP hi_4 hF_112 (q := (RX0, TX0, 3)) rfl, fun U hU hWm => ⟨rfl, PT.mk hU hWm hP hK hD hE hO⟩⟩ rfl rfl hl.1 rfl (lv_room (Nat.le_of_ble_eq_true rfl)) dX11_plainField_22 ⟨by show _ + 0 ≤ 0; omega, by show _ + 0 ≤ 0; omega⟩) hS (fun q _ h => hFc q h) hFc (fun u t H1 locs ht hvm hw hB hz1 hk1 hS => ?_)
      obtain ⟨F_116, hB1, hq_117⟩ := hB
      obtain ⟨hP, hD, hO, hR⟩ := QT.back hB1 ht hFc hR (fun q h => by simp only [List.mem_cons, List.not_mem_nil, or_false] at h ⊢; omega)
      have hF_118 : F_116 h0 = .inr (11, [.ref ta, .ref ou, .ref di, .ref ck, .ref sl, .ref po, .ref hs, .ref le_62, .ref sp_63]) := (hB1.2.2.2 h0 (by rw [hT_h0]; simp)).trans hF_66
      have hF_119 : F_116 ta = .inr (0, [.ref r_2, .int (nI zt), .int 0]) := (hB1.2.2.2 ta (by rw [ht_3]; simp)).trans hts_91
      generalize H1 = H at hP hS ⊢
      refine lv_aload_n hx hb dX11_plainField_25 rfl (lv_at hl 0 rfl) ?_
      refine pg_get (ci := 11) (v := .ref le_62) (C := RX11) (T := TX11) (N := 9) hx hb hts it_11 hown hK hP hL_h0 hF_118 rfl 7 (by decide) (hts _ kt_518) (fun _ h9 => h9) rfl dX11_plainField_26 ?_
      refine lv_aload_n hx hb dX11_plainField_29 rfl (lv_at hl 0 rfl) ?_
      refine pg_get (ci := 11) (v := .ref ou) (C := RX11) (T := TX11) (N := 9) hx hb hts it_11 hown hK hP hL_h0 hF_118 rfl 1 (by decide) (hts _ kt_526) (fun _ h9 => h9) rfl dX11_plainField_30 ?_
      refine lv_iload_n hx hb dX11_plainField_33 rfl (lv_at hl 1 rfl) ?_
      refine lv_iload_n hx hb dX11_plainField_34 rfl (lv_at hl 2 rfl) ?_
      refine lv_iconst (v := 0) hx hb dX11_plainField_35 (by decide) ?_
      refine lv_iconst (v := 0) hx hb dX11_plainField_36 (by decide) ?_
      have hFc := pg_free hD hS hA
      obtain ⟨z_120, v0_121, hF_122, hq_123⟩ := hO.msg hq_67 ht_77
      refine va_callv (va_runV (As := [.ref ou, .int x1, .int x2, .int 0, .int 0]) (rest := []) ⟨hx, hb, hml, hown, hts⟩ (s_X4_addFieldWithout l dC dI cs ty L H.size F_116 le_62 μ_64 x_73 y0_74 y1_75 y2_76 ou (ρ + 2) r_5 3000 x1 x2 0 0 hW hq_67 ht_77 hi_4 ht_6 (by decide)) ⟨callB_of 5 hts (gi kt_417) rfl rfl rfl (hts _ kt_211) (hts _ kt_529) (by decide +kernel) ⟨Nat.le_of_ble_eq_true rfl, Nat.le_of_ble_eq_true rfl⟩, (hts _ kt_419), (hts _ kt_420)⟩ ⟨fun a U g mk q => ⟨q.1, PT.calling q.2⟩, pg_recv hK hP hq_67 hF_122 (q := (RX4, TX4, 6)) rfl, fun U hU hWm => ⟨rfl, PT.mk hU hWm hP hK hD hE hO⟩⟩ rfl rfl hl.1 rfl (lv_room (Nat.le_of_ble_eq_true rfl)) dX11_plainField_37 ⟨by show _ + 0 ≤ 0; omega, by show _ + 0 ≤ 0; omega⟩) hS (fun q _ h => hFc q h) hFc (fun u t H1 locs ht hvm hw hB hz1 hk1 hS => ?_)
      obtain ⟨F_125, hB1⟩ := hB
      obtain ⟨hP, hD, hO, hR⟩ := QT.back hB1 ht hFc hR (fun q h => by simp only [List.mem_cons, List.not_mem_nil, or_false] at h ⊢; omega)
      have hF_126 : F_125 h0 = .inr (11, [.ref ta, .ref ou, .ref di, .ref ck, .ref sl, .ref po, .ref hs, .ref le_62, .ref sp_63]) := (hB1.2.2.2 h0 (by rw [hT_h0]; simp)).trans hF_118
      have hF_127 : F_125 ta = .inr (0, [.ref r_2, .int (nI zt), .int 0]) := (hB1.2.2.2 ta (by rw [ht_3]; simp)).trans hF_119
      generalize H1 = H at hP hS ⊢
      refine lv_aload_n hx hb dX11_plainField_40 rfl (lv_at hl 0 rfl) ?_
      refine pg_get (ci := 11) (v := .ref ou) (C := RX11) (T := TX11) (N := 9) hx hb hts it_11 hown hK hP hL_h0 hF_126 rfl 1 (by decide) (hts _ kt_526) (fun _ h9 => h9) rfl dX11_plainField_41 ?_
      obtain ⟨z_128, o_129, hF_130, hq_131, hq_132⟩ := hO.bytes hi_4 ht_6
      refine pg_getN (ci := 0) (v := .int (nI z_128)) (C := RX0) (T := TX0) (N := 3) hx hb hts it_0 hown hK hP hi_4 hF_130 rfl 1 (by decide) (hE.nest kn_17) (fun _ h9 => h9) rfl dX11_plainField_44 ?_
      refine W.widen (k := 0) (n := 0) (by omega) (by omega) ?_
      exact W.iret (v := (nI z_128)) hx hb hr (fun t ht hWm => ⟨⟨(nI z_128), (), rfl, trivial, ⟨F_125, QT.mk ht hP hD hO hR, ⟨hzt, _, hF_127⟩⟩⟩, hS.F ht⟩) hS.2.2 dX11_plainField_47
    ·
      refine lv_bipush (v := (-2)) hx hb dX11_plainField_15 (by decide) ?_
      refine W.widen (k := 0) (n := 0) (by omega) (by omega) ?_
      exact W.iret (v := (-2)) hx hb hr (fun t ht hWm => ⟨⟨(-2), (), rfl, trivial, ⟨F, QT.mk ht hP hD hO hR, ⟨hzt, _, hts_91⟩⟩⟩, hS.F ht⟩) hS.2.2 dX11_plainField_17
set_option maxHeartbeats 4000000 in
set_option maxRecDepth 100000 in
theorem s_X11_house (l : Launch) (dC : Nat → ClassId) (dI : Nat → Nat → Nat) (cs : Nat → ClassId) (ty : TyM) (L : List Nat) (sz : Nat) (F : Nat → va_E) (h0 : Nat) (ρ : Nat) (ta : Nat) (ou : Nat) (di : Nat) (ea : Nat) (ck : Nat) (sl : Nat) (po : Nat) (hs : Nat) (zt : Nat) (hW : WT ty L) (hL_h0 : h0 ∈ L) (hT_h0 : ty h0 = (11, ρ, [ta, ou, di, ea, ck, sl, po, hs])) (hTS : TS F ta zt) : Met l yX11_house (.code yX11_house cX11_house 1 (some .int) :: tb) ({ frames := 3, cells := 0, slots := 0, locals := 74 }) (va_Pc [.ref h0] (PT (dC, dI) cs ty L F sz)) (va_Qi (fun (r : Int32) (_ : Unit) => True) (fun _ T9 => ∃ F2 : Nat → va_E, QT (dC, dI) cs ty L [ρ + 1, ρ + 2] F F2 (va_A (va_pl L F) sz) T9 ∧ TS F2 ta (0)) (va_A (va_pl L F) sz)) 0 0 (va_A (va_pl L F) sz) := by
  refine Met.ofW (cc := cX11_house) (maxL := 1) (ret := (some .int)) (by decide) rfl ?_
  intro p e s m args below meth c s₁ B hml hv
  obtain ⟨rfl, hsz, hP, hK, hD0, hE, hO⟩ := hv
  have hx := B.exec
  have hb := B.bytes
  have hr := B.returns
  have hts : ∀ w ∈ tb, w.before _ s = true := fun w h => atoms_spec (ws := .code yX11_house cX11_house 1 (some .int) :: tb) B.pre w (List.mem_cons_of_mem _ h)
  have hown : s.vm.findClass RX11 = some m.cls := findClass_of_methodNamed B.named
  have hlocks := B.notSynchronized
  subst hsz
  have hD := hD0.self (sz := s.heap.size)
  generalize hAe : va_A (va_pl L F) s.heap.size = A at hD ⊢
  have hA : ∀ q : Nat, s.heap.size ≤ q → A q := fun q h => by rw [← hAe]; exact Or.inr h
  have hS : va_S A s.heap s.heap [] := va_S.rf
  have hR : FR ty [ρ + 1, ρ + 2] F F := FR.refl
  have hl := lv_entry ([.ref h0]) (n := 1) (Nat.le_of_ble_eq_true rfl)
  rw [lg_entry_eq]
  generalize (lg_sl ([.ref h0]) ++ List.replicate (1 - (lg_sl ([.ref h0])).length) Slot.unset).toArray = ls at hl ⊢
  have hl : lv_has ls 1 [(0, .ref h0)] := hl
  obtain ⟨hi_1, ⟨r_2, ht_3⟩, hi_4, ⟨r_5, ht_6⟩, hi_7, ht_8, hi_9, ⟨w0_10, w1_11, w2_12, w3_13, nm_14, te_15, ht_16⟩, hi_17, ⟨l1_18, lx_19, ly0_20, ly1_21, ly2_22, k1_23, kx_24, ky0_25, ky1_26, ky2_27, w0_28, w1_29, w2_30, w3_31, w4_32, w5_33, w6_34, w7_35, w8_36, tk_37, h1_38, hx_39, hy_40, hw_41, pw_42, px_43, py_44, pz_45, pu_46, ht_47⟩, hi_48, ⟨w0_49, w1_50, rc_51, rx_52, ry0_53, ry1_54, ry2_55, ht_56⟩, hi_57, ⟨hx_58, hy_59, hw_60, ht_61⟩⟩ := hW.gate hL_h0 hT_h0
  obtain ⟨le_62, sp_63, μ_64, ν_65, hF_66, hq_67, hq_68, hq_69, hq_70, hq_71, hq_72⟩ := hO.gate hL_h0 hT_h0
  obtain ⟨x_73, y0_74, y1_75, y2_76, ht_77⟩ := id hq_68
  obtain ⟨x_78, y0_79, y1_80, y2_81, ht_82⟩ := id hq_70
  obtain ⟨hi_83, ht_84, hq_85⟩ := hW.bytes hi_1 ht_3
  obtain ⟨z_86, o_87, hF_88, hq_89, hq_90⟩ := hO.bytes hi_1 ht_3
  have hts_91 := ts_of hF_88 hTS
  have hzt := (hTS).1
  refine lv_aload_n hx hb dX11_house_0 rfl (lv_at hl 0 rfl) ?_
  refine pg_get (ci := 11) (v := .ref ta) (C := RX11) (T := TX11) (N := 9) hx hb hts it_11 hown hK hP hL_h0 hF_66 rfl 0 (by decide) (hts _ kt_509) (fun _ h9 => h9) rfl dX11_house_1 ?_
  refine lv_iconst (v := 0) hx hb dX11_house_4 (by decide) ?_
  refine lv_aload_n hx hb dX11_house_5 rfl (lv_at hl 0 rfl) ?_
  refine pg_get (ci := 11) (v := .ref ta) (C := RX11) (T := TX11) (N := 9) hx hb hts it_11 hown hK hP hL_h0 hF_66 rfl 0 (by decide) (hts _ kt_509) (fun _ h9 => h9) rfl dX11_house_6 ?_
  refine pg_getN (ci := 0) (v := .int (nI zt)) (C := RX0) (T := TX0) (N := 3) hx hb hts it_0 hown hK hP hi_1 hts_91 rfl 1 (by decide) (hE.nest kn_17) (fun _ h9 => h9) rfl dX11_house_9 ?_
  have hFc := pg_free hD hS hA
  refine va_calli (va_runV (As := [.int 0, .int (nI zt)]) (rest := []) ⟨hx, hb, hml, hown, hts⟩ (s_X0_isName l dC dI cs ty L s.heap.size F ta (ρ + 1) r_2 3000 0 (nI zt) hW hi_1 ht_3) ⟨callB_of 2 hts (gi kt_108) rfl rfl rfl (hts _ kt_1) (hts _ kt_530) (by decide +kernel) ⟨Nat.le_of_ble_eq_true rfl, Nat.le_of_ble_eq_true rfl⟩, (hts _ kt_110), (hts _ kt_111)⟩ ⟨fun a U g mk q => ⟨q.1, PT.calling q.2⟩, pg_recv hK hP hi_1 hts_91 (q := (RX0, TX0, 3)) rfl, fun U hU hWm => ⟨rfl, PT.mk hU hWm hP hK hD hE hO⟩⟩ rfl rfl hl.1 rfl (lv_room (Nat.le_of_ble_eq_true rfl)) dX11_house_12 ⟨by show _ + 0 ≤ 0; omega, by show _ + 0 ≤ 0; omega⟩) hS (fun q _ h => hFc q h) hFc (fun r_92 u t H1 locs ht hvm hw hB hz1 hk1 hS => ?_)
  obtain ⟨F_93, hB1⟩ := hB
  obtain rfl : F = F_93 := (funext (fun a => hB1.2.2.2 a List.not_mem_nil)).symm
  obtain ⟨hP, hD, hO, hR⟩ := QT.back hB1 ht hFc hR (fun q h => absurd h List.not_mem_nil)
  generalize H1 = H at hP hS ⊢
  have hw : (r_92 = 0 ∨ r_92 = 1) := hw
  have hw_94 := hw
  refine lv_if_ne (tgt := 27) hx hb dX11_house_15 (by decide) (fun c_95 => ?_) (fun c_95 => ?_)
  ·
    refine lv_aload_n hx hb dX11_house_27 rfl (lv_at hl 0 rfl) ?_
    refine pg_get (ci := 11) (v := .ref ou) (C := RX11) (T := TX11) (N := 9) hx hb hts it_11 hown hK hP hL_h0 hF_66 rfl 1 (by decide) (hts _ kt_526) (fun _ h9 => h9) rfl dX11_house_28 ?_
    have hFc := pg_free hD hS hA
    obtain ⟨hi_96, ht_97, hq_98⟩ := hW.bytes hi_4 ht_6
    obtain ⟨z_99, o_100, hF_101, hq_102, hq_103⟩ := hO.bytes hi_4 ht_6
    refine va_callv (va_runV (As := []) (rest := []) ⟨hx, hb, hml, hown, hts⟩ (s_X0_clear l dC dI cs ty L H.size F ou (ρ + 2) r_5 3000 hW hi_4 ht_6) ⟨callB_of 0 hts (gi kt_32) rfl rfl rfl (hts _ kt_1) (hts _ kt_527) (by decide +kernel) ⟨Nat.le_of_ble_eq_true rfl, Nat.le_of_ble_eq_true rfl⟩, (hts _ kt_34), (hts _ kt_35)⟩ ⟨fun a U g mk q => ⟨q.1, PT.calling q.2⟩, pg_recv hK hP hi_4 hF_101 (q := (RX0, TX0, 3)) rfl, fun U hU hWm => ⟨rfl, PT.mk hU hWm hP hK hD hE hO⟩⟩ rfl rfl hl.1 rfl (lv_room (Nat.le_of_ble_eq_true rfl)) dX11_house_31 ⟨by show _ + 0 ≤ 0; omega, by show _ + 0 ≤ 0; omega⟩) hS (fun q _ h => hFc q h) hFc (fun u t H1 locs ht hvm hw hB hz1 hk1 hS => ?_)
    obtain ⟨F_105, hB1, hq_106⟩ := hB
    obtain ⟨hP, hD, hO, hR⟩ := QT.back hB1 ht hFc hR (fun q h => by simp only [List.mem_cons, List.not_mem_nil, or_false] at h ⊢; omega)
    have hF_107 : F_105 h0 = .inr (11, [.ref ta, .ref ou, .ref di, .ref ck, .ref sl, .ref po, .ref hs, .ref le_62, .ref sp_63]) := (hB1.2.2.2 h0 (by rw [hT_h0]; simp)).trans hF_66
    have hF_108 : F_105 ta = .inr (0, [.ref r_2, .int (nI zt), .int 0]) := (hB1.2.2.2 ta (by rw [ht_3]; simp)).trans hts_91
    generalize H1 = H at hP hS ⊢
    refine lv_aload_n hx hb dX11_house_34 rfl (lv_at hl 0 rfl) ?_
    refine pg_get (ci := 11) (v := .ref ou) (C := RX11) (T := TX11) (N := 9) hx hb hts it_11 hown hK hP hL_h0 hF_107 rfl 1 (by decide) (hts _ kt_526) (fun _ h9 => h9) rfl dX11_house_35 ?_
    refine lv_aload_n hx hb dX11_house_38 rfl (lv_at hl 0 rfl) ?_
    refine pg_get (ci := 11) (v := .ref ta) (C := RX11) (T := TX11) (N := 9) hx hb hts it_11 hown hK hP hL_h0 hF_107 rfl 0 (by decide) (hts _ kt_509) (fun _ h9 => h9) rfl dX11_house_39 ?_
    refine lv_aload_n hx hb dX11_house_42 rfl (lv_at hl 0 rfl) ?_
    refine pg_get (ci := 11) (v := .ref di) (C := RX11) (T := TX11) (N := 9) hx hb hts it_11 hown hK hP hL_h0 hF_107 rfl 2 (by decide) (hts _ kt_512) (fun _ h9 => h9) rfl dX11_house_43 ?_
    refine lv_aload_n hx hb dX11_house_46 rfl (lv_at hl 0 rfl) ?_
    refine pg_get (ci := 11) (v := .ref ta) (C := RX11) (T := TX11) (N := 9) hx hb hts it_11 hown hK hP hL_h0 hF_107 rfl 0 (by decide) (hts _ kt_509) (fun _ h9 => h9) rfl dX11_house_47 ?_
    have hFc := pg_free hD hS hA
    obtain ⟨hi_109, ht_110⟩ := hW.dir hi_7 ht_8
    obtain ⟨z_111, hF_112, hq_113⟩ := hO.dir hi_7 ht_8
    refine va_calli (va_runV (As := [.ref ta]) (rest := [.ref ta, .ref ou]) ⟨hx, hb, hml, hown, hts⟩ (s_X2_houseStart l dC dI cs ty L H.size F_105 di (ρ + 3) ea ta (ρ + 1) r_2 3000 hW hi_7 ht_8 hi_1 ht_3) ⟨callB_of 1 hts (gi kt_102) rfl rfl rfl (hts _ kt_103) (hts _ kt_531) (by decide +kernel) ⟨Nat.le_of_ble_eq_true rfl, Nat.le_of_ble_eq_true rfl⟩, (hts _ kt_105), (hts _ kt_106)⟩ ⟨fun a U g mk q => ⟨q.1, PT.calling q.2⟩, pg_recv hK hP hi_7 hF_112 (q := (RX2, TX2, 2)) rfl, fun U hU hWm => ⟨rfl, PT.mk hU hWm hP hK hD hE hO⟩⟩ rfl rfl hl.1 rfl (lv_room (Nat.le_of_ble_eq_true rfl)) dX11_house_50 ⟨by show _ + 0 ≤ 0; omega, by show _ + 0 ≤ 0; omega⟩) hS (fun q _ h => hFc q h) hFc (fun r_114 u t H1 locs ht hvm hw hB hz1 hk1 hS => ?_)
    obtain ⟨F_115, hB1⟩ := hB
    obtain rfl : F_105 = F_115 := (funext (fun a => hB1.2.2.2 a List.not_mem_nil)).symm
    obtain ⟨hP, hD, hO, hR⟩ := QT.back hB1 ht hFc hR (fun q h => absurd h List.not_mem_nil)
    generalize H1 = H at hP hS ⊢
    have hw : True := hw
    have hw_116 := hw
    refine lv_aload_n hx hb dX11_house_53 rfl (lv_at hl 0 rfl) ?_
    refine pg_get (ci := 11) (v := .ref ta) (C := RX11) (T := TX11) (N := 9) hx hb hts it_11 hown hK hP hL_h0 hF_107 rfl 0 (by decide) (hts _ kt_509) (fun _ h9 => h9) rfl dX11_house_54 ?_
    refine pg_getN (ci := 0) (v := .int (nI zt)) (C := RX0) (T := TX0) (N := 3) hx hb hts it_0 hown hK hP hi_1 hF_108 rfl 1 (by decide) (hE.nest kn_17) (fun _ h9 => h9) rfl dX11_house_57 ?_
    have hFc := pg_free hD hS hA
    refine va_callv (va_runV (As := [.ref ta, .int r_114, .int (nI zt)]) (rest := []) ⟨hx, hb, hml, hown, hts⟩ (s_X0_addRange l dC dI cs ty L H.size F_105 ou (ρ + 2) r_5 3000 ta (ρ + 1) r_2 3000 r_114 (nI zt) hW hi_4 ht_6 hi_1 ht_3 (nI_pos (by omega))) ⟨callB_of 3 hts (gi kt_36) rfl rfl rfl (hts _ kt_1) (hts _ kt_532) (by decide +kernel) ⟨Nat.le_of_ble_eq_true rfl, Nat.le_of_ble_eq_true rfl⟩, (hts _ kt_38), (hts _ kt_39)⟩ ⟨fun a U g mk q => ⟨q.1, PT.calling q.2⟩, pg_recv hK hP hi_4 hq_106 (q := (RX0, TX0, 3)) rfl, fun U hU hWm => ⟨rfl, PT.mk hU hWm hP hK hD hE hO⟩⟩ rfl rfl hl.1 rfl (lv_room (Nat.le_of_ble_eq_true rfl)) dX11_house_60 ⟨by show _ + 0 ≤ 0; omega, by show _ + 0 ≤ 0; omega⟩) hS (fun q _ h => hFc q h) hFc (fun u t H1 locs ht hvm hw hB hz1 hk1 hS => ?_)
    obtain ⟨F_118, hB1⟩ := hB
    obtain ⟨hP, hD, hO, hR⟩ := QT.back hB1 ht hFc hR (fun q h => by simp only [List.mem_cons, List.not_mem_nil, or_false] at h ⊢; omega)
    have hF_119 : F_118 h0 = .inr (11, [.ref ta, .ref ou, .ref di, .ref ck, .ref sl, .ref po, .ref hs, .ref le_62, .ref sp_63]) := (hB1.2.2.2 h0 (by rw [hT_h0]; simp)).trans hF_107
    have hF_120 : F_118 ta = .inr (0, [.ref r_2, .int (nI zt), .int 0]) := (hB1.2.2.2 ta (by rw [ht_3]; simp)).trans hF_108
    have hF_121 : F_118 di = .inr (2, [.ref ea, .int (nI z_111)]) := (hB1.2.2.2 di (by rw [ht_8]; simp)).trans hF_112
    generalize H1 = H at hP hS ⊢
    refine lv_aload_n hx hb dX11_house_63 rfl (lv_at hl 0 rfl) ?_
    refine pg_get (ci := 11) (v := .ref ta) (C := RX11) (T := TX11) (N := 9) hx hb hts it_11 hown hK hP hL_h0 hF_119 rfl 0 (by decide) (hts _ kt_509) (fun _ h9 => h9) rfl dX11_house_64 ?_
    have hFc := pg_free hD hS hA
    refine va_callv (va_runV (As := []) (rest := []) ⟨hx, hb, hml, hown, hts⟩ (s_X0_clear l dC dI cs ty L H.size F_118 ta (ρ + 1) r_2 3000 hW hi_1 ht_3) ⟨callB_of 0 hts (gi kt_32) rfl rfl rfl (hts _ kt_1) (hts _ kt_527) (by decide +kernel) ⟨Nat.le_of_ble_eq_true rfl, Nat.le_of_ble_eq_true rfl⟩, (hts _ kt_34), (hts _ kt_35)⟩ ⟨fun a U g mk q => ⟨q.1, PT.calling q.2⟩, pg_recv hK hP hi_1 hF_120 (q := (RX0, TX0, 3)) rfl, fun U hU hWm => ⟨rfl, PT.mk hU hWm hP hK hD hE hO⟩⟩ rfl rfl hl.1 rfl (lv_room (Nat.le_of_ble_eq_true rfl)) dX11_house_67 ⟨by show _ + 0 ≤ 0; omega, by show _ + 0 ≤ 0; omega⟩) hS (fun q _ h => hFc q h) hFc (fun u t H1 locs ht hvm hw hB hz1 hk1 hS => ?_)
    obtain ⟨F_123, hB1, hq_124⟩ := hB
    obtain ⟨hP, hD, hO, hR⟩ := QT.back hB1 ht hFc hR (fun q h => by simp only [List.mem_cons, List.not_mem_nil, or_false] at h ⊢; omega)
    have hF_125 : F_123 h0 = .inr (11, [.ref ta, .ref ou, .ref di, .ref ck, .ref sl, .ref po, .ref hs, .ref le_62, .ref sp_63]) := (hB1.2.2.2 h0 (by rw [hT_h0]; simp)).trans hF_119
    have hF_126 : F_123 di = .inr (2, [.ref ea, .int (nI z_111)]) := (hB1.2.2.2 di (by rw [ht_8]; simp)).trans hF_121
    generalize H1 = H at hP hS ⊢
    refine lv_aload_n hx hb dX11_house_70 rfl (lv_at hl 0 rfl) ?_
    refine pg_get (ci := 11) (v := .ref ou) (C := RX11) (T := TX11) (N := 9) hx hb hts it_11 hown hK hP hL_h0 hF_125 rfl 1 (by decide) (hts _ kt_526) (fun _ h9 => h9) rfl dX11_house_71 ?_
    obtain ⟨z_127, o_128, hF_129, hq_130, hq_131⟩ := hO.bytes hi_4 ht_6
    refine pg_getN (ci := 0) (v := .int (nI z_127)) (C := RX0) (T := TX0) (N := 3) hx hb hts it_0 hown hK hP hi_4 hF_129 rfl 1 (by decide) (hE.nest kn_17) (fun _ h9 => h9) rfl dX11_house_74 ?_
    refine W.widen (k := 0) (n := 0) (by omega) (by omega) ?_
    exact W.iret (v := (nI z_127)) hx hb hr (fun t ht hWm => ⟨⟨(nI z_127), (), rfl, trivial, ⟨F_123, QT.mk ht hP hD hO hR, ⟨Nat.zero_le _, _, hq_124⟩⟩⟩, hS.F ht⟩) hS.2.2 dX11_house_77
  ·
    refine lv_aload_n hx hb dX11_house_18 rfl (lv_at hl 0 rfl) ?_
    refine pg_get (ci := 11) (v := .ref ta) (C := RX11) (T := TX11) (N := 9) hx hb hts it_11 hown hK hP hL_h0 hF_66 rfl 0 (by decide) (hts _ kt_509) (fun _ h9 => h9) rfl dX11_house_19 ?_
    have hFc := pg_free hD hS hA
    refine va_callv (va_runV (As := []) (rest := []) ⟨hx, hb, hml, hown, hts⟩ (s_X0_clear l dC dI cs ty L H.size F ta (ρ + 1) r_2 3000 hW hi_1 ht_3) ⟨callB_of 0 hts (gi kt_32) rfl rfl rfl (hts _ kt_1) (hts _ kt_527) (by decide +kernel) ⟨Nat.le_of_ble_eq_true rfl, Nat.le_of_ble_eq_true rfl⟩, (hts _ kt_34), (hts _ kt_35)⟩ ⟨fun a U g mk q => ⟨q.1, PT.calling q.2⟩, pg_recv hK hP hi_1 hts_91 (q := (RX0, TX0, 3)) rfl, fun U hU hWm => ⟨rfl, PT.mk hU hWm hP hK hD hE hO⟩⟩ rfl rfl hl.1 rfl (lv_room (Nat.le_of_ble_eq_true rfl)) dX11_house_22 ⟨by show _ + 0 ≤ 0; omega, by show _ + 0 ≤ 0; omega⟩) hS (fun q _ h => hFc q h) hFc (fun u t H1 locs ht hvm hw hB hz1 hk1 hS => ?_)
    obtain ⟨F_133, hB1, hq_134⟩ := hB
    obtain ⟨hP, hD, hO, hR⟩ := QT.back hB1 ht hFc hR (fun q h => by simp only [List.mem_cons, List.not_mem_nil, or_false] at h ⊢; omega)
    have hF_135 : F_133 h0 = .inr (11, [.ref ta, .ref ou, .ref di, .ref ck, .ref sl, .ref po, .ref hs, .ref le_62, .ref sp_63]) := (hB1.2.2.2 h0 (by rw [hT_h0]; simp)).trans hF_66
    generalize H1 = H at hP hS ⊢
    refine lv_iconst (v := (-1)) hx hb dX11_house_25 (by decide) ?_
    refine W.widen (k := 0) (n := 0) (by omega) (by omega) ?_
    exact W.iret (v := (-1)) hx hb hr (fun t ht hWm => ⟨⟨(-1), (), rfl, trivial, ⟨F_133, QT.mk ht hP hD hO hR, ⟨Nat.zero_le _, _, hq_134⟩⟩⟩, hS.F ht⟩) hS.2.2 dX11_house_26
set_option maxHeartbeats 4000000 in
set_option maxRecDepth 100000 in
theorem s_X11_hasAlignedSeal (l : Launch) (dC : Nat → ClassId) (dI : Nat → Nat → Nat) (cs : Nat → ClassId) (ty : TyM) (L : List Nat) (sz : Nat) (F : Nat → va_E) (h0 : Nat) (ρ : Nat) (ta : Nat) (ou : Nat) (di : Nat) (ea : Nat) (ck : Nat) (sl : Nat) (po : Nat) (hs : Nat) (zt : Nat) (x1 : Int32) (hW : WT ty L) (hL_h0 : h0 ∈ L) (hT_h0 : ty h0 = (11, ρ, [ta, ou, di, ea, ck, sl, po, hs])) (hTS : TS F ta zt) : Met l yX11_hasAlignedSeal (.code yX11_hasAlignedSeal cX11_hasAlignedSeal 3 (some .boolean) :: tb) ({ frames := 10, cells := 0, slots := 0, locals := 223 }) (va_Pc [.ref h0, .int x1] (PTE (dC, dI) cs ty L F sz [])) (va_Qi (fun (r : Int32) (_ : Unit) => (r = 0 ∨ r = 1)) (fun _ T9 => ∃ F2 : Nat → va_E, QT (dC, dI) cs ty L [ρ + 7, ρ + 8, ρ + 9, ρ + 10, ρ + 11, ρ + 12, ρ + 13, ρ + 14, ρ + 79, ρ + 80, ρ + 81, ρ + 82, ρ + 89, ρ + 90, ρ + 91, ρ + 92, ρ + 93, ρ + 94, ρ + 95, ρ + 96, ρ + 97, ρ + 98, ρ + 99, ρ + 100, ρ + 101, ρ + 102] F F2 (va_A (va_pl L F) sz) T9 ∧ TS F2 ta (zt)) (va_A (va_pl L F) sz)) 0 0 (va_A (va_pl L F) sz) := by
  refine Met.ofW (cc := cX11_hasAlignedSeal) (maxL := 3) (ret := (some .boolean)) (by decide) rfl ?_
  intro p e s m args below meth c s₁ B hml hv
  obtain ⟨rfl, ⟨hsz, hP, hK, hD0, hE, hO⟩, hG, hX⟩ := hv
  have hx := B.exec
  have hb := B.bytes
  have hr := B.returns
  have hts : ∀ w ∈ tb, w.before _ s = true := fun w h => atoms_spec (ws := .code yX11_hasAlignedSeal cX11_hasAlignedSeal 3 (some .boolean) :: tb) B.pre w (List.mem_cons_of_mem _ h)
  have hown : s.vm.findClass RX11 = some m.cls := findClass_of_methodNamed B.named
  have hlocks := B.notSynchronized
  subst hsz
  have hD := hD0.self (sz := s.heap.size)
  generalize hAe : va_A (va_pl L F) s.heap.size = A at hD hG hX ⊢
  have hA : ∀ q : Nat, s.heap.size ≤ q → A q := fun q h => by rw [← hAe]; exact Or.inr h
  have hS : va_S A s.heap s.heap [] := va_S.rf
  have hR : FR ty [ρ + 7, ρ + 8, ρ + 9, ρ + 10, ρ + 11, ρ + 12, ρ + 13, ρ + 14, ρ + 79, ρ + 80, ρ + 81, ρ + 82, ρ + 89, ρ + 90, ρ + 91, ρ + 92, ρ + 93, ρ + 94, ρ + 95, ρ + 96, ρ + 97, ρ + 98, ρ + 99, ρ + 100, ρ + 101, ρ + 102] F F := FR.refl
  have hl := lv_entry ([.ref h0, .int x1]) (n := 3) (Nat.le_of_ble_eq_true rfl)
  rw [lg_entry_eq]
  generalize (lg_sl ([.ref h0, .int x1]) ++ List.replicate (3 - (lg_sl ([.ref h0, .int x1])).length) Slot.unset).toArray = ls at hl ⊢
  have hl : lv_has ls 3 [(0, .ref h0), (1, .int x1)] := hl
  obtain ⟨hi_1, ⟨r_2, ht_3⟩, hi_4, ⟨r_5, ht_6⟩, hi_7, ht_8, hi_9, ⟨w0_10, w1_11, w2_12, w3_13, nm_14, te_15, ht_16⟩, hi_17, ⟨l1_18, lx_19, ly0_20, ly1_21, ly2_22, k1_23, kx_24, ky0_25, ky1_26, ky2_27, w0_28, w1_29, w2_30, w3_31, w4_32, w5_33, w6_34, w7_35, w8_36, tk_37, h1_38, hx_39, hy_40, hw_41, pw_42, px_43, py_44, pz_45, pu_46, ht_47⟩, hi_48, ⟨w0_49, w1_50, rc_51, rx_52, ry0_53, ry1_54, ry2_55, ht_56⟩, hi_57, ⟨hx_58, hy_59, hw_60, ht_61⟩⟩ := hW.gate hL_h0 hT_h0
  obtain ⟨le_62, sp_63, μ_64, ν_65, hF_66, hq_67, hq_68, hq_69, hq_70, hq_71, hq_72⟩ := hO.gate hL_h0 hT_h0
  obtain ⟨x_73, y0_74, y1_75, y2_76, ht_77⟩ := id hq_68
  obtain ⟨x_78, y0_79, y1_80, y2_81, ht_82⟩ := id hq_70
  obtain ⟨hi_83, ht_84, hq_85⟩ := hW.bytes hi_1 ht_3
  obtain ⟨z_86, o_87, hF_88, hq_89, hq_90⟩ := hO.bytes hi_1 ht_3
  have hts_91 := ts_of hF_88 hTS
  have hzt := (hTS).1
  refine lv_iconst (v := 0) hx hb dX11_hasAlignedSeal_0 (by decide) ?_
  refine lv_istore_n (lv' := [(2, .int 0), (0, .ref h0), (1, .int x1)]) hx hb dX11_hasAlignedSeal_1 rfl hl (by decide) rfl (fun ls hl => ?_)
  refine W.widen (k := 0) (n := 0) (by omega) (by omega) ?_
  refine pl_loop (σ := Nat) A (dC, dI) cs ty L [ρ + 7, ρ + 8, ρ + 9, ρ + 10, ρ + 11, ρ + 12, ρ + 13, ρ + 14, ρ + 79, ρ + 80, ρ + 81, ρ + 82, ρ + 89, ρ + 90, ρ + 91, ρ + 92, ρ + 93, ρ + 94, ρ + 95, ρ + 96, ρ + 97, ρ + 98, ρ + 99, ρ + 100, ρ + 101, ρ + 102] F 2 3 (fun j => [(2, .int (nI j)), (0, .ref h0), (1, .int x1)]) (fun j => []) (fun j FF => j ≤ 20 ∧ TS FF ta zt) (fun j => 20 - j) ?_ 0 F (⟨by omega, hTS⟩) hO hR _ _ hP hD hS ls (lv_sub hl [0, 1, 2] rfl)
  rintro j F_92 hv_93 hO hR ih_94 H locs hP hD hS ls hl
  have hl : lv_has ls 3 [(2, .int (nI j)), (0, .ref h0), (1, .int x1)] := hl
  have hv_93 : j ≤ 20 ∧ TS F_92 ta zt := hv_93
  refine W.eq (g2 := F0 m 2 ls []) rfl ?_
  obtain ⟨hv1, hv2⟩ := hv_93
  obtain ⟨le_95, sp_96, μ_97, ν_98, hF_99, hq_100, hq_101, hq_102, hq_103, hq_104, hq_105⟩ := hO.gate hL_h0 hT_h0
  obtain ⟨x_106, y0_107, y1_108, y2_109, ht_110⟩ := id hq_101
  obtain ⟨x_111, y0_112, y1_113, y2_114, ht_115⟩ := id hq_103
  obtain ⟨z_116, o_117, hF_118, hq_119, hq_120⟩ := hO.bytes hi_1 ht_3
  have hts_121 := ts_of hF_118 hv2
  have hzt := (hv2).1
  refine lv_iload_n hx hb dX11_hasAlignedSeal_2 rfl (lv_at hl 0 rfl) ?_
  refine lv_aload_n hx hb dX11_hasAlignedSeal_3 rfl (lv_at hl 1 rfl) ?_
  refine pg_get (ci := 11) (v := .ref le_95) (C := RX11) (T := TX11) (N := 9) hx hb hts it_11 hown hK hP hL_h0 hF_99 rfl 7 (by decide) (hts _ kt_518) (fun _ h9 => h9) rfl dX11_hasAlignedSeal_4 ?_
  obtain ⟨hi_122, hi_123, hi_124, hi_125, ⟨r_126, ht_127⟩, ht_128, ht_129, ht_130⟩ := hW.msg hq_100 ht_110
  obtain ⟨z_131, v0_132, hF_133, hq_134⟩ := hO.msg hq_100 ht_110
  refine pg_getN (ci := 4) (v := .int (nI z_131)) (C := RX4) (T := TX4) (N := 6) hx hb hts it_4 hown hK hP hq_100 hF_133 rfl 4 (by decide) (hE.nest kn_20) (fun _ h9 => h9) rfl dX11_hasAlignedSeal_7 ?_
  refine lv_icmp_ge (tgt := 78) hx hb dX11_hasAlignedSeal_10 (by decide) (fun c_135 => ?_) (fun c_135 => ?_)
  ·
    have hi_136 : z_131 ≤ j := leN (N := z_131) c_135
    refine lv_iconst (v := 0) hx hb dX11_hasAlignedSeal_78 (by decide) ?_
    refine W.widen (k := 0) (n := 0) (by omega) (by omega) ?_
    exact W.zret (v := 0) (ty := .boolean) hx hb hr (by decide) (fun t ht hWm => ⟨⟨0, (), rfl, (by first | exact Or.inl rfl | exact Or.inr rfl), ⟨F_92, QT.mk ht hP hD hO hR, ⟨hzt, _, hts_121⟩⟩⟩, hS.F ht⟩) hS.2.2 dX11_hasAlignedSeal_79
  ·
    have hi_137 : j < z_131 := ltN (N := z_131) c_135
    refine lv_aload_n hx hb dX11_hasAlignedSeal_13 rfl (lv_at hl 1 rfl) ?_
    refine pg_get (ci := 11) (v := .ref le_95) (C := RX11) (T := TX11) (N := 9) hx hb hts it_11 hown hK hP hL_h0 hF_99 rfl 7 (by decide) (hts _ kt_518) (fun _ h9 => h9) rfl dX11_hasAlignedSeal_14 ?_
    refine lv_iload_n hx hb dX11_hasAlignedSeal_17 rfl (lv_at hl 0 rfl) ?_
    obtain ⟨q_138, v_139, hr_q_138, hXc_q_138⟩ := hG.2.2.2.2 ("PostGate", 112, "dkim-signature", [100, 107, 105, 109, 45, 115, 105, 103, 110, 97, 116, 117, 114, 101]) (by decide +kernel)
    have hXc_q_138 : SXc q_138 v_139 14 (cct [100, 107, 105, 109, 45, 115, 105, 103, 110, 97, 116, 117, 114, 101]) A s s.heap := hXc_q_138
    have hX_q_138 : SX q_138 v_139 14 A s s.heap := hXc_q_138.sx
    obtain ⟨xo_q_138, xc_q_138, xv_q_138, xt_q_138, xn_q_138⟩ := id hXc_q_138
    have hr_q_138 : vk_R "PostGate" 112 "dkim-signature" q_138 s := hr_q_138
    refine va_ldcS hx hb hown hr_q_138 dX11_hasAlignedSeal_18 ?_
    have hFc := pg_free hD hS hA
    refine va_calli (va_runV (As := [.int (nI j), .ref q_138]) (rest := []) ⟨hx, hb, hml, hown, hts⟩ (s_X4_isNamed l dC dI cs ty L H.size F_92 le_95 μ_97 x_106 y0_107 y1_108 y2_109 q_138 v_139 14 (nI j) hW hq_100 ht_110) ⟨callB_of 2 hts (gi kt_210) rfl rfl rfl (hts _ kt_211) (hts _ kt_533) (by decide +kernel) ⟨Nat.le_of_ble_eq_true rfl, Nat.le_of_ble_eq_true rfl⟩, (hts _ kt_213), (hts _ kt_214)⟩ ⟨fun a U g mk q => ⟨q.1, PTE.calling q.2⟩, pg_recv hK hP hq_100 hF_133 (q := (RX4, TX4, 6)) rfl, fun U hU hWm => ⟨rfl, PTE.mk hU hWm hP hK hD hE hO hG (fun x hx => by rw [List.mem_singleton] at hx; subst hx; exact hX_q_138) hS hFc⟩⟩ rfl rfl hl.1 rfl (lv_room (Nat.le_of_ble_eq_true rfl)) dX11_hasAlignedSeal_20 ⟨by show _ + 0 ≤ 0; omega, by show _ + 0 ≤ 0; omega⟩) hS (fun q _ h => hFc q h) hFc (fun r_140 u t H1 locs ht hvm hw hB hz1 hk1 hS => ?_)
    obtain ⟨F_141, hB1⟩ := hB
    obtain rfl : F_92 = F_141 := (funext (fun a => hB1.2.2.2 a List.not_mem_nil)).symm
    obtain ⟨hP, hD, hO, hR⟩ := QT.back hB1 ht hFc hR (fun q h => absurd h List.not_mem_nil)
    generalize H1 = H at hP hS ⊢
    have hw : (r_140 = 0 ∨ r_140 = 1) := hw
    have hw_142 := hw
    refine lv_if_eq (tgt := 72) hx hb dX11_hasAlignedSeal_23 (by decide) (fun c_143 => ?_) (fun c_143 => ?_)
    ·
      refine lv_iinc (v := (nI (j + 1))) (lv' := [(2, .int (nI (j + 1))), (0, .ref h0), (1, .int x1)]) hx hb dX11_hasAlignedSeal_72 hl (k := 0) rfl (nI_1 _) (by decide) rfl (fun ls hl => ?_)
      refine lv_goto (tgt := 2) hx hb dX11_hasAlignedSeal_75 (by decide) ?_
      refine W.widen (k := 0) (n := 0) (by omega) (by omega) ?_
      exact ih_94 (j + 1) F_92 (⟨by omega, hzt, _, hts_121⟩) (by show 20 - (j + 1) < 20 - j; omega) hO hR _ _ hP hD hS ls (lv_sub hl [0, 1, 2] rfl)
    ·
      refine lv_aload_n hx hb dX11_hasAlignedSeal_26 rfl (lv_at hl 1 rfl) ?_
      refine pg_get (ci := 11) (v := .ref sl) (C := RX11) (T := TX11) (N := 9) hx hb hts it_11 hown hK hP hL_h0 hF_99 rfl 4 (by decide) (hts _ kt_521) (fun _ h9 => h9) rfl dX11_hasAlignedSeal_27 ?_
      refine lv_aload_n hx hb dX11_hasAlignedSeal_30 rfl (lv_at hl 1 rfl) ?_
      refine pg_get (ci := 11) (v := .ref le_95) (C := RX11) (T := TX11) (N := 9) hx hb hts it_11 hown hK hP hL_h0 hF_99 rfl 7 (by decide) (hts _ kt_518) (fun _ h9 => h9) rfl dX11_hasAlignedSeal_31 ?_
      refine lv_iload_n hx hb dX11_hasAlignedSeal_34 rfl (lv_at hl 0 rfl) ?_
      refine lv_iload_n hx hb dX11_hasAlignedSeal_35 rfl (lv_at hl 2 rfl) ?_
      have hFc := pg_free hD hS hA
      obtain ⟨hi_144, ht_145, hi_146, ht_147, hi_148, ht_149, hi_150, ⟨r_151, ht_152⟩, hi_153, ⟨r_154, ht_155⟩, hi_156, ⟨r_157, ht_158⟩, hi_159, ⟨r_160, ht_161⟩, hi_162, ⟨r_163, ht_164⟩, hi_165, ⟨r_166, ht_167⟩, hi_168, ⟨r_169, ht_170⟩, hi_171, ⟨r_172, ht_173⟩, hi_174, ⟨r_175, ht_176⟩, hi_177, ht_178, hi_179, ht_180, hi_181, ht_182⟩ := hW.slr hi_17 ht_47
      have ht_147 : ty l1_18 = (9, ρ + 9, [lx_19, 3000, ly0_20, ly1_21, ly2_22]) := ht_147
      have ht_149 : ty k1_23 = (9, ρ + 11, [kx_24, 700, ky0_25, ky1_26, ky2_27]) := ht_149
      have ht_152 : ty w0_28 = (0, ρ + 89, [r_151, 60]) := ht_152
      have ht_155 : ty w1_29 = (0, ρ + 90, [r_154, 60]) := ht_155
      have ht_158 : ty w2_30 = (0, ρ + 91, [r_157, 32]) := ht_158
      have ht_161 : ty w3_31 = (0, ρ + 92, [r_160, 64]) := ht_161
      have ht_164 : ty w4_32 = (0, ρ + 93, [r_163, 64]) := ht_164
      have ht_167 : ty w5_33 = (0, ρ + 94, [r_166, 32]) := ht_167
      have ht_170 : ty w6_34 = (0, ρ + 95, [r_169, 64]) := ht_170
      have ht_173 : ty w7_35 = (0, ρ + 96, [r_172, 64]) := ht_173
      have ht_176 : ty w8_36 = (0, ρ + 97, [r_175, 6100]) := ht_176
      have ht_178 : ty tk_37 = (18, ρ + 98, [20]) := ht_178
      have ht_180 : ty h1_38 = (8, ρ + 13, [hx_39, hy_40, hw_41]) := ht_180
      have ht_182 : ty pw_42 = (6, ρ + 14, [px_43, py_44, pz_45, pu_46]) := ht_182
      obtain ⟨v0_183, v1_184, hF_185⟩ := hO.slr hi_17 ht_47
      refine va_calli (va_runV (As := [.ref le_95, .int (nI j), .int x1]) (rest := []) ⟨hx, hb, hml, hown, hts⟩ (s_X7_judge l dC dI cs ty L H.size F_92 sl (ρ + 7) di (ρ + 3) ea l1_18 lx_19 ly0_20 ly1_21 ly2_22 k1_23 kx_24 ky0_25 ky1_26 ky2_27 w0_28 w1_29 w2_30 w3_31 w4_32 w5_33 w6_34 w7_35 w8_36 tk_37 h1_38 hx_39 hy_40 hw_41 pw_42 px_43 py_44 pz_45 pu_46 le_95 μ_97 x_106 y0_107 y1_108 y2_109 j x1 hW hi_17 ht_47 hq_100 ht_110 (by omega)) ⟨callB_of 3 hts (gi kt_522) rfl rfl rfl (hts _ kt_322) (hts _ kt_523) (by decide +kernel) ⟨Nat.le_of_ble_eq_true rfl, Nat.le_of_ble_eq_true rfl⟩, (hts _ kt_524), (hts _ kt_525)⟩ ⟨fun a U g mk q => ⟨q.1, PTE.calling q.2⟩, pg_recv hK hP hi_17 hF_185 (q := (RX7, TX7, 17)) rfl, fun U hU hWm => ⟨rfl, PTE.mk hU hWm hP hK hD hE hO hG (fun x hx => absurd hx List.not_mem_nil) hS hFc⟩⟩ rfl rfl hl.1 rfl (lv_room (Nat.le_of_ble_eq_true rfl)) dX11_hasAlignedSeal_36 ⟨by show _ + 0 ≤ 0; omega, by show _ + 0 ≤ 0; omega⟩) hS (fun q _ h => hFc q h) hFc (fun r_186 u t H1 locs ht hvm hw hB hz1 hk1 hS => ?_)
      obtain ⟨F_187, hB1⟩ := hB
      obtain ⟨hP, hD, hO, hR⟩ := QT.back hB1 ht hFc hR (fun q h => by simp only [List.mem_cons, List.not_mem_nil, or_false] at h ⊢; omega)
      have hF_188 : F_187 h0 = .inr (11, [.ref ta, .ref ou, .ref di, .ref ck, .ref sl, .ref po, .ref hs, .ref le_95, .ref sp_96]) := (hB1.2.2.2 h0 (by rw [hT_h0]; simp <;> omega)).trans hF_99
      have hF_189 : F_187 ta = .inr (0, [.ref r_2, .int (nI zt), .int 0]) := (hB1.2.2.2 ta (by rw [ht_3]; simp <;> omega)).trans hts_121
      generalize H1 = H at hP hS ⊢
      have hw : True := hw
      have hw_190 := hw
      refine lv_iconst (v := 2) hx hb dX11_hasAlignedSeal_39 (by decide) ?_
      refine lv_icmp_eq (tgt := 46) hx hb dX11_hasAlignedSeal_40 (by decide) (fun c_191 => ?_) (fun c_191 => ?_)
      ·
        refine lv_aload_n hx hb dX11_hasAlignedSeal_46 rfl (lv_at hl 1 rfl) ?_
        refine pg_get (ci := 11) (v := .ref po) (C := RX11) (T := TX11) (N := 9) hx hb hts it_11 hown hK hP hL_h0 hF_188 rfl 5 (by decide) (hts _ kt_534) (fun _ h9 => h9) rfl dX11_hasAlignedSeal_47 ?_
        refine lv_aload_n hx hb dX11_hasAlignedSeal_50 rfl (lv_at hl 1 rfl) ?_
        refine pg_get (ci := 11) (v := .ref sl) (C := RX11) (T := TX11) (N := 9) hx hb hts it_11 hown hK hP hL_h0 hF_188 rfl 4 (by decide) (hts _ kt_521) (fun _ h9 => h9) rfl dX11_hasAlignedSeal_51 ?_
        obtain ⟨v0_192, v1_193, hF_194⟩ := hO.slr hi_17 ht_47
        refine pg_getN (ci := 7) (v := .ref w0_28) (C := RX7) (T := TX7) (N := 17) hx hb hts it_7 hown hK hP hi_17 hF_194 rfl 3 (by decide) (hE.nest kn_21) (fun _ h9 => h9) rfl dX11_hasAlignedSeal_54 ?_
        refine lv_aload_n hx hb dX11_hasAlignedSeal_57 rfl (lv_at hl 1 rfl) ?_
        refine pg_get (ci := 11) (v := .ref po) (C := RX11) (T := TX11) (N := 9) hx hb hts it_11 hown hK hP hL_h0 hF_188 rfl 5 (by decide) (hts _ kt_534) (fun _ h9 => h9) rfl dX11_hasAlignedSeal_58 ?_
        obtain ⟨hi_195, ht_196, hi_197, ⟨r_198, ht_199⟩, hi_200, ⟨r_201, ht_202⟩, hi_203, ht_204⟩ := hW.pol hi_48 ht_56
        have ht_199 : ty w0_49 = (0, ρ + 16, [r_198, 60]) := ht_199
        have ht_202 : ty w1_50 = (0, ρ + 24, [r_201, 60]) := ht_202
        have ht_204 : ty rc_51 = (9, ρ + 17, [rx_52, 700, ry0_53, ry1_54, ry2_55]) := ht_204
        obtain ⟨v0_205, v1_206, v2_207, hF_208⟩ := hO.pol hi_48 ht_56
        refine pg_getN (ci := 5) (v := .int v2_207) (C := RX5) (T := TX5) (N := 7) hx hb hts it_5 hown hK hP hi_48 hF_208 rfl 6 (by decide) (hE.nest kn_22) (fun _ h9 => h9) rfl dX11_hasAlignedSeal_61 ?_
        have hFc := pg_free hD hS hA
        refine va_calli (va_runV (As := [.ref w0_28, .int v2_207]) (rest := []) ⟨hx, hb, hml, hown, hts⟩ (s_X5_isAligned l dC dI cs ty L H.size F_187 po (ρ + 15) di (ρ + 3) ea w0_49 w1_50 rc_51 rx_52 ry0_53 ry1_54 ry2_55 w0_28 (ρ + 89) r_151 60 v2_207 hW hi_48 ht_56 hi_150 ht_152) ⟨callB_of 2 hts (gi kt_535) rfl rfl rfl (hts _ kt_471) (hts _ kt_536) (by decide +kernel) ⟨Nat.le_of_ble_eq_true rfl, Nat.le_of_ble_eq_true rfl⟩, (hts _ kt_537), (hts _ kt_538)⟩ ⟨fun a U g mk q => ⟨q.1, PT.calling q.2⟩, pg_recv hK hP hi_48 hF_208 (q := (RX5, TX5, 7)) rfl, fun U hU hWm => ⟨rfl, PT.mk hU hWm hP hK hD hE hO⟩⟩ rfl rfl hl.1 rfl (lv_room (Nat.le_of_ble_eq_true rfl)) dX11_hasAlignedSeal_64 ⟨by show _ + 0 ≤ 0; omega, by show _ + 0 ≤ 0; omega⟩) hS (fun q _ h => hFc q h) hFc (fun r_209 u t H1 locs ht hvm hw hB hz1 hk1 hS => ?_)
        obtain ⟨F_210, hB1⟩ := hB
        obtain rfl : F_187 = F_210 := (funext (fun a => hB1.2.2.2 a List.not_mem_nil)).symm
        obtain ⟨hP, hD, hO, hR⟩ := QT.back hB1 ht hFc hR (fun q h => absurd h List.not_mem_nil)
        generalize H1 = H at hP hS ⊢
        have hw : (r_209 = 0 ∨ r_209 = 1) := hw
        have hw_211 := hw
        refine lv_if_eq (tgt := 72) hx hb dX11_hasAlignedSeal_67 (by decide) (fun c_212 => ?_) (fun c_212 => ?_)
        ·
          refine lv_iinc (v := (nI (j + 1))) (lv' := [(2, .int (nI (j + 1))), (0, .ref h0), (1, .int x1)]) hx hb dX11_hasAlignedSeal_72 hl (k := 0) rfl (nI_1 _) (by decide) rfl (fun ls hl => ?_)
          refine lv_goto (tgt := 2) hx hb dX11_hasAlignedSeal_75 (by decide) ?_
          refine W.widen (k := 0) (n := 0) (by omega) (by omega) ?_
          exact ih_94 (j + 1) F_187 (⟨by omega, hzt, _, hF_189⟩) (by show 20 - (j + 1) < 20 - j; omega) hO hR _ _ hP hD hS ls (lv_sub hl [0, 1, 2] rfl)
        ·
          refine lv_iconst (v := 1) hx hb dX11_hasAlignedSeal_70 (by decide) ?_
          refine W.widen (k := 0) (n := 0) (by omega) (by omega) ?_
          exact W.zret (v := 1) (ty := .boolean) hx hb hr (by decide) (fun t ht hWm => ⟨⟨1, (), rfl, (by first | exact Or.inl rfl | exact Or.inr rfl), ⟨F_187, QT.mk ht hP hD hO hR, ⟨hzt, _, hF_189⟩⟩⟩, hS.F ht⟩) hS.2.2 dX11_hasAlignedSeal_71
      ·
        refine lv_goto (tgt := 72) hx hb dX11_hasAlignedSeal_43 (by decide) ?_
        refine lv_iinc (v := (nI (j + 1))) (lv' := [(2, .int (nI (j + 1))), (0, .ref h0), (1, .int x1)]) hx hb dX11_hasAlignedSeal_72 hl (k := 0) rfl (nI_1 _) (by decide) rfl (fun ls hl => ?_)
        refine lv_goto (tgt := 2) hx hb dX11_hasAlignedSeal_75 (by decide) ?_
        refine W.widen (k := 0) (n := 0) (by omega) (by omega) ?_
        exact ih_94 (j + 1) F_187 (⟨by omega, hzt, _, hF_189⟩) (by show 20 - (j + 1) < 20 - j; omega) hO hR _ _ hP hD hS ls (lv_sub hl [0, 1, 2] rfl)
set_option maxHeartbeats 4000000 in
set_option maxRecDepth 100000 in
theorem s_X11_digest (l : Launch) (dC : Nat → ClassId) (dI : Nat → Nat → Nat) (cs : Nat → ClassId) (ty : TyM) (L : List Nat) (sz : Nat) (F : Nat → va_E) (h0 : Nat) (ρ : Nat) (ta : Nat) (ou : Nat) (di : Nat) (ea : Nat) (ck : Nat) (sl : Nat) (po : Nat) (hs : Nat) (zt : Nat) (hW : WT ty L) (hL_h0 : h0 ∈ L) (hT_h0 : ty h0 = (11, ρ, [ta, ou, di, ea, ck, sl, po, hs])) (hTS : TS F ta zt) : Met l yX11_digest (.code yX11_digest cX11_digest 1 (some .int) :: tb) ({ frames := 3, cells := 0, slots := 0, locals := 99 }) (va_Pc [.ref h0] (PTE (dC, dI) cs ty L F sz [])) (va_Qi (fun (r : Int32) (_ : Unit) => r = 32) (fun _ T9 => ∃ F2 : Nat → va_E, QT (dC, dI) cs ty L [ρ + 1, ρ + 2, ρ + 19] F F2 (va_A (va_pl L F) sz) T9 ∧ TS F2 ta (0)) (va_A (va_pl L F) sz)) 0 0 (va_A (va_pl L F) sz) := by
  refine Met.ofW (cc := cX11_digest) (maxL := 1) (ret := (some .int)) (by decide) rfl ?_
  intro p e s m args below meth c s₁ B hml hv
  obtain ⟨rfl, ⟨hsz, hP, hK, hD0, hE, hO⟩, hG, hX⟩ := hv
  have hx := B.exec
  have hb := B.bytes
  have hr := B.returns
  have hts : ∀ w ∈ tb, w.before _ s = true := fun w h => atoms_spec (ws := .code yX11_digest cX11_digest 1 (some .int) :: tb) B.pre w (List.mem_cons_of_mem _ h)
  have hown : s.vm.findClass RX11 = some m.cls := findClass_of_methodNamed B.named
  have hlocks := B.notSynchronized
  subst hsz
  have hD := hD0.self (sz := s.heap.size)
  generalize hAe : va_A (va_pl L F) s.heap.size = A at hD hG hX ⊢
  have hA : ∀ q : Nat, s.heap.size ≤ q → A q := fun q h => by rw [← hAe]; exact Or.inr h
  have hS : va_S A s.heap s.heap [] := va_S.rf
  have hR : FR ty [ρ + 1, ρ + 2, ρ + 19] F F := FR.refl
  have hl := lv_entry ([.ref h0]) (n := 1) (Nat.le_of_ble_eq_true rfl)
  rw [lg_entry_eq]
  generalize (lg_sl ([.ref h0]) ++ List.replicate (1 - (lg_sl ([.ref h0])).length) Slot.unset).toArray = ls at hl ⊢
  have hl : lv_has ls 1 [(0, .ref h0)] := hl
  obtain ⟨hi_1, ⟨r_2, ht_3⟩, hi_4, ⟨r_5, ht_6⟩, hi_7, ht_8, hi_9, ⟨w0_10, w1_11, w2_12, w3_13, nm_14, te_15, ht_16⟩, hi_17, ⟨l1_18, lx_19, ly0_20, ly1_21, ly2_22, k1_23, kx_24, ky0_25, ky1_26, ky2_27, w0_28, w1_29, w2_30, w3_31, w4_32, w5_33, w6_34, w7_35, w8_36, tk_37, h1_38, hx_39, hy_40, hw_41, pw_42, px_43, py_44, pz_45, pu_46, ht_47⟩, hi_48, ⟨w0_49, w1_50, rc_51, rx_52, ry0_53, ry1_54, ry2_55, ht_56⟩, hi_57, ⟨hx_58, hy_59, hw_60, ht_61⟩⟩ := hW.gate hL_h0 hT_h0
  obtain ⟨le_62, sp_63, μ_64, ν_65, hF_66, hq_67, hq_68, hq_69, hq_70, hq_71, hq_72⟩ := hO.gate hL_h0 hT_h0
  obtain ⟨x_73, y0_74, y1_75, y2_76, ht_77⟩ := id hq_68
  obtain ⟨x_78, y0_79, y1_80, y2_81, ht_82⟩ := id hq_70
  obtain ⟨hi_83, ht_84, hq_85⟩ := hW.bytes hi_1 ht_3
  obtain ⟨z_86, o_87, hF_88, hq_89, hq_90⟩ := hO.bytes hi_1 ht_3
  have hts_91 := ts_of hF_88 hTS
  have hzt := (hTS).1
  refine lv_aload_n hx hb dX11_digest_0 rfl (lv_at hl 0 rfl) ?_
  refine pg_get (ci := 11) (v := .ref hs) (C := RX11) (T := TX11) (N := 9) hx hb hts it_11 hown hK hP hL_h0 hF_66 rfl 6 (by decide) (hts _ kt_539) (fun _ h9 => h9) rfl dX11_digest_1 ?_
  refine lv_aload_n hx hb dX11_digest_4 rfl (lv_at hl 0 rfl) ?_
  refine pg_get (ci := 11) (v := .ref ta) (C := RX11) (T := TX11) (N := 9) hx hb hts it_11 hown hK hP hL_h0 hF_66 rfl 0 (by decide) (hts _ kt_509) (fun _ h9 => h9) rfl dX11_digest_5 ?_
  refine lv_aload_n hx hb dX11_digest_8 rfl (lv_at hl 0 rfl) ?_
  refine pg_get (ci := 11) (v := .ref ta) (C := RX11) (T := TX11) (N := 9) hx hb hts it_11 hown hK hP hL_h0 hF_66 rfl 0 (by decide) (hts _ kt_509) (fun _ h9 => h9) rfl dX11_digest_9 ?_
  refine pg_getN (ci := 0) (v := .int (nI zt)) (C := RX0) (T := TX0) (N := 3) hx hb hts it_0 hown hK hP hi_1 hts_91 rfl 1 (by decide) (hE.nest kn_17) (fun _ h9 => h9) rfl dX11_digest_12 ?_
  refine lv_aload_n hx hb dX11_digest_15 rfl (lv_at hl 0 rfl) ?_
  refine pg_get (ci := 11) (v := .ref ou) (C := RX11) (T := TX11) (N := 9) hx hb hts it_11 hown hK hP hL_h0 hF_66 rfl 1 (by decide) (hts _ kt_526) (fun _ h9 => h9) rfl dX11_digest_16 ?_
  have hFc := pg_free hD hS hA
  obtain ⟨hi_92, hi_93, hi_94, ht_95, ht_96, ht_97⟩ := hW.sha hi_57 ht_61
  have hF_98 := hO.sha hi_57 ht_61
  refine va_callv (va_runV (As := [.ref ta, .int (nI zt), .ref ou]) (rest := []) ⟨hx, hb, hml, hown, hts⟩ (s_X8_sumOf l dC dI cs ty L s.heap.size F hs (ρ + 19) hx_58 hy_59 hw_60 ta (ρ + 1) r_2 3000 ou (ρ + 2) r_5 3000 (nI zt) hW hi_57 ht_61 hi_1 ht_3 hi_4 ht_6 (by omega)) ⟨callB_of 3 hts (gi kt_397) rfl rfl rfl (hts _ kt_250) (hts _ kt_540) (by decide +kernel) ⟨Nat.le_of_ble_eq_true rfl, Nat.le_of_ble_eq_true rfl⟩, (hts _ kt_399), (hts _ kt_400)⟩ ⟨fun a U g mk q => ⟨q.1, PTE.calling q.2⟩, pg_recv hK hP hi_57 hF_98 (q := (RX8, TX8, 3)) rfl, fun U hU hWm => ⟨rfl, PTE.mk hU hWm hP hK hD hE hO hG (fun x hx => absurd hx List.not_mem_nil) hS hFc⟩⟩ rfl rfl hl.1 rfl (lv_room (Nat.le_of_ble_eq_true rfl)) dX11_digest_19 ⟨by show _ + 0 ≤ 0; omega, by show _ + 0 ≤ 0; omega⟩) hS (fun q _ h => hFc q h) hFc (fun u t H1 locs ht hvm hw hB hz1 hk1 hS => ?_)
  obtain ⟨F_100, hB1, hq_101⟩ := hB
  obtain ⟨hP, hD, hO, hR⟩ := QT.back hB1 ht hFc hR (fun q h => by simp only [List.mem_cons, List.not_mem_nil, or_false] at h ⊢; omega)
  have hF_102 : F_100 h0 = .inr (11, [.ref ta, .ref ou, .ref di, .ref ck, .ref sl, .ref po, .ref hs, .ref le_62, .ref sp_63]) := (hB1.2.2.2 h0 (by rw [hT_h0]; simp)).trans hF_66
  have hF_103 : F_100 ta = .inr (0, [.ref r_2, .int (nI zt), .int 0]) := (hB1.2.2.2 ta (by rw [ht_3]; simp)).trans hts_91
  generalize H1 = H at hP hS ⊢
  refine lv_aload_n hx hb dX11_digest_22 rfl (lv_at hl 0 rfl) ?_
  refine pg_get (ci := 11) (v := .ref ta) (C := RX11) (T := TX11) (N := 9) hx hb hts it_11 hown hK hP hL_h0 hF_102 rfl 0 (by decide) (hts _ kt_509) (fun _ h9 => h9) rfl dX11_digest_23 ?_
  have hFc := pg_free hD hS hA
  refine va_callv (va_runV (As := []) (rest := []) ⟨hx, hb, hml, hown, hts⟩ (s_X0_clear l dC dI cs ty L H.size F_100 ta (ρ + 1) r_2 3000 hW hi_1 ht_3) ⟨callB_of 0 hts (gi kt_32) rfl rfl rfl (hts _ kt_1) (hts _ kt_527) (by decide +kernel) ⟨Nat.le_of_ble_eq_true rfl, Nat.le_of_ble_eq_true rfl⟩, (hts _ kt_34), (hts _ kt_35)⟩ ⟨fun a U g mk q => ⟨q.1, PT.calling q.2⟩, pg_recv hK hP hi_1 hF_103 (q := (RX0, TX0, 3)) rfl, fun U hU hWm => ⟨rfl, PT.mk hU hWm hP hK hD hE hO⟩⟩ rfl rfl hl.1 rfl (lv_room (Nat.le_of_ble_eq_true rfl)) dX11_digest_26 ⟨by show _ + 0 ≤ 0; omega, by show _ + 0 ≤ 0; omega⟩) hS (fun q _ h => hFc q h) hFc (fun u t H1 locs ht hvm hw hB hz1 hk1 hS => ?_)
  obtain ⟨F_105, hB1, hq_106⟩ := hB
  obtain ⟨hP, hD, hO, hR⟩ := QT.back hB1 ht hFc hR (fun q h => by simp only [List.mem_cons, List.not_mem_nil, or_false] at h ⊢; omega)
  have hF_107 : F_105 h0 = .inr (11, [.ref ta, .ref ou, .ref di, .ref ck, .ref sl, .ref po, .ref hs, .ref le_62, .ref sp_63]) := (hB1.2.2.2 h0 (by rw [hT_h0]; simp)).trans hF_102
  have hF_108 : F_105 ou = .inr (0, [.ref r_5, .int (nI 32), .int 0]) := (hB1.2.2.2 ou (by rw [ht_6]; simp)).trans hq_101
  generalize H1 = H at hP hS ⊢
  refine lv_aload_n hx hb dX11_digest_29 rfl (lv_at hl 0 rfl) ?_
  refine pg_get (ci := 11) (v := .ref ou) (C := RX11) (T := TX11) (N := 9) hx hb hts it_11 hown hK hP hL_h0 hF_107 rfl 1 (by decide) (hts _ kt_526) (fun _ h9 => h9) rfl dX11_digest_30 ?_
  obtain ⟨hi_109, ht_110, hq_111⟩ := hW.bytes hi_4 ht_6
  refine pg_getN (ci := 0) (v := .int (nI 32)) (C := RX0) (T := TX0) (N := 3) hx hb hts it_0 hown hK hP hi_4 hF_108 rfl 1 (by decide) (hE.nest kn_17) (fun _ h9 => h9) rfl dX11_digest_33 ?_
  refine W.widen (k := 0) (n := 0) (by omega) (by omega) ?_
  exact W.iret (v := (nI 32)) hx hb hr (fun t ht hWm => ⟨⟨(nI 32), (), rfl, rfl, ⟨F_105, QT.mk ht hP hD hO hR, ⟨Nat.zero_le _, _, hq_106⟩⟩⟩, hS.F ht⟩) hS.2.2 dX11_digest_36
set_option maxHeartbeats 4000000 in
set_option maxRecDepth 100000 in
theorem s_X11_octet (l : Launch) (dC : Nat → ClassId) (dI : Nat → Nat → Nat) (cs : Nat → ClassId) (ty : TyM) (L : List Nat) (sz : Nat) (F : Nat → va_E) (h0 : Nat) (ρ : Nat) (ta : Nat) (ou : Nat) (di : Nat) (ea : Nat) (ck : Nat) (sl : Nat) (po : Nat) (hs : Nat) (zt : Nat) (x1 : Int32) (hW : WT ty L) (hL_h0 : h0 ∈ L) (hT_h0 : ty h0 = (11, ρ, [ta, ou, di, ea, ck, sl, po, hs])) (hTS : TS F ta zt) : Met l yX11_octet (.code yX11_octet cX11_octet 2 (some .int) :: tb) ({ frames := 1, cells := 0, slots := 0, locals := 21 }) (va_Pc [.ref h0, .int x1] (PT (dC, dI) cs ty L F sz)) (va_Qi (fun (r : Int32) (_ : Unit) => True) (fun _ T9 => ∃ F2 : Nat → va_E, QT (dC, dI) cs ty L [] F F2 (va_A (va_pl L F) sz) T9 ∧ TS F2 ta (zt)) (va_A (va_pl L F) sz)) 0 0 (va_A (va_pl L F) sz) := by
  refine Met.ofW (cc := cX11_octet) (maxL := 2) (ret := (some .int)) (by decide) rfl ?_
  intro p e s m args below meth c s₁ B hml hv
  obtain ⟨rfl, hsz, hP, hK, hD0, hE, hO⟩ := hv
  have hx := B.exec
  have hb := B.bytes
  have hr := B.returns
  have hts : ∀ w ∈ tb, w.before _ s = true := fun w h => atoms_spec (ws := .code yX11_octet cX11_octet 2 (some .int) :: tb) B.pre w (List.mem_cons_of_mem _ h)
  have hown : s.vm.findClass RX11 = some m.cls := findClass_of_methodNamed B.named
  have hlocks := B.notSynchronized
  subst hsz
  have hD := hD0.self (sz := s.heap.size)
  generalize hAe : va_A (va_pl L F) s.heap.size = A at hD ⊢
  have hA : ∀ q : Nat, s.heap.size ≤ q → A q := fun q h => by rw [← hAe]; exact Or.inr h
  have hS : va_S A s.heap s.heap [] := va_S.rf
  have hR : FR ty [] F F := FR.refl
  have hl := lv_entry ([.ref h0, .int x1]) (n := 2) (Nat.le_of_ble_eq_true rfl)
  rw [lg_entry_eq]
  generalize (lg_sl ([.ref h0, .int x1]) ++ List.replicate (2 - (lg_sl ([.ref h0, .int x1])).length) Slot.unset).toArray = ls at hl ⊢
  have hl : lv_has ls 2 [(0, .ref h0), (1, .int x1)] := hl
  obtain ⟨hi_1, ⟨r_2, ht_3⟩, hi_4, ⟨r_5, ht_6⟩, hi_7, ht_8, hi_9, ⟨w0_10, w1_11, w2_12, w3_13, nm_14, te_15, ht_16⟩, hi_17, ⟨l1_18, lx_19, ly0_20, ly1_21, ly2_22, k1_23, kx_24, ky0_25, ky1_26, ky2_27, w0_28, w1_29, w2_30, w3_31, w4_32, w5_33, w6_34, w7_35, w8_36, tk_37, h1_38, hx_39, hy_40, hw_41, pw_42, px_43, py_44, pz_45, pu_46, ht_47⟩, hi_48, ⟨w0_49, w1_50, rc_51, rx_52, ry0_53, ry1_54, ry2_55, ht_56⟩, hi_57, ⟨hx_58, hy_59, hw_60, ht_61⟩⟩ := hW.gate hL_h0 hT_h0
  obtain ⟨le_62, sp_63, μ_64, ν_65, hF_66, hq_67, hq_68, hq_69, hq_70, hq_71, hq_72⟩ := hO.gate hL_h0 hT_h0
  obtain ⟨x_73, y0_74, y1_75, y2_76, ht_77⟩ := id hq_68
  obtain ⟨x_78, y0_79, y1_80, y2_81, ht_82⟩ := id hq_70
  obtain ⟨hi_83, ht_84, hq_85⟩ := hW.bytes hi_1 ht_3
  obtain ⟨z_86, o_87, hF_88, hq_89, hq_90⟩ := hO.bytes hi_1 ht_3
  have hts_91 := ts_of hF_88 hTS
  have hzt := (hTS).1
  refine lv_iload_n hx hb dX11_octet_0 rfl (lv_at hl 1 rfl) ?_
  refine lv_iconst (v := (-1)) hx hb dX11_octet_1 (by decide) ?_
  refine lv_icmp_ne (tgt := 13) hx hb dX11_octet_2 (by decide) (fun c_92 => ?_) (fun c_92 => ?_)
  ·
    refine lv_iload_n hx hb dX11_octet_13 rfl (lv_at hl 1 rfl) ?_
    refine lv_if_lt (tgt := 28) hx hb dX11_octet_14 (by decide) (fun c_93 => ?_) (fun c_93 => ?_)
    ·
      refine lv_bipush (v := (-2)) hx hb dX11_octet_28 (by decide) ?_
      refine lv_goto (tgt := 41) hx hb dX11_octet_30 (by decide) ?_
      refine W.widen (k := 0) (n := 0) (by omega) (by omega) ?_
      exact W.iret (v := (-2)) hx hb hr (fun t ht hWm => ⟨⟨(-2), (), rfl, trivial, ⟨F, QT.mk ht hP hD hO hR, ⟨hzt, _, hts_91⟩⟩⟩, hS.F ht⟩) hS.2.2 dX11_octet_41
    ·
      refine lv_iload_n hx hb dX11_octet_17 rfl (lv_at hl 1 rfl) ?_
      refine lv_aload_n hx hb dX11_octet_18 rfl (lv_at hl 0 rfl) ?_
      refine pg_get (ci := 11) (v := .ref ou) (C := RX11) (T := TX11) (N := 9) hx hb hts it_11 hown hK hP hL_h0 hF_66 rfl 1 (by decide) (hts _ kt_526) (fun _ h9 => h9) rfl dX11_octet_19 ?_
      obtain ⟨hi_94, ht_95, hq_96⟩ := hW.bytes hi_4 ht_6
      obtain ⟨z_97, o_98, hF_99, hq_100, hq_101⟩ := hO.bytes hi_4 ht_6
      refine pg_getN (ci := 0) (v := .int (nI z_97)) (C := RX0) (T := TX0) (N := 3) hx hb hts it_0 hown hK hP hi_4 hF_99 rfl 1 (by decide) (hE.nest kn_17) (fun _ h9 => h9) rfl dX11_octet_22 ?_
      refine lv_icmp_lt (tgt := 33) hx hb dX11_octet_25 (by decide) (fun c_102 => ?_) (fun c_102 => ?_)
      ·
        refine lv_aload_n hx hb dX11_octet_33 rfl (lv_at hl 0 rfl) ?_
        refine pg_get (ci := 11) (v := .ref ou) (C := RX11) (T := TX11) (N := 9) hx hb hts it_11 hown hK hP hL_h0 hF_66 rfl 1 (by decide) (hts _ kt_526) (fun _ h9 => h9) rfl dX11_octet_34 ?_
        refine lv_iload_n hx hb dX11_octet_37 rfl (lv_at hl 1 rfl) ?_
        have hFc := pg_free hD hS hA
        refine va_calli (va_runV (As := [.int x1]) (rest := []) ⟨hx, hb, hml, hown, hts⟩ (s_X0_at l dC dI cs ty L s.heap.size F ou (ρ + 2) r_5 3000 x1 hW hi_4 ht_6) ⟨callB_of 1 hts (gi kt_21) rfl rfl rfl (hts _ kt_1) (hts _ kt_541) (by decide +kernel) ⟨Nat.le_of_ble_eq_true rfl, Nat.le_of_ble_eq_true rfl⟩, (hts _ kt_23), (hts _ kt_24)⟩ ⟨fun a U g mk q => ⟨q.1, PT.calling q.2⟩, pg_recv hK hP hi_4 hF_99 (q := (RX0, TX0, 3)) rfl, fun U hU hWm => ⟨rfl, PT.mk hU hWm hP hK hD hE hO⟩⟩ rfl rfl hl.1 rfl (lv_room (Nat.le_of_ble_eq_true rfl)) dX11_octet_38 ⟨by show _ + 0 ≤ 0; omega, by show _ + 0 ≤ 0; omega⟩) hS (fun q _ h => hFc q h) hFc (fun r_103 u t H1 locs ht hvm hw hB hz1 hk1 hS => ?_)
        obtain ⟨F_104, hB1⟩ := hB
        obtain rfl : F = F_104 := (funext (fun a => hB1.2.2.2 a List.not_mem_nil)).symm
        obtain ⟨hP, hD, hO, hR⟩ := QT.back hB1 ht hFc hR (fun q h => absurd h List.not_mem_nil)
        generalize H1 = H at hP hS ⊢
        have hw : True := hw
        have hw_105 := hw
        refine W.widen (k := 0) (n := 0) (by omega) (by omega) ?_
        exact W.iret (v := r_103) hx hb hr (fun t ht hWm => ⟨⟨r_103, (), rfl, trivial, ⟨F, QT.mk ht hP hD hO hR, ⟨hzt, _, hts_91⟩⟩⟩, hS.F ht⟩) hS.2.2 dX11_octet_41
      ·
        refine lv_bipush (v := (-2)) hx hb dX11_octet_28 (by decide) ?_
        refine lv_goto (tgt := 41) hx hb dX11_octet_30 (by decide) ?_
        refine W.widen (k := 0) (n := 0) (by omega) (by omega) ?_
        exact W.iret (v := (-2)) hx hb hr (fun t ht hWm => ⟨⟨(-2), (), rfl, trivial, ⟨F, QT.mk ht hP hD hO hR, ⟨hzt, _, hts_91⟩⟩⟩, hS.F ht⟩) hS.2.2 dX11_octet_41
  ·
    refine lv_aload_n hx hb dX11_octet_5 rfl (lv_at hl 0 rfl) ?_
    refine pg_get (ci := 11) (v := .ref ou) (C := RX11) (T := TX11) (N := 9) hx hb hts it_11 hown hK hP hL_h0 hF_66 rfl 1 (by decide) (hts _ kt_526) (fun _ h9 => h9) rfl dX11_octet_6 ?_
    obtain ⟨hi_106, ht_107, hq_108⟩ := hW.bytes hi_4 ht_6
    obtain ⟨z_109, o_110, hF_111, hq_112, hq_113⟩ := hO.bytes hi_4 ht_6
    refine pg_getN (ci := 0) (v := .int (nI z_109)) (C := RX0) (T := TX0) (N := 3) hx hb hts it_0 hown hK hP hi_4 hF_111 rfl 1 (by decide) (hE.nest kn_17) (fun _ h9 => h9) rfl dX11_octet_9 ?_
    refine W.widen (k := 0) (n := 0) (by omega) (by omega) ?_
    exact W.iret (v := (nI z_109)) hx hb hr (fun t ht hWm => ⟨⟨(nI z_109), (), rfl, trivial, ⟨F, QT.mk ht hP hD hO hR, ⟨hzt, _, hts_91⟩⟩⟩, hS.F ht⟩) hS.2.2 dX11_octet_12
