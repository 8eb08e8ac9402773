theorem dX15_cost_0 : decode cX15_cost 0 = .ok (.iload_n 1, 1) := by decide +kernel
theorem dX15_cost_1 : decode cX15_cost 1 = .ok (.ifCond .ne 10, 3) := by decide +kernel
theorem dX15_cost_4 : decode cX15_cost 4 = .ok (.aload_n 0, 1) := by decide +kernel
theorem dX15_cost_5 : decode cX15_cost 5 = .ok (.getfield 212, 3) := by decide +kernel
theorem dX15_cost_8 : decode cX15_cost 8 = .ok (.goto 16, 3) := by decide +kernel
theorem dX15_cost_11 : decode cX15_cost 11 = .ok (.iload_n 1, 1) := by decide +kernel
theorem dX15_cost_12 : decode cX15_cost 12 = .ok (.iconst 1, 1) := by decide +kernel
theorem dX15_cost_13 : decode cX15_cost 13 = .ok (.if_icmp .ne 10, 3) := by decide +kernel
theorem dX15_cost_16 : decode cX15_cost 16 = .ok (.aload_n 0, 1) := by decide +kernel
theorem dX15_cost_17 : decode cX15_cost 17 = .ok (.getfield 215, 3) := by decide +kernel
theorem dX15_cost_20 : decode cX15_cost 20 = .ok (.goto 4, 3) := by decide +kernel
theorem dX15_cost_23 : decode cX15_cost 23 = .ok (.iconst (-1), 1) := by decide +kernel
theorem dX15_cost_24 : decode cX15_cost 24 = .ok (.ireturn, 1) := by decide +kernel
theorem dX15_exchanges_0 : decode cX15_exchanges 0 = .ok (.iconst 0, 1) := by decide +kernel
theorem dX15_exchanges_1 : decode cX15_exchanges 1 = .ok (.istore_n 3, 1) := by decide +kernel
theorem dX15_exchanges_2 : decode cX15_exchanges 2 = .ok (.iload_n 3, 1) := by decide +kernel
theorem dX15_exchanges_3 : decode cX15_exchanges 3 = .ok (.aload_n 0, 1) := by decide +kernel
theorem dX15_exchanges_4 : decode cX15_exchanges 4 = .ok (.getfield 177, 3) := by decide +kernel
theorem dX15_exchanges_7 : decode cX15_exchanges 7 = .ok (.if_icmp .ge 88, 3) := by decide +kernel
theorem dX15_exchanges_10 : decode cX15_exchanges 10 = .ok (.aload_n 0, 1) := by decide +kernel
theorem dX15_exchanges_11 : decode cX15_exchanges 11 = .ok (.iload_n 3, 1) := by decide +kernel
theorem dX15_exchanges_12 : decode cX15_exchanges 12 = .ok (.iconst 2, 1) := by decide +kernel
theorem dX15_exchanges_13 : decode cX15_exchanges 13 = .ok (.aload_n 1, 1) := by decide +kernel
theorem dX15_exchanges_14 : decode cX15_exchanges 14 = .ok (.invokevirtual 196, 3) := by decide +kernel
theorem dX15_exchanges_17 : decode cX15_exchanges 17 = .ok (.ifCond .ne 6, 3) := by decide +kernel
theorem dX15_exchanges_20 : decode cX15_exchanges 20 = .ok (.goto 69, 3) := by decide +kernel
theorem dX15_exchanges_23 : decode cX15_exchanges 23 = .ok (.aload_n 0, 1) := by decide +kernel
theorem dX15_exchanges_24 : decode cX15_exchanges 24 = .ok (.aload_n 0, 1) := by decide +kernel
theorem dX15_exchanges_25 : decode cX15_exchanges 25 = .ok (.getfield 51, 3) := by decide +kernel
theorem dX15_exchanges_28 : decode cX15_exchanges 28 = .ok (.iload_n 3, 1) := by decide +kernel
theorem dX15_exchanges_29 : decode cX15_exchanges 29 = .ok (.aaload, 1) := by decide +kernel
theorem dX15_exchanges_30 : decode cX15_exchanges 30 = .ok (.invokevirtual 308, 3) := by decide +kernel
theorem dX15_exchanges_33 : decode cX15_exchanges 33 = .ok (.ifCond .eq 5, 3) := by decide +kernel
theorem dX15_exchanges_36 : decode cX15_exchanges 36 = .ok (.iconst 5, 1) := by decide +kernel
theorem dX15_exchanges_37 : decode cX15_exchanges 37 = .ok (.ireturn, 1) := by decide +kernel
theorem dX15_exchanges_38 : decode cX15_exchanges 38 = .ok (.iconst 0, 1) := by decide +kernel
theorem dX15_exchanges_39 : decode cX15_exchanges 39 = .ok (.istore 4, 2) := by decide +kernel
theorem dX15_exchanges_41 : decode cX15_exchanges 41 = .ok (.iload 4, 2) := by decide +kernel
theorem dX15_exchanges_43 : decode cX15_exchanges 43 = .ok (.aload_n 0, 1) := by decide +kernel
theorem dX15_exchanges_44 : decode cX15_exchanges 44 = .ok (.getfield 177, 3) := by decide +kernel
theorem dX15_exchanges_47 : decode cX15_exchanges 47 = .ok (.if_icmp .ge 42, 3) := by decide +kernel
theorem dX15_exchanges_50 : decode cX15_exchanges 50 = .ok (.aload_n 0, 1) := by decide +kernel
theorem dX15_exchanges_51 : decode cX15_exchanges 51 = .ok (.iload 4, 2) := by decide +kernel
theorem dX15_exchanges_53 : decode cX15_exchanges 53 = .ok (.iconst 1, 1) := by decide +kernel
theorem dX15_exchanges_54 : decode cX15_exchanges 54 = .ok (.aload_n 0, 1) := by decide +kernel
theorem dX15_exchanges_55 : decode cX15_exchanges 55 = .ok (.getfield 51, 3) := by decide +kernel
theorem dX15_exchanges_58 : decode cX15_exchanges 58 = .ok (.iload_n 3, 1) := by decide +kernel
theorem dX15_exchanges_59 : decode cX15_exchanges 59 = .ok (.aaload, 1) := by decide +kernel
theorem dX15_exchanges_60 : decode cX15_exchanges 60 = .ok (.invokevirtual 196, 3) := by decide +kernel
theorem dX15_exchanges_63 : decode cX15_exchanges 63 = .ok (.ifCond .eq 20, 3) := by decide +kernel
theorem dX15_exchanges_66 : decode cX15_exchanges 66 = .ok (.aload_n 0, 1) := by decide +kernel
theorem dX15_exchanges_67 : decode cX15_exchanges 67 = .ok (.aload_n 0, 1) := by decide +kernel
theorem dX15_exchanges_68 : decode cX15_exchanges 68 = .ok (.getfield 42, 3) := by decide +kernel
theorem dX15_exchanges_71 : decode cX15_exchanges 71 = .ok (.iload 4, 2) := by decide +kernel
theorem dX15_exchanges_73 : decode cX15_exchanges 73 = .ok (.iaload, 1) := by decide +kernel
theorem dX15_exchanges_74 : decode cX15_exchanges 74 = .ok (.iload_n 2, 1) := by decide +kernel
theorem dX15_exchanges_75 : decode cX15_exchanges 75 = .ok (.invokevirtual 331, 3) := by decide +kernel
theorem dX15_exchanges_78 : decode cX15_exchanges 78 = .ok (.ifCond .eq 5, 3) := by decide +kernel
theorem dX15_exchanges_81 : decode cX15_exchanges 81 = .ok (.iconst 1, 1) := by decide +kernel
theorem dX15_exchanges_82 : decode cX15_exchanges 82 = .ok (.ireturn, 1) := by decide +kernel
theorem dX15_exchanges_83 : decode cX15_exchanges 83 = .ok (.iinc 4 1, 3) := by decide +kernel
theorem dX15_exchanges_86 : decode cX15_exchanges 86 = .ok (.goto (-45), 3) := by decide +kernel
theorem dX15_exchanges_89 : decode cX15_exchanges 89 = .ok (.iinc 3 1, 3) := by decide +kernel
theorem dX15_exchanges_92 : decode cX15_exchanges 92 = .ok (.goto (-90), 3) := by decide +kernel
theorem dX15_exchanges_95 : decode cX15_exchanges 95 = .ok (.iconst 0, 1) := by decide +kernel
theorem dX15_exchanges_96 : decode cX15_exchanges 96 = .ok (.ireturn, 1) := by decide +kernel
theorem dX15_isOf_0 : decode cX15_isOf 0 = .ok (.aload_n 0, 1) := by decide +kernel
theorem dX15_isOf_1 : decode cX15_isOf 1 = .ok (.getfield 38, 3) := by decide +kernel
theorem dX15_isOf_4 : decode cX15_isOf 4 = .ok (.iload_n 1, 1) := by decide +kernel
theorem dX15_isOf_5 : decode cX15_isOf 5 = .ok (.iaload, 1) := by decide +kernel
theorem dX15_isOf_6 : decode cX15_isOf 6 = .ok (.iload_n 2, 1) := by decide +kernel
theorem dX15_isOf_7 : decode cX15_isOf 7 = .ok (.if_icmp .ne 20, 3) := by decide +kernel
theorem dX15_isOf_10 : decode cX15_isOf 10 = .ok (.aload_n 0, 1) := by decide +kernel
theorem dX15_isOf_11 : decode cX15_isOf 11 = .ok (.getfield 47, 3) := by decide +kernel
theorem dX15_isOf_14 : decode cX15_isOf 14 = .ok (.iload_n 1, 1) := by decide +kernel
theorem dX15_isOf_15 : decode cX15_isOf 15 = .ok (.aaload, 1) := by decide +kernel
theorem dX15_isOf_16 : decode cX15_isOf 16 = .ok (.aload_n 3, 1) := by decide +kernel
theorem dX15_isOf_17 : decode cX15_isOf 17 = .ok (.invokevirtual 193, 3) := by decide +kernel
theorem dX15_isOf_20 : decode cX15_isOf 20 = .ok (.ifCond .eq 7, 3) := by decide +kernel
theorem dX15_isOf_23 : decode cX15_isOf 23 = .ok (.iconst 1, 1) := by decide +kernel
theorem dX15_isOf_24 : decode cX15_isOf 24 = .ok (.goto 4, 3) := by decide +kernel
theorem dX15_isOf_27 : decode cX15_isOf 27 = .ok (.iconst 0, 1) := by decide +kernel
theorem dX15_isOf_28 : decode cX15_isOf 28 = .ok (.ireturn, 1) := by decide +kernel
theorem dX15_isSender_0 : decode cX15_isSender 0 = .ok (.iload_n 2, 1) := by decide +kernel
theorem dX15_isSender_1 : decode cX15_isSender 1 = .ok (.ifCond .eq 17, 3) := by decide +kernel
theorem dX15_isSender_4 : decode cX15_isSender 4 = .ok (.iload_n 1, 1) := by decide +kernel
theorem dX15_isSender_5 : decode cX15_isSender 5 = .ok (.aload_n 0, 1) := by decide +kernel
theorem dX15_isSender_6 : decode cX15_isSender 6 = .ok (.getfield 205, 3) := by decide +kernel
theorem dX15_isSender_9 : decode cX15_isSender 9 = .ok (.ixor, 1) := by decide +kernel
theorem dX15_isSender_10 : decode cX15_isSender 10 = .ok (.bipush 32, 2) := by decide +kernel
theorem dX15_isSender_12 : decode cX15_isSender 12 = .ok (.iload_n 2, 1) := by decide +kernel
theorem dX15_isSender_13 : decode cX15_isSender 13 = .ok (.isub, 1) := by decide +kernel
theorem dX15_isSender_14 : decode cX15_isSender 14 = .ok (.iushr, 1) := by decide +kernel
theorem dX15_isSender_15 : decode cX15_isSender 15 = .ok (.ifCond .ne 7, 3) := by decide +kernel
theorem dX15_isSender_18 : decode cX15_isSender 18 = .ok (.iconst 1, 1) := by decide +kernel
theorem dX15_isSender_19 : decode cX15_isSender 19 = .ok (.goto 4, 3) := by decide +kernel
theorem dX15_isSender_22 : decode cX15_isSender 22 = .ok (.iconst 0, 1) := by decide +kernel
theorem dX15_isSender_23 : decode cX15_isSender 23 = .ok (.ireturn, 1) := by decide +kernel
theorem dX15_isTrouble_0 : decode cX15_isTrouble 0 = .ok (.iconst 0, 1) := by decide +kernel
theorem dX15_isTrouble_1 : decode cX15_isTrouble 1 = .ok (.istore_n 2, 1) := by decide +kernel
theorem dX15_isTrouble_2 : decode cX15_isTrouble 2 = .ok (.iload_n 2, 1) := by decide +kernel
theorem dX15_isTrouble_3 : decode cX15_isTrouble 3 = .ok (.aload_n 0, 1) := by decide +kernel
theorem dX15_isTrouble_4 : decode cX15_isTrouble 4 = .ok (.getfield 177, 3) := by decide +kernel
theorem dX15_isTrouble_7 : decode cX15_isTrouble 7 = .ok (.if_icmp .ge 21, 3) := by decide +kernel
theorem dX15_isTrouble_10 : decode cX15_isTrouble 10 = .ok (.aload_n 0, 1) := by decide +kernel
theorem dX15_isTrouble_11 : decode cX15_isTrouble 11 = .ok (.iload_n 2, 1) := by decide +kernel
theorem dX15_isTrouble_12 : decode cX15_isTrouble 12 = .ok (.iconst 3, 1) := by decide +kernel
theorem dX15_isTrouble_13 : decode cX15_isTrouble 13 = .ok (.aload_n 1, 1) := by decide +kernel
theorem dX15_isTrouble_14 : decode cX15_isTrouble 14 = .ok (.invokevirtual 196, 3) := by decide +kernel
theorem dX15_isTrouble_17 : decode cX15_isTrouble 17 = .ok (.ifCond .eq 5, 3) := by decide +kernel
theorem dX15_isTrouble_20 : decode cX15_isTrouble 20 = .ok (.iconst 1, 1) := by decide +kernel
theorem dX15_isTrouble_21 : decode cX15_isTrouble 21 = .ok (.ireturn, 1) := by decide +kernel
theorem dX15_isTrouble_22 : decode cX15_isTrouble 22 = .ok (.iinc 2 1, 3) := by decide +kernel
theorem dX15_isTrouble_25 : decode cX15_isTrouble 25 = .ok (.goto (-23), 3) := by decide +kernel
theorem dX15_isTrouble_28 : decode cX15_isTrouble 28 = .ok (.iconst 0, 1) := by decide +kernel
theorem dX15_isTrouble_29 : decode cX15_isTrouble 29 = .ok (.ireturn, 1) := by decide +kernel
theorem dX15_recordOf_0 : decode cX15_recordOf 0 = .ok (.iconst (-1), 1) := by decide +kernel
theorem dX15_recordOf_1 : decode cX15_recordOf 1 = .ok (.istore_n 2, 1) := by decide +kernel
theorem dX15_recordOf_2 : decode cX15_recordOf 2 = .ok (.iconst 0, 1) := by decide +kernel
theorem dX15_recordOf_3 : decode cX15_recordOf 3 = .ok (.istore_n 3, 1) := by decide +kernel
theorem dX15_recordOf_4 : decode cX15_recordOf 4 = .ok (.iload_n 3, 1) := by decide +kernel
theorem dX15_recordOf_5 : decode cX15_recordOf 5 = .ok (.aload_n 0, 1) := by decide +kernel
theorem dX15_recordOf_6 : decode cX15_recordOf 6 = .ok (.getfield 177, 3) := by decide +kernel
theorem dX15_recordOf_9 : decode cX15_recordOf 9 = .ok (.if_icmp .ge 82, 3) := by decide +kernel
theorem dX15_recordOf_12 : decode cX15_recordOf 12 = .ok (.aload_n 0, 1) := by decide +kernel
theorem dX15_recordOf_13 : decode cX15_recordOf 13 = .ok (.iload_n 3, 1) := by decide +kernel
theorem dX15_recordOf_14 : decode cX15_recordOf 14 = .ok (.iconst 0, 1) := by decide +kernel
theorem dX15_recordOf_15 : decode cX15_recordOf 15 = .ok (.aload_n 1, 1) := by decide +kernel
theorem dX15_recordOf_16 : decode cX15_recordOf 16 = .ok (.invokevirtual 196, 3) := by decide +kernel
theorem dX15_recordOf_19 : decode cX15_recordOf 19 = .ok (.ifCond .ne 6, 3) := by decide +kernel
theorem dX15_recordOf_22 : decode cX15_recordOf 22 = .ok (.goto 63, 3) := by decide +kernel
theorem dX15_recordOf_25 : decode cX15_recordOf 25 = .ok (.aload_n 0, 1) := by decide +kernel
theorem dX15_recordOf_26 : decode cX15_recordOf 26 = .ok (.getfield 51, 3) := by decide +kernel
theorem dX15_recordOf_29 : decode cX15_recordOf 29 = .ok (.iload_n 3, 1) := by decide +kernel
theorem dX15_recordOf_30 : decode cX15_recordOf 30 = .ok (.aaload, 1) := by decide +kernel
theorem dX15_recordOf_31 : decode cX15_recordOf 31 = .ok (.astore 4, 2) := by decide +kernel
theorem dX15_recordOf_33 : decode cX15_recordOf 33 = .ok (.aload 4, 2) := by decide +kernel
theorem dX15_recordOf_35 : decode cX15_recordOf 35 = .ok (.getfield 295, 3) := by decide +kernel
theorem dX15_recordOf_38 : decode cX15_recordOf 38 = .ok (.iconst 0, 1) := by decide +kernel
theorem dX15_recordOf_39 : decode cX15_recordOf 39 = .ok (.aload 4, 2) := by decide +kernel
theorem dX15_recordOf_41 : decode cX15_recordOf 41 = .ok (.getfield 190, 3) := by decide +kernel
theorem dX15_recordOf_44 : decode cX15_recordOf 44 = .ok (.ldc_w 304, 3) := by decide +kernel
theorem dX15_recordOf_47 : decode cX15_recordOf 47 = .ok (.invokestatic 17, 3) := by decide +kernel
theorem dX15_recordOf_50 : decode cX15_recordOf 50 = .ok (.ifCond .ne 26, 3) := by decide +kernel
theorem dX15_recordOf_53 : decode cX15_recordOf 53 = .ok (.aload 4, 2) := by decide +kernel
theorem dX15_recordOf_55 : decode cX15_recordOf 55 = .ok (.getfield 295, 3) := by decide +kernel
theorem dX15_recordOf_58 : decode cX15_recordOf 58 = .ok (.iconst 0, 1) := by decide +kernel
theorem dX15_recordOf_59 : decode cX15_recordOf 59 = .ok (.aload 4, 2) := by decide +kernel
theorem dX15_recordOf_61 : decode cX15_recordOf 61 = .ok (.getfield 190, 3) := by decide +kernel
theorem dX15_recordOf_64 : decode cX15_recordOf 64 = .ok (.ldc_w 306, 3) := by decide +kernel
theorem dX15_recordOf_67 : decode cX15_recordOf 67 = .ok (.invokestatic 254, 3) := by decide +kernel
theorem dX15_recordOf_70 : decode cX15_recordOf 70 = .ok (.ifCond .ne 6, 3) := by decide +kernel
theorem dX15_recordOf_73 : decode cX15_recordOf 73 = .ok (.goto 12, 3) := by decide +kernel
theorem dX15_recordOf_76 : decode cX15_recordOf 76 = .ok (.iload_n 2, 1) := by decide +kernel
theorem dX15_recordOf_77 : decode cX15_recordOf 77 = .ok (.ifCond .lt 6, 3) := by decide +kernel
theorem dX15_recordOf_80 : decode cX15_recordOf 80 = .ok (.bipush (-2), 2) := by decide +kernel
theorem dX15_recordOf_82 : decode cX15_recordOf 82 = .ok (.ireturn, 1) := by decide +kernel
theorem dX15_recordOf_83 : decode cX15_recordOf 83 = .ok (.iload_n 3, 1) := by decide +kernel
theorem dX15_recordOf_84 : decode cX15_recordOf 84 = .ok (.istore_n 2, 1) := by decide +kernel
theorem dX15_recordOf_85 : decode cX15_recordOf 85 = .ok (.iinc 3 1, 3) := by decide +kernel
theorem dX15_recordOf_88 : decode cX15_recordOf 88 = .ok (.goto (-84), 3) := by decide +kernel
theorem dX15_recordOf_91 : decode cX15_recordOf 91 = .ok (.iload_n 2, 1) := by decide +kernel
theorem dX15_recordOf_92 : decode cX15_recordOf 92 = .ok (.ireturn, 1) := by decide +kernel
theorem kt_718 : Cond.fieldLink RX15 38 "PostGateModel" "sort" "[I" ∈ tb := tb_at (i := 1294) (by decide +kernel) (by decide +kernel)
theorem kt_719 : Cond.fieldLink RX15 47 "PostGateModel" "name" "[LPostGateModel$Text;" ∈ tb := tb_at (i := 1296) (by decide +kernel) (by decide +kernel)
theorem kt_720 : Cond.code yX14_is_ cX14_is_ 2 (some .boolean) ∈ tb := tb_at (i := 1537) (by decide +kernel) (by decide +kernel)
theorem kt_721 : Cond.methodLink RX15 193 yX14_is_ ∈ tb := tb_at (i := 1534) (by decide +kernel) (by decide +kernel)
theorem kt_722 : Cond.instanceMethod yX14_is_ ∈ tb := tb_at (i := 1535) (by decide +kernel) (by decide +kernel)
theorem kt_723 : Cond.selects RX14 yX14_is_ yX14_is_ ∈ tb := tb_at (i := 1536) (by decide +kernel) (by decide +kernel)
theorem kt_724 : Cond.fieldLink RX15 177 "PostGateModel" "entries" "I" ∈ tb := tb_at (i := 1292) (by decide +kernel) (by decide +kernel)
theorem kt_725 : Cond.code yX15_isOf cX15_isOf 4 (some .boolean) ∈ tb := tb_at (i := 1533) (by decide +kernel) (by decide +kernel)
theorem kt_726 : Cond.methodLink RX15 196 yX15_isOf ∈ tb := tb_at (i := 1530) (by decide +kernel) (by decide +kernel)
theorem kt_727 : Cond.instanceMethod yX15_isOf ∈ tb := tb_at (i := 1532) (by decide +kernel) (by decide +kernel)
theorem kt_728 : Cond.selects RX15 yX15_isOf yX15_isOf ∈ tb := tb_at (i := 45) (by decide +kernel) (by decide +kernel)
theorem kt_729 : Cond.fieldLink RX15 205 "PostGateModel" "from" "I" ∈ tb := tb_at (i := 1300) (by decide +kernel) (by decide +kernel)
theorem kt_730 : Cond.fieldLink RX15 215 "PostGateModel" "empty" "I" ∈ tb := tb_at (i := 1304) (by decide +kernel) (by decide +kernel)
theorem kt_731 : Cond.fieldLink RX15 212 "PostGateModel" "counted" "I" ∈ tb := tb_at (i := 1303) (by decide +kernel) (by decide +kernel)
theorem kt_732 : Cond.fieldLink RX15 51 "PostGateModel" "value" "[LPostGateModel$Text;" ∈ tb := tb_at (i := 1297) (by decide +kernel) (by decide +kernel)
theorem kt_733 : Cond.code yX15_begins cX15_begins 4 (some .boolean) ∈ tb := tb_at (i := 1555) (by decide +kernel) (by decide +kernel)
theorem kt_734 : Cond.methodLink RX15 254 yX15_begins ∈ tb := tb_at (i := 1553) (by decide +kernel) (by decide +kernel)
theorem kt_735 : Cond.static yX15_begins ∈ tb := tb_at (i := 1554) (by decide +kernel) (by decide +kernel)
theorem kt_736 : Cond.code yX15_isTrouble cX15_isTrouble 3 (some .boolean) ∈ tb := tb_at (i := 1529) (by decide +kernel) (by decide +kernel)
theorem kt_737 : Cond.methodLink RX15 308 yX15_isTrouble ∈ tb := tb_at (i := 1526) (by decide +kernel) (by decide +kernel)
theorem kt_738 : Cond.instanceMethod yX15_isTrouble ∈ tb := tb_at (i := 1528) (by decide +kernel) (by decide +kernel)
theorem kt_739 : Cond.selects RX15 yX15_isTrouble yX15_isTrouble ∈ tb := tb_at (i := 44) (by decide +kernel) (by decide +kernel)
theorem kt_740 : Cond.fieldLink RX15 42 "PostGateModel" "address" "[I" ∈ tb := tb_at (i := 1295) (by decide +kernel) (by decide +kernel)
theorem kt_741 : Cond.code yX15_isSender cX15_isSender 3 (some .boolean) ∈ tb := tb_at (i := 1603) (by decide +kernel) (by decide +kernel)
theorem kt_742 : Cond.methodLink RX15 331 yX15_isSender ∈ tb := tb_at (i := 1600) (by decide +kernel) (by decide +kernel)
theorem kt_743 : Cond.instanceMethod yX15_isSender ∈ tb := tb_at (i := 1602) (by decide +kernel) (by decide +kernel)
theorem kt_744 : Cond.selects RX15 yX15_isSender yX15_isSender ∈ tb := tb_at (i := 51) (by decide +kernel) (by decide +kernel)
theorem dig {x : Int32} (h1 : ¬ x < 48) (h2 : ¬ 57 < x) : ∃ m : Nat, m ≤ 9 ∧ x - 48 = nI m := by
  have a1 : (48 : Int) ≤ x.toInt := by
    rw [Int32.lt_iff_toInt_lt] at h1
    have : (48 : Int32).toInt = 48 := by decide
    omega
  have a2 : x.toInt ≤ 57 := by
    rw [Int32.lt_iff_toInt_lt] at h2
    have : (57 : Int32).toInt = 57 := by decide
    omega
  refine ⟨(x.toInt - 48).toNat, by omega, ?_⟩
  apply Int32.toInt_inj.mp
  rw [nI_toInt (by omega), Int32.toInt_sub, show (48 : Int32).toInt = 48 from by decide, Int.bmod_eq_of_le (by omega) (by omega)]
  omega
def dots (f : Nat → Int32) : Nat → Nat
  | 0 => 0
  | k + 1 => dots f k + (if f k = 46 then 1 else 0)
theorem dots_le {f : Nat → Int32} {a b : Nat} (h : a ≤ b) : dots f a ≤ dots f b := by
  induction b with
  | zero => rw [Nat.le_zero.mp h]; exact Nat.le_refl _
  | succ b ih =>
    rcases Nat.lt_or_ge b a with q | q
    · rw [show a = b + 1 from by omega]
      exact Nat.le_refl _
    · exact Nat.le_trans (ih q) (Nat.le_add_right _ _)
theorem dots_b (f : Nat → Int32) (k : Nat) : dots f k ≤ k := by
  induction k with
  | zero => exact Nat.le_refl _
  | succ k ih =>
    show dots f k + (if f k = 46 then 1 else 0) ≤ k + 1
    split <;> omega
theorem dots_y {f : Nat → Int32} {k : Nat} (h : f k = 46) : dots f (k + 1) = dots f k + 1 := by
  show dots f k + (if f k = 46 then 1 else 0) = _
  rw [if_pos h]
theorem dots_n {f : Nat → Int32} {k : Nat} (h : ¬ f k = 46) : dots f (k + 1) = dots f k := by
  show dots f k + (if f k = 46 then 1 else 0) = _
  rw [if_neg h, Nat.add_zero]
def DOK (f : Nat → Int32) (tt : Nat) (u v : Int32) : Prop := u = (-1) ∨ ∃ b c, u = nI b ∧ v = nI c ∧ b ≤ c ∧ c ≤ tt ∧ ISD f c b
def cRED : List Int32 := [114, 101, 100, 105, 114, 101, 99, 116, 61]
def RDP (f : Nat → Int32) (a tt : Nat) : Prop := bgP f a tt (cct cRED) 9 ∧ ISD f tt (a + 9)
def RTP (f : Nat → Int32) (a tt : Nat) (w u v : Int32) : Prop := (w = 6 ∨ w = 7 ∨ w = 8 ∨ DOK f tt u v) ∧ (w = 6 → RDP f a tt) ∧ (RDP f a tt → u = nI (a + 9) ∧ v = nI tt)
theorem RDP.c0 {f : Nat → Int32} {a tt : Nat} (h : RDP f a tt) : f a = 114 := by
  have := h.1.2 0 (by omega)
  exact this
set_option maxHeartbeats 4000000 in
set_option maxRecDepth 100000 in
theorem s_X15_isDigit_x (l : Launch) (dC : Nat → ClassId) (dI : Nat → Nat → Nat) (cs : Nat → ClassId) (ty : TyM) (gm : Nat → Nat → Nat) (L : List Nat) (sz : Nat) (F : Nat → va_E) (x1 : Int32) (hW : WTm ty gm L) : Met l yX15_isDigit (.code yX15_isDigit cX15_isDigit 1 (some .boolean) :: tb) ({ frames := 0, cells := 0, slots := 0, locals := 0 }) (va_Pc [.int x1] (PTm (dC, dI) cs ty gm L F sz)) (va_Qi (fun (r : Int32) (_ : Unit) => (r = 0 ∨ (r = 1 ∧ ¬ x1 < 48 ∧ ¬ 57 < x1))) (fun _ T9 => ∃ F2 : Nat → va_E, QTm (dC, dI) cs ty gm L [] F F2 (va_A (va_pl L F) sz) T9) (va_A (va_pl L F) sz)) 0 0 (va_A (va_pl L F) sz) := by
  refine Met.ofW (cc := cX15_isDigit) (maxL := 1) (ret := (some .boolean)) (by decide) rfl ?_
  intro p e s m args below meth c s₁ B hml hv
  obtain ⟨rfl, hsz, hP, hK, hD0, hE, hO⟩ := hv
  have hx := B.exec
  have hb := B.bytes
  have hr := B.returns
  have hts : ∀ w ∈ tb, w.before _ s = true := fun w h => atoms_spec (ws := .code yX15_isDigit cX15_isDigit 1 (some .boolean) :: tb) B.pre w (List.mem_cons_of_mem _ h)
  have hown : s.vm.findClass RX15 = some m.cls := findClass_of_methodNamed B.named
  have hlocks := B.notSynchronized
  subst hsz
  have hD := hD0.self (sz := s.heap.size)
  generalize hAe : va_A (va_pl L F) s.heap.size = A at hD ⊢
  have hA : ∀ q : Nat, s.heap.size ≤ q → A q := fun q h => by rw [← hAe]; exact Or.inr h
  have hS : va_S A s.heap s.heap [] := va_S.rf
  have hR : FR ty [] F F := FR.refl
  have hl := lv_entry ([.int x1]) (n := 1) (Nat.le_of_ble_eq_true rfl)
  rw [lg_entry_eq]
  generalize (lg_sl ([.int x1]) ++ List.replicate (1 - (lg_sl ([.int x1])).length) Slot.unset).toArray = ls at hl ⊢
  have hl : lv_has ls 1 [(0, .int x1)] := hl
  refine lv_iload_n hx hb dX15_isDigit_0 rfl (lv_at hl 0 rfl) ?_
  refine lv_bipush (v := 48) hx hb dX15_isDigit_1 (by decide) ?_
  refine lv_icmp_lt (tgt := 16) hx hb dX15_isDigit_3 (by decide) (fun c_1 => ?_) (fun c_1 => ?_)
  ·
    refine lv_iconst (v := 0) hx hb dX15_isDigit_16 (by decide) ?_
    refine W.widen (k := 0) (n := 0) (by omega) (by omega) ?_
    exact W.zret (v := 0) (ty := .boolean) hx hb hr (by decide) (fun t ht hWm => ⟨⟨0, (), rfl, Or.inl rfl, ⟨F, QTm.mk ht hP hD hO hR⟩⟩, hS.F ht⟩) hS.2.2 dX15_isDigit_17
  ·
    refine lv_iload_n hx hb dX15_isDigit_6 rfl (lv_at hl 0 rfl) ?_
    refine lv_bipush (v := 57) hx hb dX15_isDigit_7 (by decide) ?_
    refine lv_icmp_gt (tgt := 16) hx hb dX15_isDigit_9 (by decide) (fun c_2 => ?_) (fun c_2 => ?_)
    ·
      refine lv_iconst (v := 0) hx hb dX15_isDigit_16 (by decide) ?_
      refine W.widen (k := 0) (n := 0) (by omega) (by omega) ?_
      exact W.zret (v := 0) (ty := .boolean) hx hb hr (by decide) (fun t ht hWm => ⟨⟨0, (), rfl, Or.inl rfl, ⟨F, QTm.mk ht hP hD hO hR⟩⟩, hS.F ht⟩) hS.2.2 dX15_isDigit_17
    ·
      refine lv_iconst (v := 1) hx hb dX15_isDigit_12 (by decide) ?_
      refine lv_goto (tgt := 17) hx hb dX15_isDigit_13 (by decide) ?_
      refine W.widen (k := 0) (n := 0) (by omega) (by omega) ?_
      exact W.zret (v := 1) (ty := .boolean) hx hb hr (by decide) (fun t ht hWm => ⟨⟨1, (), rfl, (Or.inr ⟨rfl, c_1, c_2⟩), ⟨F, QTm.mk ht hP hD hO hR⟩⟩, hS.F ht⟩) hS.2.2 dX15_isDigit_17
set_option maxHeartbeats 4000000 in
set_option maxRecDepth 100000 in
theorem s_X15_isOf (l : Launch) (dC : Nat → ClassId) (dI : Nat → Nat → Nat) (cs : Nat → ClassId) (ty : TyM) (gm : Nat → Nat → Nat) (L : List Nat) (sz : Nat) (F : Nat → va_E) (h0 : Nat) (ρ : Nat) (ta : Nat) (ou : Nat) (so : Nat) (ad : Nat) (na : Nat) (va : Nat) (lc : Nat) (dm : Nat) (tg : Nat) (pe : Nat) (ml : Nat) (bg : Nat) (co : Nat) (sp : Nat) (nb0 : Nat) (nb1 : Nat) (nb2 : Nat) (pl : Nat) (se : Nat) (ke : Nat) (wi : Nat) (hs : Nat) (mo : Nat) (po : Nat) (nu : Nat) (pr : Nat) (sq : Nat) (xa : Nat) (sa : Nat) (n64 : Nat) (m64 : Nat) (ex : Nat) (wh : Nat) (sd : Nat) (tk : Nat) (hd : Nat) (ak : Nat) (ho : Nat) (ot : Nat) (sx : Nat) (s0 : Nat) (s1 : Nat) (s2 : Nat) (nf : Nat) (bd : Nat) (mm : Nat) (zo : Nat) (fm : Nat) (sn : Nat) (hg : Nat) (gc : Nat) (gv : Nat) (ze : Nat) (zt : Nat) (jk : Nat) (g1 : Nat) (σ : Nat) (r1 : Nat) (n1 : Nat) (x2 : Int32) (hW : WTm ty gm L) (hL_h0 : h0 ∈ L) (hT_h0 : ty h0 = (15, ρ, [ta, ou, so, ad, na, va, lc, dm, tg, pe, ml, bg, co, sp, nb0, nb1, nb2, pl, se, ke, wi, hs, mo, po, nu, pr, sq, xa, sa, n64, m64, ex, wh, sd, tk, hd, ak, ho, ot, sx, s0, s1, s2, nf, bd, mm, zo, fm, sn, hg, gc, gv, ze, zt])) (hL_g1 : g1 ∈ L) (hT_g1 : ty g1 = (14, σ, [r1, n1])) (hjk : jk < 40) : Met l yX15_isOf (.code yX15_isOf cX15_isOf 4 (some .boolean) :: tb) ({ frames := 2, cells := 0, slots := 0, locals := 45 }) (va_Pc [.ref h0, .int (nI jk), .int x2, .ref g1] (PTm (dC, dI) cs ty gm L F sz)) (va_Qi (fun (r : Int32) (_ : Unit) => (r = 0 ∨ r = 1)) (fun _ T9 => ∃ F2 : Nat → va_E, QTm (dC, dI) cs ty gm L [] F F2 (va_A (va_pl L F) sz) T9) (va_A (va_pl L F) sz)) 0 0 (va_A (va_pl L F) sz) := by
  refine Met.ofW (cc := cX15_isOf) (maxL := 4) (ret := (some .boolean)) (by decide) rfl ?_
  intro p e s m args below meth c s₁ B hml hv
  obtain ⟨rfl, hsz, hP, hK, hD0, hE, hO⟩ := hv
  have hx := B.exec
  have hb := B.bytes
  have hr := B.returns
  have hts : ∀ w ∈ tb, w.before _ s = true := fun w h => atoms_spec (ws := .code yX15_isOf cX15_isOf 4 (some .boolean) :: tb) B.pre w (List.mem_cons_of_mem _ h)
  have hown : s.vm.findClass RX15 = some m.cls := findClass_of_methodNamed B.named
  have hlocks := B.notSynchronized
  subst hsz
  have hD := hD0.self (sz := s.heap.size)
  generalize hAe : va_A (va_pl L F) s.heap.size = A at hD ⊢
  have hA : ∀ q : Nat, s.heap.size ≤ q → A q := fun q h => by rw [← hAe]; exact Or.inr h
  have hS : va_S A s.heap s.heap [] := va_S.rf
  have hR : FR ty [] F F := FR.refl
  have hl := lv_entry ([.ref h0, .int (nI jk), .int x2, .ref g1]) (n := 4) (Nat.le_of_ble_eq_true rfl)
  rw [lg_entry_eq]
  generalize (lg_sl ([.ref h0, .int (nI jk), .int x2, .ref g1]) ++ List.replicate (4 - (lg_sl ([.ref h0, .int (nI jk), .int x2, .ref g1])).length) Slot.unset).toArray = ls at hl ⊢
  have hl : lv_has ls 4 [(0, .ref h0), (1, .int (nI jk)), (2, .int x2), (3, .ref g1)] := hl
  refine lv_aload_n hx hb dX15_isOf_0 rfl (lv_at hl 0 rfl) ?_
  obtain ⟨hq_23, hq_24, hq_25, hq_26, hq_27, hgO, hgA, hgB, hq_28⟩ := hW.sc hL_h0 hT_h0
  obtain ⟨v14_29, v15_30, v17_31, v18_32, v19_33, v20_34, v21_35, v22_36, v33_37, v52_38, v53_39, v54_40, hF_41, hq_42, hq_43, hq_44, hq_45, hq_46⟩ := hO.mod hL_h0 hT_h0
  refine pg_get (ci := 15) (v := .ref so) (C := RX15) (T := TX15) (N := 59) hx hb hts it_15 hown hK hP hL_h0 hF_41 rfl 5 (by decide) (hts _ kt_718) (fun _ h9 => h9) rfl dX15_isOf_1 ?_
  refine lv_iload_n hx hb dX15_isOf_4 rfl (lv_at hl 1 rfl) ?_
  obtain ⟨hi_47, ht_48⟩ := hW.f_so hL_h0 hT_h0
  obtain ⟨hq_49, hq_50⟩ := hW.ints hi_47 ht_48
  obtain ⟨f_51, hF_52⟩ := hO.ints hi_47 ht_48
  refine pg_iald hx hb hK hP hi_47 0 hF_52 rfl (vp_in_nI (by omega) (by omega)) dX15_isOf_5 ?_
  refine lv_topi (fun x_53 _ => ?_)
  refine lv_iload_n hx hb dX15_isOf_6 rfl (lv_at hl 2 rfl) ?_
  refine lv_icmp_ne (tgt := 27) hx hb dX15_isOf_7 (by decide) (fun c_54 => ?_) (fun c_54 => ?_)
  ·
    refine lv_iconst (v := 0) hx hb dX15_isOf_27 (by decide) ?_
    refine W.widen (k := 0) (n := 0) (by omega) (by omega) ?_
    exact W.zret (v := 0) (ty := .boolean) hx hb hr (by decide) (fun t ht hWm => ⟨⟨0, (), rfl, (by first | exact Or.inl rfl | exact Or.inr rfl), ⟨F, QTm.mk ht hP hD hO hR⟩⟩, hS.F ht⟩) hS.2.2 dX15_isOf_28
  ·
    refine lv_aload_n hx hb dX15_isOf_10 rfl (lv_at hl 0 rfl) ?_
    refine pg_get (ci := 15) (v := .ref na) (C := RX15) (T := TX15) (N := 59) hx hb hts it_15 hown hK hP hL_h0 hF_41 rfl 7 (by decide) (hts _ kt_719) (fun _ h9 => h9) rfl dX15_isOf_11 ?_
    refine lv_iload_n hx hb dX15_isOf_14 rfl (lv_at hl 1 rfl) ?_
    obtain ⟨hi_55, ht_56⟩ := hW.f_na hL_h0 hT_h0
    obtain ⟨f_57, hF_58, hq_59⟩ := hO.rtxj hi_55 ht_56
    obtain ⟨b_60, r_61, hbf_62, hi_63, ht_64⟩ := hq_59 jk (by omega)
    refine pg_aald (r := b_60) hx hb hK hP hi_55 7 hF_58 rfl (vp_in_nI (by omega) (by omega)) (show f_57 ((nI jk) : Int32).toNatClampNeg = _ from by rw [show ((nI jk) : Int32) = nI jk from rfl, nI_clamp (by omega)]; exact hbf_62) dX15_isOf_15 ?_
    refine lv_aload_n hx hb dX15_isOf_16 rfl (lv_at hl 3 rfl) ?_
    obtain ⟨hi_65, ht_66, hq_67⟩ := hW.txt hi_63 ht_64
    obtain ⟨hi_68, ht_69, hq_70⟩ := hW.txt hL_g1 hT_g1
    have hFc := pg_free hD hS hA
    obtain ⟨z_71, hF_72, hq_73⟩ := hO.txt hi_63 ht_64
    refine va_calli (va_runV (As := [.ref g1]) (rest := []) ⟨hx, hb, hml, hown, hts⟩ (s_X14_is_ l dC dI cs ty gm L s.heap.size F b_60 (ρ + 4 + jk + 100) r_61 60 g1 σ r1 n1 hW hi_63 ht_64 hL_g1 hT_g1) ⟨callB_of 1 hts (gi kt_720) rfl rfl rfl (hts _ kt_676) (hts _ kt_721) (by decide +kernel) ⟨Nat.le_of_ble_eq_true rfl, Nat.le_of_ble_eq_true rfl⟩, (hts _ kt_722), (hts _ kt_723)⟩ ⟨fun a U g mk q => ⟨q.1, PTm.calling q.2⟩, pg_recv hK hP hi_63 hF_72 (q := (RX14, TX14, 2)) rfl, fun U hU hWm => ⟨rfl, PTm.mk hU hWm hP hK hD hE hO⟩⟩ rfl rfl hl.1 rfl (lv_room (Nat.le_of_ble_eq_true rfl)) dX15_isOf_17 ⟨by show _ + 0 ≤ 0; omega, by show _ + 0 ≤ 0; omega⟩) hS (fun q _ h => hFc q h) hFc (fun r_74 u t H1 locs ht hvm hw hB hz1 hk1 hS => ?_)
    obtain ⟨F_75, hB1⟩ := hB
    obtain rfl : F = F_75 := (funext (fun a => hB1.2.2.2 a List.not_mem_nil)).symm
    obtain ⟨hP, hD, hO, hR⟩ := QTm.back hB1 ht hFc hR (fun q h => absurd h List.not_mem_nil)
    generalize H1 = H at hP hS ⊢
    have hw : (r_74 = 0 ∨ r_74 = 1) := hw
    have hw_76 := hw
    refine lv_if_eq (tgt := 27) hx hb dX15_isOf_20 (by decide) (fun c_77 => ?_) (fun c_77 => ?_)
    ·
      refine lv_iconst (v := 0) hx hb dX15_isOf_27 (by decide) ?_
      refine W.widen (k := 0) (n := 0) (by omega) (by omega) ?_
      exact W.zret (v := 0) (ty := .boolean) hx hb hr (by decide) (fun t ht hWm => ⟨⟨0, (), rfl, (by first | exact Or.inl rfl | exact Or.inr rfl), ⟨F, QTm.mk ht hP hD hO hR⟩⟩, hS.F ht⟩) hS.2.2 dX15_isOf_28
    ·
      refine lv_iconst (v := 1) hx hb dX15_isOf_23 (by decide) ?_
      refine lv_goto (tgt := 28) hx hb dX15_isOf_24 (by decide) ?_
      refine W.widen (k := 0) (n := 0) (by omega) (by omega) ?_
      exact W.zret (v := 1) (ty := .boolean) hx hb hr (by decide) (fun t ht hWm => ⟨⟨1, (), rfl, (by first | exact Or.inl rfl | exact Or.inr rfl), ⟨F, QTm.mk ht hP hD hO hR⟩⟩, hS.F ht⟩) hS.2.2 dX15_isOf_28
set_option maxHeartbeats 4000000 in
set_option maxRecDepth 100000 in
theorem s_X15_isTrouble (l : Launch) (dC : Nat → ClassId) (dI : Nat → Nat → Nat) (cs : Nat → ClassId) (ty : TyM) (gm : Nat → Nat → Nat) (L : List Nat) (sz : Nat) (F : Nat → va_E) (h0 : Nat) (ρ : Nat) (ta : Nat) (ou : Nat) (so : Nat) (ad : Nat) (na : Nat) (va : Nat) (lc : Nat) (dm : Nat) (tg : Nat) (pe : Nat) (ml : Nat) (bg : Nat) (co : Nat) (sp : Nat) (nb0 : Nat) (nb1 : Nat) (nb2 : Nat) (pl : Nat) (se : Nat) (ke : Nat) (wi : Nat) (hs : Nat) (mo : Nat) (po : Nat) (nu : Nat) (pr : Nat) (sq : Nat) (xa : Nat) (sa : Nat) (n64 : Nat) (m64 : Nat) (ex : Nat) (wh : Nat) (sd : Nat) (tk : Nat) (hd : Nat) (ak : Nat) (ho : Nat) (ot : Nat) (sx : Nat) (s0 : Nat) (s1 : Nat) (s2 : Nat) (nf : Nat) (bd : Nat) (mm : Nat) (zo : Nat) (fm : Nat) (sn : Nat) (hg : Nat) (gc : Nat) (gv : Nat) (ze : Nat) (zt : Nat) (g1 : Nat) (σ : Nat) (r1 : Nat) (n1 : Nat) (hW : WTm ty gm L) (hL_h0 : h0 ∈ L) (hT_h0 : ty h0 = (15, ρ, [ta, ou, so, ad, na, va, lc, dm, tg, pe, ml, bg, co, sp, nb0, nb1, nb2, pl, se, ke, wi, hs, mo, po, nu, pr, sq, xa, sa, n64, m64, ex, wh, sd, tk, hd, ak, ho, ot, sx, s0, s1, s2, nf, bd, mm, zo, fm, sn, hg, gc, gv, ze, zt])) (hL_g1 : g1 ∈ L) (hT_g1 : ty g1 = (14, σ, [r1, n1])) : Met l yX15_isTrouble (.code yX15_isTrouble cX15_isTrouble 3 (some .boolean) :: tb) ({ frames := 3, cells := 0, slots := 0, locals := 68 }) (va_Pc [.ref h0, .ref g1] (PTm (dC, dI) cs ty gm L F sz)) (va_Qi (fun (r : Int32) (_ : Unit) => (r = 0 ∨ r = 1)) (fun _ T9 => ∃ F2 : Nat → va_E, QTm (dC, dI) cs ty gm L [] F F2 (va_A (va_pl L F) sz) T9) (va_A (va_pl L F) sz)) 0 0 (va_A (va_pl L F) sz) := by
  refine Met.ofW (cc := cX15_isTrouble) (maxL := 3) (ret := (some .boolean)) (by decide) rfl ?_
  intro p e s m args below meth c s₁ B hml hv
  obtain ⟨rfl, hsz, hP, hK, hD0, hE, hO⟩ := hv
  have hx := B.exec
  have hb := B.bytes
  have hr := B.returns
  have hts : ∀ w ∈ tb, w.before _ s = true := fun w h => atoms_spec (ws := .code yX15_isTrouble cX15_isTrouble 3 (some .boolean) :: tb) B.pre w (List.mem_cons_of_mem _ h)
  have hown : s.vm.findClass RX15 = some m.cls := findClass_of_methodNamed B.named
  have hlocks := B.notSynchronized
  subst hsz
  have hD := hD0.self (sz := s.heap.size)
  generalize hAe : va_A (va_pl L F) s.heap.size = A at hD ⊢
  have hA : ∀ q : Nat, s.heap.size ≤ q → A q := fun q h => by rw [← hAe]; exact Or.inr h
  have hS : va_S A s.heap s.heap [] := va_S.rf
  have hR : FR ty [] F F := FR.refl
  have hl := lv_entry ([.ref h0, .ref g1]) (n := 3) (Nat.le_of_ble_eq_true rfl)
  rw [lg_entry_eq]
  generalize (lg_sl ([.ref h0, .ref g1]) ++ List.replicate (3 - (lg_sl ([.ref h0, .ref g1])).length) Slot.unset).toArray = ls at hl ⊢
  have hl : lv_has ls 3 [(0, .ref h0), (1, .ref g1)] := hl
  refine lv_iconst (v := 0) hx hb dX15_isTrouble_0 (by decide) ?_
  refine lv_istore_n (lv' := [(2, .int 0), (0, .ref h0), (1, .ref g1)]) hx hb dX15_isTrouble_1 rfl hl (by decide) rfl (fun ls hl => ?_)
  refine W.widen (k := 0) (n := 0) (by omega) (by omega) ?_
  refine pl_loopm (σ := Nat) A (dC, dI) cs ty gm L [] F 2 3 (fun j => [(2, .int (nI j)), (0, .ref h0), (1, .ref g1)]) (fun j => []) (fun j _ => j ≤ 40) (fun j => 40 - j) ?_ 0 F (by omega) hO hR _ _ hP hD hS ls (lv_sub hl [0, 1, 2] rfl)
  rintro j F_1 hv_2 hO hR ih_3 H locs hP hD hS ls hl
  have hl : lv_has ls 3 [(2, .int (nI j)), (0, .ref h0), (1, .ref g1)] := hl
  have hv_2 : j ≤ 40 := hv_2
  refine W.eq (g2 := F0 m 2 ls []) rfl ?_
  obtain rfl : F = F_1 := (funext (fun a => hR a List.not_mem_nil)).symm
  refine lv_iload_n hx hb dX15_isTrouble_2 rfl (lv_at hl 0 rfl) ?_
  refine lv_aload_n hx hb dX15_isTrouble_3 rfl (lv_at hl 1 rfl) ?_
  obtain ⟨hq_26, hq_27, hq_28, hq_29, hq_30, hgO, hgA, hgB, hq_31⟩ := hW.sc hL_h0 hT_h0
  obtain ⟨v14_32, v15_33, v17_34, v18_35, v19_36, v20_37, v21_38, v22_39, v33_40, v52_41, v53_42, v54_43, hF_44, hq_45, hq_46, hq_47, hq_48, hq_49⟩ := hO.mod hL_h0 hT_h0
  refine pg_get (ci := 15) (v := .int (nI ze)) (C := RX15) (T := TX15) (N := 59) hx hb hts it_15 hown hK hP hL_h0 hF_44 rfl 3 (by decide) (hts _ kt_724) (fun _ h9 => h9) rfl dX15_isTrouble_4 ?_
  refine lv_icmp_ge (tgt := 28) hx hb dX15_isTrouble_7 (by decide) (fun c_50 => ?_) (fun c_50 => ?_)
  ·
    have hi_51 : ze ≤ j := leN (N := ze) c_50
    refine lv_iconst (v := 0) hx hb dX15_isTrouble_28 (by decide) ?_
    refine W.widen (k := 0) (n := 0) (by omega) (by omega) ?_
    exact W.zret (v := 0) (ty := .boolean) hx hb hr (by decide) (fun t ht hWm => ⟨⟨0, (), rfl, (by first | exact Or.inl rfl | exact Or.inr rfl), ⟨F, QTm.mk ht hP hD hO hR⟩⟩, hS.F ht⟩) hS.2.2 dX15_isTrouble_29
  ·
    have hi_52 : j < ze := ltN (N := ze) c_50
    refine lv_aload_n hx hb dX15_isTrouble_10 rfl (lv_at hl 1 rfl) ?_
    refine lv_iload_n hx hb dX15_isTrouble_11 rfl (lv_at hl 0 rfl) ?_
    refine lv_iconst (v := 3) hx hb dX15_isTrouble_12 (by decide) ?_
    refine lv_aload_n hx hb dX15_isTrouble_13 rfl (lv_at hl 2 rfl) ?_
    obtain ⟨hi_53, ht_54, hq_55⟩ := hW.txt hL_g1 hT_g1
    have hFc := pg_free hD hS hA
    refine va_calli (va_runV (As := [.int (nI j), .int 3, .ref g1]) (rest := []) ⟨hx, hb, hml, hown, hts⟩ (s_X15_isOf l dC dI cs ty gm L H.size F h0 ρ ta ou so ad na va lc dm tg pe ml bg co sp nb0 nb1 nb2 pl se ke wi hs mo po nu pr sq xa sa n64 m64 ex wh sd tk hd ak ho ot sx s0 s1 s2 nf bd mm zo fm sn hg gc gv ze zt j g1 σ r1 n1 3 hW hL_h0 hT_h0 hL_g1 hT_g1 (by first | omega | assumption | exact Or.inl rfl)) ⟨callB_of 3 hts (gi kt_725) rfl rfl rfl (hts _ kt_669) (hts _ kt_726) (by decide +kernel) ⟨Nat.le_of_ble_eq_true rfl, Nat.le_of_ble_eq_true rfl⟩, (hts _ kt_727), (hts _ kt_728)⟩ ⟨fun a U g mk q => ⟨q.1, PTm.calling q.2⟩, pg_recv hK hP hL_h0 hF_44 (q := (RX15, TX15, 59)) rfl, fun U hU hWm => ⟨rfl, PTm.mk hU hWm hP hK hD hE hO⟩⟩ rfl rfl hl.1 rfl (lv_room (Nat.le_of_ble_eq_true rfl)) dX15_isTrouble_14 ⟨by show _ + 0 ≤ 0; omega, by show _ + 0 ≤ 0; omega⟩) hS (fun q _ h => hFc q h) hFc (fun r_56 u t H1 locs ht hvm hw hB hz1 hk1 hS => ?_)
    obtain ⟨F_57, hB1⟩ := hB
    obtain rfl : F = F_57 := (funext (fun a => hB1.2.2.2 a List.not_mem_nil)).symm
    obtain ⟨hP, hD, hO, hR⟩ := QTm.back hB1 ht hFc hR (fun q h => absurd h List.not_mem_nil)
    generalize H1 = H at hP hS ⊢
    have hw : (r_56 = 0 ∨ r_56 = 1) := hw
    have hw_58 := hw
    refine lv_if_eq (tgt := 22) hx hb dX15_isTrouble_17 (by decide) (fun c_59 => ?_) (fun c_59 => ?_)
    ·
      refine lv_iinc (v := (nI (j + 1))) (lv' := [(2, .int (nI (j + 1))), (0, .ref h0), (1, .ref g1)]) hx hb dX15_isTrouble_22 hl (k := 0) rfl (nI_1 _) (by decide) rfl (fun ls hl => ?_)
      refine lv_goto (tgt := 2) hx hb dX15_isTrouble_25 (by decide) ?_
      refine W.widen (k := 0) (n := 0) (by omega) (by omega) ?_
      exact ih_3 (j + 1) F (by first | omega | exact ⟨by omega, by omega⟩ | trivial) (by show 40 - (j + 1) < 40 - j; omega) hO hR _ _ hP hD hS ls (lv_sub hl [0, 1, 2] rfl)
    ·
      refine lv_iconst (v := 1) hx hb dX15_isTrouble_20 (by decide) ?_
      refine W.widen (k := 0) (n := 0) (by omega) (by omega) ?_
      exact W.zret (v := 1) (ty := .boolean) hx hb hr (by decide) (fun t ht hWm => ⟨⟨1, (), rfl, (by first | exact Or.inl rfl | exact Or.inr rfl), ⟨F, QTm.mk ht hP hD hO hR⟩⟩, hS.F ht⟩) hS.2.2 dX15_isTrouble_21
set_option maxHeartbeats 4000000 in
set_option maxRecDepth 100000 in
theorem s_X15_isSender (l : Launch) (dC : Nat → ClassId) (dI : Nat → Nat → Nat) (cs : Nat → ClassId) (ty : TyM) (gm : Nat → Nat → Nat) (L : List Nat) (sz : Nat) (F : Nat → va_E) (h0 : Nat) (ρ : Nat) (ta : Nat) (ou : Nat) (so : Nat) (ad : Nat) (na : Nat) (va : Nat) (lc : Nat) (dm : Nat) (tg : Nat) (pe : Nat) (ml : Nat) (bg : Nat) (co : Nat) (sp : Nat) (nb0 : Nat) (nb1 : Nat) (nb2 : Nat) (pl : Nat) (se : Nat) (ke : Nat) (wi : Nat) (hs : Nat) (mo : Nat) (po : Nat) (nu : Nat) (pr : Nat) (sq : Nat) (xa : Nat) (sa : Nat) (n64 : Nat) (m64 : Nat) (ex : Nat) (wh : Nat) (sd : Nat) (tk : Nat) (hd : Nat) (ak : Nat) (ho : Nat) (ot : Nat) (sx : Nat) (s0 : Nat) (s1 : Nat) (s2 : Nat) (nf : Nat) (bd : Nat) (mm : Nat) (zo : Nat) (fm : Nat) (sn : Nat) (hg : Nat) (gc : Nat) (gv : Nat) (ze : Nat) (zt : Nat) (x1 : Int32) (x2 : Int32) (hW : WTm ty gm L) (hL_h0 : h0 ∈ L) (hT_h0 : ty h0 = (15, ρ, [ta, ou, so, ad, na, va, lc, dm, tg, pe, ml, bg, co, sp, nb0, nb1, nb2, pl, se, ke, wi, hs, mo, po, nu, pr, sq, xa, sa, n64, m64, ex, wh, sd, tk, hd, ak, ho, ot, sx, s0, s1, s2, nf, bd, mm, zo, fm, sn, hg, gc, gv, ze, zt])) : Met l yX15_isSender (.code yX15_isSender cX15_isSender 3 (some .boolean) :: tb) ({ frames := 0, cells := 0, slots := 0, locals := 0 }) (va_Pc [.ref h0, .int x1, .int x2] (PTm (dC, dI) cs ty gm L F sz)) (va_Qi (fun (r : Int32) (_ : Unit) => (r = 0 ∨ r = 1)) (fun _ T9 => ∃ F2 : Nat → va_E, QTm (dC, dI) cs ty gm L [] F F2 (va_A (va_pl L F) sz) T9) (va_A (va_pl L F) sz)) 0 0 (va_A (va_pl L F) sz) := by
  refine Met.ofW (cc := cX15_isSender) (maxL := 3) (ret := (some .boolean)) (by decide) rfl ?_
  intro p e s m args below meth c s₁ B hml hv
  obtain ⟨rfl, hsz, hP, hK, hD0, hE, hO⟩ := hv
  have hx := B.exec
  have hb := B.bytes
  have hr := B.returns
  have hts : ∀ w ∈ tb, w.before _ s = true := fun w h => atoms_spec (ws := .code yX15_isSender cX15_isSender 3 (some .boolean) :: tb) B.pre w (List.mem_cons_of_mem _ h)
  have hown : s.vm.findClass RX15 = some m.cls := findClass_of_methodNamed B.named
  have hlocks := B.notSynchronized
  subst hsz
  have hD := hD0.self (sz := s.heap.size)
  generalize hAe : va_A (va_pl L F) s.heap.size = A at hD ⊢
  have hA : ∀ q : Nat, s.heap.size ≤ q → A q := fun q h => by rw [← hAe]; exact Or.inr h
  have hS : va_S A s.heap s.heap [] := va_S.rf
  have hR : FR ty [] F F := FR.refl
  have hl := lv_entry ([.ref h0, .int x1, .int x2]) (n := 3) (Nat.le_of_ble_eq_true rfl)
  rw [lg_entry_eq]
  generalize (lg_sl ([.ref h0, .int x1, .int x2]) ++ List.replicate (3 - (lg_sl ([.ref h0, .int x1, .int x2])).length) Slot.unset).toArray = ls at hl ⊢
  have hl : lv_has ls 3 [(0, .ref h0), (1, .int x1), (2, .int x2)] := hl
  refine lv_iload_n hx hb dX15_isSender_0 rfl (lv_at hl 2 rfl) ?_
  refine lv_if_eq (tgt := 18) hx hb dX15_isSender_1 (by decide) (fun c_1 => ?_) (fun c_1 => ?_)
  ·
    refine lv_iconst (v := 1) hx hb dX15_isSender_18 (by decide) ?_
    refine lv_goto (tgt := 23) hx hb dX15_isSender_19 (by decide) ?_
    refine W.widen (k := 0) (n := 0) (by omega) (by omega) ?_
    exact W.zret (v := 1) (ty := .boolean) hx hb hr (by decide) (fun t ht hWm => ⟨⟨1, (), rfl, (by first | exact Or.inl rfl | exact Or.inr rfl), ⟨F, QTm.mk ht hP hD hO hR⟩⟩, hS.F ht⟩) hS.2.2 dX15_isSender_23
  ·
    refine lv_iload_n hx hb dX15_isSender_4 rfl (lv_at hl 1 rfl) ?_
    refine lv_aload_n hx hb dX15_isSender_5 rfl (lv_at hl 0 rfl) ?_
    obtain ⟨hq_24, hq_25, hq_26, hq_27, hq_28, hgO, hgA, hgB, hq_29⟩ := hW.sc hL_h0 hT_h0
    obtain ⟨v14_30, v15_31, v17_32, v18_33, v19_34, v20_35, v21_36, v22_37, v33_38, v52_39, v53_40, v54_41, hF_42, hq_43, hq_44, hq_45, hq_46, hq_47⟩ := hO.mod hL_h0 hT_h0
    refine pg_get (ci := 15) (v := .int (nI fm)) (C := RX15) (T := TX15) (N := 59) hx hb hts it_15 hown hK hP hL_h0 hF_42 rfl 11 (by decide) (hts _ kt_729) (fun _ h9 => h9) rfl dX15_isSender_6 ?_
    refine lv_ixor hx hb dX15_isSender_9 ?_
    refine lv_topi (fun x_48 _ => ?_)
    refine lv_bipush (v := 32) hx hb dX15_isSender_10 (by decide) ?_
    refine lv_iload_n hx hb dX15_isSender_12 rfl (lv_at hl 2 rfl) ?_
    refine lv_isub hx hb dX15_isSender_13 ?_
    refine lv_topi (fun x_49 ex_49 => ?_)
    obtain rfl : x_49 = (32 - x2) := ex_49.trans (rfl)
    refine lv_iushr hx hb dX15_isSender_14 rfl ?_
    refine lv_topi (fun x_51 _ => ?_)
    refine lv_if_ne (tgt := 22) hx hb dX15_isSender_15 (by decide) (fun c_52 => ?_) (fun c_52 => ?_)
    ·
      refine lv_iconst (v := 0) hx hb dX15_isSender_22 (by decide) ?_
      refine W.widen (k := 0) (n := 0) (by omega) (by omega) ?_
      exact W.zret (v := 0) (ty := .boolean) hx hb hr (by decide) (fun t ht hWm => ⟨⟨0, (), rfl, (by first | exact Or.inl rfl | exact Or.inr rfl), ⟨F, QTm.mk ht hP hD hO hR⟩⟩, hS.F ht⟩) hS.2.2 dX15_isSender_23
    ·
      refine lv_iconst (v := 1) hx hb dX15_isSender_18 (by decide) ?_
      refine lv_goto (tgt := 23) hx hb dX15_isSender_19 (by decide) ?_
      refine W.widen (k := 0) (n := 0) (by omega) (by omega) ?_
      exact W.zret (v := 1) (ty := .boolean) hx hb hr (by decide) (fun t ht hWm => ⟨⟨1, (), rfl, (by first | exact Or.inl rfl | exact Or.inr rfl), ⟨F, QTm.mk ht hP hD hO hR⟩⟩, hS.F ht⟩) hS.2.2 dX15_isSender_23
set_option maxHeartbeats 4000000 in
set_option maxRecDepth 100000 in
theorem s_X15_cost (l : Launch) (dC : Nat → ClassId) (dI : Nat → Nat → Nat) (cs : Nat → ClassId) (ty : TyM) (gm : Nat → Nat → Nat) (L : List Nat) (sz : Nat) (F : Nat → va_E) (h0 : Nat) (ρ : Nat) (ta : Nat) (ou : Nat) (so : Nat) (ad : Nat) (na : Nat) (va : Nat) (lc : Nat) (dm : Nat) (tg : Nat) (pe : Nat) (ml : Nat) (bg : Nat) (co : Nat) (sp : Nat) (nb0 : Nat) (nb1 : Nat) (nb2 : Nat) (pl : Nat) (se : Nat) (ke : Nat) (wi : Nat) (hs : Nat) (mo : Nat) (po : Nat) (nu : Nat) (pr : Nat) (sq : Nat) (xa : Nat) (sa : Nat) (n64 : Nat) (m64 : Nat) (ex : Nat) (wh : Nat) (sd : Nat) (tk : Nat) (hd : Nat) (ak : Nat) (ho : Nat) (ot : Nat) (sx : Nat) (s0 : Nat) (s1 : Nat) (s2 : Nat) (nf : Nat) (bd : Nat) (mm : Nat) (zo : Nat) (fm : Nat) (sn : Nat) (hg : Nat) (gc : Nat) (gv : Nat) (ze : Nat) (zt : Nat) (x1 : Int32) (hW : WTm ty gm L) (hL_h0 : h0 ∈ L) (hT_h0 : ty h0 = (15, ρ, [ta, ou, so, ad, na, va, lc, dm, tg, pe, ml, bg, co, sp, nb0, nb1, nb2, pl, se, ke, wi, hs, mo, po, nu, pr, sq, xa, sa, n64, m64, ex, wh, sd, tk, hd, ak, ho, ot, sx, s0, s1, s2, nf, bd, mm, zo, fm, sn, hg, gc, gv, ze, zt])) : Met l yX15_cost (.code yX15_cost cX15_cost 2 (some .int) :: tb) ({ frames := 0, cells := 0, slots := 0, locals := 0 }) (va_Pc [.ref h0, .int x1] (PTm (dC, dI) cs ty gm L F sz)) (va_Qi (fun (r : Int32) (_ : Unit) => True) (fun _ T9 => ∃ F2 : Nat → va_E, QTm (dC, dI) cs ty gm L [] F F2 (va_A (va_pl L F) sz) T9) (va_A (va_pl L F) sz)) 0 0 (va_A (va_pl L F) sz) := by
  refine Met.ofW (cc := cX15_cost) (maxL := 2) (ret := (some .int)) (by decide) rfl ?_
  intro p e s m args below meth c s₁ B hml hv
  obtain ⟨rfl, hsz, hP, hK, hD0, hE, hO⟩ := hv
  have hx := B.exec
  have hb := B.bytes
  have hr := B.returns
  have hts : ∀ w ∈ tb, w.before _ s = true := fun w h => atoms_spec (ws := .code yX15_cost cX15_cost 2 (some .int) :: tb) B.pre w (List.mem_cons_of_mem _ h)
  have hown : s.vm.findClass RX15 = some m.cls := findClass_of_methodNamed B.named
  have hlocks := B.notSynchronized
  subst hsz
  have hD := hD0.self (sz := s.heap.size)
  generalize hAe : va_A (va_pl L F) s.heap.size = A at hD ⊢
  have hA : ∀ q : Nat, s.heap.size ≤ q → A q := fun q h => by rw [← hAe]; exact Or.inr h
  have hS : va_S A s.heap s.heap [] := va_S.rf
  have hR : FR ty [] F F := FR.refl
  have hl := lv_entry ([.ref h0, .int x1]) (n := 2) (Nat.le_of_ble_eq_true rfl)
  rw [lg_entry_eq]
  generalize (lg_sl ([.ref h0, .int x1]) ++ List.replicate (2 - (lg_sl ([.ref h0, .int x1])).length) Slot.unset).toArray = ls at hl ⊢
  have hl : lv_has ls 2 [(0, .ref h0), (1, .int x1)] := hl
  refine lv_iload_n hx hb dX15_cost_0 rfl (lv_at hl 1 rfl) ?_
  refine lv_if_ne (tgt := 11) hx hb dX15_cost_1 (by decide) (fun c_1 => ?_) (fun c_1 => ?_)
  ·
    refine lv_iload_n hx hb dX15_cost_11 rfl (lv_at hl 1 rfl) ?_
    refine lv_iconst (v := 1) hx hb dX15_cost_12 (by decide) ?_
    refine lv_icmp_ne (tgt := 23) hx hb dX15_cost_13 (by decide) (fun c_2 => ?_) (fun c_2 => ?_)
    ·
      refine lv_iconst (v := (-1)) hx hb dX15_cost_23 (by decide) ?_
      refine W.widen (k := 0) (n := 0) (by omega) (by omega) ?_
      exact W.iret (v := (-1)) hx hb hr (fun t ht hWm => ⟨⟨(-1), (), rfl, trivial, ⟨F, QTm.mk ht hP hD hO hR⟩⟩, hS.F ht⟩) hS.2.2 dX15_cost_24
    ·
      refine lv_aload_n hx hb dX15_cost_16 rfl (lv_at hl 0 rfl) ?_
      obtain ⟨hq_25, hq_26, hq_27, hq_28, hq_29, hgO, hgA, hgB, hq_30⟩ := hW.sc hL_h0 hT_h0
      obtain ⟨v14_31, v15_32, v17_33, v18_34, v19_35, v20_36, v21_37, v22_38, v33_39, v52_40, v53_41, v54_42, hF_43, hq_44, hq_45, hq_46, hq_47, hq_48⟩ := hO.mod hL_h0 hT_h0
      refine pg_get (ci := 15) (v := .int v15_32) (C := RX15) (T := TX15) (N := 59) hx hb hts it_15 hown hK hP hL_h0 hF_43 rfl 15 (by decide) (hts _ kt_730) (fun _ h9 => h9) rfl dX15_cost_17 ?_
      refine lv_goto (tgt := 24) hx hb dX15_cost_20 (by decide) ?_
      refine W.widen (k := 0) (n := 0) (by omega) (by omega) ?_
      exact W.iret (v := v15_32) hx hb hr (fun t ht hWm => ⟨⟨v15_32, (), rfl, trivial, ⟨F, QTm.mk ht hP hD hO hR⟩⟩, hS.F ht⟩) hS.2.2 dX15_cost_24
  ·
    refine lv_aload_n hx hb dX15_cost_4 rfl (lv_at hl 0 rfl) ?_
    obtain ⟨hq_71, hq_72, hq_73, hq_74, hq_75, hgO, hgA, hgB, hq_76⟩ := hW.sc hL_h0 hT_h0
    obtain ⟨v14_77, v15_78, v17_79, v18_80, v19_81, v20_82, v21_83, v22_84, v33_85, v52_86, v53_87, v54_88, hF_89, hq_90, hq_91, hq_92, hq_93, hq_94⟩ := hO.mod hL_h0 hT_h0
    refine pg_get (ci := 15) (v := .int v14_77) (C := RX15) (T := TX15) (N := 59) hx hb hts it_15 hown hK hP hL_h0 hF_89 rfl 14 (by decide) (hts _ kt_731) (fun _ h9 => h9) rfl dX15_cost_5 ?_
    refine lv_goto (tgt := 24) hx hb dX15_cost_8 (by decide) ?_
    refine W.widen (k := 0) (n := 0) (by omega) (by omega) ?_
    exact W.iret (v := v14_77) hx hb hr (fun t ht hWm => ⟨⟨v14_77, (), rfl, trivial, ⟨F, QTm.mk ht hP hD hO hR⟩⟩, hS.F ht⟩) hS.2.2 dX15_cost_24
set_option maxHeartbeats 4000000 in
set_option maxRecDepth 100000 in
theorem s_X15_recordOf (l : Launch) (dC : Nat → ClassId) (dI : Nat → Nat → Nat) (cs : Nat → ClassId) (ty : TyM) (gm : Nat → Nat → Nat) (L : List Nat) (sz : Nat) (F : Nat → va_E) (h0 : Nat) (ρ : Nat) (ta : Nat) (ou : Nat) (so : Nat) (ad : Nat) (na : Nat) (va : Nat) (lc : Nat) (dm : Nat) (tg : Nat) (pe : Nat) (ml : Nat) (bg : Nat) (co : Nat) (sp : Nat) (nb0 : Nat) (nb1 : Nat) (nb2 : Nat) (pl : Nat) (se : Nat) (ke : Nat) (wi : Nat) (hs : Nat) (mo : Nat) (po : Nat) (nu : Nat) (pr : Nat) (sq : Nat) (xa : Nat) (sa : Nat) (n64 : Nat) (m64 : Nat) (ex : Nat) (wh : Nat) (sd : Nat) (tk : Nat) (hd : Nat) (ak : Nat) (ho : Nat) (ot : Nat) (sx : Nat) (s0 : Nat) (s1 : Nat) (s2 : Nat) (nf : Nat) (bd : Nat) (mm : Nat) (zo : Nat) (fm : Nat) (sn : Nat) (hg : Nat) (gc : Nat) (gv : Nat) (ze : Nat) (zt : Nat) (g1 : Nat) (σ : Nat) (r1 : Nat) (n1 : Nat) (hW : WTm ty gm L) (hL_h0 : h0 ∈ L) (hT_h0 : ty h0 = (15, ρ, [ta, ou, so, ad, na, va, lc, dm, tg, pe, ml, bg, co, sp, nb0, nb1, nb2, pl, se, ke, wi, hs, mo, po, nu, pr, sq, xa, sa, n64, m64, ex, wh, sd, tk, hd, ak, ho, ot, sx, s0, s1, s2, nf, bd, mm, zo, fm, sn, hg, gc, gv, ze, zt])) (hL_g1 : g1 ∈ L) (hT_g1 : ty g1 = (14, σ, [r1, n1])) : Met l yX15_recordOf (.code yX15_recordOf cX15_recordOf 5 (some .int) :: tb) ({ frames := 6, cells := 0, slots := 0, locals := 132 }) (va_Pc [.ref h0, .ref g1] (PTEm (dC, dI) cs ty gm L F sz [])) (va_Qi (fun (r : Int32) (_ : Unit) => (r = (-1) ∨ r = (-2) ∨ ∃ j : Nat, j < 40 ∧ r = nI j)) (fun _ T9 => ∃ F2 : Nat → va_E, QTm (dC, dI) cs ty gm L [] F F2 (va_A (va_pl L F) sz) T9) (va_A (va_pl L F) sz)) 0 0 (va_A (va_pl L F) sz) := by
  refine Met.ofW (cc := cX15_recordOf) (maxL := 5) (ret := (some .int)) (by decide) rfl ?_
  intro p e s m args below meth c s₁ B hml hv
  obtain ⟨rfl, ⟨hsz, hP, hK, hD0, hE, hO⟩, hG, hX⟩ := hv
  have hx := B.exec
  have hb := B.bytes
  have hr := B.returns
  have hts : ∀ w ∈ tb, w.before _ s = true := fun w h => atoms_spec (ws := .code yX15_recordOf cX15_recordOf 5 (some .int) :: tb) B.pre w (List.mem_cons_of_mem _ h)
  have hown : s.vm.findClass RX15 = some m.cls := findClass_of_methodNamed B.named
  have hlocks := B.notSynchronized
  subst hsz
  have hD := hD0.self (sz := s.heap.size)
  generalize hAe : va_A (va_pl L F) s.heap.size = A at hD hG hX ⊢
  have hA : ∀ q : Nat, s.heap.size ≤ q → A q := fun q h => by rw [← hAe]; exact Or.inr h
  have hS : va_S A s.heap s.heap [] := va_S.rf
  have hR : FR ty [] F F := FR.refl
  have hl := lv_entry ([.ref h0, .ref g1]) (n := 5) (Nat.le_of_ble_eq_true rfl)
  rw [lg_entry_eq]
  generalize (lg_sl ([.ref h0, .ref g1]) ++ List.replicate (5 - (lg_sl ([.ref h0, .ref g1])).length) Slot.unset).toArray = ls at hl ⊢
  have hl : lv_has ls 5 [(0, .ref h0), (1, .ref g1)] := hl
  refine lv_iconst (v := (-1)) hx hb dX15_recordOf_0 (by decide) ?_
  refine lv_istore_n (lv' := [(2, .int (-1)), (0, .ref h0), (1, .ref g1)]) hx hb dX15_recordOf_1 rfl hl (by decide) rfl (fun ls hl => ?_)
  refine lv_iconst (v := 0) hx hb dX15_recordOf_2 (by decide) ?_
  refine lv_istore_n (lv' := [(3, .int 0), (2, .int (-1)), (0, .ref h0), (1, .ref g1)]) hx hb dX15_recordOf_3 rfl hl (by decide) rfl (fun ls hl => ?_)
  refine W.widen (k := 0) (n := 0) (by omega) (by omega) ?_
  refine pl_loopm (σ := Nat × Int32) A (dC, dI) cs ty gm L [] F 4 5 (fun (j, w2) => [(3, .int (nI j)), (2, .int w2), (0, .ref h0), (1, .ref g1)]) (fun (j, w2) => []) (fun (j, w2) _ => j ≤ 40 ∧ (w2 = (-1) ∨ ∃ i : Nat, i < 40 ∧ w2 = nI i)) (fun (j, w2) => 40 - j) ?_ (0, (-1)) F (⟨by omega, Or.inl rfl⟩) hO hR _ _ hP hD hS ls (lv_sub hl [0, 1, 2, 3] rfl)
  rintro ⟨j, w2⟩ F_1 hv_2 hO hR ih_3 H locs hP hD hS ls hl
  have hl : lv_has ls 5 [(3, .int (nI j)), (2, .int w2), (0, .ref h0), (1, .ref g1)] := hl
  have hv_2 : j ≤ 40 ∧ (w2 = (-1) ∨ ∃ i : Nat, i < 40 ∧ w2 = nI i) := hv_2
  refine W.eq (g2 := F0 m 4 ls []) rfl ?_
  obtain rfl : F = F_1 := (funext (fun a => hR a List.not_mem_nil)).symm
  obtain ⟨hv1, hv2⟩ := hv_2
  refine lv_iload_n hx hb dX15_recordOf_4 rfl (lv_at hl 0 rfl) ?_
  refine lv_aload_n hx hb dX15_recordOf_5 rfl (lv_at hl 2 rfl) ?_
  obtain ⟨hq_26, hq_27, hq_28, hq_29, hq_30, hgO, hgA, hgB, hq_31⟩ := hW.sc hL_h0 hT_h0
  obtain ⟨v14_32, v15_33, v17_34, v18_35, v19_36, v20_37, v21_38, v22_39, v33_40, v52_41, v53_42, v54_43, hF_44, hq_45, hq_46, hq_47, hq_48, hq_49⟩ := hO.mod hL_h0 hT_h0
  refine pg_get (ci := 15) (v := .int (nI ze)) (C := RX15) (T := TX15) (N := 59) hx hb hts it_15 hown hK hP hL_h0 hF_44 rfl 3 (by decide) (hts _ kt_724) (fun _ h9 => h9) rfl dX15_recordOf_6 ?_
  refine lv_icmp_ge (tgt := 91) hx hb dX15_recordOf_9 (by decide) (fun c_50 => ?_) (fun c_50 => ?_)
  ·
    have hi_51 : ze ≤ j := leN (N := ze) c_50
    refine lv_iload_n hx hb dX15_recordOf_91 rfl (lv_at hl 1 rfl) ?_
    refine W.widen (k := 0) (n := 0) (by omega) (by omega) ?_
    exact W.iret (v := w2) hx hb hr (fun t ht hWm => ⟨⟨w2, (), rfl, (hv2.imp id Or.inr), ⟨F, QTm.mk ht hP hD hO hR⟩⟩, hS.F ht⟩) hS.2.2 dX15_recordOf_92
  ·
    have hi_52 : j < ze := ltN (N := ze) c_50
    refine lv_aload_n hx hb dX15_recordOf_12 rfl (lv_at hl 2 rfl) ?_
    refine lv_iload_n hx hb dX15_recordOf_13 rfl (lv_at hl 0 rfl) ?_
    refine lv_iconst (v := 0) hx hb dX15_recordOf_14 (by decide) ?_
    refine lv_aload_n hx hb dX15_recordOf_15 rfl (lv_at hl 3 rfl) ?_
    obtain ⟨hi_53, ht_54, hq_55⟩ := hW.txt hL_g1 hT_g1
    have hFc := pg_free hD hS hA
    refine va_calli (va_runV (As := [.int (nI j), .int 0, .ref g1]) (rest := []) ⟨hx, hb, hml, hown, hts⟩ (s_X15_isOf l dC dI cs ty gm L H.size F h0 ρ ta ou so ad na va lc dm tg pe ml bg co sp nb0 nb1 nb2 pl se ke wi hs mo po nu pr sq xa sa n64 m64 ex wh sd tk hd ak ho ot sx s0 s1 s2 nf bd mm zo fm sn hg gc gv ze zt j g1 σ r1 n1 0 hW hL_h0 hT_h0 hL_g1 hT_g1 (by first | omega | assumption | exact Or.inl rfl)) ⟨callB_of 3 hts (gi kt_725) rfl rfl rfl (hts _ kt_669) (hts _ kt_726) (by decide +kernel) ⟨Nat.le_of_ble_eq_true rfl, Nat.le_of_ble_eq_true rfl⟩, (hts _ kt_727), (hts _ kt_728)⟩ ⟨fun a U g mk q => ⟨q.1, PTm.calling q.2⟩, pg_recv hK hP hL_h0 hF_44 (q := (RX15, TX15, 59)) rfl, fun U hU hWm => ⟨rfl, PTm.mk hU hWm hP hK hD hE hO⟩⟩ rfl rfl hl.1 rfl (lv_room (Nat.le_of_ble_eq_true rfl)) dX15_recordOf_16 ⟨by show _ + 0 ≤ 0; omega, by show _ + 0 ≤ 0; omega⟩) hS (fun q _ h => hFc q h) hFc (fun r_56 u t H1 locs ht hvm hw hB hz1 hk1 hS => ?_)
    obtain ⟨F_57, hB1⟩ := hB
    obtain rfl : F = F_57 := (funext (fun a => hB1.2.2.2 a List.not_mem_nil)).symm
    obtain ⟨hP, hD, hO, hR⟩ := QTm.back hB1 ht hFc hR (fun q h => absurd h List.not_mem_nil)
    generalize H1 = H at hP hS ⊢
    have hw : (r_56 = 0 ∨ r_56 = 1) := hw
    have hw_58 := hw
    refine lv_if_ne (tgt := 25) hx hb dX15_recordOf_19 (by decide) (fun c_59 => ?_) (fun c_59 => ?_)
    ·
      refine lv_aload_n hx hb dX15_recordOf_25 rfl (lv_at hl 2 rfl) ?_
      refine pg_get (ci := 15) (v := .ref va) (C := RX15) (T := TX15) (N := 59) hx hb hts it_15 hown hK hP hL_h0 hF_44 rfl 8 (by decide) (hts _ kt_732) (fun _ h9 => h9) rfl dX15_recordOf_26 ?_
      refine lv_iload_n hx hb dX15_recordOf_29 rfl (lv_at hl 0 rfl) ?_
      obtain ⟨hi_60, ht_61⟩ := hW.f_va hL_h0 hT_h0
      obtain ⟨f_62, hF_63, hq_64⟩ := hO.rtxj hi_60 ht_61
      obtain ⟨b_65, r_66, hbf_67, hi_68, ht_69⟩ := hq_64 j (by omega)
      refine pg_aald (r := b_65) hx hb hK hP hi_60 7 hF_63 rfl (vp_in_nI (by omega) (by omega)) (show f_62 ((nI j) : Int32).toNatClampNeg = _ from by rw [show ((nI j) : Int32) = nI j from rfl, nI_clamp (by omega)]; exact hbf_67) dX15_recordOf_30 ?_
      refine lv_astore (lv' := [(4, .ref b_65), (3, .int (nI j)), (2, .int w2), (0, .ref h0), (1, .ref g1)]) hx hb dX15_recordOf_31 hl (by decide) rfl (fun ls hl => ?_)
      refine W.widen (k := 0) (n := 0) (by omega) (by omega) ?_
      refine pl_cutm (σ := Unit) A (dC, dI) cs ty gm L [] F 76 5 (fun u0 => [(4, .ref b_65), (3, .int (nI j)), (2, .int w2), (0, .ref h0), (1, .ref g1)]) (fun u0 => []) (fun u0 _ => True) ?_ (fun jn_70 => ?_)
      ·
        rintro u0 F_71 hv_72 hO hR H locs hP hD hS ls hl
        have hl : lv_has ls 5 [(4, .ref b_65), (3, .int (nI j)), (2, .int w2), (0, .ref h0), (1, .ref g1)] := hl
        have hv_72 : True := hv_72
        refine W.eq (g2 := F0 m 76 ls []) rfl ?_
        obtain rfl : F = F_71 := (funext (fun a => hR a List.not_mem_nil)).symm
        refine lv_iload_n hx hb dX15_recordOf_76 rfl (lv_at hl 2 rfl) ?_
        refine lv_if_lt (tgt := 83) hx hb dX15_recordOf_77 (by decide) (fun c_73 => ?_) (fun c_73 => ?_)
        ·
          refine lv_iload_n hx hb dX15_recordOf_83 rfl (lv_at hl 1 rfl) ?_
          refine lv_istore_n (lv' := [(2, .int (nI j)), (4, .ref b_65), (3, .int (nI j)), (0, .ref h0), (1, .ref g1)]) hx hb dX15_recordOf_84 rfl hl (by decide) rfl (fun ls hl => ?_)
          refine lv_iinc (v := (nI (j + 1))) (lv' := [(3, .int (nI (j + 1))), (2, .int (nI j)), (4, .ref b_65), (0, .ref h0), (1, .ref g1)]) hx hb dX15_recordOf_85 hl (k := 2) rfl (nI_1 _) (by decide) rfl (fun ls hl => ?_)
          refine lv_goto (tgt := 4) hx hb dX15_recordOf_88 (by decide) ?_
          refine W.widen (k := 0) (n := 0) (by omega) (by omega) ?_
          exact ih_3 ((j + 1), (nI j)) F (⟨by omega, Or.inr ⟨j, by omega, rfl⟩⟩) (by show 40 - (j + 1) < 40 - j; omega) hO hR _ _ hP hD hS ls (lv_sub hl [0, 1, 3, 4] rfl)
        ·
          refine lv_bipush (v := (-2)) hx hb dX15_recordOf_80 (by decide) ?_
          refine W.widen (k := 0) (n := 0) (by omega) (by omega) ?_
          exact W.iret (v := (-2)) hx hb hr (fun t ht hWm => ⟨⟨(-2), (), rfl, Or.inr (Or.inl rfl), ⟨F, QTm.mk ht hP hD hO hR⟩⟩, hS.F ht⟩) hS.2.2 dX15_recordOf_82
      ·
        refine lv_aload hx hb dX15_recordOf_33 (lv_at hl 0 rfl) ?_
        obtain ⟨hi_74, ht_75, hq_76⟩ := hW.txt hi_68 ht_69
        obtain ⟨z_77, hF_78, hq_79⟩ := hO.txt hi_68 ht_69
        refine pg_get (ci := 14) (v := .ref r_66) (C := RX14) (T := TX14) (N := 2) hx hb hts it_14 hown hK hP hi_68 hF_78 rfl 0 (by decide) (hts _ kt_710) (fun _ h9 => h9) rfl dX15_recordOf_35 ?_
        refine lv_iconst (v := 0) hx hb dX15_recordOf_38 (by decide) ?_
        refine lv_aload hx hb dX15_recordOf_39 (lv_at hl 0 rfl) ?_
        refine pg_get (ci := 14) (v := .int (nI z_77)) (C := RX14) (T := TX14) (N := 2) hx hb hts it_14 hown hK hP hi_68 hF_78 rfl 1 (by decide) (hts _ kt_709) (fun _ h9 => h9) rfl dX15_recordOf_41 ?_
        obtain ⟨q_80, v_81, hr_q_80, hX_q_80⟩ := hG.2.2 ("PostGateModel", 304, "v=spf1", [118, 61, 115, 112, 102, 49]) (by decide +kernel)
        have hX_q_80 : SXc q_80 v_81 6 (cct [118, 61, 115, 112, 102, 49]) A s s.heap := hX_q_80
        obtain ⟨xo_q_80, xc_q_80, xv_q_80, xt_q_80, xn_q_80⟩ := id hX_q_80
        have hr_q_80 : vk_R "PostGateModel" 304 "v=spf1" q_80 s := hr_q_80
        refine va_ldcwS hx hb hown hr_q_80 dX15_recordOf_44 ?_
        refine W.eq (g2 := F0 m 47 ls [.ref q_80, .int (nI z_77), .int (nI 0), .ref r_66]) rfl ?_
        obtain ⟨hq_82, hq_83⟩ := hW.octs hi_74 ht_75
        have hFc := pg_free hD hS hA
        refine va_calli (va_runS (As := [.ref r_66, .int (nI 0), .int (nI z_77), .ref q_80]) (rest := []) ⟨hx, hb, hml, hown, hts⟩ (s_X15_is l dC dI cs ty gm L H.size F r_66 (ρ + 50 + j + 100) 700 q_80 v_81 6 (cct [118, 61, 115, 112, 102, 49]) 0 z_77 hW hi_74 ht_75 (by first | omega | assumption | exact Or.inl rfl) (by first | omega | assumption | exact Or.inl rfl)) ⟨callB_of 4 hts (gi kt_694) rfl rfl rfl (hts _ kt_669) (hts _ kt_695) (by decide +kernel) ⟨Nat.le_of_ble_eq_true rfl, Nat.le_of_ble_eq_true rfl⟩, (hts _ kt_696)⟩ ⟨fun a U g mk q => ⟨q.1, PTEm.calling q.2⟩, fun U hU hWm => ⟨rfl, PTEm.mk hU hWm hP hK hD hE hO hG (fun x hx => by rw [List.mem_singleton] at hx; subst hx; exact hX_q_80) hS hFc⟩⟩ rfl rfl hl.1 rfl (lv_room (Nat.le_of_ble_eq_true rfl)) dX15_recordOf_47 ⟨by show _ + 0 ≤ 0; omega, by show _ + 0 ≤ 0; omega⟩) hS (fun q _ h => hFc q h) hFc (fun r_84 u t H1 locs ht hvm hw hB hz1 hk1 hS => ?_)
        obtain ⟨F_85, hB1⟩ := hB
        obtain rfl : F = F_85 := (funext (fun a => hB1.2.2.2 a List.not_mem_nil)).symm
        obtain ⟨hP, hD, hO, hR⟩ := QTm.back hB1 ht hFc hR (fun q h => absurd h List.not_mem_nil)
        generalize H1 = H at hP hS ⊢
        have hw : ((r_84 = 1 ∧ isP (gA (F r_66)) 0 z_77 (cct [118, 61, 115, 112, 102, 49]) 6) ∨ (r_84 = 0 ∧ ¬ isP (gA (F r_66)) 0 z_77 (cct [118, 61, 115, 112, 102, 49]) 6)) := hw
        have hw_86 := hw
        refine lv_if_ne (tgt := 76) hx hb dX15_recordOf_50 (by decide) (fun c_87 => ?_) (fun c_87 => ?_)
        ·
          refine W.widen (k := 0) (n := 0) (by omega) (by omega) ?_
          exact jn_70 () F (trivial) hO hR _ _ hP hD hS ls (lv_sub hl [0, 1, 2, 3, 4] rfl)
        ·
          refine lv_aload hx hb dX15_recordOf_53 (lv_at hl 0 rfl) ?_
          refine pg_get (ci := 14) (v := .ref r_66) (C := RX14) (T := TX14) (N := 2) hx hb hts it_14 hown hK hP hi_68 hF_78 rfl 0 (by decide) (hts _ kt_710) (fun _ h9 => h9) rfl dX15_recordOf_55 ?_
          refine lv_iconst (v := 0) hx hb dX15_recordOf_58 (by decide) ?_
          refine lv_aload hx hb dX15_recordOf_59 (lv_at hl 0 rfl) ?_
          refine pg_get (ci := 14) (v := .int (nI z_77)) (C := RX14) (T := TX14) (N := 2) hx hb hts it_14 hown hK hP hi_68 hF_78 rfl 1 (by decide) (hts _ kt_709) (fun _ h9 => h9) rfl dX15_recordOf_61 ?_
          obtain ⟨q_88, v_89, hr_q_88, hX_q_88⟩ := hG.2.2 ("PostGateModel", 306, "v=spf1 ", [118, 61, 115, 112, 102, 49, 32]) (by decide +kernel)
          have hX_q_88 : SXc q_88 v_89 7 (cct [118, 61, 115, 112, 102, 49, 32]) A s s.heap := hX_q_88
          obtain ⟨xo_q_88, xc_q_88, xv_q_88, xt_q_88, xn_q_88⟩ := id hX_q_88
          have hr_q_88 : vk_R "PostGateModel" 306 "v=spf1 " q_88 s := hr_q_88
          refine va_ldcwS hx hb hown hr_q_88 dX15_recordOf_64 ?_
          refine W.eq (g2 := F0 m 67 ls [.ref q_88, .int (nI z_77), .int (nI 0), .ref r_66]) rfl ?_
          have hFc := pg_free hD hS hA
          refine va_calli (va_runS (As := [.ref r_66, .int (nI 0), .int (nI z_77), .ref q_88]) (rest := []) ⟨hx, hb, hml, hown, hts⟩ (s_X15_begins l dC dI cs ty gm L H.size F r_66 (ρ + 50 + j + 100) 700 q_88 v_89 7 (cct [118, 61, 115, 112, 102, 49, 32]) 0 z_77 hW hi_74 ht_75 (by first | omega | assumption | exact Or.inl rfl) (by first | omega | assumption | exact Or.inl rfl)) ⟨callB_of 4 hts (gi kt_733) rfl rfl rfl (hts _ kt_669) (hts _ kt_734) (by decide +kernel) ⟨Nat.le_of_ble_eq_true rfl, Nat.le_of_ble_eq_true rfl⟩, (hts _ kt_735)⟩ ⟨fun a U g mk q => ⟨q.1, PTEm.calling q.2⟩, fun U hU hWm => ⟨rfl, PTEm.mk hU hWm hP hK hD hE hO hG (fun x hx => by rw [List.mem_singleton] at hx; subst hx; exact hX_q_88) hS hFc⟩⟩ rfl rfl hl.1 rfl (lv_room (Nat.le_of_ble_eq_true rfl)) dX15_recordOf_67 ⟨by show _ + 0 ≤ 0; omega, by show _ + 0 ≤ 0; omega⟩) hS (fun q _ h => hFc q h) hFc (fun r_90 u t H1 locs ht hvm hw hB hz1 hk1 hS => ?_)
          obtain ⟨F_91, hB1⟩ := hB
          obtain rfl : F = F_91 := (funext (fun a => hB1.2.2.2 a List.not_mem_nil)).symm
          obtain ⟨hP, hD, hO, hR⟩ := QTm.back hB1 ht hFc hR (fun q h => absurd h List.not_mem_nil)
          generalize H1 = H at hP hS ⊢
          have hw : ((r_90 = 1 ∧ bgP (gA (F r_66)) 0 z_77 (cct [118, 61, 115, 112, 102, 49, 32]) 7) ∨ (r_90 = 0 ∧ ¬ bgP (gA (F r_66)) 0 z_77 (cct [118, 61, 115, 112, 102, 49, 32]) 7)) := hw
          have hw_92 := hw
          refine lv_if_ne (tgt := 76) hx hb dX15_recordOf_70 (by decide) (fun c_93 => ?_) (fun c_93 => ?_)
          ·
            refine W.widen (k := 0) (n := 0) (by omega) (by omega) ?_
            exact jn_70 () F (trivial) hO hR _ _ hP hD hS ls (lv_sub hl [0, 1, 2, 3, 4] rfl)
          ·
            refine lv_goto (tgt := 85) hx hb dX15_recordOf_73 (by decide) ?_
            refine lv_iinc (v := (nI (j + 1))) (lv' := [(3, .int (nI (j + 1))), (4, .ref b_65), (2, .int w2), (0, .ref h0), (1, .ref g1)]) hx hb dX15_recordOf_85 hl (k := 1) rfl (nI_1 _) (by decide) rfl (fun ls hl => ?_)
            refine lv_goto (tgt := 4) hx hb dX15_recordOf_88 (by decide) ?_
            refine W.widen (k := 0) (n := 0) (by omega) (by omega) ?_
            exact ih_3 ((j + 1), w2) F (⟨by omega, hv2⟩) (by show 40 - (j + 1) < 40 - j; omega) hO hR _ _ hP hD hS ls (lv_sub hl [0, 2, 3, 4] rfl)
    ·
      refine lv_goto (tgt := 85) hx hb dX15_recordOf_22 (by decide) ?_
      refine lv_iinc (v := (nI (j + 1))) (lv' := [(3, .int (nI (j + 1))), (2, .int w2), (0, .ref h0), (1, .ref g1)]) hx hb dX15_recordOf_85 hl (k := 0) rfl (nI_1 _) (by decide) rfl (fun ls hl => ?_)
      refine lv_goto (tgt := 4) hx hb dX15_recordOf_88 (by decide) ?_
      refine W.widen (k := 0) (n := 0) (by omega) (by omega) ?_
      exact ih_3 ((j + 1), w2) F (⟨by omega, hv2⟩) (by show 40 - (j + 1) < 40 - j; omega) hO hR _ _ hP hD hS ls (lv_sub hl [0, 1, 2, 3] rfl)
set_option maxHeartbeats 4000000 in
set_option maxRecDepth 100000 in
theorem s_X15_exchanges (l : Launch) (dC : Nat → ClassId) (dI : Nat → Nat → Nat) (cs : Nat → ClassId) (ty : TyM) (gm : Nat → Nat → Nat) (L : List Nat) (sz : Nat) (F : Nat → va_E) (h0 : Nat) (ρ : Nat) (ta : Nat) (ou : Nat) (so : Nat) (ad : Nat) (na : Nat) (va : Nat) (lc : Nat) (dm : Nat) (tg : Nat) (pe : Nat) (ml : Nat) (bg : Nat) (co : Nat) (sp : Nat) (nb0 : Nat) (nb1 : Nat) (nb2 : Nat) (pl : Nat) (se : Nat) (ke : Nat) (wi : Nat) (hs : Nat) (mo : Nat) (po : Nat) (nu : Nat) (pr : Nat) (sq : Nat) (xa : Nat) (sa : Nat) (n64 : Nat) (m64 : Nat) (ex : Nat) (wh : Nat) (sd : Nat) (tk : Nat) (hd : Nat) (ak : Nat) (ho : Nat) (ot : Nat) (sx : Nat) (s0 : Nat) (s1 : Nat) (s2 : Nat) (nf : Nat) (bd : Nat) (mm : Nat) (zo : Nat) (fm : Nat) (sn : Nat) (hg : Nat) (gc : Nat) (gv : Nat) (ze : Nat) (zt : Nat) (g1 : Nat) (σ : Nat) (r1 : Nat) (n1 : Nat) (x2 : Int32) (hW : WTm ty gm L) (hL_h0 : h0 ∈ L) (hT_h0 : ty h0 = (15, ρ, [ta, ou, so, ad, na, va, lc, dm, tg, pe, ml, bg, co, sp, nb0, nb1, nb2, pl, se, ke, wi, hs, mo, po, nu, pr, sq, xa, sa, n64, m64, ex, wh, sd, tk, hd, ak, ho, ot, sx, s0, s1, s2, nf, bd, mm, zo, fm, sn, hg, gc, gv, ze, zt])) (hL_g1 : g1 ∈ L) (hT_g1 : ty g1 = (14, σ, [r1, n1])) : Met l yX15_exchanges (.code yX15_exchanges cX15_exchanges 5 (some .int) :: tb) ({ frames := 4, cells := 0, slots := 0, locals := 90 }) (va_Pc [.ref h0, .ref g1, .int x2] (PTm (dC, dI) cs ty gm L F sz)) (va_Qi (fun (r : Int32) (_ : Unit) => True) (fun _ T9 => ∃ F2 : Nat → va_E, QTm (dC, dI) cs ty gm L [] F F2 (va_A (va_pl L F) sz) T9) (va_A (va_pl L F) sz)) 0 0 (va_A (va_pl L F) sz) := by
  refine Met.ofW (cc := cX15_exchanges) (maxL := 5) (ret := (some .int)) (by decide) rfl ?_
  intro p e s m args below meth c s₁ B hml hv
  obtain ⟨rfl, hsz, hP, hK, hD0, hE, hO⟩ := hv
  have hx := B.exec
  have hb := B.bytes
  have hr := B.returns
  have hts : ∀ w ∈ tb, w.before _ s = true := fun w h => atoms_spec (ws := .code yX15_exchanges cX15_exchanges 5 (some .int) :: tb) B.pre w (List.mem_cons_of_mem _ h)
  have hown : s.vm.findClass RX15 = some m.cls := findClass_of_methodNamed B.named
  have hlocks := B.notSynchronized
  subst hsz
  have hD := hD0.self (sz := s.heap.size)
  generalize hAe : va_A (va_pl L F) s.heap.size = A at hD ⊢
  have hA : ∀ q : Nat, s.heap.size ≤ q → A q := fun q h => by rw [← hAe]; exact Or.inr h
  have hS : va_S A s.heap s.heap [] := va_S.rf
  have hR : FR ty [] F F := FR.refl
  have hl := lv_entry ([.ref h0, .ref g1, .int x2]) (n := 5) (Nat.le_of_ble_eq_true rfl)
  rw [lg_entry_eq]
  generalize (lg_sl ([.ref h0, .ref g1, .int x2]) ++ List.replicate (5 - (lg_sl ([.ref h0, .ref g1, .int x2])).length) Slot.unset).toArray = ls at hl ⊢
  have hl : lv_has ls 5 [(0, .ref h0), (1, .ref g1), (2, .int x2)] := hl
  refine lv_iconst (v := 0) hx hb dX15_exchanges_0 (by decide) ?_
  refine lv_istore_n (lv' := [(3, .int 0), (0, .ref h0), (1, .ref g1), (2, .int x2)]) hx hb dX15_exchanges_1 rfl hl (by decide) rfl (fun ls hl => ?_)
  refine W.widen (k := 0) (n := 0) (by omega) (by omega) ?_
  refine pl_loopm (σ := Nat) A (dC, dI) cs ty gm L [] F 2 5 (fun j => [(3, .int (nI j)), (0, .ref h0), (1, .ref g1), (2, .int x2)]) (fun j => []) (fun j _ => j ≤ 40) (fun j => 40 - j) ?_ 0 F (by omega) hO hR _ _ hP hD hS ls (lv_sub hl [0, 1, 2, 3] rfl)
  rintro j F_1 hv_2 hO hR ih_3 H locs hP hD hS ls hl
  have hl : lv_has ls 5 [(3, .int (nI j)), (0, .ref h0), (1, .ref g1), (2, .int x2)] := hl
  have hv_2 : j ≤ 40 := hv_2
  refine W.eq (g2 := F0 m 2 ls []) rfl ?_
  obtain rfl : F = F_1 := (funext (fun a => hR a List.not_mem_nil)).symm
  refine lv_iload_n hx hb dX15_exchanges_2 rfl (lv_at hl 0 rfl) ?_
  refine lv_aload_n hx hb dX15_exchanges_3 rfl (lv_at hl 1 rfl) ?_
  obtain ⟨hq_26, hq_27, hq_28, hq_29, hq_30, hgO, hgA, hgB, hq_31⟩ := hW.sc hL_h0 hT_h0
  obtain ⟨v14_32, v15_33, v17_34, v18_35, v19_36, v20_37, v21_38, v22_39, v33_40, v52_41, v53_42, v54_43, hF_44, hq_45, hq_46, hq_47, hq_48, hq_49⟩ := hO.mod hL_h0 hT_h0
  refine pg_get (ci := 15) (v := .int (nI ze)) (C := RX15) (T := TX15) (N := 59) hx hb hts it_15 hown hK hP hL_h0 hF_44 rfl 3 (by decide) (hts _ kt_724) (fun _ h9 => h9) rfl dX15_exchanges_4 ?_
  refine lv_icmp_ge (tgt := 95) hx hb dX15_exchanges_7 (by decide) (fun c_50 => ?_) (fun c_50 => ?_)
  ·
    have hi_51 : ze ≤ j := leN (N := ze) c_50
    refine lv_iconst (v := 0) hx hb dX15_exchanges_95 (by decide) ?_
    refine W.widen (k := 0) (n := 0) (by omega) (by omega) ?_
    exact W.iret (v := 0) hx hb hr (fun t ht hWm => ⟨⟨0, (), rfl, trivial, ⟨F, QTm.mk ht hP hD hO hR⟩⟩, hS.F ht⟩) hS.2.2 dX15_exchanges_96
  ·
    have hi_52 : j < ze := ltN (N := ze) c_50
    refine lv_aload_n hx hb dX15_exchanges_10 rfl (lv_at hl 1 rfl) ?_
    refine lv_iload_n hx hb dX15_exchanges_11 rfl (lv_at hl 0 rfl) ?_
    refine lv_iconst (v := 2) hx hb dX15_exchanges_12 (by decide) ?_
    refine lv_aload_n hx hb dX15_exchanges_13 rfl (lv_at hl 2 rfl) ?_
    obtain ⟨hi_53, ht_54, hq_55⟩ := hW.txt hL_g1 hT_g1
    have hFc := pg_free hD hS hA
    refine va_calli (va_runV (As := [.int (nI j), .int 2, .ref g1]) (rest := []) ⟨hx, hb, hml, hown, hts⟩ (s_X15_isOf l dC dI cs ty gm L H.size F h0 ρ ta ou so ad na va lc dm tg pe ml bg co sp nb0 nb1 nb2 pl se ke wi hs mo po nu pr sq xa sa n64 m64 ex wh sd tk hd ak ho ot sx s0 s1 s2 nf bd mm zo fm sn hg gc gv ze zt j g1 σ r1 n1 2 hW hL_h0 hT_h0 hL_g1 hT_g1 (by first | omega | assumption | exact Or.inl rfl)) ⟨callB_of 3 hts (gi kt_725) rfl rfl rfl (hts _ kt_669) (hts _ kt_726) (by decide +kernel) ⟨Nat.le_of_ble_eq_true rfl, Nat.le_of_ble_eq_true rfl⟩, (hts _ kt_727), (hts _ kt_728)⟩ ⟨fun a U g mk q => ⟨q.1, PTm.calling q.2⟩, pg_recv hK hP hL_h0 hF_44 (q := (RX15, TX15, 59)) rfl, fun U hU hWm => ⟨rfl, PTm.mk hU hWm hP hK hD hE hO⟩⟩ rfl rfl hl.1 rfl (lv_room (Nat.le_of_ble_eq_true rfl)) dX15_exchanges_14 ⟨by show _ + 0 ≤ 0; omega, by show _ + 0 ≤ 0; omega⟩) hS (fun q _ h => hFc q h) hFc (fun r_56 u t H1 locs ht hvm hw hB hz1 hk1 hS => ?_)
    obtain ⟨F_57, hB1⟩ := hB
    obtain rfl : F = F_57 := (funext (fun a => hB1.2.2.2 a List.not_mem_nil)).symm
    obtain ⟨hP, hD, hO, hR⟩ := QTm.back hB1 ht hFc hR (fun q h => absurd h List.not_mem_nil)
    generalize H1 = H at hP hS ⊢
    have hw : (r_56 = 0 ∨ r_56 = 1) := hw
    have hw_58 := hw
    refine lv_if_ne (tgt := 23) hx hb dX15_exchanges_17 (by decide) (fun c_59 => ?_) (fun c_59 => ?_)
    ·
      refine lv_aload_n hx hb dX15_exchanges_23 rfl (lv_at hl 1 rfl) ?_
      refine lv_aload_n hx hb dX15_exchanges_24 rfl (lv_at hl 1 rfl) ?_
      refine pg_get (ci := 15) (v := .ref va) (C := RX15) (T := TX15) (N := 59) hx hb hts it_15 hown hK hP hL_h0 hF_44 rfl 8 (by decide) (hts _ kt_732) (fun _ h9 => h9) rfl dX15_exchanges_25 ?_
      refine lv_iload_n hx hb dX15_exchanges_28 rfl (lv_at hl 0 rfl) ?_
      obtain ⟨hi_60, ht_61⟩ := hW.f_va hL_h0 hT_h0
      obtain ⟨f_62, hF_63, hq_64⟩ := hO.rtxj hi_60 ht_61
      obtain ⟨b_65, r_66, hbf_67, hi_68, ht_69⟩ := hq_64 j (by omega)
      refine pg_aald (r := b_65) hx hb hK hP hi_60 7 hF_63 rfl (vp_in_nI (by omega) (by omega)) (show f_62 ((nI j) : Int32).toNatClampNeg = _ from by rw [show ((nI j) : Int32) = nI j from rfl, nI_clamp (by omega)]; exact hbf_67) dX15_exchanges_29 ?_
      obtain ⟨hi_70, ht_71, hq_72⟩ := hW.txt hi_68 ht_69
      have hFc := pg_free hD hS hA
      refine va_calli (va_runV (As := [.ref b_65]) (rest := []) ⟨hx, hb, hml, hown, hts⟩ (s_X15_isTrouble l dC dI cs ty gm L H.size F h0 ρ ta ou so ad na va lc dm tg pe ml bg co sp nb0 nb1 nb2 pl se ke wi hs mo po nu pr sq xa sa n64 m64 ex wh sd tk hd ak ho ot sx s0 s1 s2 nf bd mm zo fm sn hg gc gv ze zt b_65 (ρ + 50 + j + 100) r_66 700 hW hL_h0 hT_h0 hi_68 ht_69) ⟨callB_of 1 hts (gi kt_736) rfl rfl rfl (hts _ kt_669) (hts _ kt_737) (by decide +kernel) ⟨Nat.le_of_ble_eq_true rfl, Nat.le_of_ble_eq_true rfl⟩, (hts _ kt_738), (hts _ kt_739)⟩ ⟨fun a U g mk q => ⟨q.1, PTm.calling q.2⟩, pg_recv hK hP hL_h0 hF_44 (q := (RX15, TX15, 59)) rfl, fun U hU hWm => ⟨rfl, PTm.mk hU hWm hP hK hD hE hO⟩⟩ rfl rfl hl.1 rfl (lv_room (Nat.le_of_ble_eq_true rfl)) dX15_exchanges_30 ⟨by show _ + 0 ≤ 0; omega, by show _ + 0 ≤ 0; omega⟩) hS (fun q _ h => hFc q h) hFc (fun r_73 u t H1 locs ht hvm hw hB hz1 hk1 hS => ?_)
      obtain ⟨F_74, hB1⟩ := hB
      obtain rfl : F = F_74 := (funext (fun a => hB1.2.2.2 a List.not_mem_nil)).symm
      obtain ⟨hP, hD, hO, hR⟩ := QTm.back hB1 ht hFc hR (fun q h => absurd h List.not_mem_nil)
      generalize H1 = H at hP hS ⊢
      have hw : (r_73 = 0 ∨ r_73 = 1) := hw
      have hw_75 := hw
      refine lv_if_eq (tgt := 38) hx hb dX15_exchanges_33 (by decide) (fun c_76 => ?_) (fun c_76 => ?_)
      ·
        refine lv_iconst (v := 0) hx hb dX15_exchanges_38 (by decide) ?_
        refine lv_istore (lv' := [(4, .int 0), (3, .int (nI j)), (0, .ref h0), (1, .ref g1), (2, .int x2)]) hx hb dX15_exchanges_39 hl (by decide) rfl (fun ls hl => ?_)
        refine W.widen (k := 0) (n := 0) (by omega) (by omega) ?_
        refine pl_loopm (σ := Nat) A (dC, dI) cs ty gm L [] F 41 5 (fun i => [(4, .int (nI i)), (3, .int (nI j)), (0, .ref h0), (1, .ref g1), (2, .int x2)]) (fun i => []) (fun i _ => i ≤ 40) (fun i => 40 - i) ?_ 0 F (by omega) hO hR _ _ hP hD hS ls (lv_sub hl [0, 1, 2, 3, 4] rfl)
        rintro i F_77 hv_78 hO hR ih_79 H locs hP hD hS ls hl
        have hl : lv_has ls 5 [(4, .int (nI i)), (3, .int (nI j)), (0, .ref h0), (1, .ref g1), (2, .int x2)] := hl
        have hv_78 : i ≤ 40 := hv_78
        refine W.eq (g2 := F0 m 41 ls []) rfl ?_
        obtain rfl : F = F_77 := (funext (fun a => hR a List.not_mem_nil)).symm
        refine lv_iload hx hb dX15_exchanges_41 (lv_at hl 0 rfl) ?_
        refine lv_aload_n hx hb dX15_exchanges_43 rfl (lv_at hl 2 rfl) ?_
        refine pg_get (ci := 15) (v := .int (nI ze)) (C := RX15) (T := TX15) (N := 59) hx hb hts it_15 hown hK hP hL_h0 hF_44 rfl 3 (by decide) (hts _ kt_724) (fun _ h9 => h9) rfl dX15_exchanges_44 ?_
        refine lv_icmp_ge (tgt := 89) hx hb dX15_exchanges_47 (by decide) (fun c_80 => ?_) (fun c_80 => ?_)
        ·
          have hi_81 : ze ≤ i := leN (N := ze) c_80
          refine lv_iinc (v := (nI (j + 1))) (lv' := [(3, .int (nI (j + 1))), (4, .int (nI i)), (0, .ref h0), (1, .ref g1), (2, .int x2)]) hx hb dX15_exchanges_89 hl (k := 1) rfl (nI_1 _) (by decide) rfl (fun ls hl => ?_)
          refine lv_goto (tgt := 2) hx hb dX15_exchanges_92 (by decide) ?_
          refine W.widen (k := 0) (n := 0) (by omega) (by omega) ?_
          exact ih_3 (j + 1) F (by first | omega | exact ⟨by omega, by omega⟩ | trivial) (by show 40 - (j + 1) < 40 - j; omega) hO hR _ _ hP hD hS ls (lv_sub hl [0, 2, 3, 4] rfl)
        ·
          have hi_82 : i < ze := ltN (N := ze) c_80
          refine lv_aload_n hx hb dX15_exchanges_50 rfl (lv_at hl 2 rfl) ?_
          refine lv_iload hx hb dX15_exchanges_51 (lv_at hl 0 rfl) ?_
          refine lv_iconst (v := 1) hx hb dX15_exchanges_53 (by decide) ?_
          refine lv_aload_n hx hb dX15_exchanges_54 rfl (lv_at hl 2 rfl) ?_
          refine pg_get (ci := 15) (v := .ref va) (C := RX15) (T := TX15) (N := 59) hx hb hts it_15 hown hK hP hL_h0 hF_44 rfl 8 (by decide) (hts _ kt_732) (fun _ h9 => h9) rfl dX15_exchanges_55 ?_
          refine lv_iload_n hx hb dX15_exchanges_58 rfl (lv_at hl 1 rfl) ?_
          obtain ⟨b_83, r_84, hbf_85, hi_86, ht_87⟩ := hq_64 j (by omega)
          refine pg_aald (r := b_83) hx hb hK hP hi_60 7 hF_63 rfl (vp_in_nI (by omega) (by omega)) (show f_62 ((nI j) : Int32).toNatClampNeg = _ from by rw [show ((nI j) : Int32) = nI j from rfl, nI_clamp (by omega)]; exact hbf_85) dX15_exchanges_59 ?_
          obtain ⟨hi_88, ht_89, hq_90⟩ := hW.txt hi_86 ht_87
          have hFc := pg_free hD hS hA
          refine va_calli (va_runV (As := [.int (nI i), .int 1, .ref b_83]) (rest := []) ⟨hx, hb, hml, hown, hts⟩ (s_X15_isOf l dC dI cs ty gm L H.size F h0 ρ ta ou so ad na va lc dm tg pe ml bg co sp nb0 nb1 nb2 pl se ke wi hs mo po nu pr sq xa sa n64 m64 ex wh sd tk hd ak ho ot sx s0 s1 s2 nf bd mm zo fm sn hg gc gv ze zt i b_83 (ρ + 50 + j + 100) r_84 700 1 hW hL_h0 hT_h0 hi_86 ht_87 (by first | omega | assumption | exact Or.inl rfl)) ⟨callB_of 3 hts (gi kt_725) rfl rfl rfl (hts _ kt_669) (hts _ kt_726) (by decide +kernel) ⟨Nat.le_of_ble_eq_true rfl, Nat.le_of_ble_eq_true rfl⟩, (hts _ kt_727), (hts _ kt_728)⟩ ⟨fun a U g mk q => ⟨q.1, PTm.calling q.2⟩, pg_recv hK hP hL_h0 hF_44 (q := (RX15, TX15, 59)) rfl, fun U hU hWm => ⟨rfl, PTm.mk hU hWm hP hK hD hE hO⟩⟩ rfl rfl hl.1 rfl (lv_room (Nat.le_of_ble_eq_true rfl)) dX15_exchanges_60 ⟨by show _ + 0 ≤ 0; omega, by show _ + 0 ≤ 0; omega⟩) hS (fun q _ h => hFc q h) hFc (fun r_91 u t H1 locs ht hvm hw hB hz1 hk1 hS => ?_)
          obtain ⟨F_92, hB1⟩ := hB
          obtain rfl : F = F_92 := (funext (fun a => hB1.2.2.2 a List.not_mem_nil)).symm
          obtain ⟨hP, hD, hO, hR⟩ := QTm.back hB1 ht hFc hR (fun q h => absurd h List.not_mem_nil)
          generalize H1 = H at hP hS ⊢
          have hw : (r_91 = 0 ∨ r_91 = 1) := hw
          have hw_93 := hw
          refine lv_if_eq (tgt := 83) hx hb dX15_exchanges_63 (by decide) (fun c_94 => ?_) (fun c_94 => ?_)
          ·
            refine lv_iinc (v := (nI (i + 1))) (lv' := [(4, .int (nI (i + 1))), (3, .int (nI j)), (0, .ref h0), (1, .ref g1), (2, .int x2)]) hx hb dX15_exchanges_83 hl (k := 0) rfl (nI_1 _) (by decide) rfl (fun ls hl => ?_)
            refine lv_goto (tgt := 41) hx hb dX15_exchanges_86 (by decide) ?_
            refine W.widen (k := 0) (n := 0) (by omega) (by omega) ?_
            exact ih_79 (i + 1) F (by first | omega | exact ⟨by omega, by omega⟩ | trivial) (by show 40 - (i + 1) < 40 - i; omega) hO hR _ _ hP hD hS ls (lv_sub hl [0, 1, 2, 3, 4] rfl)
          ·
            refine lv_aload_n hx hb dX15_exchanges_66 rfl (lv_at hl 2 rfl) ?_
            refine lv_aload_n hx hb dX15_exchanges_67 rfl (lv_at hl 2 rfl) ?_
            refine pg_get (ci := 15) (v := .ref ad) (C := RX15) (T := TX15) (N := 59) hx hb hts it_15 hown hK hP hL_h0 hF_44 rfl 6 (by decide) (hts _ kt_740) (fun _ h9 => h9) rfl dX15_exchanges_68 ?_
            refine lv_iload hx hb dX15_exchanges_71 (lv_at hl 0 rfl) ?_
            obtain ⟨hi_95, ht_96⟩ := hW.f_ad hL_h0 hT_h0
            obtain ⟨hq_97, hq_98⟩ := hW.ints hi_95 ht_96
            obtain ⟨f_99, hF_100⟩ := hO.ints hi_95 ht_96
            refine pg_iald hx hb hK hP hi_95 0 hF_100 rfl (vp_in_nI (by omega) (by omega)) dX15_exchanges_73 ?_
            refine lv_topi (fun x_101 _ => ?_)
            refine lv_iload_n hx hb dX15_exchanges_74 rfl (lv_at hl 4 rfl) ?_
            have hFc := pg_free hD hS hA
            refine va_calli (va_runV (As := [.int x_101, .int x2]) (rest := []) ⟨hx, hb, hml, hown, hts⟩ (s_X15_isSender l dC dI cs ty gm L H.size F h0 ρ ta ou so ad na va lc dm tg pe ml bg co sp nb0 nb1 nb2 pl se ke wi hs mo po nu pr sq xa sa n64 m64 ex wh sd tk hd ak ho ot sx s0 s1 s2 nf bd mm zo fm sn hg gc gv ze zt x_101 x2 hW hL_h0 hT_h0) ⟨callB_of 2 hts (gi kt_741) rfl rfl rfl (hts _ kt_669) (hts _ kt_742) (by decide +kernel) ⟨Nat.le_of_ble_eq_true rfl, Nat.le_of_ble_eq_true rfl⟩, (hts _ kt_743), (hts _ kt_744)⟩ ⟨fun a U g mk q => ⟨q.1, PTm.calling q.2⟩, pg_recv hK hP hL_h0 hF_44 (q := (RX15, TX15, 59)) rfl, fun U hU hWm => ⟨rfl, PTm.mk hU hWm hP hK hD hE hO⟩⟩ rfl rfl hl.1 rfl (lv_room (Nat.le_of_ble_eq_true rfl)) dX15_exchanges_75 ⟨by show _ + 0 ≤ 0; omega, by show _ + 0 ≤ 0; omega⟩) hS (fun q _ h => hFc q h) hFc (fun r_102 u t H1 locs ht hvm hw hB hz1 hk1 hS => ?_)
            obtain ⟨F_103, hB1⟩ := hB
            obtain rfl : F = F_103 := (funext (fun a => hB1.2.2.2 a List.not_mem_nil)).symm
            obtain ⟨hP, hD, hO, hR⟩ := QTm.back hB1 ht hFc hR (fun q h => absurd h List.not_mem_nil)
            generalize H1 = H at hP hS ⊢
            have hw : (r_102 = 0 ∨ r_102 = 1) := hw
            have hw_104 := hw
            refine lv_if_eq (tgt := 83) hx hb dX15_exchanges_78 (by decide) (fun c_105 => ?_) (fun c_105 => ?_)
            ·
              refine lv_iinc (v := (nI (i + 1))) (lv' := [(4, .int (nI (i + 1))), (3, .int (nI j)), (0, .ref h0), (1, .ref g1), (2, .int x2)]) hx hb dX15_exchanges_83 hl (k := 0) rfl (nI_1 _) (by decide) rfl (fun ls hl => ?_)
              refine lv_goto (tgt := 41) hx hb dX15_exchanges_86 (by decide) ?_
              refine W.widen (k := 0) (n := 0) (by omega) (by omega) ?_
              exact ih_79 (i + 1) F (by first | omega | exact ⟨by omega, by omega⟩ | trivial) (by show 40 - (i + 1) < 40 - i; omega) hO hR _ _ hP hD hS ls (lv_sub hl [0, 1, 2, 3, 4] rfl)
            ·
              refine lv_iconst (v := 1) hx hb dX15_exchanges_81 (by decide) ?_
              refine W.widen (k := 0) (n := 0) (by omega) (by omega) ?_
              exact W.iret (v := 1) hx hb hr (fun t ht hWm => ⟨⟨1, (), rfl, trivial, ⟨F, QTm.mk ht hP hD hO hR⟩⟩, hS.F ht⟩) hS.2.2 dX15_exchanges_82
      ·
        refine lv_iconst (v := 5) hx hb dX15_exchanges_36 (by decide) ?_
        refine W.widen (k := 0) (n := 0) (by omega) (by omega) ?_
        exact W.iret (v := 5) hx hb hr (fun t ht hWm => ⟨⟨5, (), rfl, trivial, ⟨F, QTm.mk ht hP hD hO hR⟩⟩, hS.F ht⟩) hS.2.2 dX15_exchanges_37
    ·
      refine lv_goto (tgt := 89) hx hb dX15_exchanges_20 (by decide) ?_
      refine lv_iinc (v := (nI (j + 1))) (lv' := [(3, .int (nI (j + 1))), (0, .ref h0), (1, .ref g1), (2, .int x2)]) hx hb dX15_exchanges_89 hl (k := 0) rfl (nI_1 _) (by decide) rfl (fun ls hl => ?_)
      refine lv_goto (tgt := 2) hx hb dX15_exchanges_92 (by decide) ?_
      refine W.widen (k := 0) (n := 0) (by omega) (by omega) ?_
      exact ih_3 (j + 1) F (by first | omega | exact ⟨by omega, by omega⟩ | trivial) (by show 40 - (j + 1) < 40 - j; omega) hO hR _ _ hP hD hS ls (lv_sub hl [0, 1, 2, 3] rfl)
