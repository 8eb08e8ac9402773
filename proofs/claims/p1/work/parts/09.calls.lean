theorem dX11_cost_0 : decode cX11_cost 0 = .ok (.iload_n 1, 1) := by decide +kernel
theorem dX11_cost_1 : decode cX11_cost 1 = .ok (.lookupswitch 43 #[(0, 27), (1, 35)], 27) := by decide +kernel
theorem dX11_cost_28 : decode cX11_cost 28 = .ok (.aload_n 0, 1) := by decide +kernel
theorem dX11_cost_29 : decode cX11_cost 29 = .ok (.getfield 33, 3) := by decide +kernel
theorem dX11_cost_32 : decode cX11_cost 32 = .ok (.getfield 99, 3) := by decide +kernel
theorem dX11_cost_35 : decode cX11_cost 35 = .ok (.ireturn, 1) := by decide +kernel
theorem dX11_cost_36 : decode cX11_cost 36 = .ok (.aload_n 0, 1) := by decide +kernel
theorem dX11_cost_37 : decode cX11_cost 37 = .ok (.getfield 33, 3) := by decide +kernel
theorem dX11_cost_40 : decode cX11_cost 40 = .ok (.getfield 102, 3) := by decide +kernel
theorem dX11_cost_43 : decode cX11_cost 43 = .ok (.ireturn, 1) := by decide +kernel
theorem dX11_cost_44 : decode cX11_cost 44 = .ok (.iconst (-1), 1) := by decide +kernel
theorem dX11_cost_45 : decode cX11_cost 45 = .ok (.ireturn, 1) := by decide +kernel
theorem dX11_end_0 : decode cX11_end 0 = .ok (.iload_n 1, 1) := by decide +kernel
theorem dX11_end_1 : decode cX11_end 1 = .ok (.ifCond .lt 14, 3) := by decide +kernel
theorem dX11_end_4 : decode cX11_end 4 = .ok (.iload_n 1, 1) := by decide +kernel
theorem dX11_end_5 : decode cX11_end 5 = .ok (.aload_n 0, 1) := by decide +kernel
theorem dX11_end_6 : decode cX11_end 6 = .ok (.getfield 14, 3) := by decide +kernel
theorem dX11_end_9 : decode cX11_end 9 = .ok (.getfield 68, 3) := by decide +kernel
theorem dX11_end_12 : decode cX11_end 12 = .ok (.if_icmp .le 5, 3) := by decide +kernel
theorem dX11_end_15 : decode cX11_end 15 = .ok (.iconst (-1), 1) := by decide +kernel
theorem dX11_end_16 : decode cX11_end 16 = .ok (.ireturn, 1) := by decide +kernel
theorem dX11_end_17 : decode cX11_end 17 = .ok (.aload_n 0, 1) := by decide +kernel
theorem dX11_end_18 : decode cX11_end 18 = .ok (.getfield 14, 3) := by decide +kernel
theorem dX11_end_21 : decode cX11_end 21 = .ok (.iload_n 1, 1) := by decide +kernel
theorem dX11_end_22 : decode cX11_end 22 = .ok (.invokevirtual 75, 3) := by decide +kernel
theorem dX11_end_25 : decode cX11_end 25 = .ok (.iload_n 1, 1) := by decide +kernel
theorem dX11_end_26 : decode cX11_end 26 = .ok (.ireturn, 1) := by decide +kernel
theorem dX11_entry_0 : decode cX11_entry 0 = .ok (.aload_n 0, 1) := by decide +kernel
theorem dX11_entry_1 : decode cX11_entry 1 = .ok (.getfield 24, 3) := by decide +kernel
theorem dX11_entry_4 : decode cX11_entry 4 = .ok (.iload_n 1, 1) := by decide +kernel
theorem dX11_entry_5 : decode cX11_entry 5 = .ok (.iload_n 2, 1) := by decide +kernel
theorem dX11_entry_6 : decode cX11_entry 6 = .ok (.aload_n 0, 1) := by decide +kernel
theorem dX11_entry_7 : decode cX11_entry 7 = .ok (.getfield 14, 3) := by decide +kernel
theorem dX11_entry_10 : decode cX11_entry 10 = .ok (.invokevirtual 78, 3) := by decide +kernel
theorem dX11_entry_13 : decode cX11_entry 13 = .ok (.istore_n 3, 1) := by decide +kernel
theorem dX11_entry_14 : decode cX11_entry 14 = .ok (.aload_n 0, 1) := by decide +kernel
theorem dX11_entry_15 : decode cX11_entry 15 = .ok (.getfield 14, 3) := by decide +kernel
theorem dX11_entry_18 : decode cX11_entry 18 = .ok (.invokevirtual 82, 3) := by decide +kernel
theorem dX11_entry_21 : decode cX11_entry 21 = .ok (.iload_n 3, 1) := by decide +kernel
theorem dX11_entry_22 : decode cX11_entry 22 = .ok (.ireturn, 1) := by decide +kernel
theorem dX11_feed_0 : decode cX11_feed 0 = .ok (.aload_n 0, 1) := by decide +kernel
theorem dX11_feed_1 : decode cX11_feed 1 = .ok (.getfield 14, 3) := by decide +kernel
theorem dX11_feed_4 : decode cX11_feed 4 = .ok (.getfield 68, 3) := by decide +kernel
theorem dX11_feed_7 : decode cX11_feed 7 = .ok (.bipush 20, 2) := by decide +kernel
theorem dX11_feed_9 : decode cX11_feed 9 = .ok (.iadd, 1) := by decide +kernel
theorem dX11_feed_10 : decode cX11_feed 10 = .ok (.sipush 3000, 3) := by decide +kernel
theorem dX11_feed_13 : decode cX11_feed 13 = .ok (.if_icmp .le 6, 3) := by decide +kernel
theorem dX11_feed_16 : decode cX11_feed 16 = .ok (.bipush (-3), 2) := by decide +kernel
theorem dX11_feed_18 : decode cX11_feed 18 = .ok (.ireturn, 1) := by decide +kernel
theorem dX11_feed_19 : decode cX11_feed 19 = .ok (.aload_n 0, 1) := by decide +kernel
theorem dX11_feed_20 : decode cX11_feed 20 = .ok (.getfield 14, 3) := by decide +kernel
theorem dX11_feed_23 : decode cX11_feed 23 = .ok (.iload_n 1, 1) := by decide +kernel
theorem dX11_feed_24 : decode cX11_feed 24 = .ok (.invokevirtual 72, 3) := by decide +kernel
theorem dX11_feed_27 : decode cX11_feed 27 = .ok (.aload_n 0, 1) := by decide +kernel
theorem dX11_feed_28 : decode cX11_feed 28 = .ok (.getfield 14, 3) := by decide +kernel
theorem dX11_feed_31 : decode cX11_feed 31 = .ok (.iload_n 2, 1) := by decide +kernel
theorem dX11_feed_32 : decode cX11_feed 32 = .ok (.invokevirtual 72, 3) := by decide +kernel
theorem dX11_feed_35 : decode cX11_feed 35 = .ok (.aload_n 0, 1) := by decide +kernel
theorem dX11_feed_36 : decode cX11_feed 36 = .ok (.getfield 14, 3) := by decide +kernel
theorem dX11_feed_39 : decode cX11_feed 39 = .ok (.iload_n 3, 1) := by decide +kernel
theorem dX11_feed_40 : decode cX11_feed 40 = .ok (.invokevirtual 72, 3) := by decide +kernel
theorem dX11_feed_43 : decode cX11_feed 43 = .ok (.aload_n 0, 1) := by decide +kernel
theorem dX11_feed_44 : decode cX11_feed 44 = .ok (.getfield 14, 3) := by decide +kernel
theorem dX11_feed_47 : decode cX11_feed 47 = .ok (.iload 4, 2) := by decide +kernel
theorem dX11_feed_49 : decode cX11_feed 49 = .ok (.invokevirtual 72, 3) := by decide +kernel
theorem dX11_feed_52 : decode cX11_feed 52 = .ok (.aload_n 0, 1) := by decide +kernel
theorem dX11_feed_53 : decode cX11_feed 53 = .ok (.getfield 14, 3) := by decide +kernel
theorem dX11_feed_56 : decode cX11_feed 56 = .ok (.iload 5, 2) := by decide +kernel
theorem dX11_feed_58 : decode cX11_feed 58 = .ok (.invokevirtual 72, 3) := by decide +kernel
theorem dX11_feed_61 : decode cX11_feed 61 = .ok (.aload_n 0, 1) := by decide +kernel
theorem dX11_feed_62 : decode cX11_feed 62 = .ok (.getfield 14, 3) := by decide +kernel
theorem dX11_feed_65 : decode cX11_feed 65 = .ok (.getfield 68, 3) := by decide +kernel
theorem dX11_feed_68 : decode cX11_feed 68 = .ok (.ireturn, 1) := by decide +kernel
theorem dX11_forget_0 : decode cX11_forget 0 = .ok (.aload_n 0, 1) := by decide +kernel
theorem dX11_forget_1 : decode cX11_forget 1 = .ok (.getfield 24, 3) := by decide +kernel
theorem dX11_forget_4 : decode cX11_forget 4 = .ok (.invokevirtual 85, 3) := by decide +kernel
theorem dX11_forget_7 : decode cX11_forget 7 = .ok (.ireturn, 1) := by decide +kernel
theorem dX11_house_0 : decode cX11_house 0 = .ok (.aload_n 0, 1) := by decide +kernel
theorem dX11_house_1 : decode cX11_house 1 = .ok (.getfield 14, 3) := by decide +kernel
theorem dX11_house_4 : decode cX11_house 4 = .ok (.iconst 0, 1) := by decide +kernel
theorem dX11_house_5 : decode cX11_house 5 = .ok (.aload_n 0, 1) := by decide +kernel
theorem dX11_house_6 : decode cX11_house 6 = .ok (.getfield 14, 3) := by decide +kernel
theorem dX11_house_9 : decode cX11_house 9 = .ok (.getfield 68, 3) := by decide +kernel
theorem dX11_house_12 : decode cX11_house 12 = .ok (.invokevirtual 133, 3) := by decide +kernel
theorem dX11_house_15 : decode cX11_house 15 = .ok (.ifCond .ne 12, 3) := by decide +kernel
theorem dX11_house_18 : decode cX11_house 18 = .ok (.aload_n 0, 1) := by decide +kernel
theorem dX11_house_19 : decode cX11_house 19 = .ok (.getfield 14, 3) := by decide +kernel
theorem dX11_house_22 : decode cX11_house 22 = .ok (.invokevirtual 82, 3) := by decide +kernel
theorem dX11_house_25 : decode cX11_house 25 = .ok (.iconst (-1), 1) := by decide +kernel
theorem dX11_house_26 : decode cX11_house 26 = .ok (.ireturn, 1) := by decide +kernel
theorem dX11_house_27 : decode cX11_house 27 = .ok (.aload_n 0, 1) := by decide +kernel
theorem dX11_house_28 : decode cX11_house 28 = .ok (.getfield 18, 3) := by decide +kernel
theorem dX11_house_31 : decode cX11_house 31 = .ok (.invokevirtual 82, 3) := by decide +kernel
theorem dX11_house_34 : decode cX11_house 34 = .ok (.aload_n 0, 1) := by decide +kernel
theorem dX11_house_35 : decode cX11_house 35 = .ok (.getfield 18, 3) := by decide +kernel
theorem dX11_house_38 : decode cX11_house 38 = .ok (.aload_n 0, 1) := by decide +kernel
theorem dX11_house_39 : decode cX11_house 39 = .ok (.getfield 14, 3) := by decide +kernel
theorem dX11_house_42 : decode cX11_house 42 = .ok (.aload_n 0, 1) := by decide +kernel
theorem dX11_house_43 : decode cX11_house 43 = .ok (.getfield 24, 3) := by decide +kernel
theorem dX11_house_46 : decode cX11_house 46 = .ok (.aload_n 0, 1) := by decide +kernel
theorem dX11_house_47 : decode cX11_house 47 = .ok (.getfield 14, 3) := by decide +kernel
theorem dX11_house_50 : decode cX11_house 50 = .ok (.invokevirtual 137, 3) := by decide +kernel
theorem dX11_house_53 : decode cX11_house 53 = .ok (.aload_n 0, 1) := by decide +kernel
theorem dX11_house_54 : decode cX11_house 54 = .ok (.getfield 14, 3) := by decide +kernel
theorem dX11_house_57 : decode cX11_house 57 = .ok (.getfield 68, 3) := by decide +kernel
theorem dX11_house_60 : decode cX11_house 60 = .ok (.invokevirtual 141, 3) := by decide +kernel
theorem dX11_house_63 : decode cX11_house 63 = .ok (.aload_n 0, 1) := by decide +kernel
theorem dX11_house_64 : decode cX11_house 64 = .ok (.getfield 14, 3) := by decide +kernel
theorem dX11_house_67 : decode cX11_house 67 = .ok (.invokevirtual 82, 3) := by decide +kernel
theorem dX11_house_70 : decode cX11_house 70 = .ok (.aload_n 0, 1) := by decide +kernel
theorem dX11_house_71 : decode cX11_house 71 = .ok (.getfield 18, 3) := by decide +kernel
theorem dX11_house_74 : decode cX11_house 74 = .ok (.getfield 68, 3) := by decide +kernel
theorem dX11_house_77 : decode cX11_house 77 = .ok (.ireturn, 1) := by decide +kernel
theorem dX11_message_0 : decode cX11_message 0 = .ok (.aload_n 0, 1) := by decide +kernel
theorem dX11_message_1 : decode cX11_message 1 = .ok (.getfield 65, 3) := by decide +kernel
theorem dX11_message_4 : decode cX11_message 4 = .ok (.aload_n 0, 1) := by decide +kernel
theorem dX11_message_5 : decode cX11_message 5 = .ok (.getfield 14, 3) := by decide +kernel
theorem dX11_message_8 : decode cX11_message 8 = .ok (.invokevirtual 105, 3) := by decide +kernel
theorem dX11_message_11 : decode cX11_message 11 = .ok (.istore_n 1, 1) := by decide +kernel
theorem dX11_message_12 : decode cX11_message 12 = .ok (.aload_n 0, 1) := by decide +kernel
theorem dX11_message_13 : decode cX11_message 13 = .ok (.getfield 14, 3) := by decide +kernel
theorem dX11_message_16 : decode cX11_message 16 = .ok (.invokevirtual 82, 3) := by decide +kernel
theorem dX11_message_19 : decode cX11_message 19 = .ok (.iload_n 1, 1) := by decide +kernel
theorem dX11_message_20 : decode cX11_message 20 = .ok (.ifCond .ne 5, 3) := by decide +kernel
theorem dX11_message_23 : decode cX11_message 23 = .ok (.iconst (-1), 1) := by decide +kernel
theorem dX11_message_24 : decode cX11_message 24 = .ok (.ireturn, 1) := by decide +kernel
theorem dX11_message_25 : decode cX11_message 25 = .ok (.aload_n 0, 1) := by decide +kernel
theorem dX11_message_26 : decode cX11_message 26 = .ok (.getfield 61, 3) := by decide +kernel
theorem dX11_message_29 : decode cX11_message 29 = .ok (.astore_n 2, 1) := by decide +kernel
theorem dX11_message_30 : decode cX11_message 30 = .ok (.aload_n 0, 1) := by decide +kernel
theorem dX11_message_31 : decode cX11_message 31 = .ok (.aload_n 0, 1) := by decide +kernel
theorem dX11_message_32 : decode cX11_message 32 = .ok (.getfield 65, 3) := by decide +kernel
theorem dX11_message_35 : decode cX11_message 35 = .ok (.putfield 61, 3) := by decide +kernel
theorem dX11_message_38 : decode cX11_message 38 = .ok (.aload_n 0, 1) := by decide +kernel
theorem dX11_message_39 : decode cX11_message 39 = .ok (.aload_n 2, 1) := by decide +kernel
theorem dX11_message_40 : decode cX11_message 40 = .ok (.putfield 65, 3) := by decide +kernel
theorem dX11_message_43 : decode cX11_message 43 = .ok (.aload_n 0, 1) := by decide +kernel
theorem dX11_message_44 : decode cX11_message 44 = .ok (.getfield 61, 3) := by decide +kernel
theorem dX11_message_47 : decode cX11_message 47 = .ok (.getfield 109, 3) := by decide +kernel
theorem dX11_message_50 : decode cX11_message 50 = .ok (.ireturn, 1) := by decide +kernel
theorem dX11_octet_0 : decode cX11_octet 0 = .ok (.iload_n 1, 1) := by decide +kernel
theorem dX11_octet_1 : decode cX11_octet 1 = .ok (.iconst (-1), 1) := by decide +kernel
theorem dX11_octet_2 : decode cX11_octet 2 = .ok (.if_icmp .ne 11, 3) := by decide +kernel
theorem dX11_octet_5 : decode cX11_octet 5 = .ok (.aload_n 0, 1) := by decide +kernel
theorem dX11_octet_6 : decode cX11_octet 6 = .ok (.getfield 18, 3) := by decide +kernel
theorem dX11_octet_9 : decode cX11_octet 9 = .ok (.getfield 68, 3) := by decide +kernel
theorem dX11_octet_12 : decode cX11_octet 12 = .ok (.ireturn, 1) := by decide +kernel
theorem dX11_octet_13 : decode cX11_octet 13 = .ok (.iload_n 1, 1) := by decide +kernel
theorem dX11_octet_14 : decode cX11_octet 14 = .ok (.ifCond .lt 14, 3) := by decide +kernel
theorem dX11_octet_17 : decode cX11_octet 17 = .ok (.iload_n 1, 1) := by decide +kernel
theorem dX11_octet_18 : decode cX11_octet 18 = .ok (.aload_n 0, 1) := by decide +kernel
theorem dX11_octet_19 : decode cX11_octet 19 = .ok (.getfield 18, 3) := by decide +kernel
theorem dX11_octet_22 : decode cX11_octet 22 = .ok (.getfield 68, 3) := by decide +kernel
theorem dX11_octet_25 : decode cX11_octet 25 = .ok (.if_icmp .lt 8, 3) := by decide +kernel
theorem dX11_octet_28 : decode cX11_octet 28 = .ok (.bipush (-2), 2) := by decide +kernel
theorem dX11_octet_30 : decode cX11_octet 30 = .ok (.goto 11, 3) := by decide +kernel
theorem dX11_octet_33 : decode cX11_octet 33 = .ok (.aload_n 0, 1) := by decide +kernel
theorem dX11_octet_34 : decode cX11_octet 34 = .ok (.getfield 18, 3) := by decide +kernel
theorem dX11_octet_37 : decode cX11_octet 37 = .ok (.iload_n 1, 1) := by decide +kernel
theorem dX11_octet_38 : decode cX11_octet 38 = .ok (.invokevirtual 177, 3) := by decide +kernel
theorem dX11_octet_41 : decode cX11_octet 41 = .ok (.ireturn, 1) := by decide +kernel
theorem dX11_permission_0 : decode cX11_permission 0 = .ok (.aload_n 0, 1) := by decide +kernel
theorem dX11_permission_1 : decode cX11_permission 1 = .ok (.getfield 33, 3) := by decide +kernel
theorem dX11_permission_4 : decode cX11_permission 4 = .ok (.getfield 92, 3) := by decide +kernel
theorem dX11_permission_7 : decode cX11_permission 7 = .ok (.ifCond .eq 13, 3) := by decide +kernel
theorem dX11_permission_10 : decode cX11_permission 10 = .ok (.aload_n 0, 1) := by decide +kernel
theorem dX11_permission_11 : decode cX11_permission 11 = .ok (.getfield 33, 3) := by decide +kernel
theorem dX11_permission_14 : decode cX11_permission 14 = .ok (.invokevirtual 96, 3) := by decide +kernel
theorem dX11_permission_17 : decode cX11_permission 17 = .ok (.goto 4, 3) := by decide +kernel
theorem dX11_permission_20 : decode cX11_permission 20 = .ok (.iconst (-1), 1) := by decide +kernel
theorem dX11_permission_21 : decode cX11_permission 21 = .ok (.ireturn, 1) := by decide +kernel
theorem dX11_plainBody_0 : decode cX11_plainBody 0 = .ok (.aload_n 0, 1) := by decide +kernel
theorem dX11_plainBody_1 : decode cX11_plainBody 1 = .ok (.getfield 61, 3) := by decide +kernel
theorem dX11_plainBody_4 : decode cX11_plainBody 4 = .ok (.getfield 109, 3) := by decide +kernel
theorem dX11_plainBody_7 : decode cX11_plainBody 7 = .ok (.ifCond .ne 6, 3) := by decide +kernel
theorem dX11_plainBody_10 : decode cX11_plainBody 10 = .ok (.bipush (-2), 2) := by decide +kernel
theorem dX11_plainBody_12 : decode cX11_plainBody 12 = .ok (.ireturn, 1) := by decide +kernel
theorem dX11_plainBody_13 : decode cX11_plainBody 13 = .ok (.aload_n 0, 1) := by decide +kernel
theorem dX11_plainBody_14 : decode cX11_plainBody 14 = .ok (.getfield 18, 3) := by decide +kernel
theorem dX11_plainBody_17 : decode cX11_plainBody 17 = .ok (.invokevirtual 82, 3) := by decide +kernel
theorem dX11_plainBody_20 : decode cX11_plainBody 20 = .ok (.aload_n 0, 1) := by decide +kernel
theorem dX11_plainBody_21 : decode cX11_plainBody 21 = .ok (.getfield 61, 3) := by decide +kernel
theorem dX11_plainBody_24 : decode cX11_plainBody 24 = .ok (.aload_n 0, 1) := by decide +kernel
theorem dX11_plainBody_25 : decode cX11_plainBody 25 = .ok (.getfield 18, 3) := by decide +kernel
theorem dX11_plainBody_28 : decode cX11_plainBody 28 = .ok (.iload_n 1, 1) := by decide +kernel
theorem dX11_plainBody_29 : decode cX11_plainBody 29 = .ok (.invokevirtual 125, 3) := by decide +kernel
theorem dX11_plainBody_32 : decode cX11_plainBody 32 = .ok (.aload_n 0, 1) := by decide +kernel
theorem dX11_plainBody_33 : decode cX11_plainBody 33 = .ok (.getfield 18, 3) := by decide +kernel
theorem dX11_plainBody_36 : decode cX11_plainBody 36 = .ok (.getfield 68, 3) := by decide +kernel
theorem dX11_plainBody_39 : decode cX11_plainBody 39 = .ok (.ireturn, 1) := by decide +kernel
theorem dX11_plainField_0 : decode cX11_plainField 0 = .ok (.iload_n 1, 1) := by decide +kernel
theorem dX11_plainField_1 : decode cX11_plainField 1 = .ok (.ifCond .lt 14, 3) := by decide +kernel
theorem dX11_plainField_4 : decode cX11_plainField 4 = .ok (.iload_n 1, 1) := by decide +kernel
theorem dX11_plainField_5 : decode cX11_plainField 5 = .ok (.aload_n 0, 1) := by decide +kernel
theorem dX11_plainField_6 : decode cX11_plainField 6 = .ok (.getfield 61, 3) := by decide +kernel
theorem dX11_plainField_9 : decode cX11_plainField 9 = .ok (.getfield 109, 3) := by decide +kernel
theorem dX11_plainField_12 : decode cX11_plainField 12 = .ok (.if_icmp .lt 6, 3) := by decide +kernel
theorem dX11_plainField_15 : decode cX11_plainField 15 = .ok (.bipush (-2), 2) := by decide +kernel
theorem dX11_plainField_17 : decode cX11_plainField 17 = .ok (.ireturn, 1) := by decide +kernel
theorem dX11_plainField_18 : decode cX11_plainField 18 = .ok (.aload_n 0, 1) := by decide +kernel
theorem dX11_plainField_19 : decode cX11_plainField 19 = .ok (.getfield 18, 3) := by decide +kernel
theorem dX11_plainField_22 : decode cX11_plainField 22 = .ok (.invokevirtual 82, 3) := by decide +kernel
theorem dX11_plainField_25 : decode cX11_plainField 25 = .ok (.aload_n 0, 1) := by decide +kernel
theorem dX11_plainField_26 : decode cX11_plainField 26 = .ok (.getfield 61, 3) := by decide +kernel
theorem dX11_plainField_29 : decode cX11_plainField 29 = .ok (.aload_n 0, 1) := by decide +kernel
theorem dX11_plainField_30 : decode cX11_plainField 30 = .ok (.getfield 18, 3) := by decide +kernel
theorem dX11_plainField_33 : decode cX11_plainField 33 = .ok (.iload_n 1, 1) := by decide +kernel
theorem dX11_plainField_34 : decode cX11_plainField 34 = .ok (.iload_n 2, 1) := by decide +kernel
theorem dX11_plainField_35 : decode cX11_plainField 35 = .ok (.iconst 0, 1) := by decide +kernel
theorem dX11_plainField_36 : decode cX11_plainField 36 = .ok (.iconst 0, 1) := by decide +kernel
theorem dX11_plainField_37 : decode cX11_plainField 37 = .ok (.invokevirtual 129, 3) := by decide +kernel
theorem dX11_plainField_40 : decode cX11_plainField 40 = .ok (.aload_n 0, 1) := by decide +kernel
theorem dX11_plainField_41 : decode cX11_plainField 41 = .ok (.getfield 18, 3) := by decide +kernel
theorem dX11_plainField_44 : decode cX11_plainField 44 = .ok (.getfield 68, 3) := by decide +kernel
theorem dX11_plainField_47 : decode cX11_plainField 47 = .ok (.ireturn, 1) := by decide +kernel
theorem dX11_sealed_0 : decode cX11_sealed 0 = .ok (.iload_n 2, 1) := by decide +kernel
theorem dX11_sealed_1 : decode cX11_sealed 1 = .ok (.ifCond .ge 5, 3) := by decide +kernel
theorem dX11_sealed_4 : decode cX11_sealed 4 = .ok (.iconst (-1), 1) := by decide +kernel
theorem dX11_sealed_5 : decode cX11_sealed 5 = .ok (.ireturn, 1) := by decide +kernel
theorem dX11_sealed_6 : decode cX11_sealed 6 = .ok (.aload_n 0, 1) := by decide +kernel
theorem dX11_sealed_7 : decode cX11_sealed 7 = .ok (.getfield 61, 3) := by decide +kernel
theorem dX11_sealed_10 : decode cX11_sealed 10 = .ok (.ldc 112, 2) := by decide +kernel
theorem dX11_sealed_12 : decode cX11_sealed 12 = .ok (.iload_n 1, 1) := by decide +kernel
theorem dX11_sealed_13 : decode cX11_sealed 13 = .ok (.invokevirtual 118, 3) := by decide +kernel
theorem dX11_sealed_16 : decode cX11_sealed 16 = .ok (.istore_n 3, 1) := by decide +kernel
theorem dX11_sealed_17 : decode cX11_sealed 17 = .ok (.iload_n 3, 1) := by decide +kernel
theorem dX11_sealed_18 : decode cX11_sealed 18 = .ok (.ifCond .ge 8, 3) := by decide +kernel
theorem dX11_sealed_21 : decode cX11_sealed 21 = .ok (.bipush (-2), 2) := by decide +kernel
theorem dX11_sealed_23 : decode cX11_sealed 23 = .ok (.goto 16, 3) := by decide +kernel
theorem dX11_sealed_26 : decode cX11_sealed 26 = .ok (.aload_n 0, 1) := by decide +kernel
theorem dX11_sealed_27 : decode cX11_sealed 27 = .ok (.getfield 40, 3) := by decide +kernel
theorem dX11_sealed_30 : decode cX11_sealed 30 = .ok (.aload_n 0, 1) := by decide +kernel
theorem dX11_sealed_31 : decode cX11_sealed 31 = .ok (.getfield 61, 3) := by decide +kernel
theorem dX11_sealed_34 : decode cX11_sealed 34 = .ok (.iload_n 3, 1) := by decide +kernel
theorem dX11_sealed_35 : decode cX11_sealed 35 = .ok (.iload_n 2, 1) := by decide +kernel
theorem dX11_sealed_36 : decode cX11_sealed 36 = .ok (.invokevirtual 122, 3) := by decide +kernel
theorem dX11_sealed_39 : decode cX11_sealed 39 = .ok (.ireturn, 1) := by decide +kernel
theorem dX11_seals_0 : decode cX11_seals 0 = .ok (.aload_n 0, 1) := by decide +kernel
theorem dX11_seals_1 : decode cX11_seals 1 = .ok (.getfield 61, 3) := by decide +kernel
theorem dX11_seals_4 : decode cX11_seals 4 = .ok (.ldc 112, 2) := by decide +kernel
theorem dX11_seals_6 : decode cX11_seals 6 = .ok (.invokevirtual 114, 3) := by decide +kernel
theorem dX11_seals_9 : decode cX11_seals 9 = .ok (.ireturn, 1) := by decide +kernel
theorem dX11_sender_0 : decode cX11_sender 0 = .ok (.aload_n 0, 1) := by decide +kernel
theorem dX11_sender_1 : decode cX11_sender 1 = .ok (.getfield 33, 3) := by decide +kernel
theorem dX11_sender_4 : decode cX11_sender 4 = .ok (.iload_n 1, 1) := by decide +kernel
theorem dX11_sender_5 : decode cX11_sender 5 = .ok (.aload_n 0, 1) := by decide +kernel
theorem dX11_sender_6 : decode cX11_sender 6 = .ok (.getfield 14, 3) := by decide +kernel
theorem dX11_sender_9 : decode cX11_sender 9 = .ok (.invokevirtual 88, 3) := by decide +kernel
theorem dX11_sender_12 : decode cX11_sender 12 = .ok (.istore_n 2, 1) := by decide +kernel
theorem dX11_sender_13 : decode cX11_sender 13 = .ok (.aload_n 0, 1) := by decide +kernel
theorem dX11_sender_14 : decode cX11_sender 14 = .ok (.getfield 14, 3) := by decide +kernel
theorem dX11_sender_17 : decode cX11_sender 17 = .ok (.invokevirtual 82, 3) := by decide +kernel
theorem dX11_sender_20 : decode cX11_sender 20 = .ok (.iload_n 2, 1) := by decide +kernel
theorem dX11_sender_21 : decode cX11_sender 21 = .ok (.ifCond .eq 7, 3) := by decide +kernel
theorem dX11_sender_24 : decode cX11_sender 24 = .ok (.iconst 0, 1) := by decide +kernel
theorem dX11_sender_25 : decode cX11_sender 25 = .ok (.goto 4, 3) := by decide +kernel
theorem dX11_sender_28 : decode cX11_sender 28 = .ok (.iconst (-1), 1) := by decide +kernel
theorem dX11_sender_29 : decode cX11_sender 29 = .ok (.ireturn, 1) := by decide +kernel
theorem dX11_wish_0 : decode cX11_wish 0 = .ok (.aload_n 0, 1) := by decide +kernel
theorem dX11_wish_1 : decode cX11_wish 1 = .ok (.getfield 33, 3) := by decide +kernel
theorem dX11_wish_4 : decode cX11_wish 4 = .ok (.getfield 92, 3) := by decide +kernel
theorem dX11_wish_7 : decode cX11_wish 7 = .ok (.ifCond .eq 7, 3) := by decide +kernel
theorem dX11_wish_10 : decode cX11_wish 10 = .ok (.iload_n 1, 1) := by decide +kernel
theorem dX11_wish_11 : decode cX11_wish 11 = .ok (.ifCond .ge 5, 3) := by decide +kernel
theorem dX11_wish_14 : decode cX11_wish 14 = .ok (.iconst (-1), 1) := by decide +kernel
theorem dX11_wish_15 : decode cX11_wish 15 = .ok (.ireturn, 1) := by decide +kernel
theorem dX11_wish_16 : decode cX11_wish 16 = .ok (.aload_n 0, 1) := by decide +kernel
theorem dX11_wish_17 : decode cX11_wish 17 = .ok (.getfield 61, 3) := by decide +kernel
theorem dX11_wish_20 : decode cX11_wish 20 = .ok (.getfield 109, 3) := by decide +kernel
theorem dX11_wish_23 : decode cX11_wish 23 = .ok (.ifCond .ne 6, 3) := by decide +kernel
theorem dX11_wish_26 : decode cX11_wish 26 = .ok (.bipush (-2), 2) := by decide +kernel
theorem dX11_wish_28 : decode cX11_wish 28 = .ok (.ireturn, 1) := by decide +kernel
theorem dX11_wish_29 : decode cX11_wish 29 = .ok (.aload_n 0, 1) := by decide +kernel
theorem dX11_wish_30 : decode cX11_wish 30 = .ok (.getfield 47, 3) := by decide +kernel
theorem dX11_wish_33 : decode cX11_wish 33 = .ok (.aload_n 0, 1) := by decide +kernel
theorem dX11_wish_34 : decode cX11_wish 34 = .ok (.getfield 61, 3) := by decide +kernel
theorem dX11_wish_37 : decode cX11_wish 37 = .ok (.invokevirtual 145, 3) := by decide +kernel
theorem dX11_wish_40 : decode cX11_wish 40 = .ok (.istore_n 2, 1) := by decide +kernel
theorem dX11_wish_41 : decode cX11_wish 41 = .ok (.iload_n 2, 1) := by decide +kernel
theorem dX11_wish_42 : decode cX11_wish 42 = .ok (.iconst (-1), 1) := by decide +kernel
theorem dX11_wish_43 : decode cX11_wish 43 = .ok (.if_icmp .eq 5, 3) := by decide +kernel
theorem dX11_wish_46 : decode cX11_wish 46 = .ok (.iload_n 2, 1) := by decide +kernel
theorem dX11_wish_47 : decode cX11_wish 47 = .ok (.ireturn, 1) := by decide +kernel
theorem dX11_wish_48 : decode cX11_wish 48 = .ok (.aload_n 0, 1) := by decide +kernel
theorem dX11_wish_49 : decode cX11_wish 49 = .ok (.getfield 33, 3) := by decide +kernel
theorem dX11_wish_52 : decode cX11_wish 52 = .ok (.invokevirtual 96, 3) := by decide +kernel
theorem dX11_wish_55 : decode cX11_wish 55 = .ok (.iconst 2, 1) := by decide +kernel
theorem dX11_wish_56 : decode cX11_wish 56 = .ok (.if_icmp .ne 31, 3) := by decide +kernel
theorem dX11_wish_59 : decode cX11_wish 59 = .ok (.aload_n 0, 1) := by decide +kernel
theorem dX11_wish_60 : decode cX11_wish 60 = .ok (.getfield 47, 3) := by decide +kernel
theorem dX11_wish_63 : decode cX11_wish 63 = .ok (.aload_n 0, 1) := by decide +kernel
theorem dX11_wish_64 : decode cX11_wish 64 = .ok (.getfield 33, 3) := by decide +kernel
theorem dX11_wish_67 : decode cX11_wish 67 = .ok (.getfield 148, 3) := by decide +kernel
theorem dX11_wish_70 : decode cX11_wish 70 = .ok (.aload_n 0, 1) := by decide +kernel
theorem dX11_wish_71 : decode cX11_wish 71 = .ok (.getfield 47, 3) := by decide +kernel
theorem dX11_wish_74 : decode cX11_wish 74 = .ok (.getfield 151, 3) := by decide +kernel
theorem dX11_wish_77 : decode cX11_wish 77 = .ok (.invokevirtual 154, 3) := by decide +kernel
theorem dX11_wish_80 : decode cX11_wish 80 = .ok (.ifCond .eq 7, 3) := by decide +kernel
theorem dX11_wish_83 : decode cX11_wish 83 = .ok (.iconst 1, 1) := by decide +kernel
theorem dX11_wish_84 : decode cX11_wish 84 = .ok (.goto 4, 3) := by decide +kernel
theorem dX11_wish_87 : decode cX11_wish 87 = .ok (.iconst 0, 1) := by decide +kernel
theorem dX11_wish_88 : decode cX11_wish 88 = .ok (.istore_n 3, 1) := by decide +kernel
theorem dX11_wish_89 : decode cX11_wish 89 = .ok (.iload_n 3, 1) := by decide +kernel
theorem dX11_wish_90 : decode cX11_wish 90 = .ok (.ifCond .ne 11, 3) := by decide +kernel
theorem dX11_wish_93 : decode cX11_wish 93 = .ok (.aload_n 0, 1) := by decide +kernel
theorem dX11_wish_94 : decode cX11_wish 94 = .ok (.iload_n 1, 1) := by decide +kernel
theorem dX11_wish_95 : decode cX11_wish 95 = .ok (.invokevirtual 158, 3) := by decide +kernel
theorem dX11_wish_98 : decode cX11_wish 98 = .ok (.ifCond .eq 7, 3) := by decide +kernel
theorem dX11_wish_101 : decode cX11_wish 101 = .ok (.iconst 2, 1) := by decide +kernel
theorem dX11_wish_102 : decode cX11_wish 102 = .ok (.goto 10, 3) := by decide +kernel
theorem dX11_wish_105 : decode cX11_wish 105 = .ok (.aload_n 0, 1) := by decide +kernel
theorem dX11_wish_106 : decode cX11_wish 106 = .ok (.getfield 47, 3) := by decide +kernel
theorem dX11_wish_109 : decode cX11_wish 109 = .ok (.getfield 162, 3) := by decide +kernel
theorem dX11_wish_112 : decode cX11_wish 112 = .ok (.ireturn, 1) := by decide +kernel
theorem kt_206 : Cond.code yX0_addFour cX0_addFour 3 none ∈ tb := tb_at (i := 492) (by decide +kernel) (by decide +kernel)
theorem kt_207 : Cond.methodLink RX11 72 yX0_addFour ∈ tb := tb_at (i := 489) (by decide +kernel) (by decide +kernel)
theorem kt_208 : Cond.instanceMethod yX0_addFour ∈ tb := tb_at (i := 490) (by decide +kernel) (by decide +kernel)
theorem kt_209 : Cond.selects RX0 yX0_addFour yX0_addFour ∈ tb := tb_at (i := 491) (by decide +kernel) (by decide +kernel)
theorem kt_210 : Cond.code yX0_cut cX0_cut 2 none ∈ tb := tb_at (i := 504) (by decide +kernel) (by decide +kernel)
theorem kt_211 : Cond.methodLink RX11 75 yX0_cut ∈ tb := tb_at (i := 501) (by decide +kernel) (by decide +kernel)
theorem kt_212 : Cond.instanceMethod yX0_cut ∈ tb := tb_at (i := 502) (by decide +kernel) (by decide +kernel)
theorem kt_213 : Cond.selects RX0 yX0_cut yX0_cut ∈ tb := tb_at (i := 503) (by decide +kernel) (by decide +kernel)
theorem kt_214 : Cond.code yX2_take cX2_take 7 (some .int) ∈ tb := tb_at (i := 512) (by decide +kernel) (by decide +kernel)
theorem kt_215 : Cond.methodLink RX11 78 yX2_take ∈ tb := tb_at (i := 509) (by decide +kernel) (by decide +kernel)
theorem kt_216 : Cond.instanceMethod yX2_take ∈ tb := tb_at (i := 510) (by decide +kernel) (by decide +kernel)
theorem kt_217 : Cond.selects RX2 yX2_take yX2_take ∈ tb := tb_at (i := 511) (by decide +kernel) (by decide +kernel)
theorem kt_218 : Cond.methodLink RX11 82 yX0_clear ∈ tb := tb_at (i := 551) (by decide +kernel) (by decide +kernel)
theorem kt_219 : Cond.code yX2_clear cX2_clear 2 (some .int) ∈ tb := tb_at (i := 559) (by decide +kernel) (by decide +kernel)
theorem kt_220 : Cond.methodLink RX11 85 yX2_clear ∈ tb := tb_at (i := 556) (by decide +kernel) (by decide +kernel)
theorem kt_221 : Cond.instanceMethod yX2_clear ∈ tb := tb_at (i := 557) (by decide +kernel) (by decide +kernel)
theorem kt_222 : Cond.selects RX2 yX2_clear yX2_clear ∈ tb := tb_at (i := 558) (by decide +kernel) (by decide +kernel)
theorem kt_223 : Cond.code yX1_takeSender cX1_takeSender 4 (some .boolean) ∈ tb := tb_at (i := 567) (by decide +kernel) (by decide +kernel)
theorem kt_224 : Cond.methodLink RX11 88 yX1_takeSender ∈ tb := tb_at (i := 564) (by decide +kernel) (by decide +kernel)
theorem kt_225 : Cond.instanceMethod yX1_takeSender ∈ tb := tb_at (i := 565) (by decide +kernel) (by decide +kernel)
theorem kt_226 : Cond.selects RX1 yX1_takeSender yX1_takeSender ∈ tb := tb_at (i := 566) (by decide +kernel) (by decide +kernel)
theorem kt_227 : Cond.code yX4_read cX4_read 5 (some .boolean) ∈ tb := tb_at (i := 798) (by decide +kernel) (by decide +kernel)
theorem kt_228 : Cond.methodLink RX11 105 yX4_read ∈ tb := tb_at (i := 795) (by decide +kernel) (by decide +kernel)
theorem kt_229 : Cond.instanceMethod yX4_read ∈ tb := tb_at (i := 796) (by decide +kernel) (by decide +kernel)
theorem kt_230 : Cond.selects RX4 yX4_read yX4_read ∈ tb := tb_at (i := 797) (by decide +kernel) (by decide +kernel)
theorem kt_231 : Cond.code yX4_countOf cX4_countOf 4 (some .int) ∈ tb := tb_at (i := 826) (by decide +kernel) (by decide +kernel)
theorem kt_232 : Cond.methodLink RX11 114 yX4_countOf ∈ tb := tb_at (i := 823) (by decide +kernel) (by decide +kernel)
theorem kt_233 : Cond.instanceMethod yX4_countOf ∈ tb := tb_at (i := 824) (by decide +kernel) (by decide +kernel)
theorem kt_234 : Cond.selects RX4 yX4_countOf yX4_countOf ∈ tb := tb_at (i := 825) (by decide +kernel) (by decide +kernel)
theorem kt_235 : Cond.code yX4_fieldOf cX4_fieldOf 5 (some .int) ∈ tb := tb_at (i := 841) (by decide +kernel) (by decide +kernel)
theorem kt_236 : Cond.methodLink RX11 118 yX4_fieldOf ∈ tb := tb_at (i := 838) (by decide +kernel) (by decide +kernel)
theorem kt_237 : Cond.instanceMethod yX4_fieldOf ∈ tb := tb_at (i := 839) (by decide +kernel) (by decide +kernel)
theorem kt_238 : Cond.selects RX4 yX4_fieldOf yX4_fieldOf ∈ tb := tb_at (i := 840) (by decide +kernel) (by decide +kernel)
theorem kt_239 : Cond.methodLink RX11 133 yX0_isName ∈ tb := tb_at (i := 1097) (by decide +kernel) (by decide +kernel)
theorem kn_9 : Cond.fieldLinkNest RX11 68 "PostGate$Bytes" "size" "I" "PostGate" ∈ nw := nw_at (i := 41) (by decide +kernel) rfl
theorem kn_10 : Cond.fieldLinkNest RX11 92 "PostGate$Checker" "isReady" "Z" "PostGate" ∈ nw := nw_at (i := 151) (by decide +kernel) rfl
theorem kn_11 : Cond.fieldLinkNest RX11 99 "PostGate$Checker" "counted" "I" "PostGate" ∈ nw := nw_at (i := 153) (by decide +kernel) rfl
theorem kn_12 : Cond.fieldLinkNest RX11 102 "PostGate$Checker" "voids" "I" "PostGate" ∈ nw := nw_at (i := 155) (by decide +kernel) rfl
theorem kn_13 : Cond.fieldLinkNest RX11 109 "PostGate$Message" "count" "I" "PostGate" ∈ nw := nw_at (i := 361) (by decide +kernel) rfl
set_option maxHeartbeats 4000000 in
set_option maxRecDepth 100000 in
theorem c_X11_feed (l : Launch) (dC : Nat → ClassId) (dI : Nat → Nat → Nat) (sz : Nat) (h0 : Nat) (ta : Nat) (oa : Nat) (da : Nat) (ka : Nat) (ea : Nat) (pa : Nat) (ha : Nat) (la : Nat) (sa : Nat) (tr : Nat) (ct : ClassId) (x1 : Int32) (x2 : Int32) (x3 : Int32) (x4 : Int32) (x5 : Int32) : Met l yX11_feed (.code yX11_feed cX11_feed 6 (some .int) :: tb) ({ frames := 2, cells := 0, slots := 0, locals := 43 }) (va_Pc [.ref h0, .int x1, .int x2, .int x3, .int x4, .int x5] (PW (dC, dI) sz [(h0, .inr (11, [.ref ta, .ref oa, .ref da, .ref ka, .ref ea, .ref pa, .ref ha, .ref la, .ref sa])), (ta, .inr (0, [.ref tr, .int 0, .int 0])), (tr, .inl (ct, 3000, .inl (fun _ => 0)))] [(ct, .int)])) (va_Qi (fun (r : Int32) (_ : Unit) => r = 20) (fun _ T9 => QW (dC, dI) (va_A [(h0, .inr (11, [.ref ta, .ref oa, .ref da, .ref ka, .ref ea, .ref pa, .ref ha, .ref la, .ref sa])), (ta, .inr (0, [.ref tr, .int 0, .int 0])), (tr, .inl (ct, 3000, .inl (fun _ => 0)))] sz) [] [] T9) (va_A [(h0, .inr (11, [.ref ta, .ref oa, .ref da, .ref ka, .ref ea, .ref pa, .ref ha, .ref la, .ref sa])), (ta, .inr (0, [.ref tr, .int 0, .int 0])), (tr, .inl (ct, 3000, .inl (fun _ => 0)))] sz)) 0 0 (va_A [(h0, .inr (11, [.ref ta, .ref oa, .ref da, .ref ka, .ref ea, .ref pa, .ref ha, .ref la, .ref sa])), (ta, .inr (0, [.ref tr, .int 0, .int 0])), (tr, .inl (ct, 3000, .inl (fun _ => 0)))] sz) := by
  refine Met.ofW (cc := cX11_feed) (maxL := 6) (ret := (some .int)) (by decide) rfl ?_
  intro p e s m args below meth c s₁ B hml hv
  obtain ⟨rfl, hsz, hP, hK, hD0, hE⟩ := hv
  have hx := B.exec
  have hb := B.bytes
  have hr := B.returns
  have hts : ∀ w ∈ tb, w.before _ s = true := fun w h => atoms_spec (ws := .code yX11_feed cX11_feed 6 (some .int) :: tb) B.pre w (List.mem_cons_of_mem _ h)
  have hown : s.vm.findClass RX11 = some m.cls := findClass_of_methodNamed B.named
  have hlocks := B.notSynchronized
  subst hsz
  have hD := hD0.self (sz := s.heap.size)
  generalize hAe : va_A [(h0, .inr (11, [.ref ta, .ref oa, .ref da, .ref ka, .ref ea, .ref pa, .ref ha, .ref la, .ref sa])), (ta, .inr (0, [.ref tr, .int 0, .int 0])), (tr, .inl (ct, 3000, .inl (fun _ => 0)))] s.heap.size = A at hD ⊢
  have hA : ∀ q : Nat, s.heap.size ≤ q → A q := fun q h => by rw [← hAe]; exact Or.inr h
  have hS : va_S A s.heap s.heap [] := va_S.rf
  have hP : va_P (dC, dI) vwCl [(h0, .inr (11, [.ref ta, .ref oa, .ref da, .ref ka, .ref ea, .ref pa, .ref ha, .ref la, .ref sa])), (ta, .inr (0, [.ref tr, .int 0, .int 0])), (tr, .inl (ct, 3000, .inl (fun _ => 0)))] s.heap := hP
  have hl := lv_entry ([.ref h0, .int x1, .int x2, .int x3, .int x4, .int x5]) (n := 6) (Nat.le_of_ble_eq_true rfl)
  rw [lg_entry_eq]
  generalize (lg_sl ([.ref h0, .int x1, .int x2, .int x3, .int x4, .int x5]) ++ List.replicate (6 - (lg_sl ([.ref h0, .int x1, .int x2, .int x3, .int x4, .int x5])).length) Slot.unset).toArray = ls at hl ⊢
  have hl : lv_has ls 6 [(0, .ref h0), (1, .int x1), (2, .int x2), (3, .int x3), (4, .int x4), (5, .int x5)] := hl
  refine lv_aload_n hx hb dX11_feed_0 rfl (lv_at hl 0 rfl) ?_
  refine va_get (D := (dC, dI)) (ci := 11) (v := .ref ta) (C := RX11) (T := TX11) (N := 9) hx hb hts it_11 hown hK hP 0 rfl rfl 0 (by decide) (hts _ kt_132) (fun _ h9 => h9) rfl dX11_feed_1 ?_
  refine va_getN (D := (dC, dI)) (ci := 0) (v := .int 0) (C := RX0) (T := TX0) (N := 3) hx hb hts it_0 hown hK hP 1 rfl rfl 1 (by decide) (hE.nest kn_9) (fun _ h9 => h9) rfl dX11_feed_4 ?_
  refine lv_bipush (v := 20) hx hb dX11_feed_7 (by decide) ?_
  refine lv_iadd hx hb dX11_feed_9 ?_
  refine lv_topi (fun x_1 ex_1 => ?_)
  obtain rfl : x_1 = 20 := ex_1.trans (by decide)
  refine lv_sipush (v := 3000) hx hb dX11_feed_10 (by decide) ?_
  refine lv_icmp_le (tgt := 19) hx hb dX11_feed_13 (by decide) (fun c_2 => ?_) (fun c_2 => absurd (by decide) c_2)
  refine lv_aload_n hx hb dX11_feed_19 rfl (lv_at hl 0 rfl) ?_
  refine va_get (D := (dC, dI)) (ci := 11) (v := .ref ta) (C := RX11) (T := TX11) (N := 9) hx hb hts it_11 hown hK hP 0 rfl rfl 0 (by decide) (hts _ kt_132) (fun _ h9 => h9) rfl dX11_feed_20 ?_
  refine lv_iload_n hx hb dX11_feed_23 rfl (lv_at hl 1 rfl) ?_
  have hP : va_P (dC, dI) vwCl [(h0, .inr (11, [.ref ta, .ref oa, .ref da, .ref ka, .ref ea, .ref pa, .ref ha, .ref la, .ref sa])), (ta, .inr (0, [.ref tr, .int (nI 0), .int 0])), (tr, .inl (ct, 3000, .inl (fun _ => 0)))] s.heap := hP
  have hD : va_D A [(h0, .inr (11, [.ref ta, .ref oa, .ref da, .ref ka, .ref ea, .ref pa, .ref ha, .ref la, .ref sa])), (ta, .inr (0, [.ref tr, .int (nI 0), .int 0])), (tr, .inl (ct, 3000, .inl (fun _ => 0)))] := hD
  have hPc := hP.sub (ws' := [(ta, .inr (0, [.ref tr, .int (nI 0), .int 0])), (tr, .inl (ct, 3000, .inl (fun _ => 0)))]) [1, 2] rfl
  have hDc := hD.sub (ws' := [(ta, .inr (0, [.ref tr, .int (nI 0), .int 0])), (tr, .inl (ct, 3000, .inl (fun _ => 0)))]) [1, 2] (by decide) rfl
  have hKc := hK.sub (tys' := [(ct, .int)]) [0] rfl
  have hFc := va_free (wc := [(ta, .inr (0, [.ref tr, .int (nI 0), .int 0])), (tr, .inl (ct, 3000, .inl (fun _ => 0)))]) hD hS hA [1, 2] rfl
  refine va_callv (va_runV (As := [.int x1]) (rest := []) ⟨hx, hb, hml, hown, hts⟩ (c_X0_addFour l dC dI s.heap.size ta tr 0 ct (fun _ => 0) x1 (by omega)) ⟨callB_of 1 hts (gi kt_206) rfl rfl rfl (hts _ kt_10) (hts _ kt_207) (by decide +kernel) ⟨Nat.le_of_ble_eq_true rfl, Nat.le_of_ble_eq_true rfl⟩, (hts _ kt_208), (hts _ kt_209)⟩ ⟨fun a U g mk q => ⟨q.1, PW.calling q.2⟩, va_recv hKc hPc (ci := 0) (q0 := 0) rfl rfl, fun U hU hW => ⟨rfl, PW.mk hU hW hPc hKc hDc hE⟩⟩ rfl rfl hl.1 rfl (lv_room (Nat.le_of_ble_eq_true rfl)) dX11_feed_24 ⟨by show _ + 0 ≤ 0; omega, by show _ + 0 ≤ 0; omega⟩) hS (fun q _ h => hFc q h) hFc (fun u t H1 locs ht hvm hw hB hz1 hk1 hS => ?_)
  obtain ⟨f2_4, hB1⟩ := hB
  obtain ⟨hP, hD, hK⟩ := QW.join (wr := [(h0, .inr (11, [.ref ta, .ref oa, .ref da, .ref ka, .ref ea, .ref pa, .ref ha, .ref la, .ref sa]))]) hP hD hK [1, 2] [0] rfl rfl (by decide) (by decide) hk1 hFc ht hvm hB1
  generalize H1 = H at hP hS ⊢
  have hK : va_K (dC, dI) vwCl [(ct, .int)] s := hK.sub [0] rfl
  have hP : va_P (dC, dI) vwCl [(h0, .inr (11, [.ref ta, .ref oa, .ref da, .ref ka, .ref ea, .ref pa, .ref ha, .ref la, .ref sa])), (ta, .inr (0, [.ref tr, .int (nI 4), .int 0])), (tr, .inl (ct, 3000, .inl f2_4))] H := hP
  have hD : va_D A [(h0, .inr (11, [.ref ta, .ref oa, .ref da, .ref ka, .ref ea, .ref pa, .ref ha, .ref la, .ref sa])), (ta, .inr (0, [.ref tr, .int (nI 4), .int 0])), (tr, .inl (ct, 3000, .inl f2_4))] := hD
  refine lv_aload_n hx hb dX11_feed_27 rfl (lv_at hl 0 rfl) ?_
  refine va_get (D := (dC, dI)) (ci := 11) (v := .ref ta) (C := RX11) (T := TX11) (N := 9) hx hb hts it_11 hown hK hP 0 rfl rfl 0 (by decide) (hts _ kt_132) (fun _ h9 => h9) rfl dX11_feed_28 ?_
  refine lv_iload_n hx hb dX11_feed_31 rfl (lv_at hl 2 rfl) ?_
  have hPc := hP.sub (ws' := [(ta, .inr (0, [.ref tr, .int (nI 4), .int 0])), (tr, .inl (ct, 3000, .inl f2_4))]) [1, 2] rfl
  have hDc := hD.sub (ws' := [(ta, .inr (0, [.ref tr, .int (nI 4), .int 0])), (tr, .inl (ct, 3000, .inl f2_4))]) [1, 2] (by decide) rfl
  have hKc := hK.sub (tys' := [(ct, .int)]) [0] rfl
  have hFc := va_free (wc := [(ta, .inr (0, [.ref tr, .int (nI 4), .int 0])), (tr, .inl (ct, 3000, .inl f2_4))]) hD hS hA [1, 2] rfl
  refine va_callv (va_runV (As := [.int x2]) (rest := []) ⟨hx, hb, hml, hown, hts⟩ (c_X0_addFour l dC dI H.size ta tr 4 ct f2_4 x2 (by omega)) ⟨callB_of 1 hts (gi kt_206) rfl rfl rfl (hts _ kt_10) (hts _ kt_207) (by decide +kernel) ⟨Nat.le_of_ble_eq_true rfl, Nat.le_of_ble_eq_true rfl⟩, (hts _ kt_208), (hts _ kt_209)⟩ ⟨fun a U g mk q => ⟨q.1, PW.calling q.2⟩, va_recv hKc hPc (ci := 0) (q0 := 0) rfl rfl, fun U hU hW => ⟨rfl, PW.mk hU hW hPc hKc hDc hE⟩⟩ rfl rfl hl.1 rfl (lv_room (Nat.le_of_ble_eq_true rfl)) dX11_feed_32 ⟨by show _ + 0 ≤ 0; omega, by show _ + 0 ≤ 0; omega⟩) hS (fun q _ h => hFc q h) hFc (fun u t H1 locs ht hvm hw hB hz1 hk1 hS => ?_)
  obtain ⟨f2_6, hB1⟩ := hB
  obtain ⟨hP, hD, hK⟩ := QW.join (wr := [(h0, .inr (11, [.ref ta, .ref oa, .ref da, .ref ka, .ref ea, .ref pa, .ref ha, .ref la, .ref sa]))]) hP hD hK [1, 2] [0] rfl rfl (by decide) (by decide) hk1 hFc ht hvm hB1
  generalize H1 = H at hP hS ⊢
  have hK : va_K (dC, dI) vwCl [(ct, .int)] s := hK.sub [0] rfl
  have hP : va_P (dC, dI) vwCl [(h0, .inr (11, [.ref ta, .ref oa, .ref da, .ref ka, .ref ea, .ref pa, .ref ha, .ref la, .ref sa])), (ta, .inr (0, [.ref tr, .int (nI 8), .int 0])), (tr, .inl (ct, 3000, .inl f2_6))] H := hP
  have hD : va_D A [(h0, .inr (11, [.ref ta, .ref oa, .ref da, .ref ka, .ref ea, .ref pa, .ref ha, .ref la, .ref sa])), (ta, .inr (0, [.ref tr, .int (nI 8), .int 0])), (tr, .inl (ct, 3000, .inl f2_6))] := hD
  refine lv_aload_n hx hb dX11_feed_35 rfl (lv_at hl 0 rfl) ?_
  refine va_get (D := (dC, dI)) (ci := 11) (v := .ref ta) (C := RX11) (T := TX11) (N := 9) hx hb hts it_11 hown hK hP 0 rfl rfl 0 (by decide) (hts _ kt_132) (fun _ h9 => h9) rfl dX11_feed_36 ?_
  refine lv_iload_n hx hb dX11_feed_39 rfl (lv_at hl 3 rfl) ?_
  have hPc := hP.sub (ws' := [(ta, .inr (0, [.ref tr, .int (nI 8), .int 0])), (tr, .inl (ct, 3000, .inl f2_6))]) [1, 2] rfl
  have hDc := hD.sub (ws' := [(ta, .inr (0, [.ref tr, .int (nI 8), .int 0])), (tr, .inl (ct, 3000, .inl f2_6))]) [1, 2] (by decide) rfl
  have hKc := hK.sub (tys' := [(ct, .int)]) [0] rfl
  have hFc := va_free (wc := [(ta, .inr (0, [.ref tr, .int (nI 8), .int 0])), (tr, .inl (ct, 3000, .inl f2_6))]) hD hS hA [1, 2] rfl
  refine va_callv (va_runV (As := [.int x3]) (rest := []) ⟨hx, hb, hml, hown, hts⟩ (c_X0_addFour l dC dI H.size ta tr 8 ct f2_6 x3 (by omega)) ⟨callB_of 1 hts (gi kt_206) rfl rfl rfl (hts _ kt_10) (hts _ kt_207) (by decide +kernel) ⟨Nat.le_of_ble_eq_true rfl, Nat.le_of_ble_eq_true rfl⟩, (hts _ kt_208), (hts _ kt_209)⟩ ⟨fun a U g mk q => ⟨q.1, PW.calling q.2⟩, va_recv hKc hPc (ci := 0) (q0 := 0) rfl rfl, fun U hU hW => ⟨rfl, PW.mk hU hW hPc hKc hDc hE⟩⟩ rfl rfl hl.1 rfl (lv_room (Nat.le_of_ble_eq_true rfl)) dX11_feed_40 ⟨by show _ + 0 ≤ 0; omega, by show _ + 0 ≤ 0; omega⟩) hS (fun q _ h => hFc q h) hFc (fun u t H1 locs ht hvm hw hB hz1 hk1 hS => ?_)
  obtain ⟨f2_8, hB1⟩ := hB
  obtain ⟨hP, hD, hK⟩ := QW.join (wr := [(h0, .inr (11, [.ref ta, .ref oa, .ref da, .ref ka, .ref ea, .ref pa, .ref ha, .ref la, .ref sa]))]) hP hD hK [1, 2] [0] rfl rfl (by decide) (by decide) hk1 hFc ht hvm hB1
  generalize H1 = H at hP hS ⊢
  have hK : va_K (dC, dI) vwCl [(ct, .int)] s := hK.sub [0] rfl
  have hP : va_P (dC, dI) vwCl [(h0, .inr (11, [.ref ta, .ref oa, .ref da, .ref ka, .ref ea, .ref pa, .ref ha, .ref la, .ref sa])), (ta, .inr (0, [.ref tr, .int (nI 12), .int 0])), (tr, .inl (ct, 3000, .inl f2_8))] H := hP
  have hD : va_D A [(h0, .inr (11, [.ref ta, .ref oa, .ref da, .ref ka, .ref ea, .ref pa, .ref ha, .ref la, .ref sa])), (ta, .inr (0, [.ref tr, .int (nI 12), .int 0])), (tr, .inl (ct, 3000, .inl f2_8))] := hD
  refine lv_aload_n hx hb dX11_feed_43 rfl (lv_at hl 0 rfl) ?_
  refine va_get (D := (dC, dI)) (ci := 11) (v := .ref ta) (C := RX11) (T := TX11) (N := 9) hx hb hts it_11 hown hK hP 0 rfl rfl 0 (by decide) (hts _ kt_132) (fun _ h9 => h9) rfl dX11_feed_44 ?_
  refine lv_iload hx hb dX11_feed_47 (lv_at hl 4 rfl) ?_
  have hPc := hP.sub (ws' := [(ta, .inr (0, [.ref tr, .int (nI 12), .int 0])), (tr, .inl (ct, 3000, .inl f2_8))]) [1, 2] rfl
  have hDc := hD.sub (ws' := [(ta, .inr (0, [.ref tr, .int (nI 12), .int 0])), (tr, .inl (ct, 3000, .inl f2_8))]) [1, 2] (by decide) rfl
  have hKc := hK.sub (tys' := [(ct, .int)]) [0] rfl
  have hFc := va_free (wc := [(ta, .inr (0, [.ref tr, .int (nI 12), .int 0])), (tr, .inl (ct, 3000, .inl f2_8))]) hD hS hA [1, 2] rfl
  refine va_callv (va_runV (As := [.int x4]) (rest := []) ⟨hx, hb, hml, hown, hts⟩ (c_X0_addFour l dC dI H.size ta tr 12 ct f2_8 x4 (by omega)) ⟨callB_of 1 hts (gi kt_206) rfl rfl rfl (hts _ kt_10) (hts _ kt_207) (by decide +kernel) ⟨Nat.le_of_ble_eq_true rfl, Nat.le_of_ble_eq_true rfl⟩, (hts _ kt_208), (hts _ kt_209)⟩ ⟨fun a U g mk q => ⟨q.1, PW.calling q.2⟩, va_recv hKc hPc (ci := 0) (q0 := 0) rfl rfl, fun U hU hW => ⟨rfl, PW.mk hU hW hPc hKc hDc hE⟩⟩ rfl rfl hl.1 rfl (lv_room (Nat.le_of_ble_eq_true rfl)) dX11_feed_49 ⟨by show _ + 0 ≤ 0; omega, by show _ + 0 ≤ 0; omega⟩) hS (fun q _ h => hFc q h) hFc (fun u t H1 locs ht hvm hw hB hz1 hk1 hS => ?_)
  obtain ⟨f2_10, hB1⟩ := hB
  obtain ⟨hP, hD, hK⟩ := QW.join (wr := [(h0, .inr (11, [.ref ta, .ref oa, .ref da, .ref ka, .ref ea, .ref pa, .ref ha, .ref la, .ref sa]))]) hP hD hK [1, 2] [0] rfl rfl (by decide) (by decide) hk1 hFc ht hvm hB1
  generalize H1 = H at hP hS ⊢
  have hK : va_K (dC, dI) vwCl [(ct, .int)] s := hK.sub [0] rfl
  have hP : va_P (dC, dI) vwCl [(h0, .inr (11, [.ref ta, .ref oa, .ref da, .ref ka, .ref ea, .ref pa, .ref ha, .ref la, .ref sa])), (ta, .inr (0, [.ref tr, .int (nI 16), .int 0])), (tr, .inl (ct, 3000, .inl f2_10))] H := hP
  have hD : va_D A [(h0, .inr (11, [.ref ta, .ref oa, .ref da, .ref ka, .ref ea, .ref pa, .ref ha, .ref la, .ref sa])), (ta, .inr (0, [.ref tr, .int (nI 16), .int 0])), (tr, .inl (ct, 3000, .inl f2_10))] := hD
  refine lv_aload_n hx hb dX11_feed_52 rfl (lv_at hl 0 rfl) ?_
  refine va_get (D := (dC, dI)) (ci := 11) (v := .ref ta) (C := RX11) (T := TX11) (N := 9) hx hb hts it_11 hown hK hP 0 rfl rfl 0 (by decide) (hts _ kt_132) (fun _ h9 => h9) rfl dX11_feed_53 ?_
  refine lv_iload hx hb dX11_feed_56 (lv_at hl 5 rfl) ?_
  have hPc := hP.sub (ws' := [(ta, .inr (0, [.ref tr, .int (nI 16), .int 0])), (tr, .inl (ct, 3000, .inl f2_10))]) [1, 2] rfl
  have hDc := hD.sub (ws' := [(ta, .inr (0, [.ref tr, .int (nI 16), .int 0])), (tr, .inl (ct, 3000, .inl f2_10))]) [1, 2] (by decide) rfl
  have hKc := hK.sub (tys' := [(ct, .int)]) [0] rfl
  have hFc := va_free (wc := [(ta, .inr (0, [.ref tr, .int (nI 16), .int 0])), (tr, .inl (ct, 3000, .inl f2_10))]) hD hS hA [1, 2] rfl
  refine va_callv (va_runV (As := [.int x5]) (rest := []) ⟨hx, hb, hml, hown, hts⟩ (c_X0_addFour l dC dI H.size ta tr 16 ct f2_10 x5 (by omega)) ⟨callB_of 1 hts (gi kt_206) rfl rfl rfl (hts _ kt_10) (hts _ kt_207) (by decide +kernel) ⟨Nat.le_of_ble_eq_true rfl, Nat.le_of_ble_eq_true rfl⟩, (hts _ kt_208), (hts _ kt_209)⟩ ⟨fun a U g mk q => ⟨q.1, PW.calling q.2⟩, va_recv hKc hPc (ci := 0) (q0 := 0) rfl rfl, fun U hU hW => ⟨rfl, PW.mk hU hW hPc hKc hDc hE⟩⟩ rfl rfl hl.1 rfl (lv_room (Nat.le_of_ble_eq_true rfl)) dX11_feed_58 ⟨by show _ + 0 ≤ 0; omega, by show _ + 0 ≤ 0; omega⟩) hS (fun q _ h => hFc q h) hFc (fun u t H1 locs ht hvm hw hB hz1 hk1 hS => ?_)
  obtain ⟨f2_12, hB1⟩ := hB
  obtain ⟨hP, hD, hK⟩ := QW.join (wr := [(h0, .inr (11, [.ref ta, .ref oa, .ref da, .ref ka, .ref ea, .ref pa, .ref ha, .ref la, .ref sa]))]) hP hD hK [1, 2] [0] rfl rfl (by decide) (by decide) hk1 hFc ht hvm hB1
  generalize H1 = H at hP hS ⊢
  have hK : va_K (dC, dI) vwCl [(ct, .int)] s := hK.sub [0] rfl
  have hP : va_P (dC, dI) vwCl [(h0, .inr (11, [.ref ta, .ref oa, .ref da, .ref ka, .ref ea, .ref pa, .ref ha, .ref la, .ref sa])), (ta, .inr (0, [.ref tr, .int (nI 20), .int 0])), (tr, .inl (ct, 3000, .inl f2_12))] H := hP
  have hD : va_D A [(h0, .inr (11, [.ref ta, .ref oa, .ref da, .ref ka, .ref ea, .ref pa, .ref ha, .ref la, .ref sa])), (ta, .inr (0, [.ref tr, .int (nI 20), .int 0])), (tr, .inl (ct, 3000, .inl f2_12))] := hD
  refine lv_aload_n hx hb dX11_feed_61 rfl (lv_at hl 0 rfl) ?_
  refine va_get (D := (dC, dI)) (ci := 11) (v := .ref ta) (C := RX11) (T := TX11) (N := 9) hx hb hts it_11 hown hK hP 0 rfl rfl 0 (by decide) (hts _ kt_132) (fun _ h9 => h9) rfl dX11_feed_62 ?_
  refine va_getN (D := (dC, dI)) (ci := 0) (v := .int (nI 20)) (C := RX0) (T := TX0) (N := 3) hx hb hts it_0 hown hK hP 1 rfl rfl 1 (by decide) (hE.nest kn_9) (fun _ h9 => h9) rfl dX11_feed_65 ?_
  have hP9 := hP.sub (ws' := []) [] rfl
  have hD9 := hD.sub (ws' := []) [] (by decide) rfl
  have hK9 := hK.sub (tys' := []) [] rfl
  refine W.widen (k := 0) (n := 0) (by omega) (by omega) ?_
  exact W.iret (v := (nI 20)) hx hb hr (fun t ht hW => ⟨⟨(nI 20), (), rfl, rfl, QW.mk ht hW hP9 hK9 hD9⟩, hS.F ht⟩) hS.2.2 dX11_feed_68
set_option maxHeartbeats 4000000 in
set_option maxRecDepth 100000 in
theorem c_X11_end (l : Launch) (dC : Nat → ClassId) (dI : Nat → Nat → Nat) (sz : Nat) (h0 : Nat) (ta : Nat) (oa : Nat) (da : Nat) (ka : Nat) (ea : Nat) (pa : Nat) (ha : Nat) (la : Nat) (sa : Nat) (tr : Nat) (x1 : Int32) : Met l yX11_end (.code yX11_end cX11_end 2 (some .int) :: tb) ({ frames := 1, cells := 0, slots := 0, locals := 21 }) (va_Pc [.ref h0, .int x1] (PW (dC, dI) sz [(h0, .inr (11, [.ref ta, .ref oa, .ref da, .ref ka, .ref ea, .ref pa, .ref ha, .ref la, .ref sa])), (ta, .inr (0, [.ref tr, .int 0, .int 0]))] [])) (va_Qi (fun (r : Int32) (_ : Unit) => r = (if x1 = 0 then 0 else (-1))) (fun _ T9 => QW (dC, dI) (va_A [(h0, .inr (11, [.ref ta, .ref oa, .ref da, .ref ka, .ref ea, .ref pa, .ref ha, .ref la, .ref sa])), (ta, .inr (0, [.ref tr, .int 0, .int 0]))] sz) [] [] T9) (va_A [(h0, .inr (11, [.ref ta, .ref oa, .ref da, .ref ka, .ref ea, .ref pa, .ref ha, .ref la, .ref sa])), (ta, .inr (0, [.ref tr, .int 0, .int 0]))] sz)) 0 0 (va_A [(h0, .inr (11, [.ref ta, .ref oa, .ref da, .ref ka, .ref ea, .ref pa, .ref ha, .ref la, .ref sa])), (ta, .inr (0, [.ref tr, .int 0, .int 0]))] sz) := by
  refine Met.ofW (cc := cX11_end) (maxL := 2) (ret := (some .int)) (by decide) rfl ?_
  intro p e s m args below meth c s₁ B hml hv
  obtain ⟨rfl, hsz, hP, hK, hD0, hE⟩ := hv
  have hx := B.exec
  have hb := B.bytes
  have hr := B.returns
  have hts : ∀ w ∈ tb, w.before _ s = true := fun w h => atoms_spec (ws := .code yX11_end cX11_end 2 (some .int) :: tb) B.pre w (List.mem_cons_of_mem _ h)
  have hown : s.vm.findClass RX11 = some m.cls := findClass_of_methodNamed B.named
  have hlocks := B.notSynchronized
  subst hsz
  have hD := hD0.self (sz := s.heap.size)
  generalize hAe : va_A [(h0, .inr (11, [.ref ta, .ref oa, .ref da, .ref ka, .ref ea, .ref pa, .ref ha, .ref la, .ref sa])), (ta, .inr (0, [.ref tr, .int 0, .int 0]))] s.heap.size = A at hD ⊢
  have hA : ∀ q : Nat, s.heap.size ≤ q → A q := fun q h => by rw [← hAe]; exact Or.inr h
  have hS : va_S A s.heap s.heap [] := va_S.rf
  have hP : va_P (dC, dI) vwCl [(h0, .inr (11, [.ref ta, .ref oa, .ref da, .ref ka, .ref ea, .ref pa, .ref ha, .ref la, .ref sa])), (ta, .inr (0, [.ref tr, .int 0, .int 0]))] s.heap := hP
  have hl := lv_entry ([.ref h0, .int x1]) (n := 2) (Nat.le_of_ble_eq_true rfl)
  rw [lg_entry_eq]
  generalize (lg_sl ([.ref h0, .int x1]) ++ List.replicate (2 - (lg_sl ([.ref h0, .int x1])).length) Slot.unset).toArray = ls at hl ⊢
  have hl : lv_has ls 2 [(0, .ref h0), (1, .int x1)] := hl
  refine lv_iload_n hx hb dX11_end_0 rfl (lv_at hl 1 rfl) ?_
  refine lv_if_lt (tgt := 15) hx hb dX11_end_1 (by decide) (fun c_1 => ?_) (fun c_1 => ?_)
  ·
    refine lv_iconst (v := (-1)) hx hb dX11_end_15 (by decide) ?_
    have hP9 := hP.sub (ws' := []) [] rfl
    have hD9 := hD.sub (ws' := []) [] (by decide) rfl
    have hK9 := hK.sub (tys' := []) [] rfl
    refine W.widen (k := 0) (n := 0) (by omega) (by omega) ?_
    exact W.iret (v := (-1)) hx hb hr (fun t ht hW => ⟨⟨(-1), (), rfl, (by rw [if_neg (fun h => absurd c_1 (by rw [h]; decide))]), QW.mk ht hW hP9 hK9 hD9⟩, hS.F ht⟩) hS.2.2 dX11_end_16
  ·
    refine lv_iload_n hx hb dX11_end_4 rfl (lv_at hl 1 rfl) ?_
    refine lv_aload_n hx hb dX11_end_5 rfl (lv_at hl 0 rfl) ?_
    refine va_get (D := (dC, dI)) (ci := 11) (v := .ref ta) (C := RX11) (T := TX11) (N := 9) hx hb hts it_11 hown hK hP 0 rfl rfl 0 (by decide) (hts _ kt_132) (fun _ h9 => h9) rfl dX11_end_6 ?_
    refine va_getN (D := (dC, dI)) (ci := 0) (v := .int 0) (C := RX0) (T := TX0) (N := 3) hx hb hts it_0 hown hK hP 1 rfl rfl 1 (by decide) (hE.nest kn_9) (fun _ h9 => h9) rfl dX11_end_9 ?_
    refine lv_icmp_le (tgt := 17) hx hb dX11_end_12 (by decide) (fun c_2 => ?_) (fun c_2 => ?_)
    ·
      have hz : x1 = 0 := Int32.le_antisymm c_2 (Int32.not_lt.mp c_1)
      subst hz
      refine lv_aload_n hx hb dX11_end_17 rfl (lv_at hl 0 rfl) ?_
      refine va_get (D := (dC, dI)) (ci := 11) (v := .ref ta) (C := RX11) (T := TX11) (N := 9) hx hb hts it_11 hown hK hP 0 rfl rfl 0 (by decide) (hts _ kt_132) (fun _ h9 => h9) rfl dX11_end_18 ?_
      refine lv_iload_n hx hb dX11_end_21 rfl (lv_at hl 1 rfl) ?_
      have hPc := hP.sub (ws' := [(ta, .inr (0, [.ref tr, .int 0, .int 0]))]) [1] rfl
      have hDc := hD.sub (ws' := [(ta, .inr (0, [.ref tr, .int 0, .int 0]))]) [1] (by decide) rfl
      have hKc := hK.sub (tys' := []) [] rfl
      have hFc := va_free (wc := [(ta, .inr (0, [.ref tr, .int 0, .int 0]))]) hD hS hA [1] rfl
      refine va_callv (va_runV (As := [.int 0]) (rest := []) ⟨hx, hb, hml, hown, hts⟩ (c_X0_cut l dC dI s.heap.size ta tr ) ⟨callB_of 1 hts (gi kt_210) rfl rfl rfl (hts _ kt_10) (hts _ kt_211) (by decide +kernel) ⟨Nat.le_of_ble_eq_true rfl, Nat.le_of_ble_eq_true rfl⟩, (hts _ kt_212), (hts _ kt_213)⟩ ⟨fun a U g mk q => ⟨q.1, PW.calling q.2⟩, va_recv hKc hPc (ci := 0) (q0 := 0) rfl rfl, fun U hU hW => ⟨rfl, PW.mk hU hW hPc hKc hDc hE⟩⟩ rfl rfl hl.1 rfl (lv_room (Nat.le_of_ble_eq_true rfl)) dX11_end_22 ⟨by show _ + 0 ≤ 0; omega, by show _ + 0 ≤ 0; omega⟩) hS (fun q _ h => hFc q h) hFc (fun u t H1 locs ht hvm hw hB hz1 hk1 hS => ?_)
      have hB1 := hB
      obtain ⟨hP, hD, hK⟩ := QW.join (wr := [(h0, .inr (11, [.ref ta, .ref oa, .ref da, .ref ka, .ref ea, .ref pa, .ref ha, .ref la, .ref sa]))]) hP hD hK [1] [0] rfl rfl (by decide) (by decide) hk1 hFc ht hvm hB1
      generalize H1 = H at hP hS ⊢
      have hK : va_K (dC, dI) vwCl [] s := hK.sub [] rfl
      have hP : va_P (dC, dI) vwCl [(h0, .inr (11, [.ref ta, .ref oa, .ref da, .ref ka, .ref ea, .ref pa, .ref ha, .ref la, .ref sa])), (ta, .inr (0, [.ref tr, .int 0, .int 0]))] H := hP
      have hD : va_D A [(h0, .inr (11, [.ref ta, .ref oa, .ref da, .ref ka, .ref ea, .ref pa, .ref ha, .ref la, .ref sa])), (ta, .inr (0, [.ref tr, .int 0, .int 0]))] := hD
      refine lv_iload_n hx hb dX11_end_25 rfl (lv_at hl 1 rfl) ?_
      have hP9 := hP.sub (ws' := []) [] rfl
      have hD9 := hD.sub (ws' := []) [] (by decide) rfl
      have hK9 := hK.sub (tys' := []) [] rfl
      refine W.widen (k := 0) (n := 0) (by omega) (by omega) ?_
      exact W.iret (v := 0) hx hb hr (fun t ht hW => ⟨⟨0, (), rfl, rfl, QW.mk ht hW hP9 hK9 hD9⟩, hS.F ht⟩) hS.2.2 dX11_end_26
    ·
      refine lv_iconst (v := (-1)) hx hb dX11_end_15 (by decide) ?_
      have hP9 := hP.sub (ws' := []) [] rfl
      have hD9 := hD.sub (ws' := []) [] (by decide) rfl
      have hK9 := hK.sub (tys' := []) [] rfl
      refine W.widen (k := 0) (n := 0) (by omega) (by omega) ?_
      exact W.iret (v := (-1)) hx hb hr (fun t ht hW => ⟨⟨(-1), (), rfl, (by rw [if_neg (fun h => c_2 (by rw [h]; decide))]), QW.mk ht hW hP9 hK9 hD9⟩, hS.F ht⟩) hS.2.2 dX11_end_16
set_option maxHeartbeats 4000000 in
set_option maxRecDepth 100000 in
theorem c_X11_entry (l : Launch) (dC : Nat → ClassId) (dI : Nat → Nat → Nat) (sz : Nat) (h0 : Nat) (ta : Nat) (oa : Nat) (da : Nat) (ka : Nat) (ea : Nat) (pa : Nat) (ha : Nat) (la : Nat) (sa : Nat) (tr : Nat) (qe : Nat) (x1 : Int32) (x2 : Int32) : Met l yX11_entry (.code yX11_entry cX11_entry 4 (some .int) :: tb) ({ frames := 3, cells := 0, slots := 0, locals := 71 }) (va_Pc [.ref h0, .int x1, .int x2] (PW (dC, dI) sz [(h0, .inr (11, [.ref ta, .ref oa, .ref da, .ref ka, .ref ea, .ref pa, .ref ha, .ref la, .ref sa])), (ta, .inr (0, [.ref tr, .int 0, .int 0])), (da, .inr (2, [.ref qe, .int 0]))] [])) (va_Qi (fun (r : Int32) (_ : Unit) => r = (-1)) (fun _ T9 => QW (dC, dI) (va_A [(h0, .inr (11, [.ref ta, .ref oa, .ref da, .ref ka, .ref ea, .ref pa, .ref ha, .ref la, .ref sa])), (ta, .inr (0, [.ref tr, .int 0, .int 0])), (da, .inr (2, [.ref qe, .int 0]))] sz) [] [] T9) (va_A [(h0, .inr (11, [.ref ta, .ref oa, .ref da, .ref ka, .ref ea, .ref pa, .ref ha, .ref la, .ref sa])), (ta, .inr (0, [.ref tr, .int 0, .int 0])), (da, .inr (2, [.ref qe, .int 0]))] sz)) 0 0 (va_A [(h0, .inr (11, [.ref ta, .ref oa, .ref da, .ref ka, .ref ea, .ref pa, .ref ha, .ref la, .ref sa])), (ta, .inr (0, [.ref tr, .int 0, .int 0])), (da, .inr (2, [.ref qe, .int 0]))] sz) := by
  refine Met.ofW (cc := cX11_entry) (maxL := 4) (ret := (some .int)) (by decide) rfl ?_
  intro p e s m args below meth c s₁ B hml hv
  obtain ⟨rfl, hsz, hP, hK, hD0, hE⟩ := hv
  have hx := B.exec
  have hb := B.bytes
  have hr := B.returns
  have hts : ∀ w ∈ tb, w.before _ s = true := fun w h => atoms_spec (ws := .code yX11_entry cX11_entry 4 (some .int) :: tb) B.pre w (List.mem_cons_of_mem _ h)
  have hown : s.vm.findClass RX11 = some m.cls := findClass_of_methodNamed B.named
  have hlocks := B.notSynchronized
  subst hsz
  have hD := hD0.self (sz := s.heap.size)
  generalize hAe : va_A [(h0, .inr (11, [.ref ta, .ref oa, .ref da, .ref ka, .ref ea, .ref pa, .ref ha, .ref la, .ref sa])), (ta, .inr (0, [.ref tr, .int 0, .int 0])), (da, .inr (2, [.ref qe, .int 0]))] s.heap.size = A at hD ⊢
  have hA : ∀ q : Nat, s.heap.size ≤ q → A q := fun q h => by rw [← hAe]; exact Or.inr h
  have hS : va_S A s.heap s.heap [] := va_S.rf
  have hP : va_P (dC, dI) vwCl [(h0, .inr (11, [.ref ta, .ref oa, .ref da, .ref ka, .ref ea, .ref pa, .ref ha, .ref la, .ref sa])), (ta, .inr (0, [.ref tr, .int 0, .int 0])), (da, .inr (2, [.ref qe, .int 0]))] s.heap := hP
  have hl := lv_entry ([.ref h0, .int x1, .int x2]) (n := 4) (Nat.le_of_ble_eq_true rfl)
  rw [lg_entry_eq]
  generalize (lg_sl ([.ref h0, .int x1, .int x2]) ++ List.replicate (4 - (lg_sl ([.ref h0, .int x1, .int x2])).length) Slot.unset).toArray = ls at hl ⊢
  have hl : lv_has ls 4 [(0, .ref h0), (1, .int x1), (2, .int x2)] := hl
  refine lv_aload_n hx hb dX11_entry_0 rfl (lv_at hl 0 rfl) ?_
  refine va_get (D := (dC, dI)) (ci := 11) (v := .ref da) (C := RX11) (T := TX11) (N := 9) hx hb hts it_11 hown hK hP 0 rfl rfl 2 (by decide) (hts _ kt_140) (fun _ h9 => h9) rfl dX11_entry_1 ?_
  refine lv_iload_n hx hb dX11_entry_4 rfl (lv_at hl 1 rfl) ?_
  refine lv_iload_n hx hb dX11_entry_5 rfl (lv_at hl 2 rfl) ?_
  refine lv_aload_n hx hb dX11_entry_6 rfl (lv_at hl 0 rfl) ?_
  refine va_get (D := (dC, dI)) (ci := 11) (v := .ref ta) (C := RX11) (T := TX11) (N := 9) hx hb hts it_11 hown hK hP 0 rfl rfl 0 (by decide) (hts _ kt_132) (fun _ h9 => h9) rfl dX11_entry_7 ?_
  have hPc := hP.sub (ws' := [(da, .inr (2, [.ref qe, .int 0])), (ta, .inr (0, [.ref tr, .int 0, .int 0]))]) [2, 1] rfl
  have hDc := hD.sub (ws' := [(da, .inr (2, [.ref qe, .int 0])), (ta, .inr (0, [.ref tr, .int 0, .int 0]))]) [2, 1] (by decide) rfl
  have hKc := hK.sub (tys' := []) [] rfl
  have hFc := va_free (wc := [(da, .inr (2, [.ref qe, .int 0])), (ta, .inr (0, [.ref tr, .int 0, .int 0]))]) hD hS hA [2, 1] rfl
  refine va_calli (va_runV (As := [.int x1, .int x2, .ref ta]) (rest := []) ⟨hx, hb, hml, hown, hts⟩ (c_X2_take l dC dI s.heap.size da qe ta tr x1 x2 ) ⟨callB_of 3 hts (gi kt_214) rfl rfl rfl (hts _ kt_136) (hts _ kt_215) (by decide +kernel) ⟨Nat.le_of_ble_eq_true rfl, Nat.le_of_ble_eq_true rfl⟩, (hts _ kt_216), (hts _ kt_217)⟩ ⟨fun a U g mk q => ⟨q.1, PW.calling q.2⟩, va_recv hKc hPc (ci := 2) (q0 := 0) rfl rfl, fun U hU hW => ⟨rfl, PW.mk hU hW hPc hKc hDc hE⟩⟩ rfl rfl hl.1 rfl (lv_room (Nat.le_of_ble_eq_true rfl)) dX11_entry_10 ⟨by show _ + 0 ≤ 0; omega, by show _ + 0 ≤ 0; omega⟩) hS (fun q _ h => hFc q h) hFc (fun r_1 u t H1 locs ht hvm hw hB hz1 hk1 hS => ?_)
  have hB1 := hB
  obtain ⟨hP, hD, hK⟩ := QW.join (wr := [(h0, .inr (11, [.ref ta, .ref oa, .ref da, .ref ka, .ref ea, .ref pa, .ref ha, .ref la, .ref sa]))]) hP hD hK [2, 1] [0] rfl rfl (by decide) (by decide) hk1 hFc ht hvm hB1
  generalize H1 = H at hP hS ⊢
  have hK : va_K (dC, dI) vwCl [] s := hK.sub [] rfl
  have hP : va_P (dC, dI) vwCl [(h0, .inr (11, [.ref ta, .ref oa, .ref da, .ref ka, .ref ea, .ref pa, .ref ha, .ref la, .ref sa])), (da, .inr (2, [.ref qe, .int 0])), (ta, .inr (0, [.ref tr, .int 0, .int 0]))] H := hP
  have hD : va_D A [(h0, .inr (11, [.ref ta, .ref oa, .ref da, .ref ka, .ref ea, .ref pa, .ref ha, .ref la, .ref sa])), (da, .inr (2, [.ref qe, .int 0])), (ta, .inr (0, [.ref tr, .int 0, .int 0]))] := hD
  have hw : r_1 = (-1) := hw
  subst hw
  refine lv_istore_n (lv' := [(3, .int (-1)), (0, .ref h0), (1, .int x1), (2, .int x2)]) hx hb dX11_entry_13 rfl hl (by decide) rfl (fun ls hl => ?_)
  refine lv_aload_n hx hb dX11_entry_14 rfl (lv_at hl 1 rfl) ?_
  refine va_get (D := (dC, dI)) (ci := 11) (v := .ref ta) (C := RX11) (T := TX11) (N := 9) hx hb hts it_11 hown hK hP 0 rfl rfl 0 (by decide) (hts _ kt_132) (fun _ h9 => h9) rfl dX11_entry_15 ?_
  have hPc := hP.sub (ws' := [(ta, .inr (0, [.ref tr, .int 0, .int 0]))]) [2] rfl
  have hDc := hD.sub (ws' := [(ta, .inr (0, [.ref tr, .int 0, .int 0]))]) [2] (by decide) rfl
  have hKc := hK.sub (tys' := []) [] rfl
  have hFc := va_free (wc := [(ta, .inr (0, [.ref tr, .int 0, .int 0]))]) hD hS hA [2] rfl
  refine va_callv (va_runV (As := []) (rest := []) ⟨hx, hb, hml, hown, hts⟩ (c_X0_clear l dC dI H.size ta tr 0 0 ) ⟨callB_of 0 hts (gi kt_178) rfl rfl rfl (hts _ kt_10) (hts _ kt_218) (by decide +kernel) ⟨Nat.le_of_ble_eq_true rfl, Nat.le_of_ble_eq_true rfl⟩, (hts _ kt_180), (hts _ kt_181)⟩ ⟨fun a U g mk q => ⟨q.1, PW.calling q.2⟩, va_recv hKc hPc (ci := 0) (q0 := 0) rfl rfl, fun U hU hW => ⟨rfl, PW.mk hU hW hPc hKc hDc hE⟩⟩ rfl rfl hl.1 rfl (lv_room (Nat.le_of_ble_eq_true rfl)) dX11_entry_18 ⟨by show _ + 0 ≤ 0; omega, by show _ + 0 ≤ 0; omega⟩) hS (fun q _ h => hFc q h) hFc (fun u t H1 locs ht hvm hw hB hz1 hk1 hS => ?_)
  have hB1 := hB
  obtain ⟨hP, hD, hK⟩ := QW.join (wr := [(h0, .inr (11, [.ref ta, .ref oa, .ref da, .ref ka, .ref ea, .ref pa, .ref ha, .ref la, .ref sa])), (da, .inr (2, [.ref qe, .int 0]))]) hP hD hK [2] [0, 1] rfl rfl (by decide) (by decide) hk1 hFc ht hvm hB1
  generalize H1 = H at hP hS ⊢
  have hK : va_K (dC, dI) vwCl [] s := hK.sub [] rfl
  have hP : va_P (dC, dI) vwCl [(h0, .inr (11, [.ref ta, .ref oa, .ref da, .ref ka, .ref ea, .ref pa, .ref ha, .ref la, .ref sa])), (da, .inr (2, [.ref qe, .int 0])), (ta, .inr (0, [.ref tr, .int 0, .int 0]))] H := hP
  have hD : va_D A [(h0, .inr (11, [.ref ta, .ref oa, .ref da, .ref ka, .ref ea, .ref pa, .ref ha, .ref la, .ref sa])), (da, .inr (2, [.ref qe, .int 0])), (ta, .inr (0, [.ref tr, .int 0, .int 0]))] := hD
  refine lv_iload_n hx hb dX11_entry_21 rfl (lv_at hl 0 rfl) ?_
  have hP9 := hP.sub (ws' := []) [] rfl
  have hD9 := hD.sub (ws' := []) [] (by decide) rfl
  have hK9 := hK.sub (tys' := []) [] rfl
  refine W.widen (k := 0) (n := 0) (by omega) (by omega) ?_
  exact W.iret (v := (-1)) hx hb hr (fun t ht hW => ⟨⟨(-1), (), rfl, rfl, QW.mk ht hW hP9 hK9 hD9⟩, hS.F ht⟩) hS.2.2 dX11_entry_22
set_option maxHeartbeats 4000000 in
set_option maxRecDepth 100000 in
theorem c_X11_forget (l : Launch) (dC : Nat → ClassId) (dI : Nat → Nat → Nat) (sz : Nat) (h0 : Nat) (ta : Nat) (oa : Nat) (da : Nat) (ka : Nat) (ea : Nat) (pa : Nat) (ha : Nat) (la : Nat) (sa : Nat) (qe : Nat) : Met l yX11_forget (.code yX11_forget cX11_forget 1 (some .int) :: tb) ({ frames := 1, cells := 0, slots := 0, locals := 21 }) (va_Pc [.ref h0] (PW (dC, dI) sz [(h0, .inr (11, [.ref ta, .ref oa, .ref da, .ref ka, .ref ea, .ref pa, .ref ha, .ref la, .ref sa])), (da, .inr (2, [.ref qe, .int 0]))] [])) (va_Qi (fun (r : Int32) (_ : Unit) => r = 0) (fun _ T9 => QW (dC, dI) (va_A [(h0, .inr (11, [.ref ta, .ref oa, .ref da, .ref ka, .ref ea, .ref pa, .ref ha, .ref la, .ref sa])), (da, .inr (2, [.ref qe, .int 0]))] sz) [] [] T9) (va_A [(h0, .inr (11, [.ref ta, .ref oa, .ref da, .ref ka, .ref ea, .ref pa, .ref ha, .ref la, .ref sa])), (da, .inr (2, [.ref qe, .int 0]))] sz)) 0 0 (va_A [(h0, .inr (11, [.ref ta, .ref oa, .ref da, .ref ka, .ref ea, .ref pa, .ref ha, .ref la, .ref sa])), (da, .inr (2, [.ref qe, .int 0]))] sz) := by
  refine Met.ofW (cc := cX11_forget) (maxL := 1) (ret := (some .int)) (by decide) rfl ?_
  intro p e s m args below meth c s₁ B hml hv
  obtain ⟨rfl, hsz, hP, hK, hD0, hE⟩ := hv
  have hx := B.exec
  have hb := B.bytes
  have hr := B.returns
  have hts : ∀ w ∈ tb, w.before _ s = true := fun w h => atoms_spec (ws := .code yX11_forget cX11_forget 1 (some .int) :: tb) B.pre w (List.mem_cons_of_mem _ h)
  have hown : s.vm.findClass RX11 = some m.cls := findClass_of_methodNamed B.named
  have hlocks := B.notSynchronized
  subst hsz
  have hD := hD0.self (sz := s.heap.size)
  generalize hAe : va_A [(h0, .inr (11, [.ref ta, .ref oa, .ref da, .ref ka, .ref ea, .ref pa, .ref ha, .ref la, .ref sa])), (da, .inr (2, [.ref qe, .int 0]))] s.heap.size = A at hD ⊢
  have hA : ∀ q : Nat, s.heap.size ≤ q → A q := fun q h => by rw [← hAe]; exact Or.inr h
  have hS : va_S A s.heap s.heap [] := va_S.rf
  have hP : va_P (dC, dI) vwCl [(h0, .inr (11, [.ref ta, .ref oa, .ref da, .ref ka, .ref ea, .ref pa, .ref ha, .ref la, .ref sa])), (da, .inr (2, [.ref qe, .int 0]))] s.heap := hP
  have hl := lv_entry ([.ref h0]) (n := 1) (Nat.le_of_ble_eq_true rfl)
  rw [lg_entry_eq]
  generalize (lg_sl ([.ref h0]) ++ List.replicate (1 - (lg_sl ([.ref h0])).length) Slot.unset).toArray = ls at hl ⊢
  have hl : lv_has ls 1 [(0, .ref h0)] := hl
  refine lv_aload_n hx hb dX11_forget_0 rfl (lv_at hl 0 rfl) ?_
  refine va_get (D := (dC, dI)) (ci := 11) (v := .ref da) (C := RX11) (T := TX11) (N := 9) hx hb hts it_11 hown hK hP 0 rfl rfl 2 (by decide) (hts _ kt_140) (fun _ h9 => h9) rfl dX11_forget_1 ?_
  have hPc := hP.sub (ws' := [(da, .inr (2, [.ref qe, .int 0]))]) [1] rfl
  have hDc := hD.sub (ws' := [(da, .inr (2, [.ref qe, .int 0]))]) [1] (by decide) rfl
  have hKc := hK.sub (tys' := []) [] rfl
  have hFc := va_free (wc := [(da, .inr (2, [.ref qe, .int 0]))]) hD hS hA [1] rfl
  refine va_calli (va_runV (As := []) (rest := []) ⟨hx, hb, hml, hown, hts⟩ (c_X2_clear l dC dI s.heap.size da qe ) ⟨callB_of 0 hts (gi kt_219) rfl rfl rfl (hts _ kt_136) (hts _ kt_220) (by decide +kernel) ⟨Nat.le_of_ble_eq_true rfl, Nat.le_of_ble_eq_true rfl⟩, (hts _ kt_221), (hts _ kt_222)⟩ ⟨fun a U g mk q => ⟨q.1, PW.calling q.2⟩, va_recv hKc hPc (ci := 2) (q0 := 0) rfl rfl, fun U hU hW => ⟨rfl, PW.mk hU hW hPc hKc hDc hE⟩⟩ rfl rfl hl.1 rfl (lv_room (Nat.le_of_ble_eq_true rfl)) dX11_forget_4 ⟨by show _ + 0 ≤ 0; omega, by show _ + 0 ≤ 0; omega⟩) hS (fun q _ h => hFc q h) hFc (fun r_1 u t H1 locs ht hvm hw hB hz1 hk1 hS => ?_)
  have hB1 := hB
  obtain ⟨hP, hD, hK⟩ := QW.join (wr := [(h0, .inr (11, [.ref ta, .ref oa, .ref da, .ref ka, .ref ea, .ref pa, .ref ha, .ref la, .ref sa]))]) hP hD hK [1] [0] rfl rfl (by decide) (by decide) hk1 hFc ht hvm hB1
  generalize H1 = H at hP hS ⊢
  have hK : va_K (dC, dI) vwCl [] s := hK.sub [] rfl
  have hP : va_P (dC, dI) vwCl [(h0, .inr (11, [.ref ta, .ref oa, .ref da, .ref ka, .ref ea, .ref pa, .ref ha, .ref la, .ref sa])), (da, .inr (2, [.ref qe, .int 0]))] H := hP
  have hD : va_D A [(h0, .inr (11, [.ref ta, .ref oa, .ref da, .ref ka, .ref ea, .ref pa, .ref ha, .ref la, .ref sa])), (da, .inr (2, [.ref qe, .int 0]))] := hD
  have hw : r_1 = 0 := hw
  subst hw
  have hP9 := hP.sub (ws' := []) [] rfl
  have hD9 := hD.sub (ws' := []) [] (by decide) rfl
  have hK9 := hK.sub (tys' := []) [] rfl
  refine W.widen (k := 0) (n := 0) (by omega) (by omega) ?_
  exact W.iret (v := 0) hx hb hr (fun t ht hW => ⟨⟨0, (), rfl, rfl, QW.mk ht hW hP9 hK9 hD9⟩, hS.F ht⟩) hS.2.2 dX11_forget_7
set_option maxHeartbeats 4000000 in
set_option maxRecDepth 100000 in
theorem c_X11_sender (l : Launch) (dC : Nat → ClassId) (dI : Nat → Nat → Nat) (sz : Nat) (h0 : Nat) (ta : Nat) (oa : Nat) (da : Nat) (ka : Nat) (ea : Nat) (pa : Nat) (ha : Nat) (la : Nat) (sa : Nat) (tr : Nat) (qd : Nat) (q1 : Nat) (q2 : Nat) (q3 : Nat) (q4 : Nat) (q5 : Nat) (q6 : Nat) (x1 : Int32) : Met l yX11_sender (.code yX11_sender cX11_sender 3 (some .int) :: tb) ({ frames := 3, cells := 0, slots := 0, locals := 68 }) (va_Pc [.ref h0, .int x1] (PW (dC, dI) sz [(h0, .inr (11, [.ref ta, .ref oa, .ref da, .ref ka, .ref ea, .ref pa, .ref ha, .ref la, .ref sa])), (ta, .inr (0, [.ref tr, .int 0, .int 0])), (ka, .inr (1, [.ref qd, .ref q1, .ref q2, .ref q3, .ref q4, .ref q5, .ref q6, .int 0, .int 0, .int 0, .int 0]))] [])) (va_Qi (fun (r : Int32) (_ : Unit) => r = (-1)) (fun _ T9 => QW (dC, dI) (va_A [(h0, .inr (11, [.ref ta, .ref oa, .ref da, .ref ka, .ref ea, .ref pa, .ref ha, .ref la, .ref sa])), (ta, .inr (0, [.ref tr, .int 0, .int 0])), (ka, .inr (1, [.ref qd, .ref q1, .ref q2, .ref q3, .ref q4, .ref q5, .ref q6, .int 0, .int 0, .int 0, .int 0]))] sz) [] [] T9) (va_A [(h0, .inr (11, [.ref ta, .ref oa, .ref da, .ref ka, .ref ea, .ref pa, .ref ha, .ref la, .ref sa])), (ta, .inr (0, [.ref tr, .int 0, .int 0])), (ka, .inr (1, [.ref qd, .ref q1, .ref q2, .ref q3, .ref q4, .ref q5, .ref q6, .int 0, .int 0, .int 0, .int 0]))] sz)) 0 0 (va_A [(h0, .inr (11, [.ref ta, .ref oa, .ref da, .ref ka, .ref ea, .ref pa, .ref ha, .ref la, .ref sa])), (ta, .inr (0, [.ref tr, .int 0, .int 0])), (ka, .inr (1, [.ref qd, .ref q1, .ref q2, .ref q3, .ref q4, .ref q5, .ref q6, .int 0, .int 0, .int 0, .int 0]))] sz) := by
  refine Met.ofW (cc := cX11_sender) (maxL := 3) (ret := (some .int)) (by decide) rfl ?_
  intro p e s m args below meth c s₁ B hml hv
  obtain ⟨rfl, hsz, hP, hK, hD0, hE⟩ := hv
  have hx := B.exec
  have hb := B.bytes
  have hr := B.returns
  have hts : ∀ w ∈ tb, w.before _ s = true := fun w h => atoms_spec (ws := .code yX11_sender cX11_sender 3 (some .int) :: tb) B.pre w (List.mem_cons_of_mem _ h)
  have hown : s.vm.findClass RX11 = some m.cls := findClass_of_methodNamed B.named
  have hlocks := B.notSynchronized
  subst hsz
  have hD := hD0.self (sz := s.heap.size)
  generalize hAe : va_A [(h0, .inr (11, [.ref ta, .ref oa, .ref da, .ref ka, .ref ea, .ref pa, .ref ha, .ref la, .ref sa])), (ta, .inr (0, [.ref tr, .int 0, .int 0])), (ka, .inr (1, [.ref qd, .ref q1, .ref q2, .ref q3, .ref q4, .ref q5, .ref q6, .int 0, .int 0, .int 0, .int 0]))] s.heap.size = A at hD ⊢
  have hA : ∀ q : Nat, s.heap.size ≤ q → A q := fun q h => by rw [← hAe]; exact Or.inr h
  have hS : va_S A s.heap s.heap [] := va_S.rf
  have hP : va_P (dC, dI) vwCl [(h0, .inr (11, [.ref ta, .ref oa, .ref da, .ref ka, .ref ea, .ref pa, .ref ha, .ref la, .ref sa])), (ta, .inr (0, [.ref tr, .int 0, .int 0])), (ka, .inr (1, [.ref qd, .ref q1, .ref q2, .ref q3, .ref q4, .ref q5, .ref q6, .int 0, .int 0, .int 0, .int 0]))] s.heap := hP
  have hl := lv_entry ([.ref h0, .int x1]) (n := 3) (Nat.le_of_ble_eq_true rfl)
  rw [lg_entry_eq]
  generalize (lg_sl ([.ref h0, .int x1]) ++ List.replicate (3 - (lg_sl ([.ref h0, .int x1])).length) Slot.unset).toArray = ls at hl ⊢
  have hl : lv_has ls 3 [(0, .ref h0), (1, .int x1)] := hl
  refine lv_aload_n hx hb dX11_sender_0 rfl (lv_at hl 0 rfl) ?_
  refine va_get (D := (dC, dI)) (ci := 11) (v := .ref ka) (C := RX11) (T := TX11) (N := 9) hx hb hts it_11 hown hK hP 0 rfl rfl 3 (by decide) (hts _ kt_147) (fun _ h9 => h9) rfl dX11_sender_1 ?_
  refine lv_iload_n hx hb dX11_sender_4 rfl (lv_at hl 1 rfl) ?_
  refine lv_aload_n hx hb dX11_sender_5 rfl (lv_at hl 0 rfl) ?_
  refine va_get (D := (dC, dI)) (ci := 11) (v := .ref ta) (C := RX11) (T := TX11) (N := 9) hx hb hts it_11 hown hK hP 0 rfl rfl 0 (by decide) (hts _ kt_132) (fun _ h9 => h9) rfl dX11_sender_6 ?_
  have hPc := hP.sub (ws' := [(ka, .inr (1, [.ref qd, .ref q1, .ref q2, .ref q3, .ref q4, .ref q5, .ref q6, .int 0, .int 0, .int 0, .int 0])), (ta, .inr (0, [.ref tr, .int 0, .int 0]))]) [2, 1] rfl
  have hDc := hD.sub (ws' := [(ka, .inr (1, [.ref qd, .ref q1, .ref q2, .ref q3, .ref q4, .ref q5, .ref q6, .int 0, .int 0, .int 0, .int 0])), (ta, .inr (0, [.ref tr, .int 0, .int 0]))]) [2, 1] (by decide) rfl
  have hKc := hK.sub (tys' := []) [] rfl
  have hFc := va_free (wc := [(ka, .inr (1, [.ref qd, .ref q1, .ref q2, .ref q3, .ref q4, .ref q5, .ref q6, .int 0, .int 0, .int 0, .int 0])), (ta, .inr (0, [.ref tr, .int 0, .int 0]))]) hD hS hA [2, 1] rfl
  refine va_calli (va_runV (As := [.int x1, .ref ta]) (rest := []) ⟨hx, hb, hml, hown, hts⟩ (c_X1_takeSender l dC dI s.heap.size ka ta tr qd q1 q2 q3 q4 q5 q6 x1 ) ⟨callB_of 2 hts (gi kt_223) rfl rfl rfl (hts _ kt_143) (hts _ kt_224) (by decide +kernel) ⟨Nat.le_of_ble_eq_true rfl, Nat.le_of_ble_eq_true rfl⟩, (hts _ kt_225), (hts _ kt_226)⟩ ⟨fun a U g mk q => ⟨q.1, PW.calling q.2⟩, va_recv hKc hPc (ci := 1) (q0 := 0) rfl rfl, fun U hU hW => ⟨rfl, PW.mk hU hW hPc hKc hDc hE⟩⟩ rfl rfl hl.1 rfl (lv_room (Nat.le_of_ble_eq_true rfl)) dX11_sender_9 ⟨by show _ + 0 ≤ 0; omega, by show _ + 0 ≤ 0; omega⟩) hS (fun q _ h => hFc q h) hFc (fun r_1 u t H1 locs ht hvm hw hB hz1 hk1 hS => ?_)
  have hB1 := hB
  obtain ⟨hP, hD, hK⟩ := QW.join (wr := [(h0, .inr (11, [.ref ta, .ref oa, .ref da, .ref ka, .ref ea, .ref pa, .ref ha, .ref la, .ref sa]))]) hP hD hK [2, 1] [0] rfl rfl (by decide) (by decide) hk1 hFc ht hvm hB1
  generalize H1 = H at hP hS ⊢
  have hK : va_K (dC, dI) vwCl [] s := hK.sub [] rfl
  have hP : va_P (dC, dI) vwCl [(h0, .inr (11, [.ref ta, .ref oa, .ref da, .ref ka, .ref ea, .ref pa, .ref ha, .ref la, .ref sa])), (ka, .inr (1, [.ref qd, .ref q1, .ref q2, .ref q3, .ref q4, .ref q5, .ref q6, .int 0, .int 0, .int 0, .int 0])), (ta, .inr (0, [.ref tr, .int 0, .int 0]))] H := hP
  have hD : va_D A [(h0, .inr (11, [.ref ta, .ref oa, .ref da, .ref ka, .ref ea, .ref pa, .ref ha, .ref la, .ref sa])), (ka, .inr (1, [.ref qd, .ref q1, .ref q2, .ref q3, .ref q4, .ref q5, .ref q6, .int 0, .int 0, .int 0, .int 0])), (ta, .inr (0, [.ref tr, .int 0, .int 0]))] := hD
  have hw : r_1 = 0 := hw
  subst hw
  refine lv_istore_n (lv' := [(2, .int 0), (0, .ref h0), (1, .int x1)]) hx hb dX11_sender_12 rfl hl (by decide) rfl (fun ls hl => ?_)
  refine lv_aload_n hx hb dX11_sender_13 rfl (lv_at hl 1 rfl) ?_
  refine va_get (D := (dC, dI)) (ci := 11) (v := .ref ta) (C := RX11) (T := TX11) (N := 9) hx hb hts it_11 hown hK hP 0 rfl rfl 0 (by decide) (hts _ kt_132) (fun _ h9 => h9) rfl dX11_sender_14 ?_
  have hPc := hP.sub (ws' := [(ta, .inr (0, [.ref tr, .int 0, .int 0]))]) [2] rfl
  have hDc := hD.sub (ws' := [(ta, .inr (0, [.ref tr, .int 0, .int 0]))]) [2] (by decide) rfl
  have hKc := hK.sub (tys' := []) [] rfl
  have hFc := va_free (wc := [(ta, .inr (0, [.ref tr, .int 0, .int 0]))]) hD hS hA [2] rfl
  refine va_callv (va_runV (As := []) (rest := []) ⟨hx, hb, hml, hown, hts⟩ (c_X0_clear l dC dI H.size ta tr 0 0 ) ⟨callB_of 0 hts (gi kt_178) rfl rfl rfl (hts _ kt_10) (hts _ kt_218) (by decide +kernel) ⟨Nat.le_of_ble_eq_true rfl, Nat.le_of_ble_eq_true rfl⟩, (hts _ kt_180), (hts _ kt_181)⟩ ⟨fun a U g mk q => ⟨q.1, PW.calling q.2⟩, va_recv hKc hPc (ci := 0) (q0 := 0) rfl rfl, fun U hU hW => ⟨rfl, PW.mk hU hW hPc hKc hDc hE⟩⟩ rfl rfl hl.1 rfl (lv_room (Nat.le_of_ble_eq_true rfl)) dX11_sender_17 ⟨by show _ + 0 ≤ 0; omega, by show _ + 0 ≤ 0; omega⟩) hS (fun q _ h => hFc q h) hFc (fun u t H1 locs ht hvm hw hB hz1 hk1 hS => ?_)
  have hB1 := hB
  obtain ⟨hP, hD, hK⟩ := QW.join (wr := [(h0, .inr (11, [.ref ta, .ref oa, .ref da, .ref ka, .ref ea, .ref pa, .ref ha, .ref la, .ref sa])), (ka, .inr (1, [.ref qd, .ref q1, .ref q2, .ref q3, .ref q4, .ref q5, .ref q6, .int 0, .int 0, .int 0, .int 0]))]) hP hD hK [2] [0, 1] rfl rfl (by decide) (by decide) hk1 hFc ht hvm hB1
  generalize H1 = H at hP hS ⊢
  have hK : va_K (dC, dI) vwCl [] s := hK.sub [] rfl
  have hP : va_P (dC, dI) vwCl [(h0, .inr (11, [.ref ta, .ref oa, .ref da, .ref ka, .ref ea, .ref pa, .ref ha, .ref la, .ref sa])), (ka, .inr (1, [.ref qd, .ref q1, .ref q2, .ref q3, .ref q4, .ref q5, .ref q6, .int 0, .int 0, .int 0, .int 0])), (ta, .inr (0, [.ref tr, .int 0, .int 0]))] H := hP
  have hD : va_D A [(h0, .inr (11, [.ref ta, .ref oa, .ref da, .ref ka, .ref ea, .ref pa, .ref ha, .ref la, .ref sa])), (ka, .inr (1, [.ref qd, .ref q1, .ref q2, .ref q3, .ref q4, .ref q5, .ref q6, .int 0, .int 0, .int 0, .int 0])), (ta, .inr (0, [.ref tr, .int 0, .int 0]))] := hD
  refine lv_iload_n hx hb dX11_sender_20 rfl (lv_at hl 0 rfl) ?_
  refine lv_if_eq (tgt := 28) hx hb dX11_sender_21 (by decide) (fun c_3 => ?_) (fun c_3 => absurd (by decide) c_3)
  refine lv_iconst (v := (-1)) hx hb dX11_sender_28 (by decide) ?_
  have hP9 := hP.sub (ws' := []) [] rfl
  have hD9 := hD.sub (ws' := []) [] (by decide) rfl
  have hK9 := hK.sub (tys' := []) [] rfl
  refine W.widen (k := 0) (n := 0) (by omega) (by omega) ?_
  exact W.iret (v := (-1)) hx hb hr (fun t ht hW => ⟨⟨(-1), (), rfl, rfl, QW.mk ht hW hP9 hK9 hD9⟩, hS.F ht⟩) hS.2.2 dX11_sender_29
set_option maxHeartbeats 4000000 in
set_option maxRecDepth 100000 in
theorem c_X11_permission (l : Launch) (dC : Nat → ClassId) (dI : Nat → Nat → Nat) (sz : Nat) (h0 : Nat) (ta : Nat) (oa : Nat) (da : Nat) (ka : Nat) (ea : Nat) (pa : Nat) (ha : Nat) (la : Nat) (sa : Nat) (qd : Nat) (q1 : Nat) (q2 : Nat) (q3 : Nat) (q4 : Nat) (q5 : Nat) (q6 : Nat) : Met l yX11_permission (.code yX11_permission cX11_permission 1 (some .int) :: tb) ({ frames := 0, cells := 0, slots := 0, locals := 0 }) (va_Pc [.ref h0] (PW (dC, dI) sz [(h0, .inr (11, [.ref ta, .ref oa, .ref da, .ref ka, .ref ea, .ref pa, .ref ha, .ref la, .ref sa])), (ka, .inr (1, [.ref qd, .ref q1, .ref q2, .ref q3, .ref q4, .ref q5, .ref q6, .int 0, .int 0, .int 0, .int 0]))] [])) (va_Qi (fun (r : Int32) (_ : Unit) => r = (-1)) (fun _ T9 => QW (dC, dI) (va_A [(h0, .inr (11, [.ref ta, .ref oa, .ref da, .ref ka, .ref ea, .ref pa, .ref ha, .ref la, .ref sa])), (ka, .inr (1, [.ref qd, .ref q1, .ref q2, .ref q3, .ref q4, .ref q5, .ref q6, .int 0, .int 0, .int 0, .int 0]))] sz) [] [] T9) (va_A [(h0, .inr (11, [.ref ta, .ref oa, .ref da, .ref ka, .ref ea, .ref pa, .ref ha, .ref la, .ref sa])), (ka, .inr (1, [.ref qd, .ref q1, .ref q2, .ref q3, .ref q4, .ref q5, .ref q6, .int 0, .int 0, .int 0, .int 0]))] sz)) 0 0 (va_A [(h0, .inr (11, [.ref ta, .ref oa, .ref da, .ref ka, .ref ea, .ref pa, .ref ha, .ref la, .ref sa])), (ka, .inr (1, [.ref qd, .ref q1, .ref q2, .ref q3, .ref q4, .ref q5, .ref q6, .int 0, .int 0, .int 0, .int 0]))] sz) := by
  refine Met.ofW (cc := cX11_permission) (maxL := 1) (ret := (some .int)) (by decide) rfl ?_
  intro p e s m args below meth c s₁ B hml hv
  obtain ⟨rfl, hsz, hP, hK, hD0, hE⟩ := hv
  have hx := B.exec
  have hb := B.bytes
  have hr := B.returns
  have hts : ∀ w ∈ tb, w.before _ s = true := fun w h => atoms_spec (ws := .code yX11_permission cX11_permission 1 (some .int) :: tb) B.pre w (List.mem_cons_of_mem _ h)
  have hown : s.vm.findClass RX11 = some m.cls := findClass_of_methodNamed B.named
  have hlocks := B.notSynchronized
  subst hsz
  have hD := hD0.self (sz := s.heap.size)
  generalize hAe : va_A [(h0, .inr (11, [.ref ta, .ref oa, .ref da, .ref ka, .ref ea, .ref pa, .ref ha, .ref la, .ref sa])), (ka, .inr (1, [.ref qd, .ref q1, .ref q2, .ref q3, .ref q4, .ref q5, .ref q6, .int 0, .int 0, .int 0, .int 0]))] s.heap.size = A at hD ⊢
  have hA : ∀ q : Nat, s.heap.size ≤ q → A q := fun q h => by rw [← hAe]; exact Or.inr h
  have hS : va_S A s.heap s.heap [] := va_S.rf
  have hP : va_P (dC, dI) vwCl [(h0, .inr (11, [.ref ta, .ref oa, .ref da, .ref ka, .ref ea, .ref pa, .ref ha, .ref la, .ref sa])), (ka, .inr (1, [.ref qd, .ref q1, .ref q2, .ref q3, .ref q4, .ref q5, .ref q6, .int 0, .int 0, .int 0, .int 0]))] s.heap := hP
  have hl := lv_entry ([.ref h0]) (n := 1) (Nat.le_of_ble_eq_true rfl)
  rw [lg_entry_eq]
  generalize (lg_sl ([.ref h0]) ++ List.replicate (1 - (lg_sl ([.ref h0])).length) Slot.unset).toArray = ls at hl ⊢
  have hl : lv_has ls 1 [(0, .ref h0)] := hl
  refine lv_aload_n hx hb dX11_permission_0 rfl (lv_at hl 0 rfl) ?_
  refine va_get (D := (dC, dI)) (ci := 11) (v := .ref ka) (C := RX11) (T := TX11) (N := 9) hx hb hts it_11 hown hK hP 0 rfl rfl 3 (by decide) (hts _ kt_147) (fun _ h9 => h9) rfl dX11_permission_1 ?_
  refine va_getN (D := (dC, dI)) (ci := 1) (v := .int 0) (C := RX1) (T := TX1) (N := 11) hx hb hts it_1 hown hK hP 1 rfl rfl 8 (by decide) (hE.nest kn_10) (fun _ h9 => h9) rfl dX11_permission_4 ?_
  refine lv_if_eq (tgt := 20) hx hb dX11_permission_7 (by decide) (fun c_1 => ?_) (fun c_1 => absurd (by decide) c_1)
  refine lv_iconst (v := (-1)) hx hb dX11_permission_20 (by decide) ?_
  have hP9 := hP.sub (ws' := []) [] rfl
  have hD9 := hD.sub (ws' := []) [] (by decide) rfl
  have hK9 := hK.sub (tys' := []) [] rfl
  refine W.widen (k := 0) (n := 0) (by omega) (by omega) ?_
  exact W.iret (v := (-1)) hx hb hr (fun t ht hW => ⟨⟨(-1), (), rfl, rfl, QW.mk ht hW hP9 hK9 hD9⟩, hS.F ht⟩) hS.2.2 dX11_permission_21
theorem lk_none {x : Int32} (a b : Int) (h0 : ¬ x.toInt = 0) (h1 : ¬ x.toInt = 1) : Op.lookupswitch.offset [(0, a), (1, b)] 43 x.toInt = 43 := by
  simp [Op.lookupswitch.offset, h0, h1, Ne.symm, eq_comm]
  <;> omega
set_option maxHeartbeats 4000000 in
set_option maxRecDepth 100000 in
theorem c_X11_cost (l : Launch) (dC : Nat → ClassId) (dI : Nat → Nat → Nat) (sz : Nat) (h0 : Nat) (ta : Nat) (oa : Nat) (da : Nat) (ka : Nat) (ea : Nat) (pa : Nat) (ha : Nat) (la : Nat) (sa : Nat) (qd : Nat) (q1 : Nat) (q2 : Nat) (q3 : Nat) (q4 : Nat) (q5 : Nat) (q6 : Nat) (x1 : Int32) : Met l yX11_cost (.code yX11_cost cX11_cost 2 (some .int) :: tb) ({ frames := 0, cells := 0, slots := 0, locals := 0 }) (va_Pc [.ref h0, .int x1] (PW (dC, dI) sz [(h0, .inr (11, [.ref ta, .ref oa, .ref da, .ref ka, .ref ea, .ref pa, .ref ha, .ref la, .ref sa])), (ka, .inr (1, [.ref qd, .ref q1, .ref q2, .ref q3, .ref q4, .ref q5, .ref q6, .int 0, .int 0, .int 0, .int 0]))] [])) (va_Qi (fun (r : Int32) (_ : Unit) => r = (if x1 = 0 ∨ x1 = 1 then 0 else (-1))) (fun _ T9 => QW (dC, dI) (va_A [(h0, .inr (11, [.ref ta, .ref oa, .ref da, .ref ka, .ref ea, .ref pa, .ref ha, .ref la, .ref sa])), (ka, .inr (1, [.ref qd, .ref q1, .ref q2, .ref q3, .ref q4, .ref q5, .ref q6, .int 0, .int 0, .int 0, .int 0]))] sz) [] [] T9) (va_A [(h0, .inr (11, [.ref ta, .ref oa, .ref da, .ref ka, .ref ea, .ref pa, .ref ha, .ref la, .ref sa])), (ka, .inr (1, [.ref qd, .ref q1, .ref q2, .ref q3, .ref q4, .ref q5, .ref q6, .int 0, .int 0, .int 0, .int 0]))] sz)) 0 0 (va_A [(h0, .inr (11, [.ref ta, .ref oa, .ref da, .ref ka, .ref ea, .ref pa, .ref ha, .ref la, .ref sa])), (ka, .inr (1, [.ref qd, .ref q1, .ref q2, .ref q3, .ref q4, .ref q5, .ref q6, .int 0, .int 0, .int 0, .int 0]))] sz) := by
  refine Met.ofW (cc := cX11_cost) (maxL := 2) (ret := (some .int)) (by decide) rfl ?_
  intro p e s m args below meth c s₁ B hml hv
  obtain ⟨rfl, hsz, hP, hK, hD0, hE⟩ := hv
  have hx := B.exec
  have hb := B.bytes
  have hr := B.returns
  have hts : ∀ w ∈ tb, w.before _ s = true := fun w h => atoms_spec (ws := .code yX11_cost cX11_cost 2 (some .int) :: tb) B.pre w (List.mem_cons_of_mem _ h)
  have hown : s.vm.findClass RX11 = some m.cls := findClass_of_methodNamed B.named
  have hlocks := B.notSynchronized
  subst hsz
  have hD := hD0.self (sz := s.heap.size)
  generalize hAe : va_A [(h0, .inr (11, [.ref ta, .ref oa, .ref da, .ref ka, .ref ea, .ref pa, .ref ha, .ref la, .ref sa])), (ka, .inr (1, [.ref qd, .ref q1, .ref q2, .ref q3, .ref q4, .ref q5, .ref q6, .int 0, .int 0, .int 0, .int 0]))] s.heap.size = A at hD ⊢
  have hA : ∀ q : Nat, s.heap.size ≤ q → A q := fun q h => by rw [← hAe]; exact Or.inr h
  have hS : va_S A s.heap s.heap [] := va_S.rf
  have hP : va_P (dC, dI) vwCl [(h0, .inr (11, [.ref ta, .ref oa, .ref da, .ref ka, .ref ea, .ref pa, .ref ha, .ref la, .ref sa])), (ka, .inr (1, [.ref qd, .ref q1, .ref q2, .ref q3, .ref q4, .ref q5, .ref q6, .int 0, .int 0, .int 0, .int 0]))] s.heap := hP
  have hl := lv_entry ([.ref h0, .int x1]) (n := 2) (Nat.le_of_ble_eq_true rfl)
  rw [lg_entry_eq]
  generalize (lg_sl ([.ref h0, .int x1]) ++ List.replicate (2 - (lg_sl ([.ref h0, .int x1])).length) Slot.unset).toArray = ls at hl ⊢
  have hl : lv_has ls 2 [(0, .ref h0), (1, .int x1)] := hl
  refine lv_iload_n hx hb dX11_cost_0 rfl (lv_at hl 1 rfl) ?_
  by_cases c_1 : x1 = 0
  ·
    refine lv_lookup (off := 27) (tgt := 28) hx hb dX11_cost_1 (by decide) (by rw [c_1]; decide) (by decide) ?_
    refine lv_aload_n hx hb dX11_cost_28 rfl (lv_at hl 0 rfl) ?_
    refine va_get (D := (dC, dI)) (ci := 11) (v := .ref ka) (C := RX11) (T := TX11) (N := 9) hx hb hts it_11 hown hK hP 0 rfl rfl 3 (by decide) (hts _ kt_147) (fun _ h9 => h9) rfl dX11_cost_29 ?_
    refine va_getN (D := (dC, dI)) (ci := 1) (v := .int 0) (C := RX1) (T := TX1) (N := 11) hx hb hts it_1 hown hK hP 1 rfl rfl 9 (by decide) (hE.nest kn_11) (fun _ h9 => h9) rfl dX11_cost_32 ?_
    have hP9 := hP.sub (ws' := []) [] rfl
    have hD9 := hD.sub (ws' := []) [] (by decide) rfl
    have hK9 := hK.sub (tys' := []) [] rfl
    refine W.widen (k := 0) (n := 0) (by omega) (by omega) ?_
    exact W.iret (v := 0) hx hb hr (fun t ht hW => ⟨⟨0, (), rfl, (by rw [if_pos (Or.inl c_1)]), QW.mk ht hW hP9 hK9 hD9⟩, hS.F ht⟩) hS.2.2 dX11_cost_35
  ·
    by_cases c_2 : x1 = 1
    ·
      refine lv_lookup (off := 35) (tgt := 36) hx hb dX11_cost_1 (by decide) (by rw [c_2]; decide) (by decide) ?_
      refine lv_aload_n hx hb dX11_cost_36 rfl (lv_at hl 0 rfl) ?_
      refine va_get (D := (dC, dI)) (ci := 11) (v := .ref ka) (C := RX11) (T := TX11) (N := 9) hx hb hts it_11 hown hK hP 0 rfl rfl 3 (by decide) (hts _ kt_147) (fun _ h9 => h9) rfl dX11_cost_37 ?_
      refine va_getN (D := (dC, dI)) (ci := 1) (v := .int 0) (C := RX1) (T := TX1) (N := 11) hx hb hts it_1 hown hK hP 1 rfl rfl 10 (by decide) (hE.nest kn_12) (fun _ h9 => h9) rfl dX11_cost_40 ?_
      have hP9 := hP.sub (ws' := []) [] rfl
      have hD9 := hD.sub (ws' := []) [] (by decide) rfl
      have hK9 := hK.sub (tys' := []) [] rfl
      refine W.widen (k := 0) (n := 0) (by omega) (by omega) ?_
      exact W.iret (v := 0) hx hb hr (fun t ht hW => ⟨⟨0, (), rfl, (by rw [if_pos (Or.inr c_2)]), QW.mk ht hW hP9 hK9 hD9⟩, hS.F ht⟩) hS.2.2 dX11_cost_43
    ·
      refine lv_lookup (off := 43) (tgt := 44) hx hb dX11_cost_1 (by decide) (lk_none _ _ (fun h => c_1 (Int32.toInt_inj.mp h)) (fun h => c_2 (Int32.toInt_inj.mp h))) (by decide) ?_
      refine lv_iconst (v := (-1)) hx hb dX11_cost_44 (by decide) ?_
      have hP9 := hP.sub (ws' := []) [] rfl
      have hD9 := hD.sub (ws' := []) [] (by decide) rfl
      have hK9 := hK.sub (tys' := []) [] rfl
      refine W.widen (k := 0) (n := 0) (by omega) (by omega) ?_
      exact W.iret (v := (-1)) hx hb hr (fun t ht hW => ⟨⟨(-1), (), rfl, (by rw [if_neg (fun h => h.elim c_1 c_2)]), QW.mk ht hW hP9 hK9 hD9⟩, hS.F ht⟩) hS.2.2 dX11_cost_45
set_option maxHeartbeats 4000000 in
set_option maxRecDepth 100000 in
theorem c_X11_message (l : Launch) (dC : Nat → ClassId) (dI : Nat → Nat → Nat) (sz : Nat) (h0 : Nat) (ta : Nat) (oa : Nat) (da : Nat) (ka : Nat) (ea : Nat) (pa : Nat) (ha : Nat) (la : Nat) (sa : Nat) (tr : Nat) (px : Nat) (p1 : Nat) (p2 : Nat) (p3 : Nat) (pr : Nat) (cp : ClassId) : Met l yX11_message (.code yX11_message cX11_message 3 (some .int) :: tb) ({ frames := 4, cells := 0, slots := 0, locals := 92 }) (va_Pc [.ref h0] (PW (dC, dI) sz [(h0, .inr (11, [.ref ta, .ref oa, .ref da, .ref ka, .ref ea, .ref pa, .ref ha, .ref la, .ref sa])), (ta, .inr (0, [.ref tr, .int 0, .int 0])), (sa, .inr (4, [.ref px, .ref p1, .ref p2, .ref p3, .int 0, .int 0])), (px, .inr (0, [.ref pr, .int 0, .int 0])), (pr, .inl (cp, 3000, .inl (fun _ => 0)))] [(cp, .int)])) (va_Qi (fun (r : Int32) (_ : Unit) => r = (-1)) (fun _ T9 => QW (dC, dI) (va_A [(h0, .inr (11, [.ref ta, .ref oa, .ref da, .ref ka, .ref ea, .ref pa, .ref ha, .ref la, .ref sa])), (ta, .inr (0, [.ref tr, .int 0, .int 0])), (sa, .inr (4, [.ref px, .ref p1, .ref p2, .ref p3, .int 0, .int 0])), (px, .inr (0, [.ref pr, .int 0, .int 0])), (pr, .inl (cp, 3000, .inl (fun _ => 0)))] sz) [] [] T9) (va_A [(h0, .inr (11, [.ref ta, .ref oa, .ref da, .ref ka, .ref ea, .ref pa, .ref ha, .ref la, .ref sa])), (ta, .inr (0, [.ref tr, .int 0, .int 0])), (sa, .inr (4, [.ref px, .ref p1, .ref p2, .ref p3, .int 0, .int 0])), (px, .inr (0, [.ref pr, .int 0, .int 0])), (pr, .inl (cp, 3000, .inl (fun _ => 0)))] sz)) 0 0 (va_A [(h0, .inr (11, [.ref ta, .ref oa, .ref da, .ref ka, .ref ea, .ref pa, .ref ha, .ref la, .ref sa])), (ta, .inr (0, [.ref tr, .int 0, .int 0])), (sa, .inr (4, [.ref px, .ref p1, .ref p2, .ref p3, .int 0, .int 0])), (px, .inr (0, [.ref pr, .int 0, .int 0])), (pr, .inl (cp, 3000, .inl (fun _ => 0)))] sz) := by
  refine Met.ofW (cc := cX11_message) (maxL := 3) (ret := (some .int)) (by decide) rfl ?_
  intro p e s m args below meth c s₁ B hml hv
  obtain ⟨rfl, hsz, hP, hK, hD0, hE⟩ := hv
  have hx := B.exec
  have hb := B.bytes
  have hr := B.returns
  have hts : ∀ w ∈ tb, w.before _ s = true := fun w h => atoms_spec (ws := .code yX11_message cX11_message 3 (some .int) :: tb) B.pre w (List.mem_cons_of_mem _ h)
  have hown : s.vm.findClass RX11 = some m.cls := findClass_of_methodNamed B.named
  have hlocks := B.notSynchronized
  subst hsz
  have hD := hD0.self (sz := s.heap.size)
  generalize hAe : va_A [(h0, .inr (11, [.ref ta, .ref oa, .ref da, .ref ka, .ref ea, .ref pa, .ref ha, .ref la, .ref sa])), (ta, .inr (0, [.ref tr, .int 0, .int 0])), (sa, .inr (4, [.ref px, .ref p1, .ref p2, .ref p3, .int 0, .int 0])), (px, .inr (0, [.ref pr, .int 0, .int 0])), (pr, .inl (cp, 3000, .inl (fun _ => 0)))] s.heap.size = A at hD ⊢
  have hA : ∀ q : Nat, s.heap.size ≤ q → A q := fun q h => by rw [← hAe]; exact Or.inr h
  have hS : va_S A s.heap s.heap [] := va_S.rf
  have hP : va_P (dC, dI) vwCl [(h0, .inr (11, [.ref ta, .ref oa, .ref da, .ref ka, .ref ea, .ref pa, .ref ha, .ref la, .ref sa])), (ta, .inr (0, [.ref tr, .int 0, .int 0])), (sa, .inr (4, [.ref px, .ref p1, .ref p2, .ref p3, .int 0, .int 0])), (px, .inr (0, [.ref pr, .int 0, .int 0])), (pr, .inl (cp, 3000, .inl (fun _ => 0)))] s.heap := hP
  have hl := lv_entry ([.ref h0]) (n := 3) (Nat.le_of_ble_eq_true rfl)
  rw [lg_entry_eq]
  generalize (lg_sl ([.ref h0]) ++ List.replicate (3 - (lg_sl ([.ref h0])).length) Slot.unset).toArray = ls at hl ⊢
  have hl : lv_has ls 3 [(0, .ref h0)] := hl
  refine lv_aload_n hx hb dX11_message_0 rfl (lv_at hl 0 rfl) ?_
  refine va_get (D := (dC, dI)) (ci := 11) (v := .ref sa) (C := RX11) (T := TX11) (N := 9) hx hb hts it_11 hown hK hP 0 rfl rfl 8 (by decide) (hts _ kt_170) (fun _ h9 => h9) rfl dX11_message_1 ?_
  refine lv_aload_n hx hb dX11_message_4 rfl (lv_at hl 0 rfl) ?_
  refine va_get (D := (dC, dI)) (ci := 11) (v := .ref ta) (C := RX11) (T := TX11) (N := 9) hx hb hts it_11 hown hK hP 0 rfl rfl 0 (by decide) (hts _ kt_132) (fun _ h9 => h9) rfl dX11_message_5 ?_
  have hPc := hP.sub (ws' := [(sa, .inr (4, [.ref px, .ref p1, .ref p2, .ref p3, .int 0, .int 0])), (px, .inr (0, [.ref pr, .int 0, .int 0])), (pr, .inl (cp, 3000, .inl (fun _ => 0))), (ta, .inr (0, [.ref tr, .int 0, .int 0]))]) [2, 3, 4, 1] rfl
  have hDc := hD.sub (ws' := [(sa, .inr (4, [.ref px, .ref p1, .ref p2, .ref p3, .int 0, .int 0])), (px, .inr (0, [.ref pr, .int 0, .int 0])), (pr, .inl (cp, 3000, .inl (fun _ => 0))), (ta, .inr (0, [.ref tr, .int 0, .int 0]))]) [2, 3, 4, 1] (by decide) rfl
  have hKc := hK.sub (tys' := [(cp, .int)]) [0] rfl
  have hFc := va_free (wc := [(sa, .inr (4, [.ref px, .ref p1, .ref p2, .ref p3, .int 0, .int 0])), (px, .inr (0, [.ref pr, .int 0, .int 0])), (pr, .inl (cp, 3000, .inl (fun _ => 0))), (ta, .inr (0, [.ref tr, .int 0, .int 0]))]) hD hS hA [2, 3, 4, 1] rfl
  refine va_calli (va_runV (As := [.ref ta]) (rest := []) ⟨hx, hb, hml, hown, hts⟩ (c_X4_read l dC dI s.heap.size sa px p1 p2 p3 pr ta tr cp ) ⟨callB_of 1 hts (gi kt_227) rfl rfl rfl (hts _ kt_166) (hts _ kt_228) (by decide +kernel) ⟨Nat.le_of_ble_eq_true rfl, Nat.le_of_ble_eq_true rfl⟩, (hts _ kt_229), (hts _ kt_230)⟩ ⟨fun a U g mk q => ⟨q.1, PW.calling q.2⟩, va_recv hKc hPc (ci := 4) (q0 := 0) rfl rfl, fun U hU hW => ⟨rfl, PW.mk hU hW hPc hKc hDc hE⟩⟩ rfl rfl hl.1 rfl (lv_room (Nat.le_of_ble_eq_true rfl)) dX11_message_8 ⟨by show _ + 0 ≤ 0; omega, by show _ + 0 ≤ 0; omega⟩) hS (fun q _ h => hFc q h) hFc (fun r_1 u t H1 locs ht hvm hw hB hz1 hk1 hS => ?_)
  have hB1 := hB
  obtain ⟨hP, hD, hK⟩ := QW.join (wr := [(h0, .inr (11, [.ref ta, .ref oa, .ref da, .ref ka, .ref ea, .ref pa, .ref ha, .ref la, .ref sa]))]) hP hD hK [2, 3, 4, 1] [0] rfl rfl (by decide) (by decide) hk1 hFc ht hvm hB1
  generalize H1 = H at hP hS ⊢
  have hK : va_K (dC, dI) vwCl [(cp, .int)] s := hK.sub [0] rfl
  have hP : va_P (dC, dI) vwCl [(h0, .inr (11, [.ref ta, .ref oa, .ref da, .ref ka, .ref ea, .ref pa, .ref ha, .ref la, .ref sa])), (ta, .inr (0, [.ref tr, .int 0, .int 0]))] H := hP
  have hD : va_D A [(h0, .inr (11, [.ref ta, .ref oa, .ref da, .ref ka, .ref ea, .ref pa, .ref ha, .ref la, .ref sa])), (ta, .inr (0, [.ref tr, .int 0, .int 0]))] := hD
  have hw : r_1 = 0 := hw
  subst hw
  refine lv_istore_n (lv' := [(1, .int 0), (0, .ref h0)]) hx hb dX11_message_11 rfl hl (by decide) rfl (fun ls hl => ?_)
  refine lv_aload_n hx hb dX11_message_12 rfl (lv_at hl 1 rfl) ?_
  refine va_get (D := (dC, dI)) (ci := 11) (v := .ref ta) (C := RX11) (T := TX11) (N := 9) hx hb hts it_11 hown hK hP 0 rfl rfl 0 (by decide) (hts _ kt_132) (fun _ h9 => h9) rfl dX11_message_13 ?_
  have hPc := hP.sub (ws' := [(ta, .inr (0, [.ref tr, .int 0, .int 0]))]) [1] rfl
  have hDc := hD.sub (ws' := [(ta, .inr (0, [.ref tr, .int 0, .int 0]))]) [1] (by decide) rfl
  have hKc := hK.sub (tys' := []) [] rfl
  have hFc := va_free (wc := [(ta, .inr (0, [.ref tr, .int 0, .int 0]))]) hD hS hA [1] rfl
  refine va_callv (va_runV (As := []) (rest := []) ⟨hx, hb, hml, hown, hts⟩ (c_X0_clear l dC dI H.size ta tr 0 0 ) ⟨callB_of 0 hts (gi kt_178) rfl rfl rfl (hts _ kt_10) (hts _ kt_218) (by decide +kernel) ⟨Nat.le_of_ble_eq_true rfl, Nat.le_of_ble_eq_true rfl⟩, (hts _ kt_180), (hts _ kt_181)⟩ ⟨fun a U g mk q => ⟨q.1, PW.calling q.2⟩, va_recv hKc hPc (ci := 0) (q0 := 0) rfl rfl, fun U hU hW => ⟨rfl, PW.mk hU hW hPc hKc hDc hE⟩⟩ rfl rfl hl.1 rfl (lv_room (Nat.le_of_ble_eq_true rfl)) dX11_message_16 ⟨by show _ + 0 ≤ 0; omega, by show _ + 0 ≤ 0; omega⟩) hS (fun q _ h => hFc q h) hFc (fun u t H1 locs ht hvm hw hB hz1 hk1 hS => ?_)
  have hB1 := hB
  obtain ⟨hP, hD, hK⟩ := QW.join (wr := [(h0, .inr (11, [.ref ta, .ref oa, .ref da, .ref ka, .ref ea, .ref pa, .ref ha, .ref la, .ref sa]))]) hP hD hK [1] [0] rfl rfl (by decide) (by decide) hk1 hFc ht hvm hB1
  generalize H1 = H at hP hS ⊢
  have hK : va_K (dC, dI) vwCl [(cp, .int)] s := hK.sub [0] rfl
  have hP : va_P (dC, dI) vwCl [(h0, .inr (11, [.ref ta, .ref oa, .ref da, .ref ka, .ref ea, .ref pa, .ref ha, .ref la, .ref sa])), (ta, .inr (0, [.ref tr, .int 0, .int 0]))] H := hP
  have hD : va_D A [(h0, .inr (11, [.ref ta, .ref oa, .ref da, .ref ka, .ref ea, .ref pa, .ref ha, .ref la, .ref sa])), (ta, .inr (0, [.ref tr, .int 0, .int 0]))] := hD
  refine lv_iload_n hx hb dX11_message_19 rfl (lv_at hl 0 rfl) ?_
  refine lv_if_ne (tgt := 25) hx hb dX11_message_20 (by decide) (fun c_3 => absurd (by decide) c_3) (fun c_3 => ?_)
  refine lv_iconst (v := (-1)) hx hb dX11_message_23 (by decide) ?_
  have hP9 := hP.sub (ws' := []) [] rfl
  have hD9 := hD.sub (ws' := []) [] (by decide) rfl
  have hK9 := hK.sub (tys' := []) [] rfl
  refine W.widen (k := 0) (n := 0) (by omega) (by omega) ?_
  exact W.iret (v := (-1)) hx hb hr (fun t ht hW => ⟨⟨(-1), (), rfl, rfl, QW.mk ht hW hP9 hK9 hD9⟩, hS.F ht⟩) hS.2.2 dX11_message_24
set_option maxHeartbeats 4000000 in
set_option maxRecDepth 100000 in
theorem c_X11_seals (l : Launch) (dC : Nat → ClassId) (dI : Nat → Nat → Nat) (sz : Nat) (h0 : Nat) (ta : Nat) (oa : Nat) (da : Nat) (ka : Nat) (ea : Nat) (pa : Nat) (ha : Nat) (la : Nat) (sa : Nat) (l0 : Nat) (l1 : Nat) (l2 : Nat) (l3 : Nat) : Met l yX11_seals (.code yX11_seals cX11_seals 1 (some .int) :: tb) ({ frames := 1, cells := 0, slots := 0, locals := 23 }) (va_Pc [.ref h0] (PW (dC, dI) sz [(h0, .inr (11, [.ref ta, .ref oa, .ref da, .ref ka, .ref ea, .ref pa, .ref ha, .ref la, .ref sa])), (la, .inr (4, [.ref l0, .ref l1, .ref l2, .ref l3, .int 0, .int 0]))] [])) (va_Qi (fun (r : Int32) (_ : Unit) => r = 0) (fun _ T9 => QW (dC, dI) (va_A [(h0, .inr (11, [.ref ta, .ref oa, .ref da, .ref ka, .ref ea, .ref pa, .ref ha, .ref la, .ref sa])), (la, .inr (4, [.ref l0, .ref l1, .ref l2, .ref l3, .int 0, .int 0]))] sz) [] [] T9) (va_A [(h0, .inr (11, [.ref ta, .ref oa, .ref da, .ref ka, .ref ea, .ref pa, .ref ha, .ref la, .ref sa])), (la, .inr (4, [.ref l0, .ref l1, .ref l2, .ref l3, .int 0, .int 0]))] sz)) 0 0 (va_A [(h0, .inr (11, [.ref ta, .ref oa, .ref da, .ref ka, .ref ea, .ref pa, .ref ha, .ref la, .ref sa])), (la, .inr (4, [.ref l0, .ref l1, .ref l2, .ref l3, .int 0, .int 0]))] sz) := by
  refine Met.ofW (cc := cX11_seals) (maxL := 1) (ret := (some .int)) (by decide) rfl ?_
  intro p e s m args below meth c s₁ B hml hv
  obtain ⟨rfl, hsz, hP, hK, hD0, hE⟩ := hv
  have hx := B.exec
  have hb := B.bytes
  have hr := B.returns
  have hts : ∀ w ∈ tb, w.before _ s = true := fun w h => atoms_spec (ws := .code yX11_seals cX11_seals 1 (some .int) :: tb) B.pre w (List.mem_cons_of_mem _ h)
  have hown : s.vm.findClass RX11 = some m.cls := findClass_of_methodNamed B.named
  have hlocks := B.notSynchronized
  subst hsz
  have hD := hD0.self (sz := s.heap.size)
  generalize hAe : va_A [(h0, .inr (11, [.ref ta, .ref oa, .ref da, .ref ka, .ref ea, .ref pa, .ref ha, .ref la, .ref sa])), (la, .inr (4, [.ref l0, .ref l1, .ref l2, .ref l3, .int 0, .int 0]))] s.heap.size = A at hD ⊢
  have hA : ∀ q : Nat, s.heap.size ≤ q → A q := fun q h => by rw [← hAe]; exact Or.inr h
  have hS : va_S A s.heap s.heap [] := va_S.rf
  have hP : va_P (dC, dI) vwCl [(h0, .inr (11, [.ref ta, .ref oa, .ref da, .ref ka, .ref ea, .ref pa, .ref ha, .ref la, .ref sa])), (la, .inr (4, [.ref l0, .ref l1, .ref l2, .ref l3, .int 0, .int 0]))] s.heap := hP
  have hl := lv_entry ([.ref h0]) (n := 1) (Nat.le_of_ble_eq_true rfl)
  rw [lg_entry_eq]
  generalize (lg_sl ([.ref h0]) ++ List.replicate (1 - (lg_sl ([.ref h0])).length) Slot.unset).toArray = ls at hl ⊢
  have hl : lv_has ls 1 [(0, .ref h0)] := hl
  refine lv_aload_n hx hb dX11_seals_0 rfl (lv_at hl 0 rfl) ?_
  refine va_get (D := (dC, dI)) (ci := 11) (v := .ref la) (C := RX11) (T := TX11) (N := 9) hx hb hts it_11 hown hK hP 0 rfl rfl 7 (by decide) (hts _ kt_169) (fun _ h9 => h9) rfl dX11_seals_1 ?_
  obtain ⟨q_1, hq_1⟩ := hE.str
  refine va_ldcS hx hb hown hq_1 dX11_seals_4 ?_
  have hPc := hP.sub (ws' := [(la, .inr (4, [.ref l0, .ref l1, .ref l2, .ref l3, .int 0, .int 0]))]) [1] rfl
  have hDc := hD.sub (ws' := [(la, .inr (4, [.ref l0, .ref l1, .ref l2, .ref l3, .int 0, .int 0]))]) [1] (by decide) rfl
  have hKc := hK.sub (tys' := []) [] rfl
  have hFc := va_free (wc := [(la, .inr (4, [.ref l0, .ref l1, .ref l2, .ref l3, .int 0, .int 0]))]) hD hS hA [1] rfl
  refine va_calli (va_runV (As := [.ref q_1]) (rest := []) ⟨hx, hb, hml, hown, hts⟩ (c_X4_countOf l dC dI s.heap.size la l0 l1 l2 l3 q_1 ) ⟨callB_of 1 hts (gi kt_231) rfl rfl rfl (hts _ kt_166) (hts _ kt_232) (by decide +kernel) ⟨Nat.le_of_ble_eq_true rfl, Nat.le_of_ble_eq_true rfl⟩, (hts _ kt_233), (hts _ kt_234)⟩ ⟨fun a U g mk q => ⟨q.1, PW.calling q.2⟩, va_recv hKc hPc (ci := 4) (q0 := 0) rfl rfl, fun U hU hW => ⟨rfl, PW.mk hU hW hPc hKc hDc hE⟩⟩ rfl rfl hl.1 rfl (lv_room (Nat.le_of_ble_eq_true rfl)) dX11_seals_6 ⟨by show _ + 0 ≤ 0; omega, by show _ + 0 ≤ 0; omega⟩) hS (fun q _ h => hFc q h) hFc (fun r_2 u t H1 locs ht hvm hw hB hz1 hk1 hS => ?_)
  have hB1 := hB
  obtain ⟨hP, hD, hK⟩ := QW.join (wr := [(h0, .inr (11, [.ref ta, .ref oa, .ref da, .ref ka, .ref ea, .ref pa, .ref ha, .ref la, .ref sa]))]) hP hD hK [1] [0] rfl rfl (by decide) (by decide) hk1 hFc ht hvm hB1
  generalize H1 = H at hP hS ⊢
  have hK : va_K (dC, dI) vwCl [] s := hK.sub [] rfl
  have hP : va_P (dC, dI) vwCl [(h0, .inr (11, [.ref ta, .ref oa, .ref da, .ref ka, .ref ea, .ref pa, .ref ha, .ref la, .ref sa])), (la, .inr (4, [.ref l0, .ref l1, .ref l2, .ref l3, .int 0, .int 0]))] H := hP
  have hD : va_D A [(h0, .inr (11, [.ref ta, .ref oa, .ref da, .ref ka, .ref ea, .ref pa, .ref ha, .ref la, .ref sa])), (la, .inr (4, [.ref l0, .ref l1, .ref l2, .ref l3, .int 0, .int 0]))] := hD
  have hw : r_2 = 0 := hw
  subst hw
  have hP9 := hP.sub (ws' := []) [] rfl
  have hD9 := hD.sub (ws' := []) [] (by decide) rfl
  have hK9 := hK.sub (tys' := []) [] rfl
  refine W.widen (k := 0) (n := 0) (by omega) (by omega) ?_
  exact W.iret (v := 0) hx hb hr (fun t ht hW => ⟨⟨0, (), rfl, rfl, QW.mk ht hW hP9 hK9 hD9⟩, hS.F ht⟩) hS.2.2 dX11_seals_9
set_option maxHeartbeats 4000000 in
set_option maxRecDepth 100000 in
theorem c_X11_sealed (l : Launch) (dC : Nat → ClassId) (dI : Nat → Nat → Nat) (sz : Nat) (h0 : Nat) (ta : Nat) (oa : Nat) (da : Nat) (ka : Nat) (ea : Nat) (pa : Nat) (ha : Nat) (la : Nat) (sa : Nat) (l0 : Nat) (l1 : Nat) (l2 : Nat) (l3 : Nat) (x1 : Int32) (x2 : Int32) : Met l yX11_sealed (.code yX11_sealed cX11_sealed 4 (some .int) :: tb) ({ frames := 1, cells := 0, slots := 0, locals := 24 }) (va_Pc [.ref h0, .int x1, .int x2] (PW (dC, dI) sz [(h0, .inr (11, [.ref ta, .ref oa, .ref da, .ref ka, .ref ea, .ref pa, .ref ha, .ref la, .ref sa])), (la, .inr (4, [.ref l0, .ref l1, .ref l2, .ref l3, .int 0, .int 0]))] [])) (va_Qi (fun (r : Int32) (_ : Unit) => r = (if x2 < 0 then (-1) else (-2))) (fun _ T9 => QW (dC, dI) (va_A [(h0, .inr (11, [.ref ta, .ref oa, .ref da, .ref ka, .ref ea, .ref pa, .ref ha, .ref la, .ref sa])), (la, .inr (4, [.ref l0, .ref l1, .ref l2, .ref l3, .int 0, .int 0]))] sz) [] [] T9) (va_A [(h0, .inr (11, [.ref ta, .ref oa, .ref da, .ref ka, .ref ea, .ref pa, .ref ha, .ref la, .ref sa])), (la, .inr (4, [.ref l0, .ref l1, .ref l2, .ref l3, .int 0, .int 0]))] sz)) 0 0 (va_A [(h0, .inr (11, [.ref ta, .ref oa, .ref da, .ref ka, .ref ea, .ref pa, .ref ha, .ref la, .ref sa])), (la, .inr (4, [.ref l0, .ref l1, .ref l2, .ref l3, .int 0, .int 0]))] sz) := by
  refine Met.ofW (cc := cX11_sealed) (maxL := 4) (ret := (some .int)) (by decide) rfl ?_
  intro p e s m args below meth c s₁ B hml hv
  obtain ⟨rfl, hsz, hP, hK, hD0, hE⟩ := hv
  have hx := B.exec
  have hb := B.bytes
  have hr := B.returns
  have hts : ∀ w ∈ tb, w.before _ s = true := fun w h => atoms_spec (ws := .code yX11_sealed cX11_sealed 4 (some .int) :: tb) B.pre w (List.mem_cons_of_mem _ h)
  have hown : s.vm.findClass RX11 = some m.cls := findClass_of_methodNamed B.named
  have hlocks := B.notSynchronized
  subst hsz
  have hD := hD0.self (sz := s.heap.size)
  generalize hAe : va_A [(h0, .inr (11, [.ref ta, .ref oa, .ref da, .ref ka, .ref ea, .ref pa, .ref ha, .ref la, .ref sa])), (la, .inr (4, [.ref l0, .ref l1, .ref l2, .ref l3, .int 0, .int 0]))] s.heap.size = A at hD ⊢
  have hA : ∀ q : Nat, s.heap.size ≤ q → A q := fun q h => by rw [← hAe]; exact Or.inr h
  have hS : va_S A s.heap s.heap [] := va_S.rf
  have hP : va_P (dC, dI) vwCl [(h0, .inr (11, [.ref ta, .ref oa, .ref da, .ref ka, .ref ea, .ref pa, .ref ha, .ref la, .ref sa])), (la, .inr (4, [.ref l0, .ref l1, .ref l2, .ref l3, .int 0, .int 0]))] s.heap := hP
  have hl := lv_entry ([.ref h0, .int x1, .int x2]) (n := 4) (Nat.le_of_ble_eq_true rfl)
  rw [lg_entry_eq]
  generalize (lg_sl ([.ref h0, .int x1, .int x2]) ++ List.replicate (4 - (lg_sl ([.ref h0, .int x1, .int x2])).length) Slot.unset).toArray = ls at hl ⊢
  have hl : lv_has ls 4 [(0, .ref h0), (1, .int x1), (2, .int x2)] := hl
  refine lv_iload_n hx hb dX11_sealed_0 rfl (lv_at hl 2 rfl) ?_
  refine lv_if_ge (tgt := 6) hx hb dX11_sealed_1 (by decide) (fun c_1 => ?_) (fun c_1 => ?_)
  ·
    refine lv_aload_n hx hb dX11_sealed_6 rfl (lv_at hl 0 rfl) ?_
    refine va_get (D := (dC, dI)) (ci := 11) (v := .ref la) (C := RX11) (T := TX11) (N := 9) hx hb hts it_11 hown hK hP 0 rfl rfl 7 (by decide) (hts _ kt_169) (fun _ h9 => h9) rfl dX11_sealed_7 ?_
    obtain ⟨q_2, hq_2⟩ := hE.str
    refine va_ldcS hx hb hown hq_2 dX11_sealed_10 ?_
    refine lv_iload_n hx hb dX11_sealed_12 rfl (lv_at hl 1 rfl) ?_
    have hPc := hP.sub (ws' := [(la, .inr (4, [.ref l0, .ref l1, .ref l2, .ref l3, .int 0, .int 0]))]) [1] rfl
    have hDc := hD.sub (ws' := [(la, .inr (4, [.ref l0, .ref l1, .ref l2, .ref l3, .int 0, .int 0]))]) [1] (by decide) rfl
    have hKc := hK.sub (tys' := []) [] rfl
    have hFc := va_free (wc := [(la, .inr (4, [.ref l0, .ref l1, .ref l2, .ref l3, .int 0, .int 0]))]) hD hS hA [1] rfl
    refine va_calli (va_runV (As := [.ref q_2, .int x1]) (rest := []) ⟨hx, hb, hml, hown, hts⟩ (c_X4_fieldOf l dC dI s.heap.size la l0 l1 l2 l3 q_2 x1 ) ⟨callB_of 2 hts (gi kt_235) rfl rfl rfl (hts _ kt_166) (hts _ kt_236) (by decide +kernel) ⟨Nat.le_of_ble_eq_true rfl, Nat.le_of_ble_eq_true rfl⟩, (hts _ kt_237), (hts _ kt_238)⟩ ⟨fun a U g mk q => ⟨q.1, PW.calling q.2⟩, va_recv hKc hPc (ci := 4) (q0 := 0) rfl rfl, fun U hU hW => ⟨rfl, PW.mk hU hW hPc hKc hDc hE⟩⟩ rfl rfl hl.1 rfl (lv_room (Nat.le_of_ble_eq_true rfl)) dX11_sealed_13 ⟨by show _ + 0 ≤ 0; omega, by show _ + 0 ≤ 0; omega⟩) hS (fun q _ h => hFc q h) hFc (fun r_3 u t H1 locs ht hvm hw hB hz1 hk1 hS => ?_)
    have hB1 := hB
    obtain ⟨hP, hD, hK⟩ := QW.join (wr := [(h0, .inr (11, [.ref ta, .ref oa, .ref da, .ref ka, .ref ea, .ref pa, .ref ha, .ref la, .ref sa]))]) hP hD hK [1] [0] rfl rfl (by decide) (by decide) hk1 hFc ht hvm hB1
    generalize H1 = H at hP hS ⊢
    have hK : va_K (dC, dI) vwCl [] s := hK.sub [] rfl
    have hP : va_P (dC, dI) vwCl [(h0, .inr (11, [.ref ta, .ref oa, .ref da, .ref ka, .ref ea, .ref pa, .ref ha, .ref la, .ref sa])), (la, .inr (4, [.ref l0, .ref l1, .ref l2, .ref l3, .int 0, .int 0]))] H := hP
    have hD : va_D A [(h0, .inr (11, [.ref ta, .ref oa, .ref da, .ref ka, .ref ea, .ref pa, .ref ha, .ref la, .ref sa])), (la, .inr (4, [.ref l0, .ref l1, .ref l2, .ref l3, .int 0, .int 0]))] := hD
    have hw : r_3 = (-1) := hw
    subst hw
    refine lv_istore_n (lv' := [(3, .int (-1)), (0, .ref h0), (1, .int x1), (2, .int x2)]) hx hb dX11_sealed_16 rfl hl (by decide) rfl (fun ls hl => ?_)
    refine lv_iload_n hx hb dX11_sealed_17 rfl (lv_at hl 0 rfl) ?_
    refine lv_if_ge (tgt := 26) hx hb dX11_sealed_18 (by decide) (fun c_4 => absurd c_4 (by decide)) (fun c_4 => ?_)
    refine lv_bipush (v := (-2)) hx hb dX11_sealed_21 (by decide) ?_
    refine lv_goto (tgt := 39) hx hb dX11_sealed_23 (by decide) ?_
    have hP9 := hP.sub (ws' := []) [] rfl
    have hD9 := hD.sub (ws' := []) [] (by decide) rfl
    have hK9 := hK.sub (tys' := []) [] rfl
    refine W.widen (k := 0) (n := 0) (by omega) (by omega) ?_
    exact W.iret (v := (-2)) hx hb hr (fun t ht hW => ⟨⟨(-2), (), rfl, (by rw [if_neg (Int32.not_lt.mpr c_1)]), QW.mk ht hW hP9 hK9 hD9⟩, hS.F ht⟩) hS.2.2 dX11_sealed_39
  ·
    refine lv_iconst (v := (-1)) hx hb dX11_sealed_4 (by decide) ?_
    have hP9 := hP.sub (ws' := []) [] rfl
    have hD9 := hD.sub (ws' := []) [] (by decide) rfl
    have hK9 := hK.sub (tys' := []) [] rfl
    refine W.widen (k := 0) (n := 0) (by omega) (by omega) ?_
    exact W.iret (v := (-1)) hx hb hr (fun t ht hW => ⟨⟨(-1), (), rfl, (by rw [if_pos (Int32.not_le.mp c_1)]), QW.mk ht hW hP9 hK9 hD9⟩, hS.F ht⟩) hS.2.2 dX11_sealed_5
set_option maxHeartbeats 4000000 in
set_option maxRecDepth 100000 in
theorem c_X11_plainBody (l : Launch) (dC : Nat → ClassId) (dI : Nat → Nat → Nat) (sz : Nat) (h0 : Nat) (ta : Nat) (oa : Nat) (da : Nat) (ka : Nat) (ea : Nat) (pa : Nat) (ha : Nat) (la : Nat) (sa : Nat) (l0 : Nat) (l1 : Nat) (l2 : Nat) (l3 : Nat) (x1 : Int32) : Met l yX11_plainBody (.code yX11_plainBody cX11_plainBody 2 (some .int) :: tb) ({ frames := 0, cells := 0, slots := 0, locals := 0 }) (va_Pc [.ref h0, .int x1] (PW (dC, dI) sz [(h0, .inr (11, [.ref ta, .ref oa, .ref da, .ref ka, .ref ea, .ref pa, .ref ha, .ref la, .ref sa])), (la, .inr (4, [.ref l0, .ref l1, .ref l2, .ref l3, .int 0, .int 0]))] [])) (va_Qi (fun (r : Int32) (_ : Unit) => r = (-2)) (fun _ T9 => QW (dC, dI) (va_A [(h0, .inr (11, [.ref ta, .ref oa, .ref da, .ref ka, .ref ea, .ref pa, .ref ha, .ref la, .ref sa])), (la, .inr (4, [.ref l0, .ref l1, .ref l2, .ref l3, .int 0, .int 0]))] sz) [] [] T9) (va_A [(h0, .inr (11, [.ref ta, .ref oa, .ref da, .ref ka, .ref ea, .ref pa, .ref ha, .ref la, .ref sa])), (la, .inr (4, [.ref l0, .ref l1, .ref l2, .ref l3, .int 0, .int 0]))] sz)) 0 0 (va_A [(h0, .inr (11, [.ref ta, .ref oa, .ref da, .ref ka, .ref ea, .ref pa, .ref ha, .ref la, .ref sa])), (la, .inr (4, [.ref l0, .ref l1, .ref l2, .ref l3, .int 0, .int 0]))] sz) := by
  refine Met.ofW (cc := cX11_plainBody) (maxL := 2) (ret := (some .int)) (by decide) rfl ?_
  intro p e s m args below meth c s₁ B hml hv
  obtain ⟨rfl, hsz, hP, hK, hD0, hE⟩ := hv
  have hx := B.exec
  have hb := B.bytes
  have hr := B.returns
  have hts : ∀ w ∈ tb, w.before _ s = true := fun w h => atoms_spec (ws := .code yX11_plainBody cX11_plainBody 2 (some .int) :: tb) B.pre w (List.mem_cons_of_mem _ h)
  have hown : s.vm.findClass RX11 = some m.cls := findClass_of_methodNamed B.named
  have hlocks := B.notSynchronized
  subst hsz
  have hD := hD0.self (sz := s.heap.size)
  generalize hAe : va_A [(h0, .inr (11, [.ref ta, .ref oa, .ref da, .ref ka, .ref ea, .ref pa, .ref ha, .ref la, .ref sa])), (la, .inr (4, [.ref l0, .ref l1, .ref l2, .ref l3, .int 0, .int 0]))] s.heap.size = A at hD ⊢
  have hA : ∀ q : Nat, s.heap.size ≤ q → A q := fun q h => by rw [← hAe]; exact Or.inr h
  have hS : va_S A s.heap s.heap [] := va_S.rf
  have hP : va_P (dC, dI) vwCl [(h0, .inr (11, [.ref ta, .ref oa, .ref da, .ref ka, .ref ea, .ref pa, .ref ha, .ref la, .ref sa])), (la, .inr (4, [.ref l0, .ref l1, .ref l2, .ref l3, .int 0, .int 0]))] s.heap := hP
  have hl := lv_entry ([.ref h0, .int x1]) (n := 2) (Nat.le_of_ble_eq_true rfl)
  rw [lg_entry_eq]
  generalize (lg_sl ([.ref h0, .int x1]) ++ List.replicate (2 - (lg_sl ([.ref h0, .int x1])).length) Slot.unset).toArray = ls at hl ⊢
  have hl : lv_has ls 2 [(0, .ref h0), (1, .int x1)] := hl
  refine lv_aload_n hx hb dX11_plainBody_0 rfl (lv_at hl 0 rfl) ?_
  refine va_get (D := (dC, dI)) (ci := 11) (v := .ref la) (C := RX11) (T := TX11) (N := 9) hx hb hts it_11 hown hK hP 0 rfl rfl 7 (by decide) (hts _ kt_169) (fun _ h9 => h9) rfl dX11_plainBody_1 ?_
  refine va_getN (D := (dC, dI)) (ci := 4) (v := .int 0) (C := RX4) (T := TX4) (N := 6) hx hb hts it_4 hown hK hP 1 rfl rfl 4 (by decide) (hE.nest kn_13) (fun _ h9 => h9) rfl dX11_plainBody_4 ?_
  refine lv_if_ne (tgt := 13) hx hb dX11_plainBody_7 (by decide) (fun c_1 => absurd (by decide) c_1) (fun c_1 => ?_)
  refine lv_bipush (v := (-2)) hx hb dX11_plainBody_10 (by decide) ?_
  have hP9 := hP.sub (ws' := []) [] rfl
  have hD9 := hD.sub (ws' := []) [] (by decide) rfl
  have hK9 := hK.sub (tys' := []) [] rfl
  refine W.widen (k := 0) (n := 0) (by omega) (by omega) ?_
  exact W.iret (v := (-2)) hx hb hr (fun t ht hW => ⟨⟨(-2), (), rfl, rfl, QW.mk ht hW hP9 hK9 hD9⟩, hS.F ht⟩) hS.2.2 dX11_plainBody_12
set_option maxHeartbeats 4000000 in
set_option maxRecDepth 100000 in
theorem c_X11_plainField (l : Launch) (dC : Nat → ClassId) (dI : Nat → Nat → Nat) (sz : Nat) (h0 : Nat) (ta : Nat) (oa : Nat) (da : Nat) (ka : Nat) (ea : Nat) (pa : Nat) (ha : Nat) (la : Nat) (sa : Nat) (l0 : Nat) (l1 : Nat) (l2 : Nat) (l3 : Nat) (x1 : Int32) (x2 : Int32) : Met l yX11_plainField (.code yX11_plainField cX11_plainField 3 (some .int) :: tb) ({ frames := 0, cells := 0, slots := 0, locals := 0 }) (va_Pc [.ref h0, .int x1, .int x2] (PW (dC, dI) sz [(h0, .inr (11, [.ref ta, .ref oa, .ref da, .ref ka, .ref ea, .ref pa, .ref ha, .ref la, .ref sa])), (la, .inr (4, [.ref l0, .ref l1, .ref l2, .ref l3, .int 0, .int 0]))] [])) (va_Qi (fun (r : Int32) (_ : Unit) => r = (-2)) (fun _ T9 => QW (dC, dI) (va_A [(h0, .inr (11, [.ref ta, .ref oa, .ref da, .ref ka, .ref ea, .ref pa, .ref ha, .ref la, .ref sa])), (la, .inr (4, [.ref l0, .ref l1, .ref l2, .ref l3, .int 0, .int 0]))] sz) [] [] T9) (va_A [(h0, .inr (11, [.ref ta, .ref oa, .ref da, .ref ka, .ref ea, .ref pa, .ref ha, .ref la, .ref sa])), (la, .inr (4, [.ref l0, .ref l1, .ref l2, .ref l3, .int 0, .int 0]))] sz)) 0 0 (va_A [(h0, .inr (11, [.ref ta, .ref oa, .ref da, .ref ka, .ref ea, .ref pa, .ref ha, .ref la, .ref sa])), (la, .inr (4, [.ref l0, .ref l1, .ref l2, .ref l3, .int 0, .int 0]))] sz) := by
  refine Met.ofW (cc := cX11_plainField) (maxL := 3) (ret := (some .int)) (by decide) rfl ?_
  intro p e s m args below meth c s₁ B hml hv
  obtain ⟨rfl, hsz, hP, hK, hD0, hE⟩ := hv
  have hx := B.exec
  have hb := B.bytes
  have hr := B.returns
  have hts : ∀ w ∈ tb, w.before _ s = true := fun w h => atoms_spec (ws := .code yX11_plainField cX11_plainField 3 (some .int) :: tb) B.pre w (List.mem_cons_of_mem _ h)
  have hown : s.vm.findClass RX11 = some m.cls := findClass_of_methodNamed B.named
  have hlocks := B.notSynchronized
  subst hsz
  have hD := hD0.self (sz := s.heap.size)
  generalize hAe : va_A [(h0, .inr (11, [.ref ta, .ref oa, .ref da, .ref ka, .ref ea, .ref pa, .ref ha, .ref la, .ref sa])), (la, .inr (4, [.ref l0, .ref l1, .ref l2, .ref l3, .int 0, .int 0]))] s.heap.size = A at hD ⊢
  have hA : ∀ q : Nat, s.heap.size ≤ q → A q := fun q h => by rw [← hAe]; exact Or.inr h
  have hS : va_S A s.heap s.heap [] := va_S.rf
  have hP : va_P (dC, dI) vwCl [(h0, .inr (11, [.ref ta, .ref oa, .ref da, .ref ka, .ref ea, .ref pa, .ref ha, .ref la, .ref sa])), (la, .inr (4, [.ref l0, .ref l1, .ref l2, .ref l3, .int 0, .int 0]))] s.heap := hP
  have hl := lv_entry ([.ref h0, .int x1, .int x2]) (n := 3) (Nat.le_of_ble_eq_true rfl)
  rw [lg_entry_eq]
  generalize (lg_sl ([.ref h0, .int x1, .int x2]) ++ List.replicate (3 - (lg_sl ([.ref h0, .int x1, .int x2])).length) Slot.unset).toArray = ls at hl ⊢
  have hl : lv_has ls 3 [(0, .ref h0), (1, .int x1), (2, .int x2)] := hl
  refine lv_iload_n hx hb dX11_plainField_0 rfl (lv_at hl 1 rfl) ?_
  refine lv_if_lt (tgt := 15) hx hb dX11_plainField_1 (by decide) (fun c_1 => ?_) (fun c_1 => ?_)
  ·
    refine lv_bipush (v := (-2)) hx hb dX11_plainField_15 (by decide) ?_
    have hP9 := hP.sub (ws' := []) [] rfl
    have hD9 := hD.sub (ws' := []) [] (by decide) rfl
    have hK9 := hK.sub (tys' := []) [] rfl
    refine W.widen (k := 0) (n := 0) (by omega) (by omega) ?_
    exact W.iret (v := (-2)) hx hb hr (fun t ht hW => ⟨⟨(-2), (), rfl, rfl, QW.mk ht hW hP9 hK9 hD9⟩, hS.F ht⟩) hS.2.2 dX11_plainField_17
  ·
    refine lv_iload_n hx hb dX11_plainField_4 rfl (lv_at hl 1 rfl) ?_
    refine lv_aload_n hx hb dX11_plainField_5 rfl (lv_at hl 0 rfl) ?_
    refine va_get (D := (dC, dI)) (ci := 11) (v := .ref la) (C := RX11) (T := TX11) (N := 9) hx hb hts it_11 hown hK hP 0 rfl rfl 7 (by decide) (hts _ kt_169) (fun _ h9 => h9) rfl dX11_plainField_6 ?_
    refine va_getN (D := (dC, dI)) (ci := 4) (v := .int 0) (C := RX4) (T := TX4) (N := 6) hx hb hts it_4 hown hK hP 1 rfl rfl 4 (by decide) (hE.nest kn_13) (fun _ h9 => h9) rfl dX11_plainField_9 ?_
    refine lv_icmp_lt (tgt := 18) hx hb dX11_plainField_12 (by decide) (fun c_2 => ?_) (fun c_2 => ?_)
    ·
      exact absurd c_2 c_1
    ·
      refine lv_bipush (v := (-2)) hx hb dX11_plainField_15 (by decide) ?_
      have hP9 := hP.sub (ws' := []) [] rfl
      have hD9 := hD.sub (ws' := []) [] (by decide) rfl
      have hK9 := hK.sub (tys' := []) [] rfl
      refine W.widen (k := 0) (n := 0) (by omega) (by omega) ?_
      exact W.iret (v := (-2)) hx hb hr (fun t ht hW => ⟨⟨(-2), (), rfl, rfl, QW.mk ht hW hP9 hK9 hD9⟩, hS.F ht⟩) hS.2.2 dX11_plainField_17
set_option maxHeartbeats 4000000 in
set_option maxRecDepth 100000 in
theorem c_X11_house (l : Launch) (dC : Nat → ClassId) (dI : Nat → Nat → Nat) (sz : Nat) (h0 : Nat) (ta : Nat) (oa : Nat) (da : Nat) (ka : Nat) (ea : Nat) (pa : Nat) (ha : Nat) (la : Nat) (sa : Nat) (tr : Nat) : Met l yX11_house (.code yX11_house cX11_house 1 (some .int) :: tb) ({ frames := 1, cells := 0, slots := 0, locals := 26 }) (va_Pc [.ref h0] (PW (dC, dI) sz [(h0, .inr (11, [.ref ta, .ref oa, .ref da, .ref ka, .ref ea, .ref pa, .ref ha, .ref la, .ref sa])), (ta, .inr (0, [.ref tr, .int 0, .int 0]))] [])) (va_Qi (fun (r : Int32) (_ : Unit) => r = (-1)) (fun _ T9 => QW (dC, dI) (va_A [(h0, .inr (11, [.ref ta, .ref oa, .ref da, .ref ka, .ref ea, .ref pa, .ref ha, .ref la, .ref sa])), (ta, .inr (0, [.ref tr, .int 0, .int 0]))] sz) [] [] T9) (va_A [(h0, .inr (11, [.ref ta, .ref oa, .ref da, .ref ka, .ref ea, .ref pa, .ref ha, .ref la, .ref sa])), (ta, .inr (0, [.ref tr, .int 0, .int 0]))] sz)) 0 0 (va_A [(h0, .inr (11, [.ref ta, .ref oa, .ref da, .ref ka, .ref ea, .ref pa, .ref ha, .ref la, .ref sa])), (ta, .inr (0, [.ref tr, .int 0, .int 0]))] sz) := by
  refine Met.ofW (cc := cX11_house) (maxL := 1) (ret := (some .int)) (by decide) rfl ?_
  intro p e s m args below meth c s₁ B hml hv
  obtain ⟨rfl, hsz, hP, hK, hD0, hE⟩ := hv
  have hx := B.exec
  have hb := B.bytes
  have hr := B.returns
  have hts : ∀ w ∈ tb, w.before _ s = true := fun w h => atoms_spec (ws := .code yX11_house cX11_house 1 (some .int) :: tb) B.pre w (List.mem_cons_of_mem _ h)
  have hown : s.vm.findClass RX11 = some m.cls := findClass_of_methodNamed B.named
  have hlocks := B.notSynchronized
  subst hsz
  have hD := hD0.self (sz := s.heap.size)
  generalize hAe : va_A [(h0, .inr (11, [.ref ta, .ref oa, .ref da, .ref ka, .ref ea, .ref pa, .ref ha, .ref la, .ref sa])), (ta, .inr (0, [.ref tr, .int 0, .int 0]))] s.heap.size = A at hD ⊢
  have hA : ∀ q : Nat, s.heap.size ≤ q → A q := fun q h => by rw [← hAe]; exact Or.inr h
  have hS : va_S A s.heap s.heap [] := va_S.rf
  have hP : va_P (dC, dI) vwCl [(h0, .inr (11, [.ref ta, .ref oa, .ref da, .ref ka, .ref ea, .ref pa, .ref ha, .ref la, .ref sa])), (ta, .inr (0, [.ref tr, .int 0, .int 0]))] s.heap := hP
  have hl := lv_entry ([.ref h0]) (n := 1) (Nat.le_of_ble_eq_true rfl)
  rw [lg_entry_eq]
  generalize (lg_sl ([.ref h0]) ++ List.replicate (1 - (lg_sl ([.ref h0])).length) Slot.unset).toArray = ls at hl ⊢
  have hl : lv_has ls 1 [(0, .ref h0)] := hl
  refine lv_aload_n hx hb dX11_house_0 rfl (lv_at hl 0 rfl) ?_
  refine va_get (D := (dC, dI)) (ci := 11) (v := .ref ta) (C := RX11) (T := TX11) (N := 9) hx hb hts it_11 hown hK hP 0 rfl rfl 0 (by decide) (hts _ kt_132) (fun _ h9 => h9) rfl dX11_house_1 ?_
  refine lv_iconst (v := 0) hx hb dX11_house_4 (by decide) ?_
  refine lv_aload_n hx hb dX11_house_5 rfl (lv_at hl 0 rfl) ?_
  refine va_get (D := (dC, dI)) (ci := 11) (v := .ref ta) (C := RX11) (T := TX11) (N := 9) hx hb hts it_11 hown hK hP 0 rfl rfl 0 (by decide) (hts _ kt_132) (fun _ h9 => h9) rfl dX11_house_6 ?_
  refine va_getN (D := (dC, dI)) (ci := 0) (v := .int 0) (C := RX0) (T := TX0) (N := 3) hx hb hts it_0 hown hK hP 1 rfl rfl 1 (by decide) (hE.nest kn_9) (fun _ h9 => h9) rfl dX11_house_9 ?_
  have hPc := hP.sub (ws' := [(ta, .inr (0, [.ref tr, .int 0, .int 0]))]) [1] rfl
  have hDc := hD.sub (ws' := [(ta, .inr (0, [.ref tr, .int 0, .int 0]))]) [1] (by decide) rfl
  have hKc := hK.sub (tys' := []) [] rfl
  have hFc := va_free (wc := [(ta, .inr (0, [.ref tr, .int 0, .int 0]))]) hD hS hA [1] rfl
  refine va_calli (va_runV (As := [.int 0, .int 0]) (rest := []) ⟨hx, hb, hml, hown, hts⟩ (c_X0_isName l dC dI s.heap.size ta tr ) ⟨callB_of 2 hts (gi kt_198) rfl rfl rfl (hts _ kt_10) (hts _ kt_239) (by decide +kernel) ⟨Nat.le_of_ble_eq_true rfl, Nat.le_of_ble_eq_true rfl⟩, (hts _ kt_200), (hts _ kt_201)⟩ ⟨fun a U g mk q => ⟨q.1, PW.calling q.2⟩, va_recv hKc hPc (ci := 0) (q0 := 0) rfl rfl, fun U hU hW => ⟨rfl, PW.mk hU hW hPc hKc hDc hE⟩⟩ rfl rfl hl.1 rfl (lv_room (Nat.le_of_ble_eq_true rfl)) dX11_house_12 ⟨by show _ + 0 ≤ 0; omega, by show _ + 0 ≤ 0; omega⟩) hS (fun q _ h => hFc q h) hFc (fun r_1 u t H1 locs ht hvm hw hB hz1 hk1 hS => ?_)
  have hB1 := hB
  obtain ⟨hP, hD, hK⟩ := QW.join (wr := [(h0, .inr (11, [.ref ta, .ref oa, .ref da, .ref ka, .ref ea, .ref pa, .ref ha, .ref la, .ref sa]))]) hP hD hK [1] [0] rfl rfl (by decide) (by decide) hk1 hFc ht hvm hB1
  generalize H1 = H at hP hS ⊢
  have hK : va_K (dC, dI) vwCl [] s := hK.sub [] rfl
  have hP : va_P (dC, dI) vwCl [(h0, .inr (11, [.ref ta, .ref oa, .ref da, .ref ka, .ref ea, .ref pa, .ref ha, .ref la, .ref sa])), (ta, .inr (0, [.ref tr, .int 0, .int 0]))] H := hP
  have hD : va_D A [(h0, .inr (11, [.ref ta, .ref oa, .ref da, .ref ka, .ref ea, .ref pa, .ref ha, .ref la, .ref sa])), (ta, .inr (0, [.ref tr, .int 0, .int 0]))] := hD
  have hw : r_1 = 0 := hw
  subst hw
  refine lv_if_ne (tgt := 27) hx hb dX11_house_15 (by decide) (fun c_2 => absurd (by decide) c_2) (fun c_2 => ?_)
  refine lv_aload_n hx hb dX11_house_18 rfl (lv_at hl 0 rfl) ?_
  refine va_get (D := (dC, dI)) (ci := 11) (v := .ref ta) (C := RX11) (T := TX11) (N := 9) hx hb hts it_11 hown hK hP 0 rfl rfl 0 (by decide) (hts _ kt_132) (fun _ h9 => h9) rfl dX11_house_19 ?_
  have hPc := hP.sub (ws' := [(ta, .inr (0, [.ref tr, .int 0, .int 0]))]) [1] rfl
  have hDc := hD.sub (ws' := [(ta, .inr (0, [.ref tr, .int 0, .int 0]))]) [1] (by decide) rfl
  have hKc := hK.sub (tys' := []) [] rfl
  have hFc := va_free (wc := [(ta, .inr (0, [.ref tr, .int 0, .int 0]))]) hD hS hA [1] rfl
  refine va_callv (va_runV (As := []) (rest := []) ⟨hx, hb, hml, hown, hts⟩ (c_X0_clear l dC dI H.size ta tr 0 0 ) ⟨callB_of 0 hts (gi kt_178) rfl rfl rfl (hts _ kt_10) (hts _ kt_218) (by decide +kernel) ⟨Nat.le_of_ble_eq_true rfl, Nat.le_of_ble_eq_true rfl⟩, (hts _ kt_180), (hts _ kt_181)⟩ ⟨fun a U g mk q => ⟨q.1, PW.calling q.2⟩, va_recv hKc hPc (ci := 0) (q0 := 0) rfl rfl, fun U hU hW => ⟨rfl, PW.mk hU hW hPc hKc hDc hE⟩⟩ rfl rfl hl.1 rfl (lv_room (Nat.le_of_ble_eq_true rfl)) dX11_house_22 ⟨by show _ + 0 ≤ 0; omega, by show _ + 0 ≤ 0; omega⟩) hS (fun q _ h => hFc q h) hFc (fun u t H1 locs ht hvm hw hB hz1 hk1 hS => ?_)
  have hB1 := hB
  obtain ⟨hP, hD, hK⟩ := QW.join (wr := [(h0, .inr (11, [.ref ta, .ref oa, .ref da, .ref ka, .ref ea, .ref pa, .ref ha, .ref la, .ref sa]))]) hP hD hK [1] [0] rfl rfl (by decide) (by decide) hk1 hFc ht hvm hB1
  generalize H1 = H at hP hS ⊢
  have hK : va_K (dC, dI) vwCl [] s := hK.sub [] rfl
  have hP : va_P (dC, dI) vwCl [(h0, .inr (11, [.ref ta, .ref oa, .ref da, .ref ka, .ref ea, .ref pa, .ref ha, .ref la, .ref sa])), (ta, .inr (0, [.ref tr, .int 0, .int 0]))] H := hP
  have hD : va_D A [(h0, .inr (11, [.ref ta, .ref oa, .ref da, .ref ka, .ref ea, .ref pa, .ref ha, .ref la, .ref sa])), (ta, .inr (0, [.ref tr, .int 0, .int 0]))] := hD
  refine lv_iconst (v := (-1)) hx hb dX11_house_25 (by decide) ?_
  have hP9 := hP.sub (ws' := []) [] rfl
  have hD9 := hD.sub (ws' := []) [] (by decide) rfl
  have hK9 := hK.sub (tys' := []) [] rfl
  refine W.widen (k := 0) (n := 0) (by omega) (by omega) ?_
  exact W.iret (v := (-1)) hx hb hr (fun t ht hW => ⟨⟨(-1), (), rfl, rfl, QW.mk ht hW hP9 hK9 hD9⟩, hS.F ht⟩) hS.2.2 dX11_house_26
set_option maxHeartbeats 4000000 in
set_option maxRecDepth 100000 in
theorem c_X11_wish (l : Launch) (dC : Nat → ClassId) (dI : Nat → Nat → Nat) (sz : Nat) (h0 : Nat) (ta : Nat) (oa : Nat) (da : Nat) (ka : Nat) (ea : Nat) (pa : Nat) (ha : Nat) (la : Nat) (sa : Nat) (qd : Nat) (q1 : Nat) (q2 : Nat) (q3 : Nat) (q4 : Nat) (q5 : Nat) (q6 : Nat) (x1 : Int32) : Met l yX11_wish (.code yX11_wish cX11_wish 4 (some .int) :: tb) ({ frames := 0, cells := 0, slots := 0, locals := 0 }) (va_Pc [.ref h0, .int x1] (PW (dC, dI) sz [(h0, .inr (11, [.ref ta, .ref oa, .ref da, .ref ka, .ref ea, .ref pa, .ref ha, .ref la, .ref sa])), (ka, .inr (1, [.ref qd, .ref q1, .ref q2, .ref q3, .ref q4, .ref q5, .ref q6, .int 0, .int 0, .int 0, .int 0]))] [])) (va_Qi (fun (r : Int32) (_ : Unit) => r = (-1)) (fun _ T9 => QW (dC, dI) (va_A [(h0, .inr (11, [.ref ta, .ref oa, .ref da, .ref ka, .ref ea, .ref pa, .ref ha, .ref la, .ref sa])), (ka, .inr (1, [.ref qd, .ref q1, .ref q2, .ref q3, .ref q4, .ref q5, .ref q6, .int 0, .int 0, .int 0, .int 0]))] sz) [] [] T9) (va_A [(h0, .inr (11, [.ref ta, .ref oa, .ref da, .ref ka, .ref ea, .ref pa, .ref ha, .ref la, .ref sa])), (ka, .inr (1, [.ref qd, .ref q1, .ref q2, .ref q3, .ref q4, .ref q5, .ref q6, .int 0, .int 0, .int 0, .int 0]))] sz)) 0 0 (va_A [(h0, .inr (11, [.ref ta, .ref oa, .ref da, .ref ka, .ref ea, .ref pa, .ref ha, .ref la, .ref sa])), (ka, .inr (1, [.ref qd, .ref q1, .ref q2, .ref q3, .ref q4, .ref q5, .ref q6, .int 0, .int 0, .int 0, .int 0]))] sz) := by
  refine Met.ofW (cc := cX11_wish) (maxL := 4) (ret := (some .int)) (by decide) rfl ?_
  intro p e s m args below meth c s₁ B hml hv
  obtain ⟨rfl, hsz, hP, hK, hD0, hE⟩ := hv
  have hx := B.exec
  have hb := B.bytes
  have hr := B.returns
  have hts : ∀ w ∈ tb, w.before _ s = true := fun w h => atoms_spec (ws := .code yX11_wish cX11_wish 4 (some .int) :: tb) B.pre w (List.mem_cons_of_mem _ h)
  have hown : s.vm.findClass RX11 = some m.cls := findClass_of_methodNamed B.named
  have hlocks := B.notSynchronized
  subst hsz
  have hD := hD0.self (sz := s.heap.size)
  generalize hAe : va_A [(h0, .inr (11, [.ref ta, .ref oa, .ref da, .ref ka, .ref ea, .ref pa, .ref ha, .ref la, .ref sa])), (ka, .inr (1, [.ref qd, .ref q1, .ref q2, .ref q3, .ref q4, .ref q5, .ref q6, .int 0, .int 0, .int 0, .int 0]))] s.heap.size = A at hD ⊢
  have hA : ∀ q : Nat, s.heap.size ≤ q → A q := fun q h => by rw [← hAe]; exact Or.inr h
  have hS : va_S A s.heap s.heap [] := va_S.rf
  have hP : va_P (dC, dI) vwCl [(h0, .inr (11, [.ref ta, .ref oa, .ref da, .ref ka, .ref ea, .ref pa, .ref ha, .ref la, .ref sa])), (ka, .inr (1, [.ref qd, .ref q1, .ref q2, .ref q3, .ref q4, .ref q5, .ref q6, .int 0, .int 0, .int 0, .int 0]))] s.heap := hP
  have hl := lv_entry ([.ref h0, .int x1]) (n := 4) (Nat.le_of_ble_eq_true rfl)
  rw [lg_entry_eq]
  generalize (lg_sl ([.ref h0, .int x1]) ++ List.replicate (4 - (lg_sl ([.ref h0, .int x1])).length) Slot.unset).toArray = ls at hl ⊢
  have hl : lv_has ls 4 [(0, .ref h0), (1, .int x1)] := hl
  refine lv_aload_n hx hb dX11_wish_0 rfl (lv_at hl 0 rfl) ?_
  refine va_get (D := (dC, dI)) (ci := 11) (v := .ref ka) (C := RX11) (T := TX11) (N := 9) hx hb hts it_11 hown hK hP 0 rfl rfl 3 (by decide) (hts _ kt_147) (fun _ h9 => h9) rfl dX11_wish_1 ?_
  refine va_getN (D := (dC, dI)) (ci := 1) (v := .int 0) (C := RX1) (T := TX1) (N := 11) hx hb hts it_1 hown hK hP 1 rfl rfl 8 (by decide) (hE.nest kn_10) (fun _ h9 => h9) rfl dX11_wish_4 ?_
  refine lv_if_eq (tgt := 14) hx hb dX11_wish_7 (by decide) (fun c_1 => ?_) (fun c_1 => absurd (by decide) c_1)
  refine lv_iconst (v := (-1)) hx hb dX11_wish_14 (by decide) ?_
  have hP9 := hP.sub (ws' := []) [] rfl
  have hD9 := hD.sub (ws' := []) [] (by decide) rfl
  have hK9 := hK.sub (tys' := []) [] rfl
  refine W.widen (k := 0) (n := 0) (by omega) (by omega) ?_
  exact W.iret (v := (-1)) hx hb hr (fun t ht hW => ⟨⟨(-1), (), rfl, rfl, QW.mk ht hW hP9 hK9 hD9⟩, hS.F ht⟩) hS.2.2 dX11_wish_15
set_option maxHeartbeats 4000000 in
set_option maxRecDepth 100000 in
theorem c_X11_octet (l : Launch) (dC : Nat → ClassId) (dI : Nat → Nat → Nat) (sz : Nat) (h0 : Nat) (ta : Nat) (oa : Nat) (da : Nat) (ka : Nat) (ea : Nat) (pa : Nat) (ha : Nat) (la : Nat) (sa : Nat) (orw : Nat) (x1 : Int32) : Met l yX11_octet (.code yX11_octet cX11_octet 2 (some .int) :: tb) ({ frames := 0, cells := 0, slots := 0, locals := 0 }) (va_Pc [.ref h0, .int x1] (PW (dC, dI) sz [(h0, .inr (11, [.ref ta, .ref oa, .ref da, .ref ka, .ref ea, .ref pa, .ref ha, .ref la, .ref sa])), (oa, .inr (0, [.ref orw, .int 0, .int 0]))] [])) (va_Qi (fun (r : Int32) (_ : Unit) => r = (if x1 = (-1) then 0 else (-2))) (fun _ T9 => QW (dC, dI) (va_A [(h0, .inr (11, [.ref ta, .ref oa, .ref da, .ref ka, .ref ea, .ref pa, .ref ha, .ref la, .ref sa])), (oa, .inr (0, [.ref orw, .int 0, .int 0]))] sz) [] [] T9) (va_A [(h0, .inr (11, [.ref ta, .ref oa, .ref da, .ref ka, .ref ea, .ref pa, .ref ha, .ref la, .ref sa])), (oa, .inr (0, [.ref orw, .int 0, .int 0]))] sz)) 0 0 (va_A [(h0, .inr (11, [.ref ta, .ref oa, .ref da, .ref ka, .ref ea, .ref pa, .ref ha, .ref la, .ref sa])), (oa, .inr (0, [.ref orw, .int 0, .int 0]))] sz) := by
  refine Met.ofW (cc := cX11_octet) (maxL := 2) (ret := (some .int)) (by decide) rfl ?_
  intro p e s m args below meth c s₁ B hml hv
  obtain ⟨rfl, hsz, hP, hK, hD0, hE⟩ := hv
  have hx := B.exec
  have hb := B.bytes
  have hr := B.returns
  have hts : ∀ w ∈ tb, w.before _ s = true := fun w h => atoms_spec (ws := .code yX11_octet cX11_octet 2 (some .int) :: tb) B.pre w (List.mem_cons_of_mem _ h)
  have hown : s.vm.findClass RX11 = some m.cls := findClass_of_methodNamed B.named
  have hlocks := B.notSynchronized
  subst hsz
  have hD := hD0.self (sz := s.heap.size)
  generalize hAe : va_A [(h0, .inr (11, [.ref ta, .ref oa, .ref da, .ref ka, .ref ea, .ref pa, .ref ha, .ref la, .ref sa])), (oa, .inr (0, [.ref orw, .int 0, .int 0]))] s.heap.size = A at hD ⊢
  have hA : ∀ q : Nat, s.heap.size ≤ q → A q := fun q h => by rw [← hAe]; exact Or.inr h
  have hS : va_S A s.heap s.heap [] := va_S.rf
  have hP : va_P (dC, dI) vwCl [(h0, .inr (11, [.ref ta, .ref oa, .ref da, .ref ka, .ref ea, .ref pa, .ref ha, .ref la, .ref sa])), (oa, .inr (0, [.ref orw, .int 0, .int 0]))] s.heap := hP
  have hl := lv_entry ([.ref h0, .int x1]) (n := 2) (Nat.le_of_ble_eq_true rfl)
  rw [lg_entry_eq]
  generalize (lg_sl ([.ref h0, .int x1]) ++ List.replicate (2 - (lg_sl ([.ref h0, .int x1])).length) Slot.unset).toArray = ls at hl ⊢
  have hl : lv_has ls 2 [(0, .ref h0), (1, .int x1)] := hl
  refine lv_iload_n hx hb dX11_octet_0 rfl (lv_at hl 1 rfl) ?_
  refine lv_iconst (v := (-1)) hx hb dX11_octet_1 (by decide) ?_
  refine lv_icmp_ne (tgt := 13) hx hb dX11_octet_2 (by decide) (fun c_1 => ?_) (fun c_1 => ?_)
  ·
    refine lv_iload_n hx hb dX11_octet_13 rfl (lv_at hl 1 rfl) ?_
    refine lv_if_lt (tgt := 28) hx hb dX11_octet_14 (by decide) (fun c_2 => ?_) (fun c_2 => ?_)
    ·
      refine lv_bipush (v := (-2)) hx hb dX11_octet_28 (by decide) ?_
      refine lv_goto (tgt := 41) hx hb dX11_octet_30 (by decide) ?_
      have hP9 := hP.sub (ws' := []) [] rfl
      have hD9 := hD.sub (ws' := []) [] (by decide) rfl
      have hK9 := hK.sub (tys' := []) [] rfl
      refine W.widen (k := 0) (n := 0) (by omega) (by omega) ?_
      exact W.iret (v := (-2)) hx hb hr (fun t ht hW => ⟨⟨(-2), (), rfl, (by rw [if_neg c_1]), QW.mk ht hW hP9 hK9 hD9⟩, hS.F ht⟩) hS.2.2 dX11_octet_41
    ·
      refine lv_iload_n hx hb dX11_octet_17 rfl (lv_at hl 1 rfl) ?_
      refine lv_aload_n hx hb dX11_octet_18 rfl (lv_at hl 0 rfl) ?_
      refine va_get (D := (dC, dI)) (ci := 11) (v := .ref oa) (C := RX11) (T := TX11) (N := 9) hx hb hts it_11 hown hK hP 0 rfl rfl 1 (by decide) (hts _ kt_133) (fun _ h9 => h9) rfl dX11_octet_19 ?_
      refine va_getN (D := (dC, dI)) (ci := 0) (v := .int 0) (C := RX0) (T := TX0) (N := 3) hx hb hts it_0 hown hK hP 1 rfl rfl 1 (by decide) (hE.nest kn_9) (fun _ h9 => h9) rfl dX11_octet_22 ?_
      refine lv_icmp_lt (tgt := 33) hx hb dX11_octet_25 (by decide) (fun c_3 => ?_) (fun c_3 => ?_)
      ·
        exact absurd c_3 c_2
      ·
        refine lv_bipush (v := (-2)) hx hb dX11_octet_28 (by decide) ?_
        refine lv_goto (tgt := 41) hx hb dX11_octet_30 (by decide) ?_
        have hP9 := hP.sub (ws' := []) [] rfl
        have hD9 := hD.sub (ws' := []) [] (by decide) rfl
        have hK9 := hK.sub (tys' := []) [] rfl
        refine W.widen (k := 0) (n := 0) (by omega) (by omega) ?_
        exact W.iret (v := (-2)) hx hb hr (fun t ht hW => ⟨⟨(-2), (), rfl, (by rw [if_neg c_1]), QW.mk ht hW hP9 hK9 hD9⟩, hS.F ht⟩) hS.2.2 dX11_octet_41
  ·
    refine lv_aload_n hx hb dX11_octet_5 rfl (lv_at hl 0 rfl) ?_
    refine va_get (D := (dC, dI)) (ci := 11) (v := .ref oa) (C := RX11) (T := TX11) (N := 9) hx hb hts it_11 hown hK hP 0 rfl rfl 1 (by decide) (hts _ kt_133) (fun _ h9 => h9) rfl dX11_octet_6 ?_
    refine va_getN (D := (dC, dI)) (ci := 0) (v := .int 0) (C := RX0) (T := TX0) (N := 3) hx hb hts it_0 hown hK hP 1 rfl rfl 1 (by decide) (hE.nest kn_9) (fun _ h9 => h9) rfl dX11_octet_9 ?_
    have hP9 := hP.sub (ws' := []) [] rfl
    have hD9 := hD.sub (ws' := []) [] (by decide) rfl
    have hK9 := hK.sub (tys' := []) [] rfl
    refine W.widen (k := 0) (n := 0) (by omega) (by omega) ?_
    exact W.iret (v := 0) hx hb hr (fun t ht hW => ⟨⟨0, (), rfl, (by rw [if_pos c_1]), QW.mk ht hW hP9 hK9 hD9⟩, hS.F ht⟩) hS.2.2 dX11_octet_12
