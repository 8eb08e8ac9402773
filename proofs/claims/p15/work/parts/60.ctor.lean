theorem dX0_init_0 : decode cX0_init 0 = .ok (.aload_n 0, 1) := by decide +kernel
theorem dX0_init_1 : decode cX0_init 1 = .ok (.invokespecial 3, 3) := by decide +kernel
theorem dX0_init_4 : decode cX0_init 4 = .ok (.aload_n 0, 1) := by decide +kernel
theorem dX0_init_5 : decode cX0_init 5 = .ok (.iconst 0, 1) := by decide +kernel
theorem dX0_init_6 : decode cX0_init 6 = .ok (.putfield 9, 3) := by decide +kernel
theorem dX0_init_9 : decode cX0_init 9 = .ok (.aload_n 0, 1) := by decide +kernel
theorem dX0_init_10 : decode cX0_init 10 = .ok (.iconst 0, 1) := by decide +kernel
theorem dX0_init_11 : decode cX0_init 11 = .ok (.putfield 15, 3) := by decide +kernel
theorem dX0_init_14 : decode cX0_init 14 = .ok (.aload_n 0, 1) := by decide +kernel
theorem dX0_init_15 : decode cX0_init 15 = .ok (.iload_n 1, 1) := by decide +kernel
theorem dX0_init_16 : decode cX0_init 16 = .ok (.newarray .int, 2) := by decide +kernel
theorem dX0_init_18 : decode cX0_init 18 = .ok (.putfield 19, 3) := by decide +kernel
theorem dX0_init_21 : decode cX0_init 21 = .ok (.return_, 1) := by decide +kernel
theorem dX10_init_0 : decode cX10_init 0 = .ok (.aload_n 0, 1) := by decide +kernel
theorem dX10_init_1 : decode cX10_init 1 = .ok (.invokespecial 1, 3) := by decide +kernel
theorem dX10_init_4 : decode cX10_init 4 = .ok (.aload_n 0, 1) := by decide +kernel
theorem dX10_init_5 : decode cX10_init 5 = .ok (.iconst 0, 1) := by decide +kernel
theorem dX10_init_6 : decode cX10_init 6 = .ok (.putfield 9, 3) := by decide +kernel
theorem dX10_init_9 : decode cX10_init 9 = .ok (.aload_n 0, 1) := by decide +kernel
theorem dX10_init_10 : decode cX10_init 10 = .ok (.bipush 43, 2) := by decide +kernel
theorem dX10_init_12 : decode cX10_init 12 = .ok (.putfield 13, 3) := by decide +kernel
theorem dX10_init_15 : decode cX10_init 15 = .ok (.aload_n 0, 1) := by decide +kernel
theorem dX10_init_16 : decode cX10_init 16 = .ok (.iconst 0, 1) := by decide +kernel
theorem dX10_init_17 : decode cX10_init 17 = .ok (.putfield 16, 3) := by decide +kernel
theorem dX10_init_20 : decode cX10_init 20 = .ok (.aload_n 0, 1) := by decide +kernel
theorem dX10_init_21 : decode cX10_init 21 = .ok (.iconst 0, 1) := by decide +kernel
theorem dX10_init_22 : decode cX10_init 22 = .ok (.putfield 19, 3) := by decide +kernel
theorem dX10_init_25 : decode cX10_init 25 = .ok (.aload_n 0, 1) := by decide +kernel
theorem dX10_init_26 : decode cX10_init 26 = .ok (.bipush 32, 2) := by decide +kernel
theorem dX10_init_28 : decode cX10_init 28 = .ok (.putfield 22, 3) := by decide +kernel
theorem dX10_init_31 : decode cX10_init 31 = .ok (.aload_n 0, 1) := by decide +kernel
theorem dX10_init_32 : decode cX10_init 32 = .ok (.iconst 0, 1) := by decide +kernel
theorem dX10_init_33 : decode cX10_init 33 = .ok (.putfield 25, 3) := by decide +kernel
theorem dX10_init_36 : decode cX10_init 36 = .ok (.return_, 1) := by decide +kernel
theorem dX13_init_0 : decode cX13_init 0 = .ok (.aload_n 0, 1) := by decide +kernel
theorem dX13_init_1 : decode cX13_init 1 = .ok (.invokespecial 3, 3) := by decide +kernel
theorem dX13_init_4 : decode cX13_init 4 = .ok (.aload_n 0, 1) := by decide +kernel
theorem dX13_init_5 : decode cX13_init 5 = .ok (.bipush 40, 2) := by decide +kernel
theorem dX13_init_7 : decode cX13_init 7 = .ok (.newarray .int, 2) := by decide +kernel
theorem dX13_init_9 : decode cX13_init 9 = .ok (.putfield 9, 3) := by decide +kernel
theorem dX13_init_12 : decode cX13_init 12 = .ok (.aload_n 0, 1) := by decide +kernel
theorem dX13_init_13 : decode cX13_init 13 = .ok (.bipush 40, 2) := by decide +kernel
theorem dX13_init_15 : decode cX13_init 15 = .ok (.newarray .int, 2) := by decide +kernel
theorem dX13_init_17 : decode cX13_init 17 = .ok (.putfield 15, 3) := by decide +kernel
theorem dX13_init_20 : decode cX13_init 20 = .ok (.aload_n 0, 1) := by decide +kernel
theorem dX13_init_21 : decode cX13_init 21 = .ok (.bipush 40, 2) := by decide +kernel
theorem dX13_init_23 : decode cX13_init 23 = .ok (.newarray .int, 2) := by decide +kernel
theorem dX13_init_25 : decode cX13_init 25 = .ok (.putfield 18, 3) := by decide +kernel
theorem dX13_init_28 : decode cX13_init 28 = .ok (.aload_n 0, 1) := by decide +kernel
theorem dX13_init_29 : decode cX13_init 29 = .ok (.new 21, 3) := by decide +kernel
theorem dX13_init_32 : decode cX13_init 32 = .ok (.dup, 1) := by decide +kernel
theorem dX13_init_33 : decode cX13_init 33 = .ok (.iload_n 1, 1) := by decide +kernel
theorem dX13_init_34 : decode cX13_init 34 = .ok (.invokespecial 23, 3) := by decide +kernel
theorem dX13_init_37 : decode cX13_init 37 = .ok (.putfield 26, 3) := by decide +kernel
theorem dX13_init_40 : decode cX13_init 40 = .ok (.return_, 1) := by decide +kernel
theorem dX14_init_0 : decode cX14_init 0 = .ok (.aload_n 0, 1) := by decide +kernel
theorem dX14_init_1 : decode cX14_init 1 = .ok (.invokespecial 3, 3) := by decide +kernel
theorem dX14_init_4 : decode cX14_init 4 = .ok (.aload_n 0, 1) := by decide +kernel
theorem dX14_init_5 : decode cX14_init 5 = .ok (.iload_n 1, 1) := by decide +kernel
theorem dX14_init_6 : decode cX14_init 6 = .ok (.newarray .byte, 2) := by decide +kernel
theorem dX14_init_8 : decode cX14_init 8 = .ok (.putfield 9, 3) := by decide +kernel
theorem dX14_init_11 : decode cX14_init 11 = .ok (.return_, 1) := by decide +kernel
theorem dX3_init_0 : decode cX3_init 0 = .ok (.aload_n 0, 1) := by decide +kernel
theorem dX3_init_1 : decode cX3_init 1 = .ok (.invokespecial 3, 3) := by decide +kernel
theorem dX3_init_4 : decode cX3_init 4 = .ok (.aload_n 0, 1) := by decide +kernel
theorem dX3_init_5 : decode cX3_init 5 = .ok (.new 9, 3) := by decide +kernel
theorem dX3_init_8 : decode cX3_init 8 = .ok (.dup, 1) := by decide +kernel
theorem dX3_init_9 : decode cX3_init 9 = .ok (.bipush 60, 2) := by decide +kernel
theorem dX3_init_11 : decode cX3_init 11 = .ok (.invokespecial 11, 3) := by decide +kernel
theorem dX3_init_14 : decode cX3_init 14 = .ok (.putfield 14, 3) := by decide +kernel
theorem dX3_init_17 : decode cX3_init 17 = .ok (.aload_n 0, 1) := by decide +kernel
theorem dX3_init_18 : decode cX3_init 18 = .ok (.new 9, 3) := by decide +kernel
theorem dX3_init_21 : decode cX3_init 21 = .ok (.dup, 1) := by decide +kernel
theorem dX3_init_22 : decode cX3_init 22 = .ok (.sipush 700, 3) := by decide +kernel
theorem dX3_init_25 : decode cX3_init 25 = .ok (.invokespecial 11, 3) := by decide +kernel
theorem dX3_init_28 : decode cX3_init 28 = .ok (.putfield 20, 3) := by decide +kernel
theorem dX3_init_31 : decode cX3_init 31 = .ok (.aload_n 0, 1) := by decide +kernel
theorem dX3_init_32 : decode cX3_init 32 = .ok (.iconst 0, 1) := by decide +kernel
theorem dX3_init_33 : decode cX3_init 33 = .ok (.putfield 23, 3) := by decide +kernel
theorem dX3_init_36 : decode cX3_init 36 = .ok (.aload_n 0, 1) := by decide +kernel
theorem dX3_init_37 : decode cX3_init 37 = .ok (.iconst 0, 1) := by decide +kernel
theorem dX3_init_38 : decode cX3_init 38 = .ok (.putfield 27, 3) := by decide +kernel
theorem dX3_init_41 : decode cX3_init 41 = .ok (.return_, 1) := by decide +kernel
theorem dX4_init_0 : decode cX4_init 0 = .ok (.aload_n 0, 1) := by decide +kernel
theorem dX4_init_1 : decode cX4_init 1 = .ok (.invokespecial 3, 3) := by decide +kernel
theorem dX4_init_4 : decode cX4_init 4 = .ok (.aload_n 0, 1) := by decide +kernel
theorem dX4_init_5 : decode cX4_init 5 = .ok (.new 9, 3) := by decide +kernel
theorem dX4_init_8 : decode cX4_init 8 = .ok (.dup, 1) := by decide +kernel
theorem dX4_init_9 : decode cX4_init 9 = .ok (.sipush 3000, 3) := by decide +kernel
theorem dX4_init_12 : decode cX4_init 12 = .ok (.invokespecial 11, 3) := by decide +kernel
theorem dX4_init_15 : decode cX4_init 15 = .ok (.putfield 14, 3) := by decide +kernel
theorem dX4_init_18 : decode cX4_init 18 = .ok (.aload_n 0, 1) := by decide +kernel
theorem dX4_init_19 : decode cX4_init 19 = .ok (.bipush 20, 2) := by decide +kernel
theorem dX4_init_21 : decode cX4_init 21 = .ok (.newarray .int, 2) := by decide +kernel
theorem dX4_init_23 : decode cX4_init 23 = .ok (.putfield 20, 3) := by decide +kernel
theorem dX4_init_26 : decode cX4_init 26 = .ok (.aload_n 0, 1) := by decide +kernel
theorem dX4_init_27 : decode cX4_init 27 = .ok (.bipush 20, 2) := by decide +kernel
theorem dX4_init_29 : decode cX4_init 29 = .ok (.newarray .int, 2) := by decide +kernel
theorem dX4_init_31 : decode cX4_init 31 = .ok (.putfield 24, 3) := by decide +kernel
theorem dX4_init_34 : decode cX4_init 34 = .ok (.aload_n 0, 1) := by decide +kernel
theorem dX4_init_35 : decode cX4_init 35 = .ok (.bipush 20, 2) := by decide +kernel
theorem dX4_init_37 : decode cX4_init 37 = .ok (.newarray .int, 2) := by decide +kernel
theorem dX4_init_39 : decode cX4_init 39 = .ok (.putfield 27, 3) := by decide +kernel
theorem dX4_init_42 : decode cX4_init 42 = .ok (.aload_n 0, 1) := by decide +kernel
theorem dX4_init_43 : decode cX4_init 43 = .ok (.iconst 0, 1) := by decide +kernel
theorem dX4_init_44 : decode cX4_init 44 = .ok (.putfield 30, 3) := by decide +kernel
theorem dX4_init_47 : decode cX4_init 47 = .ok (.aload_n 0, 1) := by decide +kernel
theorem dX4_init_48 : decode cX4_init 48 = .ok (.iconst 0, 1) := by decide +kernel
theorem dX4_init_49 : decode cX4_init 49 = .ok (.putfield 34, 3) := by decide +kernel
theorem dX4_init_52 : decode cX4_init 52 = .ok (.return_, 1) := by decide +kernel
theorem dX6_init_0 : decode cX6_init 0 = .ok (.aload_n 0, 1) := by decide +kernel
theorem dX6_init_1 : decode cX6_init 1 = .ok (.invokespecial 1, 3) := by decide +kernel
theorem dX6_init_4 : decode cX6_init 4 = .ok (.aload_n 0, 1) := by decide +kernel
theorem dX6_init_5 : decode cX6_init 5 = .ok (.bipush 16, 2) := by decide +kernel
theorem dX6_init_7 : decode cX6_init 7 = .ok (.newarray .long, 2) := by decide +kernel
theorem dX6_init_9 : decode cX6_init 9 = .ok (.putfield 9, 3) := by decide +kernel
theorem dX6_init_12 : decode cX6_init 12 = .ok (.aload_n 0, 1) := by decide +kernel
theorem dX6_init_13 : decode cX6_init 13 = .ok (.bipush 16, 2) := by decide +kernel
theorem dX6_init_15 : decode cX6_init 15 = .ok (.newarray .long, 2) := by decide +kernel
theorem dX6_init_17 : decode cX6_init 17 = .ok (.putfield 13, 3) := by decide +kernel
theorem dX6_init_20 : decode cX6_init 20 = .ok (.aload_n 0, 1) := by decide +kernel
theorem dX6_init_21 : decode cX6_init 21 = .ok (.bipush 16, 2) := by decide +kernel
theorem dX6_init_23 : decode cX6_init 23 = .ok (.newarray .long, 2) := by decide +kernel
theorem dX6_init_25 : decode cX6_init 25 = .ok (.putfield 16, 3) := by decide +kernel
theorem dX6_init_28 : decode cX6_init 28 = .ok (.aload_n 0, 1) := by decide +kernel
theorem dX6_init_29 : decode cX6_init 29 = .ok (.bipush 18, 2) := by decide +kernel
theorem dX6_init_31 : decode cX6_init 31 = .ok (.newarray .long, 2) := by decide +kernel
theorem dX6_init_33 : decode cX6_init 33 = .ok (.putfield 19, 3) := by decide +kernel
theorem dX6_init_36 : decode cX6_init 36 = .ok (.aload_n 0, 1) := by decide +kernel
theorem dX6_init_37 : decode cX6_init 37 = .ok (.lconst 0, 1) := by decide +kernel
theorem dX6_init_38 : decode cX6_init 38 = .ok (.putfield 22, 3) := by decide +kernel
theorem dX6_init_41 : decode cX6_init 41 = .ok (.return_, 1) := by decide +kernel
theorem dX8_init_0 : decode cX8_init 0 = .ok (.aload_n 0, 1) := by decide +kernel
theorem dX8_init_1 : decode cX8_init 1 = .ok (.invokespecial 1, 3) := by decide +kernel
theorem dX8_init_4 : decode cX8_init 4 = .ok (.aload_n 0, 1) := by decide +kernel
theorem dX8_init_5 : decode cX8_init 5 = .ok (.bipush 64, 2) := by decide +kernel
theorem dX8_init_7 : decode cX8_init 7 = .ok (.newarray .int, 2) := by decide +kernel
theorem dX8_init_9 : decode cX8_init 9 = .ok (.putfield 7, 3) := by decide +kernel
theorem dX8_init_12 : decode cX8_init 12 = .ok (.aload_n 0, 1) := by decide +kernel
theorem dX8_init_13 : decode cX8_init 13 = .ok (.bipush 8, 2) := by decide +kernel
theorem dX8_init_15 : decode cX8_init 15 = .ok (.newarray .int, 2) := by decide +kernel
theorem dX8_init_17 : decode cX8_init 17 = .ok (.putfield 13, 3) := by decide +kernel
theorem dX8_init_20 : decode cX8_init 20 = .ok (.aload_n 0, 1) := by decide +kernel
theorem dX8_init_21 : decode cX8_init 21 = .ok (.bipush 8, 2) := by decide +kernel
theorem dX8_init_23 : decode cX8_init 23 = .ok (.newarray .int, 2) := by decide +kernel
theorem dX8_init_25 : decode cX8_init 25 = .ok (.putfield 16, 3) := by decide +kernel
theorem dX8_init_28 : decode cX8_init 28 = .ok (.return_, 1) := by decide +kernel
theorem dX9_init_0 : decode cX9_init 0 = .ok (.aload_n 0, 1) := by decide +kernel
theorem dX9_init_1 : decode cX9_init 1 = .ok (.invokespecial 1, 3) := by decide +kernel
theorem dX9_init_4 : decode cX9_init 4 = .ok (.aload_n 0, 1) := by decide +kernel
theorem dX9_init_5 : decode cX9_init 5 = .ok (.bipush 40, 2) := by decide +kernel
theorem dX9_init_7 : decode cX9_init 7 = .ok (.newarray .int, 2) := by decide +kernel
theorem dX9_init_9 : decode cX9_init 9 = .ok (.putfield 9, 3) := by decide +kernel
theorem dX9_init_12 : decode cX9_init 12 = .ok (.aload_n 0, 1) := by decide +kernel
theorem dX9_init_13 : decode cX9_init 13 = .ok (.bipush 40, 2) := by decide +kernel
theorem dX9_init_15 : decode cX9_init 15 = .ok (.newarray .int, 2) := by decide +kernel
theorem dX9_init_17 : decode cX9_init 17 = .ok (.putfield 13, 3) := by decide +kernel
theorem dX9_init_20 : decode cX9_init 20 = .ok (.aload_n 0, 1) := by decide +kernel
theorem dX9_init_21 : decode cX9_init 21 = .ok (.bipush 40, 2) := by decide +kernel
theorem dX9_init_23 : decode cX9_init 23 = .ok (.newarray .int, 2) := by decide +kernel
theorem dX9_init_25 : decode cX9_init 25 = .ok (.putfield 16, 3) := by decide +kernel
theorem dX9_init_28 : decode cX9_init 28 = .ok (.aload_n 0, 1) := by decide +kernel
theorem dX9_init_29 : decode cX9_init 29 = .ok (.iconst 0, 1) := by decide +kernel
theorem dX9_init_30 : decode cX9_init 30 = .ok (.putfield 19, 3) := by decide +kernel
theorem dX9_init_33 : decode cX9_init 33 = .ok (.aload_n 0, 1) := by decide +kernel
theorem dX9_init_34 : decode cX9_init 34 = .ok (.new 23, 3) := by decide +kernel
theorem dX9_init_37 : decode cX9_init 37 = .ok (.dup, 1) := by decide +kernel
theorem dX9_init_38 : decode cX9_init 38 = .ok (.iload_n 1, 1) := by decide +kernel
theorem dX9_init_39 : decode cX9_init 39 = .ok (.invokespecial 25, 3) := by decide +kernel
theorem dX9_init_42 : decode cX9_init 42 = .ok (.putfield 28, 3) := by decide +kernel
theorem dX9_init_45 : decode cX9_init 45 = .ok (.return_, 1) := by decide +kernel
theorem kt_1008 : Cond.methodLink RX0 3 objectInit ∈ tb := tb_at (i := 118) (by decide +kernel) (by decide +kernel)
theorem kt_1009 : Cond.instanceMethod objectInit ∈ tb := tb_at (i := 111) (by decide +kernel) (by decide +kernel)
theorem kt_1010 : Cond.code objectInit ⟨#[0xb1]⟩ 1 none ∈ tb := tb_at (i := 112) (by decide +kernel) (by decide +kernel)
theorem kt_1011 : Cond.methodLink RX3 3 objectInit ∈ tb := tb_at (i := 149) (by decide +kernel) (by decide +kernel)
theorem kt_1012 : Cond.classLink RX3 9 RX0 ∈ tb := tb_at (i := 150) (by decide +kernel) (by decide +kernel)
theorem kt_1013 : Cond.instantiable RX0 3 ∈ tb := tb_at (i := 114) (by decide +kernel) (by decide +kernel)
theorem kt_1014 : Cond.code yX0_init cX0_init 2 none ∈ tb := tb_at (i := 117) (by decide +kernel) (by decide +kernel)
theorem kt_1015 : Cond.methodLink RX3 11 yX0_init ∈ tb := tb_at (i := 151) (by decide +kernel) (by decide +kernel)
theorem kt_1016 : Cond.instanceMethod yX0_init ∈ tb := tb_at (i := 116) (by decide +kernel) (by decide +kernel)
theorem kt_1017 : Cond.fieldLink RX3 14 "PostGate$Entry" "name" "LPostGate$Bytes;" ∈ tb := tb_at (i := 152) (by decide +kernel) (by decide +kernel)
theorem kt_1018 : Cond.fieldLink RX3 20 "PostGate$Entry" "value" "LPostGate$Bytes;" ∈ tb := tb_at (i := 155) (by decide +kernel) (by decide +kernel)
theorem kt_1019 : Cond.fieldLink RX3 23 "PostGate$Entry" "sort" "I" ∈ tb := tb_at (i := 157) (by decide +kernel) (by decide +kernel)
theorem kt_1020 : Cond.fieldLink RX3 27 "PostGate$Entry" "address" "I" ∈ tb := tb_at (i := 160) (by decide +kernel) (by decide +kernel)
theorem kt_1021 : Cond.methodLink RX10 1 objectInit ∈ tb := tb_at (i := 195) (by decide +kernel) (by decide +kernel)
theorem kt_1022 : Cond.methodLink RX9 1 objectInit ∈ tb := tb_at (i := 270) (by decide +kernel) (by decide +kernel)
theorem kt_1023 : Cond.classLink RX9 23 RX0 ∈ tb := tb_at (i := 271) (by decide +kernel) (by decide +kernel)
theorem kt_1024 : Cond.methodLink RX9 25 yX0_init ∈ tb := tb_at (i := 272) (by decide +kernel) (by decide +kernel)
theorem kt_1025 : Cond.methodLink RX8 1 objectInit ∈ tb := tb_at (i := 297) (by decide +kernel) (by decide +kernel)
theorem kt_1026 : Cond.methodLink RX6 1 objectInit ∈ tb := tb_at (i := 314) (by decide +kernel) (by decide +kernel)
theorem kt_1027 : Cond.arrayClass .long ∈ tb := tb_at (i := 331) (by decide +kernel) (by decide +kernel)
theorem kt_1028 : Cond.methodLink RX4 3 objectInit ∈ tb := tb_at (i := 427) (by decide +kernel) (by decide +kernel)
theorem kt_1029 : Cond.classLink RX4 9 RX0 ∈ tb := tb_at (i := 428) (by decide +kernel) (by decide +kernel)
theorem kt_1030 : Cond.methodLink RX4 11 yX0_init ∈ tb := tb_at (i := 429) (by decide +kernel) (by decide +kernel)
theorem kt_1031 : Cond.methodLink RX14 3 objectInit ∈ tb := tb_at (i := 1207) (by decide +kernel) (by decide +kernel)
theorem kt_1032 : Cond.arrayClass .byte ∈ tb := tb_at (i := 786) (by decide +kernel) (by decide +kernel)
theorem kt_1033 : Cond.methodLink RX13 3 objectInit ∈ tb := tb_at (i := 1224) (by decide +kernel) (by decide +kernel)
theorem kt_1034 : Cond.classLink RX13 21 RX14 ∈ tb := tb_at (i := 1225) (by decide +kernel) (by decide +kernel)
theorem kt_1035 : Cond.instantiable RX14 2 ∈ tb := tb_at (i := 1203) (by decide +kernel) (by decide +kernel)
theorem kt_1036 : Cond.code yX14_init cX14_init 2 none ∈ tb := tb_at (i := 1206) (by decide +kernel) (by decide +kernel)
theorem kt_1037 : Cond.methodLink RX13 23 yX14_init ∈ tb := tb_at (i := 1226) (by decide +kernel) (by decide +kernel)
theorem kt_1038 : Cond.instanceMethod yX14_init ∈ tb := tb_at (i := 1205) (by decide +kernel) (by decide +kernel)
set_option maxHeartbeats 4000000 in
set_option maxRecDepth 100000 in
theorem k_X0_init (l : Launch) (dC : Nat → ClassId) (dI : Nat → Nat → Nat) (cs : Nat → ClassId) (sz : Nat) (h0 : Nat) (n : Nat) (ρ : Nat) (hn : n ≤ 10000) : Met l yX0_init (.code yX0_init cX0_init 2 none :: tb) ({ frames := 1, cells := 1, slots := n, locals := 12 }) (va_Pc [.ref h0, .int (nI n)] (PT (dC, dI) cs RAWT [h0] (fun _ => .inr (0, [.null, .int 0, .int 0])) sz)) (va_Qv (fun _ : Unit => True) (fun _ T9 => ∃ (L2 : List Nat) (F2 : Nat → va_E) (ty2 : TyM), ∃ q : Nat, NEW (dC, dI) cs ty2 L2 F2 (va_A (va_pl [h0] (fun _ => .inr (0, [.null, .int 0, .int 0]))) sz) T9.heap ∧ h0 ∈ L2 ∧ ty2 h0 = (0, ρ, [q, n])) (va_A (va_pl [h0] (fun _ => .inr (0, [.null, .int 0, .int 0]))) sz)) 1 n (va_A (va_pl [h0] (fun _ => .inr (0, [.null, .int 0, .int 0]))) sz) := by
  refine Met.ofW (cc := cX0_init) (maxL := 2) (ret := none) (by decide) rfl ?_
  intro p e s m args below meth c s₁ B hml hv
  obtain ⟨rfl, hsz, hP, hK, hD0, hE, hO⟩ := hv
  have hx := B.exec
  have hb := B.bytes
  have hr := B.returns
  have hts : ∀ w ∈ tb, w.before _ s = true := fun w h => atoms_spec (ws := .code yX0_init cX0_init 2 none :: tb) B.pre w (List.mem_cons_of_mem _ h)
  have hown : s.vm.findClass RX0 = some m.cls := findClass_of_methodNamed B.named
  have hin : meth.name = "<init>" := (name_of_methodNamed B.named B.method).1
  have hlocks := B.notSynchronized
  subst hsz
  have hD := hD0.self (sz := s.heap.size)
  generalize hAe : va_A (va_pl [h0] (fun _ => .inr (0, [.null, .int 0, .int 0]))) s.heap.size = A at hD ⊢
  have hA : ∀ q : Nat, s.heap.size ≤ q → A q := fun q h => by rw [← hAe]; exact Or.inr h
  have hS : va_S A s.heap s.heap [] := va_S.rf
  have hl := lv_entry ([.ref h0, .int (nI n)]) (n := 2) (Nat.le_of_ble_eq_true rfl)
  rw [lg_entry_eq]
  generalize (lg_sl ([.ref h0, .int (nI n)]) ++ List.replicate (2 - (lg_sl ([.ref h0, .int (nI n)])).length) Slot.unset).toArray = ls at hl ⊢
  have hl : lv_has ls 2 [(0, .ref h0), (1, .int (nI n))] := hl
  obtain ⟨L, ty, F, hN, hL_h0, hT_h0, hF_h0⟩ : ∃ (L : List Nat) (t9 : TyM) (F : Nat → va_E), NEW (dC, dI) cs t9 L F A s.heap ∧ h0 ∈ L ∧ t9 h0 = (99, 0, []) ∧ F h0 = .inr (0, [.null, .int 0, .int 0]) := ⟨[h0], RAWT, fun _ => .inr (0, [.null, .int 0, .int 0]), ⟨hP, hD, hO, fun a _ => wta_raw rfl⟩, List.mem_singleton.mpr rfl, rfl, rfl⟩
  obtain ⟨hP, hD, hO, hW⟩ := hN
  have hfs : ∀ p ∈ ([] : List (Nat × TyE)), p.1 ∈ L ∧ ty p.1 = p.2 := fun p h => absurd h List.not_mem_nil
  refine lv_aload_n hx hb dX0_init_0 rfl (lv_at hl 0 rfl) ?_
  refine W.objInit hx hb hown (hts _ kt_1008) (hts _ kt_1009) (hts _ kt_1010) rfl (by rw [hml]; exact hl.1) rfl dX0_init_1 (Nat.le_of_ble_eq_true rfl) (Nat.le_of_ble_eq_true rfl) ?_
  refine W.eq (g2 := F0 m 4 ls []) rfl ?_
  refine lv_aload_n hx hb dX0_init_4 rfl (lv_at hl 0 rfl) ?_
  refine lv_iconst (v := 0) hx hb dX0_init_5 (by decide) ?_
  refine pg_put (ci := 0) (v := .int 0) (ty := .int) (C := RX0) (T := TX0) (N := 3) hx hb hts it_0 tyX0 tyX0_ok nmX0 hown hK hP hD hS hL_h0 hF_h0 rfl 1 (by decide) (hts _ kt_10) (fun _ h9 => h9) rfl (by decide +kernel) (rfl) (rfl) (Nat.le_of_ble_eq_true rfl) dX0_init_6 (fun H locs hP hD hS => ?_)
  obtain ⟨F_1, he_2, hP, hD, hO⟩ : ∃ G, G = va_up F h0 (.inr (0, [.null, .int 0, .int 0])) ∧ va_P (dC, dI) vwCl (va_pl L G) H ∧ va_D A (va_pl L G) ∧ OK cs ty L G := ⟨_, rfl, hP, hD, hO.up (sh.raw hT_h0)⟩
  have hF_3 : F_1 h0 = .inr (0, [.null, .int 0, .int 0]) := by rw [he_2]; exact up_self
  refine lv_aload_n hx hb dX0_init_9 rfl (lv_at hl 0 rfl) ?_
  refine lv_iconst (v := 0) hx hb dX0_init_10 (by decide) ?_
  refine pg_put (ci := 0) (v := .int 0) (ty := .boolean) (C := RX0) (T := TX0) (N := 3) hx hb hts it_0 tyX0 tyX0_ok nmX0 hown hK hP hD hS hL_h0 hF_3 rfl 2 (by decide) (hts _ kt_11) (fun _ h9 => h9) rfl (by decide +kernel) (rfl) (rfl) (Nat.le_of_ble_eq_true rfl) dX0_init_11 (fun H locs hP hD hS => ?_)
  obtain ⟨F_4, he_5, hP, hD, hO⟩ : ∃ G, G = va_up F_1 h0 (.inr (0, [.null, .int 0, .int 0])) ∧ va_P (dC, dI) vwCl (va_pl L G) H ∧ va_D A (va_pl L G) ∧ OK cs ty L G := ⟨_, rfl, hP, hD, hO.up (sh.raw hT_h0)⟩
  have hF_6 : F_4 h0 = .inr (0, [.null, .int 0, .int 0]) := by rw [he_5]; exact up_self
  refine lv_aload_n hx hb dX0_init_14 rfl (lv_at hl 0 rfl) ?_
  refine lv_iload_n hx hb dX0_init_15 rfl (lv_at hl 1 rfl) ?_
  refine va_newa (atype := .int) (ty := .int) (a0 := (n, .inl (fun _ => 0))) (N' := n) hx hb (hts _ kt_1007) rfl hK hP hD hS hA (fun _ => rfl) (nI_pos (by omega)) (nI_clamp (by omega)) (by show _ * 4 ≤ _; omega) (by show _ + 1 ≤ 1; omega) (by show _ + n ≤ n; omega) dX0_init_16 (fun q_7 cA H hKn hPa hDa hS => ?_)
  obtain rfl := cid_int hK hKn
  obtain ⟨L, ty, F_8, hN9, hold, holdF, hL_q_7, hT_q_7, hF_q_7⟩ := grow1 (e := (16, ρ, [n])) hPa hDa hO hW (sh.ints rtf_self ⟨_, rfl⟩) (wta_ints rtf_self trivial)
  obtain ⟨hP, hD, hO, hW⟩ := hN9
  have hT_h0 := (hold _ hL_h0).2.trans hT_h0
  have hF_h0 := (holdF _ hL_h0).1.trans hF_6
  have hne_h0_q_7 := (holdF _ hL_h0).2
  have hL_h0 := (hold _ hL_h0).1
  have hfs := gr_cons hold hfs hL_q_7 hT_q_7
  refine pg_putF (ci := 0) (v := .ref q_7) (ty := .array .int) (C := RX0) (T := TX0) (N := 3) hx hb hts it_0 tyX0 tyX0_ok nmX0 hown hK hP hD hS hL_h0 hF_h0 rfl 0 (by decide) (hts _ kt_12) (fun _ h9 => h9) rfl hin rfl (by decide +kernel) (rfl) (rfl) (Nat.le_of_ble_eq_true rfl) dX0_init_18 (fun H locs hP hD hS => ?_)
  obtain ⟨F_9, he_10, hP, hD, hO⟩ : ∃ G, G = va_up F_8 h0 (.inr (0, [.ref q_7, .int 0, .int 0])) ∧ va_P (dC, dI) vwCl (va_pl L G) H ∧ va_D A (va_pl L G) ∧ OK cs ty L G := ⟨_, rfl, hP, hD, hO.up (sh.raw hT_h0)⟩
  have hF_11 : F_9 h0 = .inr (0, [.ref q_7, .int 0, .int 0]) := by rw [he_10]; exact up_self
  have hr9 : (ty h0).1 = 99 := by rw [hT_h0]
  have hN9 : NEW (dC, dI) cs (rtf ty h0 (0, ρ, [q_7, n])) L F_9 A H := NEW.into ⟨hP, hD, hO, hW⟩ hr9 (by rw [hF_11]; exact sh.bytes rtf_self ⟨0, 0, rfl, (by first | omega | assumption | exact Or.inl rfl | exact Or.inr rfl), (by first | omega | assumption | exact Or.inl rfl | exact Or.inr rfl)⟩) (wta_bytes rtf_self ⟨(hfs _ (List.mem_cons_self)).1, rtf_old hr9 (hfs _ (List.mem_cons_self)).2 (by decide), by omega⟩)
  refine W.widen (k := 1) (n := n) (by omega) (by omega) ?_
  exact W.vret hx hb hr (fun t ht hWm => ⟨⟨(), rfl, trivial, ⟨L, F_9, rtf ty h0 (0, ρ, [q_7, n]), q_7, (by rw [ht]; exact hN9), hL_h0, rtf_self⟩⟩, hS.F ht⟩) hS.2.2 dX0_init_21
set_option maxHeartbeats 4000000 in
set_option maxRecDepth 100000 in
theorem k_X3_init (l : Launch) (dC : Nat → ClassId) (dI : Nat → Nat → Nat) (cs : Nat → ClassId) (sz : Nat) (h0 : Nat) (ρ : Nat) : Met l yX3_init (.code yX3_init cX3_init 1 none :: tb) ({ frames := 2, cells := 4, slots := 766, locals := 33 }) (va_Pc [.ref h0] (PT (dC, dI) cs RAWT [h0] (fun _ => .inr (3, [.null, .null, .int 0, .int 0])) sz)) (va_Qv (fun _ : Unit => True) (fun _ T9 => ∃ (L2 : List Nat) (F2 : Nat → va_E) (ty2 : TyM), ∃ x : Nat, ∃ y : Nat, NEW (dC, dI) cs ty2 L2 F2 (va_A (va_pl [h0] (fun _ => .inr (3, [.null, .null, .int 0, .int 0]))) sz) T9.heap ∧ h0 ∈ L2 ∧ ty2 h0 = (3, ρ, [x, y])) (va_A (va_pl [h0] (fun _ => .inr (3, [.null, .null, .int 0, .int 0]))) sz)) 4 766 (va_A (va_pl [h0] (fun _ => .inr (3, [.null, .null, .int 0, .int 0]))) sz) := by
  refine Met.ofW (cc := cX3_init) (maxL := 1) (ret := none) (by decide) rfl ?_
  intro p e s m args below meth c s₁ B hml hv
  obtain ⟨rfl, hsz, hP, hK, hD0, hE, hO⟩ := hv
  have hx := B.exec
  have hb := B.bytes
  have hr := B.returns
  have hts : ∀ w ∈ tb, w.before _ s = true := fun w h => atoms_spec (ws := .code yX3_init cX3_init 1 none :: tb) B.pre w (List.mem_cons_of_mem _ h)
  have hown : s.vm.findClass RX3 = some m.cls := findClass_of_methodNamed B.named
  have hin : meth.name = "<init>" := (name_of_methodNamed B.named B.method).1
  have hlocks := B.notSynchronized
  subst hsz
  have hD := hD0.self (sz := s.heap.size)
  generalize hAe : va_A (va_pl [h0] (fun _ => .inr (3, [.null, .null, .int 0, .int 0]))) s.heap.size = A at hD ⊢
  have hA : ∀ q : Nat, s.heap.size ≤ q → A q := fun q h => by rw [← hAe]; exact Or.inr h
  have hS : va_S A s.heap s.heap [] := va_S.rf
  have hl := lv_entry ([.ref h0]) (n := 1) (Nat.le_of_ble_eq_true rfl)
  rw [lg_entry_eq]
  generalize (lg_sl ([.ref h0]) ++ List.replicate (1 - (lg_sl ([.ref h0])).length) Slot.unset).toArray = ls at hl ⊢
  have hl : lv_has ls 1 [(0, .ref h0)] := hl
  obtain ⟨L, ty, F, hN, hL_h0, hT_h0, hF_h0⟩ : ∃ (L : List Nat) (t9 : TyM) (F : Nat → va_E), NEW (dC, dI) cs t9 L F A s.heap ∧ h0 ∈ L ∧ t9 h0 = (99, 0, []) ∧ F h0 = .inr (3, [.null, .null, .int 0, .int 0]) := ⟨[h0], RAWT, fun _ => .inr (3, [.null, .null, .int 0, .int 0]), ⟨hP, hD, hO, fun a _ => wta_raw rfl⟩, List.mem_singleton.mpr rfl, rfl, rfl⟩
  obtain ⟨hP, hD, hO, hW⟩ := hN
  have hfs : ∀ p ∈ ([] : List (Nat × TyE)), p.1 ∈ L ∧ ty p.1 = p.2 := fun p h => absurd h List.not_mem_nil
  refine lv_aload_n hx hb dX3_init_0 rfl (lv_at hl 0 rfl) ?_
  refine W.objInit hx hb hown (hts _ kt_1011) (hts _ kt_1009) (hts _ kt_1010) rfl (by rw [hml]; exact hl.1) rfl dX3_init_1 (Nat.le_of_ble_eq_true rfl) (Nat.le_of_ble_eq_true rfl) ?_
  refine W.eq (g2 := F0 m 4 ls []) rfl ?_
  refine lv_aload_n hx hb dX3_init_4 rfl (lv_at hl 0 rfl) ?_
  refine va_new (ci := 0) (fs := [.null, .int 0, .int 0]) (C := RX0) (T := TX0) (N := 3) hx hb hts it_0 tyX0 tyX0_ok hown (hts _ kt_1012) (hts _ kt_1013) (hts _ kt_1) hK hP hD hS hA rfl df_0 (by show _ + 1 ≤ 4; omega) (by show _ + 3 ≤ 766; omega) dX3_init_5 (fun q_1 H hPa hDa hS => ?_)
  have hP := left1 hPa
  have hD := left2 hDa
  refine lv_dup hx hb dX3_init_8 rfl ?_
  refine lv_bipush (v := 60) hx hb dX3_init_9 (by decide) ?_
  refine W.eq (g2 := F0 m 11 ls [.int (nI 60), .ref q_1, .ref q_1, .ref h0]) rfl ?_
  have hFc := free1 hDa hS hA
  have hPq := right1 hPa
  refine va_callv (va_runI (As := [.int (nI 60)]) (rest := [.ref q_1, .ref h0]) ⟨hx, hb, hml, hown, hts⟩ (k_X0_init l dC dI cs H.size q_1 60 (ρ + 1) (by omega)) ⟨callB_of 1 hts (gi kt_1014) rfl rfl rfl (hts _ kt_1) (hts _ kt_1015) (by decide +kernel) ⟨Nat.le_of_ble_eq_true rfl, Nat.le_of_ble_eq_true rfl⟩, rfl, (hts _ kt_1016)⟩ ⟨fun a U g mk q => ⟨q.1, PT.calling q.2⟩, fun U hU hWm => ⟨rfl, PT.mk hU hWm hPq hK one1 hE (fun a _ => sh.raw rfl)⟩⟩ rfl rfl hl.1 rfl (lv_room (Nat.le_of_ble_eq_true rfl)) dX3_init_11 ⟨by show _ + 1 ≤ 4; omega, by show _ + 60 ≤ 766; omega⟩) hS (fun q _ h => hFc q h) hFc (fun u t H1 locs ht hvm hw hB hz1 hk1 hS => ?_)
  obtain ⟨L2, F2, ty2, q_2, hN2, hc1, hc2⟩ := hB
  rw [ht] at hN2
  obtain ⟨L, ty, F_3, hN9, hold, holdF, hnew, hnewF⟩ := join1 hPa hDa hO hW hk1 hFc hN2
  obtain ⟨hP, hD, hO, hW⟩ := hN9
  generalize H1 = H at hP hS ⊢
  have hL_q_1 := (hnew _ hc1).1
  have hT_q_1 := (hnew _ hc1).2.trans hc2
  have hT_h0 := (hold _ hL_h0).2.trans hT_h0
  have hF_h0 := (holdF _ hL_h0).1.trans hF_h0
  have hnx_h0 := (holdF _ hL_h0).2
  have hL_h0 := (hold _ hL_h0).1
  have hfs := gr_cons hold hfs hL_q_1 hT_q_1
  refine pg_putF (ci := 3) (v := .ref q_1) (ty := .object "PostGate$Bytes") (C := RX3) (T := TX3) (N := 4) hx hb hts it_3 tyX3 tyX3_ok nmX3 hown hK hP hD hS hL_h0 hF_h0 rfl 0 (by decide) (hts _ kt_1017) (fun _ h9 => h9) rfl hin rfl (by decide +kernel) (rfl) (rfl) (Nat.le_of_ble_eq_true rfl) dX3_init_14 (fun H locs hP hD hS => ?_)
  obtain ⟨F_4, he_5, hP, hD, hO⟩ : ∃ G, G = va_up F_3 h0 (.inr (3, [.ref q_1, .null, .int 0, .int 0])) ∧ va_P (dC, dI) vwCl (va_pl L G) H ∧ va_D A (va_pl L G) ∧ OK cs ty L G := ⟨_, rfl, hP, hD, hO.up (sh.raw hT_h0)⟩
  have hF_6 : F_4 h0 = .inr (3, [.ref q_1, .null, .int 0, .int 0]) := by rw [he_5]; exact up_self
  refine lv_aload_n hx hb dX3_init_17 rfl (lv_at hl 0 rfl) ?_
  refine va_new (ci := 0) (fs := [.null, .int 0, .int 0]) (C := RX0) (T := TX0) (N := 3) hx hb hts it_0 tyX0 tyX0_ok hown (hts _ kt_1012) (hts _ kt_1013) (hts _ kt_1) hK hP hD hS hA rfl df_0 (by show _ + 1 ≤ 4; omega) (by show _ + 3 ≤ 766; omega) dX3_init_18 (fun q_7 H hPa hDa hS => ?_)
  have hP := left1 hPa
  have hD := left2 hDa
  refine lv_dup hx hb dX3_init_21 rfl ?_
  refine lv_sipush (v := 700) hx hb dX3_init_22 (by decide) ?_
  refine W.eq (g2 := F0 m 25 ls [.int (nI 700), .ref q_7, .ref q_7, .ref h0]) rfl ?_
  have hFc := free1 hDa hS hA
  have hPq := right1 hPa
  refine va_callv (va_runI (As := [.int (nI 700)]) (rest := [.ref q_7, .ref h0]) ⟨hx, hb, hml, hown, hts⟩ (k_X0_init l dC dI cs H.size q_7 700 (ρ + 2) (by omega)) ⟨callB_of 1 hts (gi kt_1014) rfl rfl rfl (hts _ kt_1) (hts _ kt_1015) (by decide +kernel) ⟨Nat.le_of_ble_eq_true rfl, Nat.le_of_ble_eq_true rfl⟩, rfl, (hts _ kt_1016)⟩ ⟨fun a U g mk q => ⟨q.1, PT.calling q.2⟩, fun U hU hWm => ⟨rfl, PT.mk hU hWm hPq hK one1 hE (fun a _ => sh.raw rfl)⟩⟩ rfl rfl hl.1 rfl (lv_room (Nat.le_of_ble_eq_true rfl)) dX3_init_25 ⟨by show _ + 1 ≤ 4; omega, by show _ + 700 ≤ 766; omega⟩) hS (fun q _ h => hFc q h) hFc (fun u t H1 locs ht hvm hw hB hz1 hk1 hS => ?_)
  obtain ⟨L2, F2, ty2, q_8, hN2, hc1, hc2⟩ := hB
  rw [ht] at hN2
  obtain ⟨L, ty, F_9, hN9, hold, holdF, hnew, hnewF⟩ := join1 hPa hDa hO hW hk1 hFc hN2
  obtain ⟨hP, hD, hO, hW⟩ := hN9
  generalize H1 = H at hP hS ⊢
  have hL_q_7 := (hnew _ hc1).1
  have hT_q_7 := (hnew _ hc1).2.trans hc2
  have hT_h0 := (hold _ hL_h0).2.trans hT_h0
  have hF_h0 := (holdF _ hL_h0).1.trans hF_6
  have hnx_h0 := (holdF _ hL_h0).2
  have hL_h0 := (hold _ hL_h0).1
  have hfs := gr_cons hold hfs hL_q_7 hT_q_7
  refine pg_putF (ci := 3) (v := .ref q_7) (ty := .object "PostGate$Bytes") (C := RX3) (T := TX3) (N := 4) hx hb hts it_3 tyX3 tyX3_ok nmX3 hown hK hP hD hS hL_h0 hF_h0 rfl 1 (by decide) (hts _ kt_1018) (fun _ h9 => h9) rfl hin rfl (by decide +kernel) (rfl) (rfl) (Nat.le_of_ble_eq_true rfl) dX3_init_28 (fun H locs hP hD hS => ?_)
  obtain ⟨F_10, he_11, hP, hD, hO⟩ : ∃ G, G = va_up F_9 h0 (.inr (3, [.ref q_1, .ref q_7, .int 0, .int 0])) ∧ va_P (dC, dI) vwCl (va_pl L G) H ∧ va_D A (va_pl L G) ∧ OK cs ty L G := ⟨_, rfl, hP, hD, hO.up (sh.raw hT_h0)⟩
  have hF_12 : F_10 h0 = .inr (3, [.ref q_1, .ref q_7, .int 0, .int 0]) := by rw [he_11]; exact up_self
  refine lv_aload_n hx hb dX3_init_31 rfl (lv_at hl 0 rfl) ?_
  refine lv_iconst (v := 0) hx hb dX3_init_32 (by decide) ?_
  refine pg_put (ci := 3) (v := .int 0) (ty := .int) (C := RX3) (T := TX3) (N := 4) hx hb hts it_3 tyX3 tyX3_ok nmX3 hown hK hP hD hS hL_h0 hF_12 rfl 2 (by decide) (hts _ kt_1019) (fun _ h9 => h9) rfl (by decide +kernel) (rfl) (rfl) (Nat.le_of_ble_eq_true rfl) dX3_init_33 (fun H locs hP hD hS => ?_)
  obtain ⟨F_13, he_14, hP, hD, hO⟩ : ∃ G, G = va_up F_10 h0 (.inr (3, [.ref q_1, .ref q_7, .int 0, .int 0])) ∧ va_P (dC, dI) vwCl (va_pl L G) H ∧ va_D A (va_pl L G) ∧ OK cs ty L G := ⟨_, rfl, hP, hD, hO.up (sh.raw hT_h0)⟩
  have hF_15 : F_13 h0 = .inr (3, [.ref q_1, .ref q_7, .int 0, .int 0]) := by rw [he_14]; exact up_self
  refine lv_aload_n hx hb dX3_init_36 rfl (lv_at hl 0 rfl) ?_
  refine lv_iconst (v := 0) hx hb dX3_init_37 (by decide) ?_
  refine pg_put (ci := 3) (v := .int 0) (ty := .int) (C := RX3) (T := TX3) (N := 4) hx hb hts it_3 tyX3 tyX3_ok nmX3 hown hK hP hD hS hL_h0 hF_15 rfl 3 (by decide) (hts _ kt_1020) (fun _ h9 => h9) rfl (by decide +kernel) (rfl) (rfl) (Nat.le_of_ble_eq_true rfl) dX3_init_38 (fun H locs hP hD hS => ?_)
  obtain ⟨F_16, he_17, hP, hD, hO⟩ : ∃ G, G = va_up F_13 h0 (.inr (3, [.ref q_1, .ref q_7, .int 0, .int 0])) ∧ va_P (dC, dI) vwCl (va_pl L G) H ∧ va_D A (va_pl L G) ∧ OK cs ty L G := ⟨_, rfl, hP, hD, hO.up (sh.raw hT_h0)⟩
  have hF_18 : F_16 h0 = .inr (3, [.ref q_1, .ref q_7, .int 0, .int 0]) := by rw [he_17]; exact up_self
  have hr9 : (ty h0).1 = 99 := by rw [hT_h0]
  have hN9 : NEW (dC, dI) cs (rtf ty h0 (3, ρ, [q_1, q_7])) L F_16 A H := NEW.into ⟨hP, hD, hO, hW⟩ hr9 (by rw [hF_18]; exact sh.entry rtf_self ⟨0, 0, rfl⟩) (wta_entry rtf_self ⟨(hfs _ (List.mem_cons_of_mem _ (List.mem_cons_self))).1, (hfs _ (List.mem_cons_self)).1, ⟨_, rtf_old hr9 (hfs _ (List.mem_cons_of_mem _ (List.mem_cons_self))).2 (by decide)⟩, ⟨_, rtf_old hr9 (hfs _ (List.mem_cons_self)).2 (by decide)⟩⟩)
  refine W.widen (k := 4) (n := 766) (by omega) (by omega) ?_
  exact W.vret hx hb hr (fun t ht hWm => ⟨⟨(), rfl, trivial, ⟨L, F_16, rtf ty h0 (3, ρ, [q_1, q_7]), q_1, q_7, (by rw [ht]; exact hN9), hL_h0, rtf_self⟩⟩, hS.F ht⟩) hS.2.2 dX3_init_41
set_option maxHeartbeats 4000000 in
set_option maxRecDepth 100000 in
theorem k_X10_init (l : Launch) (dC : Nat → ClassId) (dI : Nat → Nat → Nat) (cs : Nat → ClassId) (sz : Nat) (h0 : Nat) (ρ : Nat) : Met l yX10_init (.code yX10_init cX10_init 1 none :: tb) ({ frames := 1, cells := 0, slots := 0, locals := 12 }) (va_Pc [.ref h0] (PT (dC, dI) cs RAWT [h0] (fun _ => .inr (10, [.int 0, .int 0, .int 0, .int 0, .int 0, .int 0])) sz)) (va_Qv (fun _ : Unit => True) (fun _ T9 => ∃ (L2 : List Nat) (F2 : Nat → va_E) (ty2 : TyM), NEW (dC, dI) cs ty2 L2 F2 (va_A (va_pl [h0] (fun _ => .inr (10, [.int 0, .int 0, .int 0, .int 0, .int 0, .int 0]))) sz) T9.heap ∧ h0 ∈ L2 ∧ ty2 h0 = (10, ρ, [])) (va_A (va_pl [h0] (fun _ => .inr (10, [.int 0, .int 0, .int 0, .int 0, .int 0, .int 0]))) sz)) 0 0 (va_A (va_pl [h0] (fun _ => .inr (10, [.int 0, .int 0, .int 0, .int 0, .int 0, .int 0]))) sz) := by
  refine Met.ofW (cc := cX10_init) (maxL := 1) (ret := none) (by decide) rfl ?_
  intro p e s m args below meth c s₁ B hml hv
  obtain ⟨rfl, hsz, hP, hK, hD0, hE, hO⟩ := hv
  have hx := B.exec
  have hb := B.bytes
  have hr := B.returns
  have hts : ∀ w ∈ tb, w.before _ s = true := fun w h => atoms_spec (ws := .code yX10_init cX10_init 1 none :: tb) B.pre w (List.mem_cons_of_mem _ h)
  have hown : s.vm.findClass RX10 = some m.cls := findClass_of_methodNamed B.named
  have hin : meth.name = "<init>" := (name_of_methodNamed B.named B.method).1
  have hlocks := B.notSynchronized
  subst hsz
  have hD := hD0.self (sz := s.heap.size)
  generalize hAe : va_A (va_pl [h0] (fun _ => .inr (10, [.int 0, .int 0, .int 0, .int 0, .int 0, .int 0]))) s.heap.size = A at hD ⊢
  have hA : ∀ q : Nat, s.heap.size ≤ q → A q := fun q h => by rw [← hAe]; exact Or.inr h
  have hS : va_S A s.heap s.heap [] := va_S.rf
  have hl := lv_entry ([.ref h0]) (n := 1) (Nat.le_of_ble_eq_true rfl)
  rw [lg_entry_eq]
  generalize (lg_sl ([.ref h0]) ++ List.replicate (1 - (lg_sl ([.ref h0])).length) Slot.unset).toArray = ls at hl ⊢
  have hl : lv_has ls 1 [(0, .ref h0)] := hl
  obtain ⟨L, ty, F, hN, hL_h0, hT_h0, hF_h0⟩ : ∃ (L : List Nat) (t9 : TyM) (F : Nat → va_E), NEW (dC, dI) cs t9 L F A s.heap ∧ h0 ∈ L ∧ t9 h0 = (99, 0, []) ∧ F h0 = .inr (10, [.int 0, .int 0, .int 0, .int 0, .int 0, .int 0]) := ⟨[h0], RAWT, fun _ => .inr (10, [.int 0, .int 0, .int 0, .int 0, .int 0, .int 0]), ⟨hP, hD, hO, fun a _ => wta_raw rfl⟩, List.mem_singleton.mpr rfl, rfl, rfl⟩
  obtain ⟨hP, hD, hO, hW⟩ := hN
  have hfs : ∀ p ∈ ([] : List (Nat × TyE)), p.1 ∈ L ∧ ty p.1 = p.2 := fun p h => absurd h List.not_mem_nil
  refine lv_aload_n hx hb dX10_init_0 rfl (lv_at hl 0 rfl) ?_
  refine W.objInit hx hb hown (hts _ kt_1021) (hts _ kt_1009) (hts _ kt_1010) rfl (by rw [hml]; exact hl.1) rfl dX10_init_1 (Nat.le_of_ble_eq_true rfl) (Nat.le_of_ble_eq_true rfl) ?_
  refine W.eq (g2 := F0 m 4 ls []) rfl ?_
  refine lv_aload_n hx hb dX10_init_4 rfl (lv_at hl 0 rfl) ?_
  refine lv_iconst (v := 0) hx hb dX10_init_5 (by decide) ?_
  refine pg_put (ci := 10) (v := .int 0) (ty := .int) (C := RX10) (T := TX10) (N := 6) hx hb hts it_10 tyX10 tyX10_ok nmX10 hown hK hP hD hS hL_h0 hF_h0 rfl 0 (by decide) (hts _ kt_118) (fun _ h9 => h9) rfl (by decide +kernel) (rfl) (rfl) (Nat.le_of_ble_eq_true rfl) dX10_init_6 (fun H locs hP hD hS => ?_)
  obtain ⟨F_1, he_2, hP, hD, hO⟩ : ∃ G, G = va_up F h0 (.inr (10, [.int 0, .int 0, .int 0, .int 0, .int 0, .int 0])) ∧ va_P (dC, dI) vwCl (va_pl L G) H ∧ va_D A (va_pl L G) ∧ OK cs ty L G := ⟨_, rfl, hP, hD, hO.up (sh.raw hT_h0)⟩
  have hF_3 : F_1 h0 = .inr (10, [.int 0, .int 0, .int 0, .int 0, .int 0, .int 0]) := by rw [he_2]; exact up_self
  refine lv_aload_n hx hb dX10_init_9 rfl (lv_at hl 0 rfl) ?_
  refine lv_bipush (v := 43) hx hb dX10_init_10 (by decide) ?_
  refine pg_put (ci := 10) (v := .int 43) (ty := .int) (C := RX10) (T := TX10) (N := 6) hx hb hts it_10 tyX10 tyX10_ok nmX10 hown hK hP hD hS hL_h0 hF_3 rfl 1 (by decide) (hts _ kt_135) (fun _ h9 => h9) rfl (by decide +kernel) (rfl) (rfl) (Nat.le_of_ble_eq_true rfl) dX10_init_12 (fun H locs hP hD hS => ?_)
  obtain ⟨F_4, he_5, hP, hD, hO⟩ : ∃ G, G = va_up F_1 h0 (.inr (10, [.int 0, .int 43, .int 0, .int 0, .int 0, .int 0])) ∧ va_P (dC, dI) vwCl (va_pl L G) H ∧ va_D A (va_pl L G) ∧ OK cs ty L G := ⟨_, rfl, hP, hD, hO.up (sh.raw hT_h0)⟩
  have hF_6 : F_4 h0 = .inr (10, [.int 0, .int 43, .int 0, .int 0, .int 0, .int 0]) := by rw [he_5]; exact up_self
  refine lv_aload_n hx hb dX10_init_15 rfl (lv_at hl 0 rfl) ?_
  refine lv_iconst (v := 0) hx hb dX10_init_16 (by decide) ?_
  refine pg_put (ci := 10) (v := .int 0) (ty := .int) (C := RX10) (T := TX10) (N := 6) hx hb hts it_10 tyX10 tyX10_ok nmX10 hown hK hP hD hS hL_h0 hF_6 rfl 2 (by decide) (hts _ kt_119) (fun _ h9 => h9) rfl (by decide +kernel) (rfl) (rfl) (Nat.le_of_ble_eq_true rfl) dX10_init_17 (fun H locs hP hD hS => ?_)
  obtain ⟨F_7, he_8, hP, hD, hO⟩ : ∃ G, G = va_up F_4 h0 (.inr (10, [.int 0, .int 43, .int 0, .int 0, .int 0, .int 0])) ∧ va_P (dC, dI) vwCl (va_pl L G) H ∧ va_D A (va_pl L G) ∧ OK cs ty L G := ⟨_, rfl, hP, hD, hO.up (sh.raw hT_h0)⟩
  have hF_9 : F_7 h0 = .inr (10, [.int 0, .int 43, .int 0, .int 0, .int 0, .int 0]) := by rw [he_8]; exact up_self
  refine lv_aload_n hx hb dX10_init_20 rfl (lv_at hl 0 rfl) ?_
  refine lv_iconst (v := 0) hx hb dX10_init_21 (by decide) ?_
  refine pg_put (ci := 10) (v := .int 0) (ty := .int) (C := RX10) (T := TX10) (N := 6) hx hb hts it_10 tyX10 tyX10_ok nmX10 hown hK hP hD hS hL_h0 hF_9 rfl 3 (by decide) (hts _ kt_149) (fun _ h9 => h9) rfl (by decide +kernel) (rfl) (rfl) (Nat.le_of_ble_eq_true rfl) dX10_init_22 (fun H locs hP hD hS => ?_)
  obtain ⟨F_10, he_11, hP, hD, hO⟩ : ∃ G, G = va_up F_7 h0 (.inr (10, [.int 0, .int 43, .int 0, .int 0, .int 0, .int 0])) ∧ va_P (dC, dI) vwCl (va_pl L G) H ∧ va_D A (va_pl L G) ∧ OK cs ty L G := ⟨_, rfl, hP, hD, hO.up (sh.raw hT_h0)⟩
  have hF_12 : F_10 h0 = .inr (10, [.int 0, .int 43, .int 0, .int 0, .int 0, .int 0]) := by rw [he_11]; exact up_self
  refine lv_aload_n hx hb dX10_init_25 rfl (lv_at hl 0 rfl) ?_
  refine lv_bipush (v := 32) hx hb dX10_init_26 (by decide) ?_
  refine pg_put (ci := 10) (v := .int 32) (ty := .int) (C := RX10) (T := TX10) (N := 6) hx hb hts it_10 tyX10 tyX10_ok nmX10 hown hK hP hD hS hL_h0 hF_12 rfl 4 (by decide) (hts _ kt_150) (fun _ h9 => h9) rfl (by decide +kernel) (rfl) (rfl) (Nat.le_of_ble_eq_true rfl) dX10_init_28 (fun H locs hP hD hS => ?_)
  obtain ⟨F_13, he_14, hP, hD, hO⟩ : ∃ G, G = va_up F_10 h0 (.inr (10, [.int 0, .int 43, .int 0, .int 0, .int 32, .int 0])) ∧ va_P (dC, dI) vwCl (va_pl L G) H ∧ va_D A (va_pl L G) ∧ OK cs ty L G := ⟨_, rfl, hP, hD, hO.up (sh.raw hT_h0)⟩
  have hF_15 : F_13 h0 = .inr (10, [.int 0, .int 43, .int 0, .int 0, .int 32, .int 0]) := by rw [he_14]; exact up_self
  refine lv_aload_n hx hb dX10_init_31 rfl (lv_at hl 0 rfl) ?_
  refine lv_iconst (v := 0) hx hb dX10_init_32 (by decide) ?_
  refine pg_put (ci := 10) (v := .int 0) (ty := .int) (C := RX10) (T := TX10) (N := 6) hx hb hts it_10 tyX10 tyX10_ok nmX10 hown hK hP hD hS hL_h0 hF_15 rfl 5 (by decide) (hts _ kt_131) (fun _ h9 => h9) rfl (by decide +kernel) (rfl) (rfl) (Nat.le_of_ble_eq_true rfl) dX10_init_33 (fun H locs hP hD hS => ?_)
  obtain ⟨F_16, he_17, hP, hD, hO⟩ : ∃ G, G = va_up F_13 h0 (.inr (10, [.int 0, .int 43, .int 0, .int 0, .int 32, .int 0])) ∧ va_P (dC, dI) vwCl (va_pl L G) H ∧ va_D A (va_pl L G) ∧ OK cs ty L G := ⟨_, rfl, hP, hD, hO.up (sh.raw hT_h0)⟩
  have hF_18 : F_16 h0 = .inr (10, [.int 0, .int 43, .int 0, .int 0, .int 32, .int 0]) := by rw [he_17]; exact up_self
  have hr9 : (ty h0).1 = 99 := by rw [hT_h0]
  have hN9 : NEW (dC, dI) cs (rtf ty h0 (10, ρ, [])) L F_16 A H := NEW.into ⟨hP, hD, hO, hW⟩ hr9 (by rw [hF_18]; exact sh.term rtf_self ⟨0, 43, 0, 0, 32, 0, rfl, (by first | omega | assumption | exact Or.inl rfl | exact Or.inr rfl)⟩) (wta_term rtf_self trivial)
  refine W.widen (k := 0) (n := 0) (by omega) (by omega) ?_
  exact W.vret hx hb hr (fun t ht hWm => ⟨⟨(), rfl, trivial, ⟨L, F_16, rtf ty h0 (10, ρ, []), (by rw [ht]; exact hN9), hL_h0, rtf_self⟩⟩, hS.F ht⟩) hS.2.2 dX10_init_36
set_option maxHeartbeats 4000000 in
set_option maxRecDepth 100000 in
theorem k_X9_init (l : Launch) (dC : Nat → ClassId) (dI : Nat → Nat → Nat) (cs : Nat → ClassId) (sz : Nat) (h0 : Nat) (n : Nat) (ρ : Nat) (hn : n ≤ 10000) : Met l yX9_init (.code yX9_init cX9_init 2 none :: tb) ({ frames := 2, cells := 5, slots := n + 123, locals := 33 }) (va_Pc [.ref h0, .int (nI n)] (PT (dC, dI) cs RAWT [h0] (fun _ => .inr (9, [.null, .null, .null, .null, .int 0])) sz)) (va_Qv (fun _ : Unit => True) (fun _ T9 => ∃ (L2 : List Nat) (F2 : Nat → va_E) (ty2 : TyM), ∃ x : Nat, ∃ y0 : Nat, ∃ y1 : Nat, ∃ y2 : Nat, NEW (dC, dI) cs ty2 L2 F2 (va_A (va_pl [h0] (fun _ => .inr (9, [.null, .null, .null, .null, .int 0]))) sz) T9.heap ∧ h0 ∈ L2 ∧ ty2 h0 = (9, ρ, [x, n, y0, y1, y2])) (va_A (va_pl [h0] (fun _ => .inr (9, [.null, .null, .null, .null, .int 0]))) sz)) 5 (n + 123) (va_A (va_pl [h0] (fun _ => .inr (9, [.null, .null, .null, .null, .int 0]))) sz) := by
  refine Met.ofW (cc := cX9_init) (maxL := 2) (ret := none) (by decide) rfl ?_
  intro p e s m args below meth c s₁ B hml hv
  obtain ⟨rfl, hsz, hP, hK, hD0, hE, hO⟩ := hv
  have hx := B.exec
  have hb := B.bytes
  have hr := B.returns
  have hts : ∀ w ∈ tb, w.before _ s = true := fun w h => atoms_spec (ws := .code yX9_init cX9_init 2 none :: tb) B.pre w (List.mem_cons_of_mem _ h)
  have hown : s.vm.findClass RX9 = some m.cls := findClass_of_methodNamed B.named
  have hin : meth.name = "<init>" := (name_of_methodNamed B.named B.method).1
  have hlocks := B.notSynchronized
  subst hsz
  have hD := hD0.self (sz := s.heap.size)
  generalize hAe : va_A (va_pl [h0] (fun _ => .inr (9, [.null, .null, .null, .null, .int 0]))) s.heap.size = A at hD ⊢
  have hA : ∀ q : Nat, s.heap.size ≤ q → A q := fun q h => by rw [← hAe]; exact Or.inr h
  have hS : va_S A s.heap s.heap [] := va_S.rf
  have hl := lv_entry ([.ref h0, .int (nI n)]) (n := 2) (Nat.le_of_ble_eq_true rfl)
  rw [lg_entry_eq]
  generalize (lg_sl ([.ref h0, .int (nI n)]) ++ List.replicate (2 - (lg_sl ([.ref h0, .int (nI n)])).length) Slot.unset).toArray = ls at hl ⊢
  have hl : lv_has ls 2 [(0, .ref h0), (1, .int (nI n))] := hl
  obtain ⟨L, ty, F, hN, hL_h0, hT_h0, hF_h0⟩ : ∃ (L : List Nat) (t9 : TyM) (F : Nat → va_E), NEW (dC, dI) cs t9 L F A s.heap ∧ h0 ∈ L ∧ t9 h0 = (99, 0, []) ∧ F h0 = .inr (9, [.null, .null, .null, .null, .int 0]) := ⟨[h0], RAWT, fun _ => .inr (9, [.null, .null, .null, .null, .int 0]), ⟨hP, hD, hO, fun a _ => wta_raw rfl⟩, List.mem_singleton.mpr rfl, rfl, rfl⟩
  obtain ⟨hP, hD, hO, hW⟩ := hN
  have hfs : ∀ p ∈ ([] : List (Nat × TyE)), p.1 ∈ L ∧ ty p.1 = p.2 := fun p h => absurd h List.not_mem_nil
  refine lv_aload_n hx hb dX9_init_0 rfl (lv_at hl 0 rfl) ?_
  refine W.objInit hx hb hown (hts _ kt_1022) (hts _ kt_1009) (hts _ kt_1010) rfl (by rw [hml]; exact hl.1) rfl dX9_init_1 (Nat.le_of_ble_eq_true rfl) (Nat.le_of_ble_eq_true rfl) ?_
  refine W.eq (g2 := F0 m 4 ls []) rfl ?_
  refine lv_aload_n hx hb dX9_init_4 rfl (lv_at hl 0 rfl) ?_
  refine lv_bipush (v := 40) hx hb dX9_init_5 (by decide) ?_
  refine va_newa (atype := .int) (ty := .int) (a0 := (40, .inl (fun _ => 0))) (N' := 40) hx hb (hts _ kt_1007) rfl hK hP hD hS hA (fun _ => rfl) (by decide) (by decide) (by show _ * 4 ≤ _; omega) (by show _ + 1 ≤ 5; omega) (by show _ + 40 ≤ n + 123; omega) dX9_init_7 (fun q_1 cA H hKn hPa hDa hS => ?_)
  obtain rfl := cid_int hK hKn
  obtain ⟨L, ty, F_2, hN9, hold, holdF, hL_q_1, hT_q_1, hF_q_1⟩ := grow1 (e := (24, ρ, [40])) hPa hDa hO hW (sh.idx rtf_self ⟨_, rfl, fun _ => ⟨0, Nat.zero_le _, rfl⟩⟩) (wta_idx rtf_self trivial)
  obtain ⟨hP, hD, hO, hW⟩ := hN9
  have hT_h0 := (hold _ hL_h0).2.trans hT_h0
  have hF_h0 := (holdF _ hL_h0).1.trans hF_h0
  have hne_h0_q_1 := (holdF _ hL_h0).2
  have hL_h0 := (hold _ hL_h0).1
  have hfs := gr_cons hold hfs hL_q_1 hT_q_1
  refine pg_putF (ci := 9) (v := .ref q_1) (ty := .array .int) (C := RX9) (T := TX9) (N := 5) hx hb hts it_9 tyX9 tyX9_ok nmX9 hown hK hP hD hS hL_h0 hF_h0 rfl 1 (by decide) (hts _ kt_160) (fun _ h9 => h9) rfl hin rfl (by decide +kernel) (rfl) (rfl) (Nat.le_of_ble_eq_true rfl) dX9_init_9 (fun H locs hP hD hS => ?_)
  obtain ⟨F_3, he_4, hP, hD, hO⟩ : ∃ G, G = va_up F_2 h0 (.inr (9, [.null, .ref q_1, .null, .null, .int 0])) ∧ va_P (dC, dI) vwCl (va_pl L G) H ∧ va_D A (va_pl L G) ∧ OK cs ty L G := ⟨_, rfl, hP, hD, hO.up (sh.raw hT_h0)⟩
  have hF_5 : F_3 h0 = .inr (9, [.null, .ref q_1, .null, .null, .int 0]) := by rw [he_4]; exact up_self
  refine lv_aload_n hx hb dX9_init_12 rfl (lv_at hl 0 rfl) ?_
  refine lv_bipush (v := 40) hx hb dX9_init_13 (by decide) ?_
  refine va_newa (atype := .int) (ty := .int) (a0 := (40, .inl (fun _ => 0))) (N' := 40) hx hb (hts _ kt_1007) rfl hK hP hD hS hA (fun _ => rfl) (by decide) (by decide) (by show _ * 4 ≤ _; omega) (by show _ + 1 ≤ 5; omega) (by show _ + 40 ≤ n + 123; omega) dX9_init_15 (fun q_6 cA H hKn hPa hDa hS => ?_)
  obtain rfl := cid_int hK hKn
  obtain ⟨L, ty, F_7, hN9, hold, holdF, hL_q_6, hT_q_6, hF_q_6⟩ := grow1 (e := (24, ρ + 70, [40])) hPa hDa hO hW (sh.idx rtf_self ⟨_, rfl, fun _ => ⟨0, Nat.zero_le _, rfl⟩⟩) (wta_idx rtf_self trivial)
  obtain ⟨hP, hD, hO, hW⟩ := hN9
  have hT_h0 := (hold _ hL_h0).2.trans hT_h0
  have hF_h0 := (holdF _ hL_h0).1.trans hF_5
  have hne_h0_q_6 := (holdF _ hL_h0).2
  have hL_h0 := (hold _ hL_h0).1
  have hfs := gr_cons hold hfs hL_q_6 hT_q_6
  refine pg_putF (ci := 9) (v := .ref q_6) (ty := .array .int) (C := RX9) (T := TX9) (N := 5) hx hb hts it_9 tyX9 tyX9_ok nmX9 hown hK hP hD hS hL_h0 hF_h0 rfl 2 (by decide) (hts _ kt_161) (fun _ h9 => h9) rfl hin rfl (by decide +kernel) (rfl) (rfl) (Nat.le_of_ble_eq_true rfl) dX9_init_17 (fun H locs hP hD hS => ?_)
  obtain ⟨F_8, he_9, hP, hD, hO⟩ : ∃ G, G = va_up F_7 h0 (.inr (9, [.null, .ref q_1, .ref q_6, .null, .int 0])) ∧ va_P (dC, dI) vwCl (va_pl L G) H ∧ va_D A (va_pl L G) ∧ OK cs ty L G := ⟨_, rfl, hP, hD, hO.up (sh.raw hT_h0)⟩
  have hF_10 : F_8 h0 = .inr (9, [.null, .ref q_1, .ref q_6, .null, .int 0]) := by rw [he_9]; exact up_self
  refine lv_aload_n hx hb dX9_init_20 rfl (lv_at hl 0 rfl) ?_
  refine lv_bipush (v := 40) hx hb dX9_init_21 (by decide) ?_
  refine va_newa (atype := .int) (ty := .int) (a0 := (40, .inl (fun _ => 0))) (N' := 40) hx hb (hts _ kt_1007) rfl hK hP hD hS hA (fun _ => rfl) (by decide) (by decide) (by show _ * 4 ≤ _; omega) (by show _ + 1 ≤ 5; omega) (by show _ + 40 ≤ n + 123; omega) dX9_init_23 (fun q_11 cA H hKn hPa hDa hS => ?_)
  obtain rfl := cid_int hK hKn
  obtain ⟨L, ty, F_12, hN9, hold, holdF, hL_q_11, hT_q_11, hF_q_11⟩ := grow1 (e := (24, ρ + 71, [40])) hPa hDa hO hW (sh.idx rtf_self ⟨_, rfl, fun _ => ⟨0, Nat.zero_le _, rfl⟩⟩) (wta_idx rtf_self trivial)
  obtain ⟨hP, hD, hO, hW⟩ := hN9
  have hT_h0 := (hold _ hL_h0).2.trans hT_h0
  have hF_h0 := (holdF _ hL_h0).1.trans hF_10
  have hne_h0_q_11 := (holdF _ hL_h0).2
  have hL_h0 := (hold _ hL_h0).1
  have hfs := gr_cons hold hfs hL_q_11 hT_q_11
  refine pg_putF (ci := 9) (v := .ref q_11) (ty := .array .int) (C := RX9) (T := TX9) (N := 5) hx hb hts it_9 tyX9 tyX9_ok nmX9 hown hK hP hD hS hL_h0 hF_h0 rfl 3 (by decide) (hts _ kt_168) (fun _ h9 => h9) rfl hin rfl (by decide +kernel) (rfl) (rfl) (Nat.le_of_ble_eq_true rfl) dX9_init_25 (fun H locs hP hD hS => ?_)
  obtain ⟨F_13, he_14, hP, hD, hO⟩ : ∃ G, G = va_up F_12 h0 (.inr (9, [.null, .ref q_1, .ref q_6, .ref q_11, .int 0])) ∧ va_P (dC, dI) vwCl (va_pl L G) H ∧ va_D A (va_pl L G) ∧ OK cs ty L G := ⟨_, rfl, hP, hD, hO.up (sh.raw hT_h0)⟩
  have hF_15 : F_13 h0 = .inr (9, [.null, .ref q_1, .ref q_6, .ref q_11, .int 0]) := by rw [he_14]; exact up_self
  refine lv_aload_n hx hb dX9_init_28 rfl (lv_at hl 0 rfl) ?_
  refine lv_iconst (v := 0) hx hb dX9_init_29 (by decide) ?_
  refine pg_put (ci := 9) (v := .int 0) (ty := .int) (C := RX9) (T := TX9) (N := 5) hx hb hts it_9 tyX9 tyX9_ok nmX9 hown hK hP hD hS hL_h0 hF_15 rfl 4 (by decide) (hts _ kt_158) (fun _ h9 => h9) rfl (by decide +kernel) (rfl) (rfl) (Nat.le_of_ble_eq_true rfl) dX9_init_30 (fun H locs hP hD hS => ?_)
  obtain ⟨F_16, he_17, hP, hD, hO⟩ : ∃ G, G = va_up F_13 h0 (.inr (9, [.null, .ref q_1, .ref q_6, .ref q_11, .int 0])) ∧ va_P (dC, dI) vwCl (va_pl L G) H ∧ va_D A (va_pl L G) ∧ OK cs ty L G := ⟨_, rfl, hP, hD, hO.up (sh.raw hT_h0)⟩
  have hF_18 : F_16 h0 = .inr (9, [.null, .ref q_1, .ref q_6, .ref q_11, .int 0]) := by rw [he_17]; exact up_self
  refine lv_aload_n hx hb dX9_init_33 rfl (lv_at hl 0 rfl) ?_
  refine va_new (ci := 0) (fs := [.null, .int 0, .int 0]) (C := RX0) (T := TX0) (N := 3) hx hb hts it_0 tyX0 tyX0_ok hown (hts _ kt_1023) (hts _ kt_1013) (hts _ kt_1) hK hP hD hS hA rfl df_0 (by show _ + 1 ≤ 5; omega) (by show _ + 3 ≤ n + 123; omega) dX9_init_34 (fun q_19 H hPa hDa hS => ?_)
  have hP := left1 hPa
  have hD := left2 hDa
  refine lv_dup hx hb dX9_init_37 rfl ?_
  refine lv_iload_n hx hb dX9_init_38 rfl (lv_at hl 1 rfl) ?_
  refine W.eq (g2 := F0 m 39 ls [.int (nI n), .ref q_19, .ref q_19, .ref h0]) rfl ?_
  have hFc := free1 hDa hS hA
  have hPq := right1 hPa
  refine va_callv (va_runI (As := [.int (nI n)]) (rest := [.ref q_19, .ref h0]) ⟨hx, hb, hml, hown, hts⟩ (k_X0_init l dC dI cs H.size q_19 n (ρ + 1) (by omega)) ⟨callB_of 1 hts (gi kt_1014) rfl rfl rfl (hts _ kt_1) (hts _ kt_1024) (by decide +kernel) ⟨Nat.le_of_ble_eq_true rfl, Nat.le_of_ble_eq_true rfl⟩, rfl, (hts _ kt_1016)⟩ ⟨fun a U g mk q => ⟨q.1, PT.calling q.2⟩, fun U hU hWm => ⟨rfl, PT.mk hU hWm hPq hK one1 hE (fun a _ => sh.raw rfl)⟩⟩ rfl rfl hl.1 rfl (lv_room (Nat.le_of_ble_eq_true rfl)) dX9_init_39 ⟨by show _ + 1 ≤ 5; omega, by show _ + n ≤ n + 123; omega⟩) hS (fun q _ h => hFc q h) hFc (fun u t H1 locs ht hvm hw hB hz1 hk1 hS => ?_)
  obtain ⟨L2, F2, ty2, q_20, hN2, hc1, hc2⟩ := hB
  rw [ht] at hN2
  obtain ⟨L, ty, F_21, hN9, hold, holdF, hnew, hnewF⟩ := join1 hPa hDa hO hW hk1 hFc hN2
  obtain ⟨hP, hD, hO, hW⟩ := hN9
  generalize H1 = H at hP hS ⊢
  have hL_q_19 := (hnew _ hc1).1
  have hT_q_19 := (hnew _ hc1).2.trans hc2
  have hT_h0 := (hold _ hL_h0).2.trans hT_h0
  have hF_h0 := (holdF _ hL_h0).1.trans hF_18
  have hnx_h0 := (holdF _ hL_h0).2
  have hL_h0 := (hold _ hL_h0).1
  have hfs := gr_cons hold hfs hL_q_19 hT_q_19
  refine pg_putF (ci := 9) (v := .ref q_19) (ty := .object "PostGate$Bytes") (C := RX9) (T := TX9) (N := 5) hx hb hts it_9 tyX9 tyX9_ok nmX9 hown hK hP hD hS hL_h0 hF_h0 rfl 0 (by decide) (hts _ kt_159) (fun _ h9 => h9) rfl hin rfl (by decide +kernel) (rfl) (rfl) (Nat.le_of_ble_eq_true rfl) dX9_init_42 (fun H locs hP hD hS => ?_)
  obtain ⟨F_22, he_23, hP, hD, hO⟩ : ∃ G, G = va_up F_21 h0 (.inr (9, [.ref q_19, .ref q_1, .ref q_6, .ref q_11, .int 0])) ∧ va_P (dC, dI) vwCl (va_pl L G) H ∧ va_D A (va_pl L G) ∧ OK cs ty L G := ⟨_, rfl, hP, hD, hO.up (sh.raw hT_h0)⟩
  have hF_24 : F_22 h0 = .inr (9, [.ref q_19, .ref q_1, .ref q_6, .ref q_11, .int 0]) := by rw [he_23]; exact up_self
  have hr9 : (ty h0).1 = 99 := by rw [hT_h0]
  have hN9 : NEW (dC, dI) cs (rtf ty h0 (9, ρ, [q_19, n, q_1, q_6, q_11])) L F_22 A H := NEW.into ⟨hP, hD, hO, hW⟩ hr9 (by rw [hF_24]; exact sh.tags rtf_self ⟨0, rfl, (by first | omega | assumption | exact Or.inl rfl | exact Or.inr rfl)⟩) (wta_tags rtf_self ⟨(hfs _ (List.mem_cons_self)).1, (hfs _ (List.mem_cons_of_mem _ (List.mem_cons_of_mem _ (List.mem_cons_of_mem _ (List.mem_cons_self))))).1, (hfs _ (List.mem_cons_of_mem _ (List.mem_cons_of_mem _ (List.mem_cons_self)))).1, (hfs _ (List.mem_cons_of_mem _ (List.mem_cons_self))).1, ⟨_, rtf_old hr9 (hfs _ (List.mem_cons_self)).2 (by decide)⟩, rtf_old hr9 (hfs _ (List.mem_cons_of_mem _ (List.mem_cons_of_mem _ (List.mem_cons_of_mem _ (List.mem_cons_self))))).2 (by decide), rtf_old hr9 (hfs _ (List.mem_cons_of_mem _ (List.mem_cons_of_mem _ (List.mem_cons_self)))).2 (by decide), rtf_old hr9 (hfs _ (List.mem_cons_of_mem _ (List.mem_cons_self))).2 (by decide)⟩)
  refine W.widen (k := 5) (n := n + 123) (by omega) (by omega) ?_
  exact W.vret hx hb hr (fun t ht hWm => ⟨⟨(), rfl, trivial, ⟨L, F_22, rtf ty h0 (9, ρ, [q_19, n, q_1, q_6, q_11]), q_19, q_1, q_6, q_11, (by rw [ht]; exact hN9), hL_h0, rtf_self⟩⟩, hS.F ht⟩) hS.2.2 dX9_init_45
set_option maxHeartbeats 4000000 in
set_option maxRecDepth 100000 in
theorem k_X8_init (l : Launch) (dC : Nat → ClassId) (dI : Nat → Nat → Nat) (cs : Nat → ClassId) (sz : Nat) (h0 : Nat) (ρ : Nat) : Met l yX8_init (.code yX8_init cX8_init 1 none :: tb) ({ frames := 1, cells := 3, slots := 80, locals := 12 }) (va_Pc [.ref h0] (PT (dC, dI) cs RAWT [h0] (fun _ => .inr (8, [.null, .null, .null])) sz)) (va_Qv (fun _ : Unit => True) (fun _ T9 => ∃ (L2 : List Nat) (F2 : Nat → va_E) (ty2 : TyM), ∃ x : Nat, ∃ y : Nat, ∃ w : Nat, NEW (dC, dI) cs ty2 L2 F2 (va_A (va_pl [h0] (fun _ => .inr (8, [.null, .null, .null]))) sz) T9.heap ∧ h0 ∈ L2 ∧ ty2 h0 = (8, ρ, [x, y, w])) (va_A (va_pl [h0] (fun _ => .inr (8, [.null, .null, .null]))) sz)) 3 80 (va_A (va_pl [h0] (fun _ => .inr (8, [.null, .null, .null]))) sz) := by
  refine Met.ofW (cc := cX8_init) (maxL := 1) (ret := none) (by decide) rfl ?_
  intro p e s m args below meth c s₁ B hml hv
  obtain ⟨rfl, hsz, hP, hK, hD0, hE, hO⟩ := hv
  have hx := B.exec
  have hb := B.bytes
  have hr := B.returns
  have hts : ∀ w ∈ tb, w.before _ s = true := fun w h => atoms_spec (ws := .code yX8_init cX8_init 1 none :: tb) B.pre w (List.mem_cons_of_mem _ h)
  have hown : s.vm.findClass RX8 = some m.cls := findClass_of_methodNamed B.named
  have hin : meth.name = "<init>" := (name_of_methodNamed B.named B.method).1
  have hlocks := B.notSynchronized
  subst hsz
  have hD := hD0.self (sz := s.heap.size)
  generalize hAe : va_A (va_pl [h0] (fun _ => .inr (8, [.null, .null, .null]))) s.heap.size = A at hD ⊢
  have hA : ∀ q : Nat, s.heap.size ≤ q → A q := fun q h => by rw [← hAe]; exact Or.inr h
  have hS : va_S A s.heap s.heap [] := va_S.rf
  have hl := lv_entry ([.ref h0]) (n := 1) (Nat.le_of_ble_eq_true rfl)
  rw [lg_entry_eq]
  generalize (lg_sl ([.ref h0]) ++ List.replicate (1 - (lg_sl ([.ref h0])).length) Slot.unset).toArray = ls at hl ⊢
  have hl : lv_has ls 1 [(0, .ref h0)] := hl
  obtain ⟨L, ty, F, hN, hL_h0, hT_h0, hF_h0⟩ : ∃ (L : List Nat) (t9 : TyM) (F : Nat → va_E), NEW (dC, dI) cs t9 L F A s.heap ∧ h0 ∈ L ∧ t9 h0 = (99, 0, []) ∧ F h0 = .inr (8, [.null, .null, .null]) := ⟨[h0], RAWT, fun _ => .inr (8, [.null, .null, .null]), ⟨hP, hD, hO, fun a _ => wta_raw rfl⟩, List.mem_singleton.mpr rfl, rfl, rfl⟩
  obtain ⟨hP, hD, hO, hW⟩ := hN
  have hfs : ∀ p ∈ ([] : List (Nat × TyE)), p.1 ∈ L ∧ ty p.1 = p.2 := fun p h => absurd h List.not_mem_nil
  refine lv_aload_n hx hb dX8_init_0 rfl (lv_at hl 0 rfl) ?_
  refine W.objInit hx hb hown (hts _ kt_1025) (hts _ kt_1009) (hts _ kt_1010) rfl (by rw [hml]; exact hl.1) rfl dX8_init_1 (Nat.le_of_ble_eq_true rfl) (Nat.le_of_ble_eq_true rfl) ?_
  refine W.eq (g2 := F0 m 4 ls []) rfl ?_
  refine lv_aload_n hx hb dX8_init_4 rfl (lv_at hl 0 rfl) ?_
  refine lv_bipush (v := 64) hx hb dX8_init_5 (by decide) ?_
  refine va_newa (atype := .int) (ty := .int) (a0 := (64, .inl (fun _ => 0))) (N' := 64) hx hb (hts _ kt_1007) rfl hK hP hD hS hA (fun _ => rfl) (by decide) (by decide) (by show _ * 4 ≤ _; omega) (by show _ + 1 ≤ 3; omega) (by show _ + 64 ≤ 80; omega) dX8_init_7 (fun q_1 cA H hKn hPa hDa hS => ?_)
  obtain rfl := cid_int hK hKn
  obtain ⟨L, ty, F_2, hN9, hold, holdF, hL_q_1, hT_q_1, hF_q_1⟩ := grow1 (e := (16, ρ, [64])) hPa hDa hO hW (sh.ints rtf_self ⟨_, rfl⟩) (wta_ints rtf_self trivial)
  obtain ⟨hP, hD, hO, hW⟩ := hN9
  have hT_h0 := (hold _ hL_h0).2.trans hT_h0
  have hF_h0 := (holdF _ hL_h0).1.trans hF_h0
  have hne_h0_q_1 := (holdF _ hL_h0).2
  have hL_h0 := (hold _ hL_h0).1
  have hfs := gr_cons hold hfs hL_q_1 hT_q_1
  refine pg_putF (ci := 8) (v := .ref q_1) (ty := .array .int) (C := RX8) (T := TX8) (N := 3) hx hb hts it_8 tyX8 tyX8_ok nmX8 hown hK hP hD hS hL_h0 hF_h0 rfl 0 (by decide) (hts _ kt_246) (fun _ h9 => h9) rfl hin rfl (by decide +kernel) (rfl) (rfl) (Nat.le_of_ble_eq_true rfl) dX8_init_9 (fun H locs hP hD hS => ?_)
  obtain ⟨F_3, he_4, hP, hD, hO⟩ : ∃ G, G = va_up F_2 h0 (.inr (8, [.ref q_1, .null, .null])) ∧ va_P (dC, dI) vwCl (va_pl L G) H ∧ va_D A (va_pl L G) ∧ OK cs ty L G := ⟨_, rfl, hP, hD, hO.up (sh.raw hT_h0)⟩
  have hF_5 : F_3 h0 = .inr (8, [.ref q_1, .null, .null]) := by rw [he_4]; exact up_self
  refine lv_aload_n hx hb dX8_init_12 rfl (lv_at hl 0 rfl) ?_
  refine lv_bipush (v := 8) hx hb dX8_init_13 (by decide) ?_
  refine va_newa (atype := .int) (ty := .int) (a0 := (8, .inl (fun _ => 0))) (N' := 8) hx hb (hts _ kt_1007) rfl hK hP hD hS hA (fun _ => rfl) (by decide) (by decide) (by show _ * 4 ≤ _; omega) (by show _ + 1 ≤ 3; omega) (by show _ + 8 ≤ 80; omega) dX8_init_15 (fun q_6 cA H hKn hPa hDa hS => ?_)
  obtain rfl := cid_int hK hKn
  obtain ⟨L, ty, F_7, hN9, hold, holdF, hL_q_6, hT_q_6, hF_q_6⟩ := grow1 (e := (16, ρ, [8])) hPa hDa hO hW (sh.ints rtf_self ⟨_, rfl⟩) (wta_ints rtf_self trivial)
  obtain ⟨hP, hD, hO, hW⟩ := hN9
  have hT_h0 := (hold _ hL_h0).2.trans hT_h0
  have hF_h0 := (holdF _ hL_h0).1.trans hF_5
  have hne_h0_q_6 := (holdF _ hL_h0).2
  have hL_h0 := (hold _ hL_h0).1
  have hfs := gr_cons hold hfs hL_q_6 hT_q_6
  refine pg_putF (ci := 8) (v := .ref q_6) (ty := .array .int) (C := RX8) (T := TX8) (N := 3) hx hb hts it_8 tyX8 tyX8_ok nmX8 hown hK hP hD hS hL_h0 hF_h0 rfl 1 (by decide) (hts _ kt_247) (fun _ h9 => h9) rfl hin rfl (by decide +kernel) (rfl) (rfl) (Nat.le_of_ble_eq_true rfl) dX8_init_17 (fun H locs hP hD hS => ?_)
  obtain ⟨F_8, he_9, hP, hD, hO⟩ : ∃ G, G = va_up F_7 h0 (.inr (8, [.ref q_1, .ref q_6, .null])) ∧ va_P (dC, dI) vwCl (va_pl L G) H ∧ va_D A (va_pl L G) ∧ OK cs ty L G := ⟨_, rfl, hP, hD, hO.up (sh.raw hT_h0)⟩
  have hF_10 : F_8 h0 = .inr (8, [.ref q_1, .ref q_6, .null]) := by rw [he_9]; exact up_self
  refine lv_aload_n hx hb dX8_init_20 rfl (lv_at hl 0 rfl) ?_
  refine lv_bipush (v := 8) hx hb dX8_init_21 (by decide) ?_
  refine va_newa (atype := .int) (ty := .int) (a0 := (8, .inl (fun _ => 0))) (N' := 8) hx hb (hts _ kt_1007) rfl hK hP hD hS hA (fun _ => rfl) (by decide) (by decide) (by show _ * 4 ≤ _; omega) (by show _ + 1 ≤ 3; omega) (by show _ + 8 ≤ 80; omega) dX8_init_23 (fun q_11 cA H hKn hPa hDa hS => ?_)
  obtain rfl := cid_int hK hKn
  obtain ⟨L, ty, F_12, hN9, hold, holdF, hL_q_11, hT_q_11, hF_q_11⟩ := grow1 (e := (30, ρ, [8])) hPa hDa hO hW (sh.tur rtf_self ⟨_, rfl⟩) (wta_tur rtf_self trivial)
  obtain ⟨hP, hD, hO, hW⟩ := hN9
  have hT_h0 := (hold _ hL_h0).2.trans hT_h0
  have hF_h0 := (holdF _ hL_h0).1.trans hF_10
  have hne_h0_q_11 := (holdF _ hL_h0).2
  have hL_h0 := (hold _ hL_h0).1
  have hfs := gr_cons hold hfs hL_q_11 hT_q_11
  refine pg_putF (ci := 8) (v := .ref q_11) (ty := .array .int) (C := RX8) (T := TX8) (N := 3) hx hb hts it_8 tyX8 tyX8_ok nmX8 hown hK hP hD hS hL_h0 hF_h0 rfl 2 (by decide) (hts _ kt_244) (fun _ h9 => h9) rfl hin rfl (by decide +kernel) (rfl) (rfl) (Nat.le_of_ble_eq_true rfl) dX8_init_25 (fun H locs hP hD hS => ?_)
  obtain ⟨F_13, he_14, hP, hD, hO⟩ : ∃ G, G = va_up F_12 h0 (.inr (8, [.ref q_1, .ref q_6, .ref q_11])) ∧ va_P (dC, dI) vwCl (va_pl L G) H ∧ va_D A (va_pl L G) ∧ OK cs ty L G := ⟨_, rfl, hP, hD, hO.up (sh.raw hT_h0)⟩
  have hF_15 : F_13 h0 = .inr (8, [.ref q_1, .ref q_6, .ref q_11]) := by rw [he_14]; exact up_self
  have hr9 : (ty h0).1 = 99 := by rw [hT_h0]
  have hN9 : NEW (dC, dI) cs (rtf ty h0 (8, ρ, [q_1, q_6, q_11])) L F_13 A H := NEW.into ⟨hP, hD, hO, hW⟩ hr9 (by rw [hF_15]; exact sh.sha rtf_self rfl) (wta_sha rtf_self ⟨(hfs _ (List.mem_cons_of_mem _ (List.mem_cons_of_mem _ (List.mem_cons_self)))).1, (hfs _ (List.mem_cons_of_mem _ (List.mem_cons_self))).1, (hfs _ (List.mem_cons_self)).1, rtf_old hr9 (hfs _ (List.mem_cons_of_mem _ (List.mem_cons_of_mem _ (List.mem_cons_self)))).2 (by decide), rtf_old hr9 (hfs _ (List.mem_cons_of_mem _ (List.mem_cons_self))).2 (by decide), rtf_old hr9 (hfs _ (List.mem_cons_self)).2 (by decide)⟩)
  refine W.widen (k := 3) (n := 80) (by omega) (by omega) ?_
  exact W.vret hx hb hr (fun t ht hWm => ⟨⟨(), rfl, trivial, ⟨L, F_13, rtf ty h0 (8, ρ, [q_1, q_6, q_11]), q_1, q_6, q_11, (by rw [ht]; exact hN9), hL_h0, rtf_self⟩⟩, hS.F ht⟩) hS.2.2 dX8_init_28
set_option maxHeartbeats 4000000 in
set_option maxRecDepth 100000 in
theorem k_X6_init (l : Launch) (dC : Nat → ClassId) (dI : Nat → Nat → Nat) (cs : Nat → ClassId) (sz : Nat) (h0 : Nat) (ρ : Nat) : Met l yX6_init (.code yX6_init cX6_init 1 none :: tb) ({ frames := 1, cells := 4, slots := 66, locals := 12 }) (va_Pc [.ref h0] (PT (dC, dI) cs RAWT [h0] (fun _ => .inr (6, [.null, .null, .null, .null, .long 0])) sz)) (va_Qv (fun _ : Unit => True) (fun _ T9 => ∃ (L2 : List Nat) (F2 : Nat → va_E) (ty2 : TyM), ∃ x : Nat, ∃ y : Nat, ∃ w : Nat, ∃ u : Nat, NEW (dC, dI) cs ty2 L2 F2 (va_A (va_pl [h0] (fun _ => .inr (6, [.null, .null, .null, .null, .long 0]))) sz) T9.heap ∧ h0 ∈ L2 ∧ ty2 h0 = (6, ρ, [x, y, w, u])) (va_A (va_pl [h0] (fun _ => .inr (6, [.null, .null, .null, .null, .long 0]))) sz)) 4 66 (va_A (va_pl [h0] (fun _ => .inr (6, [.null, .null, .null, .null, .long 0]))) sz) := by
  refine Met.ofW (cc := cX6_init) (maxL := 1) (ret := none) (by decide) rfl ?_
  intro p e s m args below meth c s₁ B hml hv
  obtain ⟨rfl, hsz, hP, hK, hD0, hE, hO⟩ := hv
  have hx := B.exec
  have hb := B.bytes
  have hr := B.returns
  have hts : ∀ w ∈ tb, w.before _ s = true := fun w h => atoms_spec (ws := .code yX6_init cX6_init 1 none :: tb) B.pre w (List.mem_cons_of_mem _ h)
  have hown : s.vm.findClass RX6 = some m.cls := findClass_of_methodNamed B.named
  have hin : meth.name = "<init>" := (name_of_methodNamed B.named B.method).1
  have hlocks := B.notSynchronized
  subst hsz
  have hD := hD0.self (sz := s.heap.size)
  generalize hAe : va_A (va_pl [h0] (fun _ => .inr (6, [.null, .null, .null, .null, .long 0]))) s.heap.size = A at hD ⊢
  have hA : ∀ q : Nat, s.heap.size ≤ q → A q := fun q h => by rw [← hAe]; exact Or.inr h
  have hS : va_S A s.heap s.heap [] := va_S.rf
  have hl := lv_entry ([.ref h0]) (n := 1) (Nat.le_of_ble_eq_true rfl)
  rw [lg_entry_eq]
  generalize (lg_sl ([.ref h0]) ++ List.replicate (1 - (lg_sl ([.ref h0])).length) Slot.unset).toArray = ls at hl ⊢
  have hl : lv_has ls 1 [(0, .ref h0)] := hl
  obtain ⟨L, ty, F, hN, hL_h0, hT_h0, hF_h0⟩ : ∃ (L : List Nat) (t9 : TyM) (F : Nat → va_E), NEW (dC, dI) cs t9 L F A s.heap ∧ h0 ∈ L ∧ t9 h0 = (99, 0, []) ∧ F h0 = .inr (6, [.null, .null, .null, .null, .long 0]) := ⟨[h0], RAWT, fun _ => .inr (6, [.null, .null, .null, .null, .long 0]), ⟨hP, hD, hO, fun a _ => wta_raw rfl⟩, List.mem_singleton.mpr rfl, rfl, rfl⟩
  obtain ⟨hP, hD, hO, hW⟩ := hN
  have hfs : ∀ p ∈ ([] : List (Nat × TyE)), p.1 ∈ L ∧ ty p.1 = p.2 := fun p h => absurd h List.not_mem_nil
  refine lv_aload_n hx hb dX6_init_0 rfl (lv_at hl 0 rfl) ?_
  refine W.objInit hx hb hown (hts _ kt_1026) (hts _ kt_1009) (hts _ kt_1010) rfl (by rw [hml]; exact hl.1) rfl dX6_init_1 (Nat.le_of_ble_eq_true rfl) (Nat.le_of_ble_eq_true rfl) ?_
  refine W.eq (g2 := F0 m 4 ls []) rfl ?_
  refine lv_aload_n hx hb dX6_init_4 rfl (lv_at hl 0 rfl) ?_
  refine lv_bipush (v := 16) hx hb dX6_init_5 (by decide) ?_
  refine va_newa (atype := .long) (ty := .long) (a0 := (16, .inr (.inl (fun _ => 0)))) (N' := 16) hx hb (hts _ kt_1027) rfl hK hP hD hS hA (fun _ => rfl) (by decide) (by decide) (by show _ * 8 ≤ _; omega) (by show _ + 1 ≤ 4; omega) (by show _ + 16 ≤ 66; omega) dX6_init_7 (fun q_1 cA H hKn hPa hDa hS => ?_)
  obtain rfl := cid_long hK hKn
  obtain ⟨L, ty, F_2, hN9, hold, holdF, hL_q_1, hT_q_1, hF_q_1⟩ := grow1 (e := (19, ρ + 85, [16])) hPa hDa hO hW (sh.longs rtf_self ⟨_, rfl⟩) (wta_longs rtf_self trivial)
  obtain ⟨hP, hD, hO, hW⟩ := hN9
  have hT_h0 := (hold _ hL_h0).2.trans hT_h0
  have hF_h0 := (holdF _ hL_h0).1.trans hF_h0
  have hne_h0_q_1 := (holdF _ hL_h0).2
  have hL_h0 := (hold _ hL_h0).1
  have hfs := gr_cons hold hfs hL_q_1 hT_q_1
  refine pg_putF (ci := 6) (v := .ref q_1) (ty := .array .long) (C := RX6) (T := TX6) (N := 5) hx hb hts it_6 tyX6 tyX6_ok nmX6 hown hK hP hD hS hL_h0 hF_h0 rfl 0 (by decide) (hts _ kt_273) (fun _ h9 => h9) rfl hin rfl (by decide +kernel) (rfl) (rfl) (Nat.le_of_ble_eq_true rfl) dX6_init_9 (fun H locs hP hD hS => ?_)
  obtain ⟨F_3, he_4, hP, hD, hO⟩ : ∃ G, G = va_up F_2 h0 (.inr (6, [.ref q_1, .null, .null, .null, .long 0])) ∧ va_P (dC, dI) vwCl (va_pl L G) H ∧ va_D A (va_pl L G) ∧ OK cs ty L G := ⟨_, rfl, hP, hD, hO.up (sh.raw hT_h0)⟩
  have hF_5 : F_3 h0 = .inr (6, [.ref q_1, .null, .null, .null, .long 0]) := by rw [he_4]; exact up_self
  refine lv_aload_n hx hb dX6_init_12 rfl (lv_at hl 0 rfl) ?_
  refine lv_bipush (v := 16) hx hb dX6_init_13 (by decide) ?_
  refine va_newa (atype := .long) (ty := .long) (a0 := (16, .inr (.inl (fun _ => 0)))) (N' := 16) hx hb (hts _ kt_1027) rfl hK hP hD hS hA (fun _ => rfl) (by decide) (by decide) (by show _ * 8 ≤ _; omega) (by show _ + 1 ≤ 4; omega) (by show _ + 16 ≤ 66; omega) dX6_init_15 (fun q_6 cA H hKn hPa hDa hS => ?_)
  obtain rfl := cid_long hK hKn
  obtain ⟨L, ty, F_7, hN9, hold, holdF, hL_q_6, hT_q_6, hF_q_6⟩ := grow1 (e := (19, ρ + 86, [16])) hPa hDa hO hW (sh.longs rtf_self ⟨_, rfl⟩) (wta_longs rtf_self trivial)
  obtain ⟨hP, hD, hO, hW⟩ := hN9
  have hT_h0 := (hold _ hL_h0).2.trans hT_h0
  have hF_h0 := (holdF _ hL_h0).1.trans hF_5
  have hne_h0_q_6 := (holdF _ hL_h0).2
  have hL_h0 := (hold _ hL_h0).1
  have hfs := gr_cons hold hfs hL_q_6 hT_q_6
  refine pg_putF (ci := 6) (v := .ref q_6) (ty := .array .long) (C := RX6) (T := TX6) (N := 5) hx hb hts it_6 tyX6 tyX6_ok nmX6 hown hK hP hD hS hL_h0 hF_h0 rfl 1 (by decide) (hts _ kt_287) (fun _ h9 => h9) rfl hin rfl (by decide +kernel) (rfl) (rfl) (Nat.le_of_ble_eq_true rfl) dX6_init_17 (fun H locs hP hD hS => ?_)
  obtain ⟨F_8, he_9, hP, hD, hO⟩ : ∃ G, G = va_up F_7 h0 (.inr (6, [.ref q_1, .ref q_6, .null, .null, .long 0])) ∧ va_P (dC, dI) vwCl (va_pl L G) H ∧ va_D A (va_pl L G) ∧ OK cs ty L G := ⟨_, rfl, hP, hD, hO.up (sh.raw hT_h0)⟩
  have hF_10 : F_8 h0 = .inr (6, [.ref q_1, .ref q_6, .null, .null, .long 0]) := by rw [he_9]; exact up_self
  refine lv_aload_n hx hb dX6_init_20 rfl (lv_at hl 0 rfl) ?_
  refine lv_bipush (v := 16) hx hb dX6_init_21 (by decide) ?_
  refine va_newa (atype := .long) (ty := .long) (a0 := (16, .inr (.inl (fun _ => 0)))) (N' := 16) hx hb (hts _ kt_1027) rfl hK hP hD hS hA (fun _ => rfl) (by decide) (by decide) (by show _ * 8 ≤ _; omega) (by show _ + 1 ≤ 4; omega) (by show _ + 16 ≤ 66; omega) dX6_init_23 (fun q_11 cA H hKn hPa hDa hS => ?_)
  obtain rfl := cid_long hK hKn
  obtain ⟨L, ty, F_12, hN9, hold, holdF, hL_q_11, hT_q_11, hF_q_11⟩ := grow1 (e := (19, ρ + 87, [16])) hPa hDa hO hW (sh.longs rtf_self ⟨_, rfl⟩) (wta_longs rtf_self trivial)
  obtain ⟨hP, hD, hO, hW⟩ := hN9
  have hT_h0 := (hold _ hL_h0).2.trans hT_h0
  have hF_h0 := (holdF _ hL_h0).1.trans hF_10
  have hne_h0_q_11 := (holdF _ hL_h0).2
  have hL_h0 := (hold _ hL_h0).1
  have hfs := gr_cons hold hfs hL_q_11 hT_q_11
  refine pg_putF (ci := 6) (v := .ref q_11) (ty := .array .long) (C := RX6) (T := TX6) (N := 5) hx hb hts it_6 tyX6 tyX6_ok nmX6 hown hK hP hD hS hL_h0 hF_h0 rfl 2 (by decide) (hts _ kt_271) (fun _ h9 => h9) rfl hin rfl (by decide +kernel) (rfl) (rfl) (Nat.le_of_ble_eq_true rfl) dX6_init_25 (fun H locs hP hD hS => ?_)
  obtain ⟨F_13, he_14, hP, hD, hO⟩ : ∃ G, G = va_up F_12 h0 (.inr (6, [.ref q_1, .ref q_6, .ref q_11, .null, .long 0])) ∧ va_P (dC, dI) vwCl (va_pl L G) H ∧ va_D A (va_pl L G) ∧ OK cs ty L G := ⟨_, rfl, hP, hD, hO.up (sh.raw hT_h0)⟩
  have hF_15 : F_13 h0 = .inr (6, [.ref q_1, .ref q_6, .ref q_11, .null, .long 0]) := by rw [he_14]; exact up_self
  refine lv_aload_n hx hb dX6_init_28 rfl (lv_at hl 0 rfl) ?_
  refine lv_bipush (v := 18) hx hb dX6_init_29 (by decide) ?_
  refine va_newa (atype := .long) (ty := .long) (a0 := (18, .inr (.inl (fun _ => 0)))) (N' := 18) hx hb (hts _ kt_1027) rfl hK hP hD hS hA (fun _ => rfl) (by decide) (by decide) (by show _ * 8 ≤ _; omega) (by show _ + 1 ≤ 4; omega) (by show _ + 18 ≤ 66; omega) dX6_init_31 (fun q_16 cA H hKn hPa hDa hS => ?_)
  obtain rfl := cid_long hK hKn
  obtain ⟨L, ty, F_17, hN9, hold, holdF, hL_q_16, hT_q_16, hF_q_16⟩ := grow1 (e := (19, ρ + 88, [18])) hPa hDa hO hW (sh.longs rtf_self ⟨_, rfl⟩) (wta_longs rtf_self trivial)
  obtain ⟨hP, hD, hO, hW⟩ := hN9
  have hT_h0 := (hold _ hL_h0).2.trans hT_h0
  have hF_h0 := (holdF _ hL_h0).1.trans hF_15
  have hne_h0_q_16 := (holdF _ hL_h0).2
  have hL_h0 := (hold _ hL_h0).1
  have hfs := gr_cons hold hfs hL_q_16 hT_q_16
  refine pg_putF (ci := 6) (v := .ref q_16) (ty := .array .long) (C := RX6) (T := TX6) (N := 5) hx hb hts it_6 tyX6 tyX6_ok nmX6 hown hK hP hD hS hL_h0 hF_h0 rfl 3 (by decide) (hts _ kt_270) (fun _ h9 => h9) rfl hin rfl (by decide +kernel) (rfl) (rfl) (Nat.le_of_ble_eq_true rfl) dX6_init_33 (fun H locs hP hD hS => ?_)
  obtain ⟨F_18, he_19, hP, hD, hO⟩ : ∃ G, G = va_up F_17 h0 (.inr (6, [.ref q_1, .ref q_6, .ref q_11, .ref q_16, .long 0])) ∧ va_P (dC, dI) vwCl (va_pl L G) H ∧ va_D A (va_pl L G) ∧ OK cs ty L G := ⟨_, rfl, hP, hD, hO.up (sh.raw hT_h0)⟩
  have hF_20 : F_18 h0 = .inr (6, [.ref q_1, .ref q_6, .ref q_11, .ref q_16, .long 0]) := by rw [he_19]; exact up_self
  refine lv_aload_n hx hb dX6_init_36 rfl (lv_at hl 0 rfl) ?_
  refine lv_lconst (v := 0) hx hb dX6_init_37 (by decide) ?_
  refine pg_put (ci := 6) (v := .long 0) (ty := .long) (C := RX6) (T := TX6) (N := 5) hx hb hts it_6 tyX6 tyX6_ok nmX6 hown hK hP hD hS hL_h0 hF_20 rfl 4 (by decide) (hts _ kt_283) (fun _ h9 => h9) rfl (by decide +kernel) (rfl) (rfl) (Nat.le_of_ble_eq_true rfl) dX6_init_38 (fun H locs hP hD hS => ?_)
  obtain ⟨F_21, he_22, hP, hD, hO⟩ : ∃ G, G = va_up F_18 h0 (.inr (6, [.ref q_1, .ref q_6, .ref q_11, .ref q_16, .long 0])) ∧ va_P (dC, dI) vwCl (va_pl L G) H ∧ va_D A (va_pl L G) ∧ OK cs ty L G := ⟨_, rfl, hP, hD, hO.up (sh.raw hT_h0)⟩
  have hF_23 : F_21 h0 = .inr (6, [.ref q_1, .ref q_6, .ref q_11, .ref q_16, .long 0]) := by rw [he_22]; exact up_self
  have hr9 : (ty h0).1 = 99 := by rw [hT_h0]
  have hN9 : NEW (dC, dI) cs (rtf ty h0 (6, ρ, [q_1, q_6, q_11, q_16])) L F_21 A H := NEW.into ⟨hP, hD, hO, hW⟩ hr9 (by rw [hF_23]; exact sh.power rtf_self ⟨0, rfl⟩) (wta_power rtf_self ⟨(hfs _ (List.mem_cons_of_mem _ (List.mem_cons_of_mem _ (List.mem_cons_of_mem _ (List.mem_cons_self))))).1, (hfs _ (List.mem_cons_of_mem _ (List.mem_cons_of_mem _ (List.mem_cons_self)))).1, (hfs _ (List.mem_cons_of_mem _ (List.mem_cons_self))).1, (hfs _ (List.mem_cons_self)).1, rtf_old hr9 (hfs _ (List.mem_cons_of_mem _ (List.mem_cons_of_mem _ (List.mem_cons_of_mem _ (List.mem_cons_self))))).2 (by decide), rtf_old hr9 (hfs _ (List.mem_cons_of_mem _ (List.mem_cons_of_mem _ (List.mem_cons_self)))).2 (by decide), rtf_old hr9 (hfs _ (List.mem_cons_of_mem _ (List.mem_cons_self))).2 (by decide), rtf_old hr9 (hfs _ (List.mem_cons_self)).2 (by decide)⟩)
  refine W.widen (k := 4) (n := 66) (by omega) (by omega) ?_
  exact W.vret hx hb hr (fun t ht hWm => ⟨⟨(), rfl, trivial, ⟨L, F_21, rtf ty h0 (6, ρ, [q_1, q_6, q_11, q_16]), q_1, q_6, q_11, q_16, (by rw [ht]; exact hN9), hL_h0, rtf_self⟩⟩, hS.F ht⟩) hS.2.2 dX6_init_41
set_option maxHeartbeats 4000000 in
set_option maxRecDepth 100000 in
theorem k_X4_init (l : Launch) (dC : Nat → ClassId) (dI : Nat → Nat → Nat) (cs : Nat → ClassId) (sz : Nat) (h0 : Nat) (ρ : Nat) : Met l yX4_init (.code yX4_init cX4_init 1 none :: tb) ({ frames := 2, cells := 5, slots := 3063, locals := 33 }) (va_Pc [.ref h0] (PT (dC, dI) cs RAWT [h0] (fun _ => .inr (4, [.null, .null, .null, .null, .int 0, .int 0])) sz)) (va_Qv (fun _ : Unit => True) (fun _ T9 => ∃ (L2 : List Nat) (F2 : Nat → va_E) (ty2 : TyM), ∃ x : Nat, ∃ y0 : Nat, ∃ y1 : Nat, ∃ y2 : Nat, NEW (dC, dI) cs ty2 L2 F2 (va_A (va_pl [h0] (fun _ => .inr (4, [.null, .null, .null, .null, .int 0, .int 0]))) sz) T9.heap ∧ h0 ∈ L2 ∧ ty2 h0 = (4, ρ, [x, y0, y1, y2])) (va_A (va_pl [h0] (fun _ => .inr (4, [.null, .null, .null, .null, .int 0, .int 0]))) sz)) 5 3063 (va_A (va_pl [h0] (fun _ => .inr (4, [.null, .null, .null, .null, .int 0, .int 0]))) sz) := by
  refine Met.ofW (cc := cX4_init) (maxL := 1) (ret := none) (by decide) rfl ?_
  intro p e s m args below meth c s₁ B hml hv
  obtain ⟨rfl, hsz, hP, hK, hD0, hE, hO⟩ := hv
  have hx := B.exec
  have hb := B.bytes
  have hr := B.returns
  have hts : ∀ w ∈ tb, w.before _ s = true := fun w h => atoms_spec (ws := .code yX4_init cX4_init 1 none :: tb) B.pre w (List.mem_cons_of_mem _ h)
  have hown : s.vm.findClass RX4 = some m.cls := findClass_of_methodNamed B.named
  have hin : meth.name = "<init>" := (name_of_methodNamed B.named B.method).1
  have hlocks := B.notSynchronized
  subst hsz
  have hD := hD0.self (sz := s.heap.size)
  generalize hAe : va_A (va_pl [h0] (fun _ => .inr (4, [.null, .null, .null, .null, .int 0, .int 0]))) s.heap.size = A at hD ⊢
  have hA : ∀ q : Nat, s.heap.size ≤ q → A q := fun q h => by rw [← hAe]; exact Or.inr h
  have hS : va_S A s.heap s.heap [] := va_S.rf
  have hl := lv_entry ([.ref h0]) (n := 1) (Nat.le_of_ble_eq_true rfl)
  rw [lg_entry_eq]
  generalize (lg_sl ([.ref h0]) ++ List.replicate (1 - (lg_sl ([.ref h0])).length) Slot.unset).toArray = ls at hl ⊢
  have hl : lv_has ls 1 [(0, .ref h0)] := hl
  obtain ⟨L, ty, F, hN, hL_h0, hT_h0, hF_h0⟩ : ∃ (L : List Nat) (t9 : TyM) (F : Nat → va_E), NEW (dC, dI) cs t9 L F A s.heap ∧ h0 ∈ L ∧ t9 h0 = (99, 0, []) ∧ F h0 = .inr (4, [.null, .null, .null, .null, .int 0, .int 0]) := ⟨[h0], RAWT, fun _ => .inr (4, [.null, .null, .null, .null, .int 0, .int 0]), ⟨hP, hD, hO, fun a _ => wta_raw rfl⟩, List.mem_singleton.mpr rfl, rfl, rfl⟩
  obtain ⟨hP, hD, hO, hW⟩ := hN
  have hfs : ∀ p ∈ ([] : List (Nat × TyE)), p.1 ∈ L ∧ ty p.1 = p.2 := fun p h => absurd h List.not_mem_nil
  refine lv_aload_n hx hb dX4_init_0 rfl (lv_at hl 0 rfl) ?_
  refine W.objInit hx hb hown (hts _ kt_1028) (hts _ kt_1009) (hts _ kt_1010) rfl (by rw [hml]; exact hl.1) rfl dX4_init_1 (Nat.le_of_ble_eq_true rfl) (Nat.le_of_ble_eq_true rfl) ?_
  refine W.eq (g2 := F0 m 4 ls []) rfl ?_
  refine lv_aload_n hx hb dX4_init_4 rfl (lv_at hl 0 rfl) ?_
  refine va_new (ci := 0) (fs := [.null, .int 0, .int 0]) (C := RX0) (T := TX0) (N := 3) hx hb hts it_0 tyX0 tyX0_ok hown (hts _ kt_1029) (hts _ kt_1013) (hts _ kt_1) hK hP hD hS hA rfl df_0 (by show _ + 1 ≤ 5; omega) (by show _ + 3 ≤ 3063; omega) dX4_init_5 (fun q_1 H hPa hDa hS => ?_)
  have hP := left1 hPa
  have hD := left2 hDa
  refine lv_dup hx hb dX4_init_8 rfl ?_
  refine lv_sipush (v := 3000) hx hb dX4_init_9 (by decide) ?_
  refine W.eq (g2 := F0 m 12 ls [.int (nI 3000), .ref q_1, .ref q_1, .ref h0]) rfl ?_
  have hFc := free1 hDa hS hA
  have hPq := right1 hPa
  refine va_callv (va_runI (As := [.int (nI 3000)]) (rest := [.ref q_1, .ref h0]) ⟨hx, hb, hml, hown, hts⟩ (k_X0_init l dC dI cs H.size q_1 3000 (ρ + 1) (by omega)) ⟨callB_of 1 hts (gi kt_1014) rfl rfl rfl (hts _ kt_1) (hts _ kt_1030) (by decide +kernel) ⟨Nat.le_of_ble_eq_true rfl, Nat.le_of_ble_eq_true rfl⟩, rfl, (hts _ kt_1016)⟩ ⟨fun a U g mk q => ⟨q.1, PT.calling q.2⟩, fun U hU hWm => ⟨rfl, PT.mk hU hWm hPq hK one1 hE (fun a _ => sh.raw rfl)⟩⟩ rfl rfl hl.1 rfl (lv_room (Nat.le_of_ble_eq_true rfl)) dX4_init_12 ⟨by show _ + 1 ≤ 5; omega, by show _ + 3000 ≤ 3063; omega⟩) hS (fun q _ h => hFc q h) hFc (fun u t H1 locs ht hvm hw hB hz1 hk1 hS => ?_)
  obtain ⟨L2, F2, ty2, q_2, hN2, hc1, hc2⟩ := hB
  rw [ht] at hN2
  obtain ⟨L, ty, F_3, hN9, hold, holdF, hnew, hnewF⟩ := join1 hPa hDa hO hW hk1 hFc hN2
  obtain ⟨hP, hD, hO, hW⟩ := hN9
  generalize H1 = H at hP hS ⊢
  have hL_q_1 := (hnew _ hc1).1
  have hT_q_1 := (hnew _ hc1).2.trans hc2
  have hT_h0 := (hold _ hL_h0).2.trans hT_h0
  have hF_h0 := (holdF _ hL_h0).1.trans hF_h0
  have hnx_h0 := (holdF _ hL_h0).2
  have hL_h0 := (hold _ hL_h0).1
  have hfs := gr_cons hold hfs hL_q_1 hT_q_1
  refine pg_putF (ci := 4) (v := .ref q_1) (ty := .object "PostGate$Bytes") (C := RX4) (T := TX4) (N := 6) hx hb hts it_4 tyX4 tyX4_ok nmX4 hown hK hP hD hS hL_h0 hF_h0 rfl 0 (by decide) (hts _ kt_207) (fun _ h9 => h9) rfl hin rfl (by decide +kernel) (rfl) (rfl) (Nat.le_of_ble_eq_true rfl) dX4_init_15 (fun H locs hP hD hS => ?_)
  obtain ⟨F_4, he_5, hP, hD, hO⟩ : ∃ G, G = va_up F_3 h0 (.inr (4, [.ref q_1, .null, .null, .null, .int 0, .int 0])) ∧ va_P (dC, dI) vwCl (va_pl L G) H ∧ va_D A (va_pl L G) ∧ OK cs ty L G := ⟨_, rfl, hP, hD, hO.up (sh.raw hT_h0)⟩
  have hF_6 : F_4 h0 = .inr (4, [.ref q_1, .null, .null, .null, .int 0, .int 0]) := by rw [he_5]; exact up_self
  refine lv_aload_n hx hb dX4_init_18 rfl (lv_at hl 0 rfl) ?_
  refine lv_bipush (v := 20) hx hb dX4_init_19 (by decide) ?_
  refine va_newa (atype := .int) (ty := .int) (a0 := (20, .inl (fun _ => 0))) (N' := 20) hx hb (hts _ kt_1007) rfl hK hP hD hS hA (fun _ => rfl) (by decide) (by decide) (by show _ * 4 ≤ _; omega) (by show _ + 1 ≤ 5; omega) (by show _ + 20 ≤ 3063; omega) dX4_init_21 (fun q_7 cA H hKn hPa hDa hS => ?_)
  obtain rfl := cid_int hK hKn
  obtain ⟨L, ty, F_8, hN9, hold, holdF, hL_q_7, hT_q_7, hF_q_7⟩ := grow1 (e := (24, ρ, [20])) hPa hDa hO hW (sh.idx rtf_self ⟨_, rfl, fun _ => ⟨0, Nat.zero_le _, rfl⟩⟩) (wta_idx rtf_self trivial)
  obtain ⟨hP, hD, hO, hW⟩ := hN9
  have hT_h0 := (hold _ hL_h0).2.trans hT_h0
  have hF_h0 := (holdF _ hL_h0).1.trans hF_6
  have hne_h0_q_7 := (holdF _ hL_h0).2
  have hL_h0 := (hold _ hL_h0).1
  have hfs := gr_cons hold hfs hL_q_7 hT_q_7
  refine pg_putF (ci := 4) (v := .ref q_7) (ty := .array .int) (C := RX4) (T := TX4) (N := 6) hx hb hts it_4 tyX4 tyX4_ok nmX4 hown hK hP hD hS hL_h0 hF_h0 rfl 1 (by decide) (hts _ kt_205) (fun _ h9 => h9) rfl hin rfl (by decide +kernel) (rfl) (rfl) (Nat.le_of_ble_eq_true rfl) dX4_init_23 (fun H locs hP hD hS => ?_)
  obtain ⟨F_9, he_10, hP, hD, hO⟩ : ∃ G, G = va_up F_8 h0 (.inr (4, [.ref q_1, .ref q_7, .null, .null, .int 0, .int 0])) ∧ va_P (dC, dI) vwCl (va_pl L G) H ∧ va_D A (va_pl L G) ∧ OK cs ty L G := ⟨_, rfl, hP, hD, hO.up (sh.raw hT_h0)⟩
  have hF_11 : F_9 h0 = .inr (4, [.ref q_1, .ref q_7, .null, .null, .int 0, .int 0]) := by rw [he_10]; exact up_self
  refine lv_aload_n hx hb dX4_init_26 rfl (lv_at hl 0 rfl) ?_
  refine lv_bipush (v := 20) hx hb dX4_init_27 (by decide) ?_
  refine va_newa (atype := .int) (ty := .int) (a0 := (20, .inl (fun _ => 0))) (N' := 20) hx hb (hts _ kt_1007) rfl hK hP hD hS hA (fun _ => rfl) (by decide) (by decide) (by show _ * 4 ≤ _; omega) (by show _ + 1 ≤ 5; omega) (by show _ + 20 ≤ 3063; omega) dX4_init_29 (fun q_12 cA H hKn hPa hDa hS => ?_)
  obtain rfl := cid_int hK hKn
  obtain ⟨L, ty, F_13, hN9, hold, holdF, hL_q_12, hT_q_12, hF_q_12⟩ := grow1 (e := (24, ρ + 2, [20])) hPa hDa hO hW (sh.idx rtf_self ⟨_, rfl, fun _ => ⟨0, Nat.zero_le _, rfl⟩⟩) (wta_idx rtf_self trivial)
  obtain ⟨hP, hD, hO, hW⟩ := hN9
  have hT_h0 := (hold _ hL_h0).2.trans hT_h0
  have hF_h0 := (holdF _ hL_h0).1.trans hF_11
  have hne_h0_q_12 := (holdF _ hL_h0).2
  have hL_h0 := (hold _ hL_h0).1
  have hfs := gr_cons hold hfs hL_q_12 hT_q_12
  refine pg_putF (ci := 4) (v := .ref q_12) (ty := .array .int) (C := RX4) (T := TX4) (N := 6) hx hb hts it_4 tyX4 tyX4_ok nmX4 hown hK hP hD hS hL_h0 hF_h0 rfl 2 (by decide) (hts _ kt_204) (fun _ h9 => h9) rfl hin rfl (by decide +kernel) (rfl) (rfl) (Nat.le_of_ble_eq_true rfl) dX4_init_31 (fun H locs hP hD hS => ?_)
  obtain ⟨F_14, he_15, hP, hD, hO⟩ : ∃ G, G = va_up F_13 h0 (.inr (4, [.ref q_1, .ref q_7, .ref q_12, .null, .int 0, .int 0])) ∧ va_P (dC, dI) vwCl (va_pl L G) H ∧ va_D A (va_pl L G) ∧ OK cs ty L G := ⟨_, rfl, hP, hD, hO.up (sh.raw hT_h0)⟩
  have hF_16 : F_14 h0 = .inr (4, [.ref q_1, .ref q_7, .ref q_12, .null, .int 0, .int 0]) := by rw [he_15]; exact up_self
  refine lv_aload_n hx hb dX4_init_34 rfl (lv_at hl 0 rfl) ?_
  refine lv_bipush (v := 20) hx hb dX4_init_35 (by decide) ?_
  refine va_newa (atype := .int) (ty := .int) (a0 := (20, .inl (fun _ => 0))) (N' := 20) hx hb (hts _ kt_1007) rfl hK hP hD hS hA (fun _ => rfl) (by decide) (by decide) (by show _ * 4 ≤ _; omega) (by show _ + 1 ≤ 5; omega) (by show _ + 20 ≤ 3063; omega) dX4_init_37 (fun q_17 cA H hKn hPa hDa hS => ?_)
  obtain rfl := cid_int hK hKn
  obtain ⟨L, ty, F_18, hN9, hold, holdF, hL_q_17, hT_q_17, hF_q_17⟩ := grow1 (e := (24, ρ + 3, [20])) hPa hDa hO hW (sh.idx rtf_self ⟨_, rfl, fun _ => ⟨0, Nat.zero_le _, rfl⟩⟩) (wta_idx rtf_self trivial)
  obtain ⟨hP, hD, hO, hW⟩ := hN9
  have hT_h0 := (hold _ hL_h0).2.trans hT_h0
  have hF_h0 := (holdF _ hL_h0).1.trans hF_16
  have hne_h0_q_17 := (holdF _ hL_h0).2
  have hL_h0 := (hold _ hL_h0).1
  have hfs := gr_cons hold hfs hL_q_17 hT_q_17
  refine pg_putF (ci := 4) (v := .ref q_17) (ty := .array .int) (C := RX4) (T := TX4) (N := 6) hx hb hts it_4 tyX4 tyX4_ok nmX4 hown hK hP hD hS hL_h0 hF_h0 rfl 3 (by decide) (hts _ kt_220) (fun _ h9 => h9) rfl hin rfl (by decide +kernel) (rfl) (rfl) (Nat.le_of_ble_eq_true rfl) dX4_init_39 (fun H locs hP hD hS => ?_)
  obtain ⟨F_19, he_20, hP, hD, hO⟩ : ∃ G, G = va_up F_18 h0 (.inr (4, [.ref q_1, .ref q_7, .ref q_12, .ref q_17, .int 0, .int 0])) ∧ va_P (dC, dI) vwCl (va_pl L G) H ∧ va_D A (va_pl L G) ∧ OK cs ty L G := ⟨_, rfl, hP, hD, hO.up (sh.raw hT_h0)⟩
  have hF_21 : F_19 h0 = .inr (4, [.ref q_1, .ref q_7, .ref q_12, .ref q_17, .int 0, .int 0]) := by rw [he_20]; exact up_self
  refine lv_aload_n hx hb dX4_init_42 rfl (lv_at hl 0 rfl) ?_
  refine lv_iconst (v := 0) hx hb dX4_init_43 (by decide) ?_
  refine pg_put (ci := 4) (v := .int 0) (ty := .int) (C := RX4) (T := TX4) (N := 6) hx hb hts it_4 tyX4 tyX4_ok nmX4 hown hK hP hD hS hL_h0 hF_21 rfl 4 (by decide) (hts _ kt_203) (fun _ h9 => h9) rfl (by decide +kernel) (rfl) (rfl) (Nat.le_of_ble_eq_true rfl) dX4_init_44 (fun H locs hP hD hS => ?_)
  obtain ⟨F_22, he_23, hP, hD, hO⟩ : ∃ G, G = va_up F_19 h0 (.inr (4, [.ref q_1, .ref q_7, .ref q_12, .ref q_17, .int 0, .int 0])) ∧ va_P (dC, dI) vwCl (va_pl L G) H ∧ va_D A (va_pl L G) ∧ OK cs ty L G := ⟨_, rfl, hP, hD, hO.up (sh.raw hT_h0)⟩
  have hF_24 : F_22 h0 = .inr (4, [.ref q_1, .ref q_7, .ref q_12, .ref q_17, .int 0, .int 0]) := by rw [he_23]; exact up_self
  refine lv_aload_n hx hb dX4_init_47 rfl (lv_at hl 0 rfl) ?_
  refine lv_iconst (v := 0) hx hb dX4_init_48 (by decide) ?_
  refine pg_put (ci := 4) (v := .int 0) (ty := .int) (C := RX4) (T := TX4) (N := 6) hx hb hts it_4 tyX4 tyX4_ok nmX4 hown hK hP hD hS hL_h0 hF_24 rfl 5 (by decide) (hts _ kt_225) (fun _ h9 => h9) rfl (by decide +kernel) (rfl) (rfl) (Nat.le_of_ble_eq_true rfl) dX4_init_49 (fun H locs hP hD hS => ?_)
  obtain ⟨F_25, he_26, hP, hD, hO⟩ : ∃ G, G = va_up F_22 h0 (.inr (4, [.ref q_1, .ref q_7, .ref q_12, .ref q_17, .int 0, .int 0])) ∧ va_P (dC, dI) vwCl (va_pl L G) H ∧ va_D A (va_pl L G) ∧ OK cs ty L G := ⟨_, rfl, hP, hD, hO.up (sh.raw hT_h0)⟩
  have hF_27 : F_25 h0 = .inr (4, [.ref q_1, .ref q_7, .ref q_12, .ref q_17, .int 0, .int 0]) := by rw [he_26]; exact up_self
  have hr9 : (ty h0).1 = 99 := by rw [hT_h0]
  have hN9 : NEW (dC, dI) cs (rtf ty h0 (4, ρ, [q_1, q_7, q_12, q_17])) L F_25 A H := NEW.into ⟨hP, hD, hO, hW⟩ hr9 (by rw [hF_27]; exact sh.msg rtf_self ⟨0, 0, rfl, (by first | omega | assumption | exact Or.inl rfl | exact Or.inr rfl)⟩) (wta_msg rtf_self ⟨(hfs _ (List.mem_cons_of_mem _ (List.mem_cons_of_mem _ (List.mem_cons_of_mem _ (List.mem_cons_self))))).1, (hfs _ (List.mem_cons_of_mem _ (List.mem_cons_of_mem _ (List.mem_cons_self)))).1, (hfs _ (List.mem_cons_of_mem _ (List.mem_cons_self))).1, (hfs _ (List.mem_cons_self)).1, ⟨_, rtf_old hr9 (hfs _ (List.mem_cons_of_mem _ (List.mem_cons_of_mem _ (List.mem_cons_of_mem _ (List.mem_cons_self))))).2 (by decide)⟩, rtf_old hr9 (hfs _ (List.mem_cons_of_mem _ (List.mem_cons_of_mem _ (List.mem_cons_self)))).2 (by decide), rtf_old hr9 (hfs _ (List.mem_cons_of_mem _ (List.mem_cons_self))).2 (by decide), rtf_old hr9 (hfs _ (List.mem_cons_self)).2 (by decide)⟩)
  refine W.widen (k := 5) (n := 3063) (by omega) (by omega) ?_
  exact W.vret hx hb hr (fun t ht hWm => ⟨⟨(), rfl, trivial, ⟨L, F_25, rtf ty h0 (4, ρ, [q_1, q_7, q_12, q_17]), q_1, q_7, q_12, q_17, (by rw [ht]; exact hN9), hL_h0, rtf_self⟩⟩, hS.F ht⟩) hS.2.2 dX4_init_52
set_option maxHeartbeats 4000000 in
set_option maxRecDepth 100000 in
theorem k_X14_init (l : Launch) (dC : Nat → ClassId) (dI : Nat → Nat → Nat) (cs : Nat → ClassId) (gm : Nat → Nat → Nat) (sz : Nat) (h0 : Nat) (n : Nat) (ρ : Nat) (hn : n ≤ 10000) : Met l yX14_init (.code yX14_init cX14_init 2 none :: tb) ({ frames := 1, cells := 1, slots := n, locals := 12 }) (va_Pc [.ref h0, .int (nI n)] (PTm (dC, dI) cs RAWT gm [h0] (fun _ => .inr (14, [.null, .int 0])) sz)) (va_Qv (fun _ : Unit => True) (fun _ T9 => ∃ (L2 : List Nat) (F2 : Nat → va_E) (ty2 : TyM), ∃ r : Nat, NEWm (dC, dI) cs ty2 gm L2 F2 (va_A (va_pl [h0] (fun _ => .inr (14, [.null, .int 0]))) sz) T9.heap ∧ h0 ∈ L2 ∧ ty2 h0 = (14, ρ, [r, n])) (va_A (va_pl [h0] (fun _ => .inr (14, [.null, .int 0]))) sz)) 1 n (va_A (va_pl [h0] (fun _ => .inr (14, [.null, .int 0]))) sz) := by
  refine Met.ofW (cc := cX14_init) (maxL := 2) (ret := none) (by decide) rfl ?_
  intro p e s m args below meth c s₁ B hml hv
  obtain ⟨rfl, hsz, hP, hK, hD0, hE, hO⟩ := hv
  have hx := B.exec
  have hb := B.bytes
  have hr := B.returns
  have hts : ∀ w ∈ tb, w.before _ s = true := fun w h => atoms_spec (ws := .code yX14_init cX14_init 2 none :: tb) B.pre w (List.mem_cons_of_mem _ h)
  have hown : s.vm.findClass RX14 = some m.cls := findClass_of_methodNamed B.named
  have hin : meth.name = "<init>" := (name_of_methodNamed B.named B.method).1
  have hlocks := B.notSynchronized
  subst hsz
  have hD := hD0.self (sz := s.heap.size)
  generalize hAe : va_A (va_pl [h0] (fun _ => .inr (14, [.null, .int 0]))) s.heap.size = A at hD ⊢
  have hA : ∀ q : Nat, s.heap.size ≤ q → A q := fun q h => by rw [← hAe]; exact Or.inr h
  have hS : va_S A s.heap s.heap [] := va_S.rf
  have hl := lv_entry ([.ref h0, .int (nI n)]) (n := 2) (Nat.le_of_ble_eq_true rfl)
  rw [lg_entry_eq]
  generalize (lg_sl ([.ref h0, .int (nI n)]) ++ List.replicate (2 - (lg_sl ([.ref h0, .int (nI n)])).length) Slot.unset).toArray = ls at hl ⊢
  have hl : lv_has ls 2 [(0, .ref h0), (1, .int (nI n))] := hl
  obtain ⟨L, ty, F, hN, hL_h0, hT_h0, hF_h0⟩ : ∃ (L : List Nat) (t9 : TyM) (F : Nat → va_E), NEWm (dC, dI) cs t9 gm L F A s.heap ∧ h0 ∈ L ∧ t9 h0 = (99, 0, []) ∧ F h0 = .inr (14, [.null, .int 0]) := ⟨[h0], RAWT, fun _ => .inr (14, [.null, .int 0]), ⟨hP, hD, hO, fun a _ => wtam_raw rfl⟩, List.mem_singleton.mpr rfl, rfl, rfl⟩
  obtain ⟨hP, hD, hO, hW⟩ := hN
  have hfs : ∀ p ∈ ([] : List (Nat × TyE)), p.1 ∈ L ∧ ty p.1 = p.2 := fun p h => absurd h List.not_mem_nil
  refine lv_aload_n hx hb dX14_init_0 rfl (lv_at hl 0 rfl) ?_
  refine W.objInit hx hb hown (hts _ kt_1031) (hts _ kt_1009) (hts _ kt_1010) rfl (by rw [hml]; exact hl.1) rfl dX14_init_1 (Nat.le_of_ble_eq_true rfl) (Nat.le_of_ble_eq_true rfl) ?_
  refine W.eq (g2 := F0 m 4 ls []) rfl ?_
  refine lv_aload_n hx hb dX14_init_4 rfl (lv_at hl 0 rfl) ?_
  refine lv_iload_n hx hb dX14_init_5 rfl (lv_at hl 1 rfl) ?_
  refine va_newa (atype := .byte) (ty := .byte) (a0 := (n, .inl (fun _ => 0))) (N' := n) hx hb (hts _ kt_1032) rfl hK hP hD hS hA (fun _ => rfl) (nI_pos (by omega)) (nI_clamp (by omega)) (by show _ * 1 ≤ _; omega) (by show _ + 1 ≤ 1; omega) (by show _ + n ≤ n; omega) dX14_init_6 (fun q_1 cA H hKn hPa hDa hS => ?_)
  obtain rfl := cid_byte hK hKn
  obtain ⟨L, ty, F_2, hN9, hold, holdF, hL_q_1, hT_q_1, hF_q_1⟩ := grow1m (e := (17, ρ, [n])) hPa hDa hO hW (shm.octs rtf_self ⟨_, rfl, fun _ => rfl⟩) (wtam_octs rtf_self ⟨by omega, by omega⟩)
  obtain ⟨hP, hD, hO, hW⟩ := hN9
  have hT_h0 := (hold _ hL_h0).2.trans hT_h0
  have hF_h0 := (holdF _ hL_h0).1.trans hF_h0
  have hne_h0_q_1 := (holdF _ hL_h0).2
  have hL_h0 := (hold _ hL_h0).1
  have hfs := gr_cons hold hfs hL_q_1 hT_q_1
  refine pg_putF (ci := 14) (v := .ref q_1) (ty := .array .byte) (C := RX14) (T := TX14) (N := 2) hx hb hts it_14 tyX14 tyX14_ok nmX14 hown hK hP hD hS hL_h0 hF_h0 rfl 0 (by decide) (hts _ kt_672) (fun _ h9 => h9) rfl hin rfl (by decide +kernel) (rfl) (rfl) (Nat.le_of_ble_eq_true rfl) dX14_init_8 (fun H locs hP hD hS => ?_)
  obtain ⟨F_3, he_4, hP, hD, hO⟩ : ∃ G, G = va_up F_2 h0 (.inr (14, [.ref q_1, .int 0])) ∧ va_P (dC, dI) vwCl (va_pl L G) H ∧ va_D A (va_pl L G) ∧ OKm cs ty gm L G := ⟨_, rfl, hP, hD, hO.up (shm.raw hT_h0)⟩
  have hF_5 : F_3 h0 = .inr (14, [.ref q_1, .int 0]) := by rw [he_4]; exact up_self
  have hr9 : (ty h0).1 = 99 := by rw [hT_h0]
  have hN9 : NEWm (dC, dI) cs (rtf ty h0 (14, ρ, [q_1, n])) gm L F_3 A H := NEWm.into ⟨hP, hD, hO, hW⟩ hr9 (by rw [hF_5]; exact shm.txt rtf_self ⟨0, rfl, (by first | omega | assumption | exact Or.inl rfl | exact Or.inr rfl)⟩) (wtam_txt rtf_self ⟨(hfs _ (List.mem_cons_self)).1, rtf_old hr9 (hfs _ (List.mem_cons_self)).2 (by decide), by omega⟩)
  refine W.widen (k := 1) (n := n) (by omega) (by omega) ?_
  exact W.vret hx hb hr (fun t ht hWm => ⟨⟨(), rfl, trivial, ⟨L, F_3, rtf ty h0 (14, ρ, [q_1, n]), q_1, (by rw [ht]; exact hN9), hL_h0, rtf_self⟩⟩, hS.F ht⟩) hS.2.2 dX14_init_11
set_option maxHeartbeats 4000000 in
set_option maxRecDepth 100000 in
theorem k_X13_init (l : Launch) (dC : Nat → ClassId) (dI : Nat → Nat → Nat) (cs : Nat → ClassId) (gm : Nat → Nat → Nat) (sz : Nat) (h0 : Nat) (n : Nat) (ρ : Nat) (Bn : Nat) (hn : n ≤ 10000) (hBn : Bn ≤ n) : Met l yX13_init (.code yX13_init cX13_init 2 none :: tb) ({ frames := 2, cells := 5, slots := n + 122, locals := 33 }) (va_Pc [.ref h0, .int (nI n)] (PTm (dC, dI) cs RAWT gm [h0] (fun _ => .inr (13, [.null, .null, .null, .null, .int 0])) sz)) (va_Qv (fun _ : Unit => True) (fun _ T9 => ∃ (L2 : List Nat) (F2 : Nat → va_E) (ty2 : TyM), ∃ x : Nat, ∃ y0 : Nat, ∃ y1 : Nat, ∃ y2 : Nat, NEWm (dC, dI) cs ty2 gm L2 F2 (va_A (va_pl [h0] (fun _ => .inr (13, [.null, .null, .null, .null, .int 0]))) sz) T9.heap ∧ h0 ∈ L2 ∧ ty2 h0 = (13, ρ, [x, n, Bn, y0, y1, y2])) (va_A (va_pl [h0] (fun _ => .inr (13, [.null, .null, .null, .null, .int 0]))) sz)) 5 (n + 122) (va_A (va_pl [h0] (fun _ => .inr (13, [.null, .null, .null, .null, .int 0]))) sz) := by
  refine Met.ofW (cc := cX13_init) (maxL := 2) (ret := none) (by decide) rfl ?_
  intro p e s m args below meth c s₁ B hml hv
  obtain ⟨rfl, hsz, hP, hK, hD0, hE, hO⟩ := hv
  have hx := B.exec
  have hb := B.bytes
  have hr := B.returns
  have hts : ∀ w ∈ tb, w.before _ s = true := fun w h => atoms_spec (ws := .code yX13_init cX13_init 2 none :: tb) B.pre w (List.mem_cons_of_mem _ h)
  have hown : s.vm.findClass RX13 = some m.cls := findClass_of_methodNamed B.named
  have hin : meth.name = "<init>" := (name_of_methodNamed B.named B.method).1
  have hlocks := B.notSynchronized
  subst hsz
  have hD := hD0.self (sz := s.heap.size)
  generalize hAe : va_A (va_pl [h0] (fun _ => .inr (13, [.null, .null, .null, .null, .int 0]))) s.heap.size = A at hD ⊢
  have hA : ∀ q : Nat, s.heap.size ≤ q → A q := fun q h => by rw [← hAe]; exact Or.inr h
  have hS : va_S A s.heap s.heap [] := va_S.rf
  have hl := lv_entry ([.ref h0, .int (nI n)]) (n := 2) (Nat.le_of_ble_eq_true rfl)
  rw [lg_entry_eq]
  generalize (lg_sl ([.ref h0, .int (nI n)]) ++ List.replicate (2 - (lg_sl ([.ref h0, .int (nI n)])).length) Slot.unset).toArray = ls at hl ⊢
  have hl : lv_has ls 2 [(0, .ref h0), (1, .int (nI n))] := hl
  obtain ⟨L, ty, F, hN, hL_h0, hT_h0, hF_h0⟩ : ∃ (L : List Nat) (t9 : TyM) (F : Nat → va_E), NEWm (dC, dI) cs t9 gm L F A s.heap ∧ h0 ∈ L ∧ t9 h0 = (99, 0, []) ∧ F h0 = .inr (13, [.null, .null, .null, .null, .int 0]) := ⟨[h0], RAWT, fun _ => .inr (13, [.null, .null, .null, .null, .int 0]), ⟨hP, hD, hO, fun a _ => wtam_raw rfl⟩, List.mem_singleton.mpr rfl, rfl, rfl⟩
  obtain ⟨hP, hD, hO, hW⟩ := hN
  have hfs : ∀ p ∈ ([] : List (Nat × TyE)), p.1 ∈ L ∧ ty p.1 = p.2 := fun p h => absurd h List.not_mem_nil
  refine lv_aload_n hx hb dX13_init_0 rfl (lv_at hl 0 rfl) ?_
  refine W.objInit hx hb hown (hts _ kt_1033) (hts _ kt_1009) (hts _ kt_1010) rfl (by rw [hml]; exact hl.1) rfl dX13_init_1 (Nat.le_of_ble_eq_true rfl) (Nat.le_of_ble_eq_true rfl) ?_
  refine W.eq (g2 := F0 m 4 ls []) rfl ?_
  refine lv_aload_n hx hb dX13_init_4 rfl (lv_at hl 0 rfl) ?_
  refine lv_bipush (v := 40) hx hb dX13_init_5 (by decide) ?_
  refine va_newa (atype := .int) (ty := .int) (a0 := (40, .inl (fun _ => 0))) (N' := 40) hx hb (hts _ kt_1007) rfl hK hP hD hS hA (fun _ => rfl) (by decide) (by decide) (by show _ * 4 ≤ _; omega) (by show _ + 1 ≤ 5; omega) (by show _ + 40 ≤ n + 122; omega) dX13_init_7 (fun q_1 cA H hKn hPa hDa hS => ?_)
  obtain rfl := cid_int hK hKn
  obtain ⟨L, ty, F_2, hN9, hold, holdF, hL_q_1, hT_q_1, hF_q_1⟩ := grow1m (e := (25, ρ, [40, Bn])) hPa hDa hO hW (shm.idb rtf_self ⟨_, rfl, fun _ => ⟨0, Nat.zero_le _, rfl⟩⟩) (wtam_idb rtf_self trivial)
  obtain ⟨hP, hD, hO, hW⟩ := hN9
  have hT_h0 := (hold _ hL_h0).2.trans hT_h0
  have hF_h0 := (holdF _ hL_h0).1.trans hF_h0
  have hne_h0_q_1 := (holdF _ hL_h0).2
  have hL_h0 := (hold _ hL_h0).1
  have hfs := gr_cons hold hfs hL_q_1 hT_q_1
  refine pg_putF (ci := 13) (v := .ref q_1) (ty := .array .int) (C := RX13) (T := TX13) (N := 5) hx hb hts it_13 tyX13 tyX13_ok nmX13 hown hK hP hD hS hL_h0 hF_h0 rfl 1 (by decide) (hts _ kt_826) (fun _ h9 => h9) rfl hin rfl (by decide +kernel) (rfl) (rfl) (Nat.le_of_ble_eq_true rfl) dX13_init_9 (fun H locs hP hD hS => ?_)
  obtain ⟨F_3, he_4, hP, hD, hO⟩ : ∃ G, G = va_up F_2 h0 (.inr (13, [.null, .ref q_1, .null, .null, .int 0])) ∧ va_P (dC, dI) vwCl (va_pl L G) H ∧ va_D A (va_pl L G) ∧ OKm cs ty gm L G := ⟨_, rfl, hP, hD, hO.up (shm.raw hT_h0)⟩
  have hF_5 : F_3 h0 = .inr (13, [.null, .ref q_1, .null, .null, .int 0]) := by rw [he_4]; exact up_self
  refine lv_aload_n hx hb dX13_init_12 rfl (lv_at hl 0 rfl) ?_
  refine lv_bipush (v := 40) hx hb dX13_init_13 (by decide) ?_
  refine va_newa (atype := .int) (ty := .int) (a0 := (40, .inl (fun _ => 0))) (N' := 40) hx hb (hts _ kt_1007) rfl hK hP hD hS hA (fun _ => rfl) (by decide) (by decide) (by show _ * 4 ≤ _; omega) (by show _ + 1 ≤ 5; omega) (by show _ + 40 ≤ n + 122; omega) dX13_init_15 (fun q_6 cA H hKn hPa hDa hS => ?_)
  obtain rfl := cid_int hK hKn
  obtain ⟨L, ty, F_7, hN9, hold, holdF, hL_q_6, hT_q_6, hF_q_6⟩ := grow1m (e := (25, ρ + 70, [40, Bn])) hPa hDa hO hW (shm.idb rtf_self ⟨_, rfl, fun _ => ⟨0, Nat.zero_le _, rfl⟩⟩) (wtam_idb rtf_self trivial)
  obtain ⟨hP, hD, hO, hW⟩ := hN9
  have hT_h0 := (hold _ hL_h0).2.trans hT_h0
  have hF_h0 := (holdF _ hL_h0).1.trans hF_5
  have hne_h0_q_6 := (holdF _ hL_h0).2
  have hL_h0 := (hold _ hL_h0).1
  have hfs := gr_cons hold hfs hL_q_6 hT_q_6
  refine pg_putF (ci := 13) (v := .ref q_6) (ty := .array .int) (C := RX13) (T := TX13) (N := 5) hx hb hts it_13 tyX13 tyX13_ok nmX13 hown hK hP hD hS hL_h0 hF_h0 rfl 2 (by decide) (hts _ kt_827) (fun _ h9 => h9) rfl hin rfl (by decide +kernel) (rfl) (rfl) (Nat.le_of_ble_eq_true rfl) dX13_init_17 (fun H locs hP hD hS => ?_)
  obtain ⟨F_8, he_9, hP, hD, hO⟩ : ∃ G, G = va_up F_7 h0 (.inr (13, [.null, .ref q_1, .ref q_6, .null, .int 0])) ∧ va_P (dC, dI) vwCl (va_pl L G) H ∧ va_D A (va_pl L G) ∧ OKm cs ty gm L G := ⟨_, rfl, hP, hD, hO.up (shm.raw hT_h0)⟩
  have hF_10 : F_8 h0 = .inr (13, [.null, .ref q_1, .ref q_6, .null, .int 0]) := by rw [he_9]; exact up_self
  refine lv_aload_n hx hb dX13_init_20 rfl (lv_at hl 0 rfl) ?_
  refine lv_bipush (v := 40) hx hb dX13_init_21 (by decide) ?_
  refine va_newa (atype := .int) (ty := .int) (a0 := (40, .inl (fun _ => 0))) (N' := 40) hx hb (hts _ kt_1007) rfl hK hP hD hS hA (fun _ => rfl) (by decide) (by decide) (by show _ * 4 ≤ _; omega) (by show _ + 1 ≤ 5; omega) (by show _ + 40 ≤ n + 122; omega) dX13_init_23 (fun q_11 cA H hKn hPa hDa hS => ?_)
  obtain rfl := cid_int hK hKn
  obtain ⟨L, ty, F_12, hN9, hold, holdF, hL_q_11, hT_q_11, hF_q_11⟩ := grow1m (e := (25, ρ + 71, [40, Bn])) hPa hDa hO hW (shm.idb rtf_self ⟨_, rfl, fun _ => ⟨0, Nat.zero_le _, rfl⟩⟩) (wtam_idb rtf_self trivial)
  obtain ⟨hP, hD, hO, hW⟩ := hN9
  have hT_h0 := (hold _ hL_h0).2.trans hT_h0
  have hF_h0 := (holdF _ hL_h0).1.trans hF_10
  have hne_h0_q_11 := (holdF _ hL_h0).2
  have hL_h0 := (hold _ hL_h0).1
  have hfs := gr_cons hold hfs hL_q_11 hT_q_11
  refine pg_putF (ci := 13) (v := .ref q_11) (ty := .array .int) (C := RX13) (T := TX13) (N := 5) hx hb hts it_13 tyX13 tyX13_ok nmX13 hown hK hP hD hS hL_h0 hF_h0 rfl 3 (by decide) (hts _ kt_833) (fun _ h9 => h9) rfl hin rfl (by decide +kernel) (rfl) (rfl) (Nat.le_of_ble_eq_true rfl) dX13_init_25 (fun H locs hP hD hS => ?_)
  obtain ⟨F_13, he_14, hP, hD, hO⟩ : ∃ G, G = va_up F_12 h0 (.inr (13, [.null, .ref q_1, .ref q_6, .ref q_11, .int 0])) ∧ va_P (dC, dI) vwCl (va_pl L G) H ∧ va_D A (va_pl L G) ∧ OKm cs ty gm L G := ⟨_, rfl, hP, hD, hO.up (shm.raw hT_h0)⟩
  have hF_15 : F_13 h0 = .inr (13, [.null, .ref q_1, .ref q_6, .ref q_11, .int 0]) := by rw [he_14]; exact up_self
  refine lv_aload_n hx hb dX13_init_28 rfl (lv_at hl 0 rfl) ?_
  refine va_new (ci := 14) (fs := [.null, .int 0]) (C := RX14) (T := TX14) (N := 2) hx hb hts it_14 tyX14 tyX14_ok hown (hts _ kt_1034) (hts _ kt_1035) (hts _ kt_676) hK hP hD hS hA rfl df_14 (by show _ + 1 ≤ 5; omega) (by show _ + 2 ≤ n + 122; omega) dX13_init_29 (fun q_16 H hPa hDa hS => ?_)
  have hP := left1 hPa
  have hD := left2 hDa
  refine lv_dup hx hb dX13_init_32 rfl ?_
  refine lv_iload_n hx hb dX13_init_33 rfl (lv_at hl 1 rfl) ?_
  refine W.eq (g2 := F0 m 34 ls [.int (nI n), .ref q_16, .ref q_16, .ref h0]) rfl ?_
  have hFc := free1 hDa hS hA
  have hPq := right1 hPa
  refine va_callv (va_runI (As := [.int (nI n)]) (rest := [.ref q_16, .ref h0]) ⟨hx, hb, hml, hown, hts⟩ (k_X14_init l dC dI cs gm H.size q_16 n (ρ + 1) (by omega)) ⟨callB_of 1 hts (gi kt_1036) rfl rfl rfl (hts _ kt_676) (hts _ kt_1037) (by decide +kernel) ⟨Nat.le_of_ble_eq_true rfl, Nat.le_of_ble_eq_true rfl⟩, rfl, (hts _ kt_1038)⟩ ⟨fun a U g mk q => ⟨q.1, PTm.calling q.2⟩, fun U hU hWm => ⟨rfl, PTm.mk hU hWm hPq hK one1 hE (fun a _ => shm.raw rfl)⟩⟩ rfl rfl hl.1 rfl (lv_room (Nat.le_of_ble_eq_true rfl)) dX13_init_34 ⟨by show _ + 1 ≤ 5; omega, by show _ + n ≤ n + 122; omega⟩) hS (fun q _ h => hFc q h) hFc (fun u t H1 locs ht hvm hw hB hz1 hk1 hS => ?_)
  obtain ⟨L2, F2, ty2, r_17, hN2, hc1, hc2⟩ := hB
  rw [ht] at hN2
  obtain ⟨L, ty, F_18, hN9, hold, holdF, hnew, hnewF⟩ := join1m hPa hDa hO hW hk1 hFc hN2
  obtain ⟨hP, hD, hO, hW⟩ := hN9
  generalize H1 = H at hP hS ⊢
  have hL_q_16 := (hnew _ hc1).1
  have hT_q_16 := (hnew _ hc1).2.trans hc2
  have hT_h0 := (hold _ hL_h0).2.trans hT_h0
  have hF_h0 := (holdF _ hL_h0).1.trans hF_15
  have hnx_h0 := (holdF _ hL_h0).2
  have hL_h0 := (hold _ hL_h0).1
  have hfs := gr_cons hold hfs hL_q_16 hT_q_16
  refine pg_putF (ci := 13) (v := .ref q_16) (ty := .object "PostGateModel$Text") (C := RX13) (T := TX13) (N := 5) hx hb hts it_13 tyX13 tyX13_ok nmX13 hown hK hP hD hS hL_h0 hF_h0 rfl 0 (by decide) (hts _ kt_824) (fun _ h9 => h9) rfl hin rfl (by decide +kernel) (rfl) (rfl) (Nat.le_of_ble_eq_true rfl) dX13_init_37 (fun H locs hP hD hS => ?_)
  obtain ⟨F_19, he_20, hP, hD, hO⟩ : ∃ G, G = va_up F_18 h0 (.inr (13, [.ref q_16, .ref q_1, .ref q_6, .ref q_11, .int 0])) ∧ va_P (dC, dI) vwCl (va_pl L G) H ∧ va_D A (va_pl L G) ∧ OKm cs ty gm L G := ⟨_, rfl, hP, hD, hO.up (shm.raw hT_h0)⟩
  have hF_21 : F_19 h0 = .inr (13, [.ref q_16, .ref q_1, .ref q_6, .ref q_11, .int 0]) := by rw [he_20]; exact up_self
  have hr9 : (ty h0).1 = 99 := by rw [hT_h0]
  have hN9 : NEWm (dC, dI) cs (rtf ty h0 (13, ρ, [q_16, n, Bn, q_1, q_6, q_11])) gm L F_19 A H := NEWm.into ⟨hP, hD, hO, hW⟩ hr9 (by rw [hF_21]; exact shm.tags rtf_self ⟨0, rfl, (by first | omega | assumption | exact Or.inl rfl | exact Or.inr rfl)⟩) (wtam_tags rtf_self ⟨(hfs _ (List.mem_cons_self)).1, (hfs _ (List.mem_cons_of_mem _ (List.mem_cons_of_mem _ (List.mem_cons_of_mem _ (List.mem_cons_self))))).1, (hfs _ (List.mem_cons_of_mem _ (List.mem_cons_of_mem _ (List.mem_cons_self)))).1, (hfs _ (List.mem_cons_of_mem _ (List.mem_cons_self))).1, ⟨_, rtf_old hr9 (hfs _ (List.mem_cons_self)).2 (by decide)⟩, rtf_old hr9 (hfs _ (List.mem_cons_of_mem _ (List.mem_cons_of_mem _ (List.mem_cons_of_mem _ (List.mem_cons_self))))).2 (by decide), rtf_old hr9 (hfs _ (List.mem_cons_of_mem _ (List.mem_cons_of_mem _ (List.mem_cons_self)))).2 (by decide), rtf_old hr9 (hfs _ (List.mem_cons_of_mem _ (List.mem_cons_self))).2 (by decide), by omega, by omega⟩)
  refine W.widen (k := 5) (n := n + 122) (by omega) (by omega) ?_
  exact W.vret hx hb hr (fun t ht hWm => ⟨⟨(), rfl, trivial, ⟨L, F_19, rtf ty h0 (13, ρ, [q_16, n, Bn, q_1, q_6, q_11]), q_16, q_1, q_6, q_11, (by rw [ht]; exact hN9), hL_h0, rtf_self⟩⟩, hS.F ht⟩) hS.2.2 dX13_init_40
