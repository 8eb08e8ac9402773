theorem dX11_init_0 : decode cX11_init 0 = .ok (.aload_n 0, 1) := by decide +kernel
theorem dX11_init_1 : decode cX11_init 1 = .ok (.invokespecial 1, 3) := by decide +kernel
theorem dX11_init_4 : decode cX11_init 4 = .ok (.aload_n 0, 1) := by decide +kernel
theorem dX11_init_5 : decode cX11_init 5 = .ok (.new 7, 3) := by decide +kernel
theorem dX11_init_8 : decode cX11_init 8 = .ok (.dup, 1) := by decide +kernel
theorem dX11_init_9 : decode cX11_init 9 = .ok (.sipush 3000, 3) := by decide +kernel
theorem dX11_init_12 : decode cX11_init 12 = .ok (.invokespecial 11, 3) := by decide +kernel
theorem dX11_init_15 : decode cX11_init 15 = .ok (.putfield 14, 3) := by decide +kernel
theorem dX11_init_18 : decode cX11_init 18 = .ok (.aload_n 0, 1) := by decide +kernel
theorem dX11_init_19 : decode cX11_init 19 = .ok (.new 7, 3) := by decide +kernel
theorem dX11_init_22 : decode cX11_init 22 = .ok (.dup, 1) := by decide +kernel
theorem dX11_init_23 : decode cX11_init 23 = .ok (.sipush 3000, 3) := by decide +kernel
theorem dX11_init_26 : decode cX11_init 26 = .ok (.invokespecial 11, 3) := by decide +kernel
theorem dX11_init_29 : decode cX11_init 29 = .ok (.putfield 18, 3) := by decide +kernel
theorem dX11_init_32 : decode cX11_init 32 = .ok (.aload_n 0, 1) := by decide +kernel
theorem dX11_init_33 : decode cX11_init 33 = .ok (.new 21, 3) := by decide +kernel
theorem dX11_init_36 : decode cX11_init 36 = .ok (.dup, 1) := by decide +kernel
theorem dX11_init_37 : decode cX11_init 37 = .ok (.invokespecial 23, 3) := by decide +kernel
theorem dX11_init_40 : decode cX11_init 40 = .ok (.putfield 24, 3) := by decide +kernel
theorem dX11_init_43 : decode cX11_init 43 = .ok (.aload_n 0, 1) := by decide +kernel
theorem dX11_init_44 : decode cX11_init 44 = .ok (.new 28, 3) := by decide +kernel
theorem dX11_init_47 : decode cX11_init 47 = .ok (.dup, 1) := by decide +kernel
theorem dX11_init_48 : decode cX11_init 48 = .ok (.aload_n 0, 1) := by decide +kernel
theorem dX11_init_49 : decode cX11_init 49 = .ok (.getfield 24, 3) := by decide +kernel
theorem dX11_init_52 : decode cX11_init 52 = .ok (.invokespecial 30, 3) := by decide +kernel
theorem dX11_init_55 : decode cX11_init 55 = .ok (.putfield 33, 3) := by decide +kernel
theorem dX11_init_58 : decode cX11_init 58 = .ok (.aload_n 0, 1) := by decide +kernel
theorem dX11_init_59 : decode cX11_init 59 = .ok (.new 37, 3) := by decide +kernel
theorem dX11_init_62 : decode cX11_init 62 = .ok (.dup, 1) := by decide +kernel
theorem dX11_init_63 : decode cX11_init 63 = .ok (.aload_n 0, 1) := by decide +kernel
theorem dX11_init_64 : decode cX11_init 64 = .ok (.getfield 24, 3) := by decide +kernel
theorem dX11_init_67 : decode cX11_init 67 = .ok (.invokespecial 39, 3) := by decide +kernel
theorem dX11_init_70 : decode cX11_init 70 = .ok (.putfield 40, 3) := by decide +kernel
theorem dX11_init_73 : decode cX11_init 73 = .ok (.aload_n 0, 1) := by decide +kernel
theorem dX11_init_74 : decode cX11_init 74 = .ok (.new 44, 3) := by decide +kernel
theorem dX11_init_77 : decode cX11_init 77 = .ok (.dup, 1) := by decide +kernel
theorem dX11_init_78 : decode cX11_init 78 = .ok (.aload_n 0, 1) := by decide +kernel
theorem dX11_init_79 : decode cX11_init 79 = .ok (.getfield 24, 3) := by decide +kernel
theorem dX11_init_82 : decode cX11_init 82 = .ok (.invokespecial 46, 3) := by decide +kernel
theorem dX11_init_85 : decode cX11_init 85 = .ok (.putfield 47, 3) := by decide +kernel
theorem dX11_init_88 : decode cX11_init 88 = .ok (.aload_n 0, 1) := by decide +kernel
theorem dX11_init_89 : decode cX11_init 89 = .ok (.new 51, 3) := by decide +kernel
theorem dX11_init_92 : decode cX11_init 92 = .ok (.dup, 1) := by decide +kernel
theorem dX11_init_93 : decode cX11_init 93 = .ok (.invokespecial 53, 3) := by decide +kernel
theorem dX11_init_96 : decode cX11_init 96 = .ok (.putfield 54, 3) := by decide +kernel
theorem dX11_init_99 : decode cX11_init 99 = .ok (.aload_n 0, 1) := by decide +kernel
theorem dX11_init_100 : decode cX11_init 100 = .ok (.new 58, 3) := by decide +kernel
theorem dX11_init_103 : decode cX11_init 103 = .ok (.dup, 1) := by decide +kernel
theorem dX11_init_104 : decode cX11_init 104 = .ok (.invokespecial 60, 3) := by decide +kernel
theorem dX11_init_107 : decode cX11_init 107 = .ok (.putfield 61, 3) := by decide +kernel
theorem dX11_init_110 : decode cX11_init 110 = .ok (.aload_n 0, 1) := by decide +kernel
theorem dX11_init_111 : decode cX11_init 111 = .ok (.new 58, 3) := by decide +kernel
theorem dX11_init_114 : decode cX11_init 114 = .ok (.dup, 1) := by decide +kernel
theorem dX11_init_115 : decode cX11_init 115 = .ok (.invokespecial 60, 3) := by decide +kernel
theorem dX11_init_118 : decode cX11_init 118 = .ok (.putfield 65, 3) := by decide +kernel
theorem dX11_init_121 : decode cX11_init 121 = .ok (.return_, 1) := by decide +kernel
theorem dX7_init_0 : decode cX7_init 0 = .ok (.aload_n 0, 1) := by decide +kernel
theorem dX7_init_1 : decode cX7_init 1 = .ok (.invokespecial 3, 3) := by decide +kernel
theorem dX7_init_4 : decode cX7_init 4 = .ok (.aload_n 0, 1) := by decide +kernel
theorem dX7_init_5 : decode cX7_init 5 = .ok (.new 9, 3) := by decide +kernel
theorem dX7_init_8 : decode cX7_init 8 = .ok (.dup, 1) := by decide +kernel
theorem dX7_init_9 : decode cX7_init 9 = .ok (.sipush 3000, 3) := by decide +kernel
theorem dX7_init_12 : decode cX7_init 12 = .ok (.invokespecial 11, 3) := by decide +kernel
theorem dX7_init_15 : decode cX7_init 15 = .ok (.putfield 14, 3) := by decide +kernel
theorem dX7_init_18 : decode cX7_init 18 = .ok (.aload_n 0, 1) := by decide +kernel
theorem dX7_init_19 : decode cX7_init 19 = .ok (.new 9, 3) := by decide +kernel
theorem dX7_init_22 : decode cX7_init 22 = .ok (.dup, 1) := by decide +kernel
theorem dX7_init_23 : decode cX7_init 23 = .ok (.sipush 700, 3) := by decide +kernel
theorem dX7_init_26 : decode cX7_init 26 = .ok (.invokespecial 11, 3) := by decide +kernel
theorem dX7_init_29 : decode cX7_init 29 = .ok (.putfield 20, 3) := by decide +kernel
theorem dX7_init_32 : decode cX7_init 32 = .ok (.aload_n 0, 1) := by decide +kernel
theorem dX7_init_33 : decode cX7_init 33 = .ok (.new 23, 3) := by decide +kernel
theorem dX7_init_36 : decode cX7_init 36 = .ok (.dup, 1) := by decide +kernel
theorem dX7_init_37 : decode cX7_init 37 = .ok (.bipush 60, 2) := by decide +kernel
theorem dX7_init_39 : decode cX7_init 39 = .ok (.invokespecial 25, 3) := by decide +kernel
theorem dX7_init_42 : decode cX7_init 42 = .ok (.putfield 26, 3) := by decide +kernel
theorem dX7_init_45 : decode cX7_init 45 = .ok (.aload_n 0, 1) := by decide +kernel
theorem dX7_init_46 : decode cX7_init 46 = .ok (.new 23, 3) := by decide +kernel
theorem dX7_init_49 : decode cX7_init 49 = .ok (.dup, 1) := by decide +kernel
theorem dX7_init_50 : decode cX7_init 50 = .ok (.bipush 60, 2) := by decide +kernel
theorem dX7_init_52 : decode cX7_init 52 = .ok (.invokespecial 25, 3) := by decide +kernel
theorem dX7_init_55 : decode cX7_init 55 = .ok (.putfield 30, 3) := by decide +kernel
theorem dX7_init_58 : decode cX7_init 58 = .ok (.aload_n 0, 1) := by decide +kernel
theorem dX7_init_59 : decode cX7_init 59 = .ok (.new 23, 3) := by decide +kernel
theorem dX7_init_62 : decode cX7_init 62 = .ok (.dup, 1) := by decide +kernel
theorem dX7_init_63 : decode cX7_init 63 = .ok (.bipush 32, 2) := by decide +kernel
theorem dX7_init_65 : decode cX7_init 65 = .ok (.invokespecial 25, 3) := by decide +kernel
theorem dX7_init_68 : decode cX7_init 68 = .ok (.putfield 33, 3) := by decide +kernel
theorem dX7_init_71 : decode cX7_init 71 = .ok (.aload_n 0, 1) := by decide +kernel
theorem dX7_init_72 : decode cX7_init 72 = .ok (.new 23, 3) := by decide +kernel
theorem dX7_init_75 : decode cX7_init 75 = .ok (.dup, 1) := by decide +kernel
theorem dX7_init_76 : decode cX7_init 76 = .ok (.bipush 64, 2) := by decide +kernel
theorem dX7_init_78 : decode cX7_init 78 = .ok (.invokespecial 25, 3) := by decide +kernel
theorem dX7_init_81 : decode cX7_init 81 = .ok (.putfield 36, 3) := by decide +kernel
theorem dX7_init_84 : decode cX7_init 84 = .ok (.aload_n 0, 1) := by decide +kernel
theorem dX7_init_85 : decode cX7_init 85 = .ok (.new 23, 3) := by decide +kernel
theorem dX7_init_88 : decode cX7_init 88 = .ok (.dup, 1) := by decide +kernel
theorem dX7_init_89 : decode cX7_init 89 = .ok (.bipush 64, 2) := by decide +kernel
theorem dX7_init_91 : decode cX7_init 91 = .ok (.invokespecial 25, 3) := by decide +kernel
theorem dX7_init_94 : decode cX7_init 94 = .ok (.putfield 39, 3) := by decide +kernel
theorem dX7_init_97 : decode cX7_init 97 = .ok (.aload_n 0, 1) := by decide +kernel
theorem dX7_init_98 : decode cX7_init 98 = .ok (.new 23, 3) := by decide +kernel
theorem dX7_init_101 : decode cX7_init 101 = .ok (.dup, 1) := by decide +kernel
theorem dX7_init_102 : decode cX7_init 102 = .ok (.bipush 32, 2) := by decide +kernel
theorem dX7_init_104 : decode cX7_init 104 = .ok (.invokespecial 25, 3) := by decide +kernel
theorem dX7_init_107 : decode cX7_init 107 = .ok (.putfield 42, 3) := by decide +kernel
theorem dX7_init_110 : decode cX7_init 110 = .ok (.aload_n 0, 1) := by decide +kernel
theorem dX7_init_111 : decode cX7_init 111 = .ok (.new 23, 3) := by decide +kernel
theorem dX7_init_114 : decode cX7_init 114 = .ok (.dup, 1) := by decide +kernel
theorem dX7_init_115 : decode cX7_init 115 = .ok (.bipush 64, 2) := by decide +kernel
theorem dX7_init_117 : decode cX7_init 117 = .ok (.invokespecial 25, 3) := by decide +kernel
theorem dX7_init_120 : decode cX7_init 120 = .ok (.putfield 45, 3) := by decide +kernel
theorem dX7_init_123 : decode cX7_init 123 = .ok (.aload_n 0, 1) := by decide +kernel
theorem dX7_init_124 : decode cX7_init 124 = .ok (.new 23, 3) := by decide +kernel
theorem dX7_init_127 : decode cX7_init 127 = .ok (.dup, 1) := by decide +kernel
theorem dX7_init_128 : decode cX7_init 128 = .ok (.bipush 64, 2) := by decide +kernel
theorem dX7_init_130 : decode cX7_init 130 = .ok (.invokespecial 25, 3) := by decide +kernel
theorem dX7_init_133 : decode cX7_init 133 = .ok (.putfield 48, 3) := by decide +kernel
theorem dX7_init_136 : decode cX7_init 136 = .ok (.aload_n 0, 1) := by decide +kernel
theorem dX7_init_137 : decode cX7_init 137 = .ok (.new 23, 3) := by decide +kernel
theorem dX7_init_140 : decode cX7_init 140 = .ok (.dup, 1) := by decide +kernel
theorem dX7_init_141 : decode cX7_init 141 = .ok (.sipush 6100, 3) := by decide +kernel
theorem dX7_init_144 : decode cX7_init 144 = .ok (.invokespecial 25, 3) := by decide +kernel
theorem dX7_init_147 : decode cX7_init 147 = .ok (.putfield 51, 3) := by decide +kernel
theorem dX7_init_150 : decode cX7_init 150 = .ok (.aload_n 0, 1) := by decide +kernel
theorem dX7_init_151 : decode cX7_init 151 = .ok (.bipush 20, 2) := by decide +kernel
theorem dX7_init_153 : decode cX7_init 153 = .ok (.newarray .boolean, 2) := by decide +kernel
theorem dX7_init_155 : decode cX7_init 155 = .ok (.putfield 56, 3) := by decide +kernel
theorem dX7_init_158 : decode cX7_init 158 = .ok (.aload_n 0, 1) := by decide +kernel
theorem dX7_init_159 : decode cX7_init 159 = .ok (.new 60, 3) := by decide +kernel
theorem dX7_init_162 : decode cX7_init 162 = .ok (.dup, 1) := by decide +kernel
theorem dX7_init_163 : decode cX7_init 163 = .ok (.invokespecial 62, 3) := by decide +kernel
theorem dX7_init_166 : decode cX7_init 166 = .ok (.putfield 63, 3) := by decide +kernel
theorem dX7_init_169 : decode cX7_init 169 = .ok (.aload_n 0, 1) := by decide +kernel
theorem dX7_init_170 : decode cX7_init 170 = .ok (.new 67, 3) := by decide +kernel
theorem dX7_init_173 : decode cX7_init 173 = .ok (.dup, 1) := by decide +kernel
theorem dX7_init_174 : decode cX7_init 174 = .ok (.invokespecial 69, 3) := by decide +kernel
theorem dX7_init_177 : decode cX7_init 177 = .ok (.putfield 70, 3) := by decide +kernel
theorem dX7_init_180 : decode cX7_init 180 = .ok (.aload_n 0, 1) := by decide +kernel
theorem dX7_init_181 : decode cX7_init 181 = .ok (.iconst 0, 1) := by decide +kernel
theorem dX7_init_182 : decode cX7_init 182 = .ok (.putfield 74, 3) := by decide +kernel
theorem dX7_init_185 : decode cX7_init 185 = .ok (.aload_n 0, 1) := by decide +kernel
theorem dX7_init_186 : decode cX7_init 186 = .ok (.iconst 0, 1) := by decide +kernel
theorem dX7_init_187 : decode cX7_init 187 = .ok (.putfield 78, 3) := by decide +kernel
theorem dX7_init_190 : decode cX7_init 190 = .ok (.aload_n 0, 1) := by decide +kernel
theorem dX7_init_191 : decode cX7_init 191 = .ok (.aload_n 1, 1) := by decide +kernel
theorem dX7_init_192 : decode cX7_init 192 = .ok (.putfield 81, 3) := by decide +kernel
theorem dX7_init_195 : decode cX7_init 195 = .ok (.return_, 1) := by decide +kernel
theorem kt_1060 : Cond.methodLink RX7 3 objectInit ∈ tb := tb_at (i := 264) (by decide +kernel) (by decide +kernel)
theorem kt_1061 : Cond.classLink RX7 9 RX9 ∈ tb := tb_at (i := 265) (by decide +kernel) (by decide +kernel)
theorem kt_1062 : Cond.methodLink RX7 11 yX9_init ∈ tb := tb_at (i := 267) (by decide +kernel) (by decide +kernel)
theorem kt_1063 : Cond.classLink RX7 23 RX0 ∈ tb := tb_at (i := 290) (by decide +kernel) (by decide +kernel)
theorem kt_1064 : Cond.methodLink RX7 25 yX0_init ∈ tb := tb_at (i := 291) (by decide +kernel) (by decide +kernel)
theorem kt_1065 : Cond.arrayClass .boolean ∈ tb := tb_at (i := 308) (by decide +kernel) (by decide +kernel)
theorem kt_1066 : Cond.classLink RX7 60 RX8 ∈ tb := tb_at (i := 292) (by decide +kernel) (by decide +kernel)
theorem kt_1067 : Cond.instantiable RX8 3 ∈ tb := tb_at (i := 293) (by decide +kernel) (by decide +kernel)
theorem kt_1068 : Cond.code yX8_init cX8_init 1 none ∈ tb := tb_at (i := 296) (by decide +kernel) (by decide +kernel)
theorem kt_1069 : Cond.instanceMethod yX8_init ∈ tb := tb_at (i := 295) (by decide +kernel) (by decide +kernel)
theorem kt_1070 : Cond.classLink RX7 67 RX6 ∈ tb := tb_at (i := 309) (by decide +kernel) (by decide +kernel)
theorem kt_1071 : Cond.instantiable RX6 5 ∈ tb := tb_at (i := 310) (by decide +kernel) (by decide +kernel)
theorem kt_1072 : Cond.code yX6_init cX6_init 1 none ∈ tb := tb_at (i := 313) (by decide +kernel) (by decide +kernel)
theorem kt_1073 : Cond.instanceMethod yX6_init ∈ tb := tb_at (i := 312) (by decide +kernel) (by decide +kernel)
theorem kt_1074 : Cond.methodLink RX11 1 objectInit ∈ tb := tb_at (i := 110) (by decide +kernel) (by decide +kernel)
theorem kt_1075 : Cond.classLink RX11 7 RX0 ∈ tb := tb_at (i := 113) (by decide +kernel) (by decide +kernel)
theorem kt_1076 : Cond.methodLink RX11 11 yX0_init ∈ tb := tb_at (i := 115) (by decide +kernel) (by decide +kernel)
theorem kt_1077 : Cond.classLink RX11 21 RX2 ∈ tb := tb_at (i := 137) (by decide +kernel) (by decide +kernel)
theorem kt_1078 : Cond.instantiable RX2 2 ∈ tb := tb_at (i := 138) (by decide +kernel) (by decide +kernel)
theorem kt_1079 : Cond.code yX2_init cX2_init 2 none ∈ tb := tb_at (i := 141) (by decide +kernel) (by decide +kernel)
theorem kt_1080 : Cond.methodLink RX11 23 yX2_init ∈ tb := tb_at (i := 139) (by decide +kernel) (by decide +kernel)
theorem kt_1081 : Cond.instanceMethod yX2_init ∈ tb := tb_at (i := 140) (by decide +kernel) (by decide +kernel)
theorem kt_1082 : Cond.classLink RX11 28 RX1 ∈ tb := tb_at (i := 180) (by decide +kernel) (by decide +kernel)
theorem kt_1083 : Cond.instantiable RX1 11 ∈ tb := tb_at (i := 181) (by decide +kernel) (by decide +kernel)
theorem kt_1084 : Cond.code yX1_init cX1_init 3 none ∈ tb := tb_at (i := 184) (by decide +kernel) (by decide +kernel)
theorem kt_1085 : Cond.methodLink RX11 30 yX1_init ∈ tb := tb_at (i := 182) (by decide +kernel) (by decide +kernel)
theorem kt_1086 : Cond.instanceMethod yX1_init ∈ tb := tb_at (i := 183) (by decide +kernel) (by decide +kernel)
theorem kt_1087 : Cond.classLink RX11 37 RX7 ∈ tb := tb_at (i := 259) (by decide +kernel) (by decide +kernel)
theorem kt_1088 : Cond.instantiable RX7 17 ∈ tb := tb_at (i := 260) (by decide +kernel) (by decide +kernel)
theorem kt_1089 : Cond.code yX7_init cX7_init 2 none ∈ tb := tb_at (i := 263) (by decide +kernel) (by decide +kernel)
theorem kt_1090 : Cond.methodLink RX11 39 yX7_init ∈ tb := tb_at (i := 261) (by decide +kernel) (by decide +kernel)
theorem kt_1091 : Cond.instanceMethod yX7_init ∈ tb := tb_at (i := 262) (by decide +kernel) (by decide +kernel)
theorem kt_1092 : Cond.classLink RX11 44 RX5 ∈ tb := tb_at (i := 385) (by decide +kernel) (by decide +kernel)
theorem kt_1093 : Cond.instantiable RX5 7 ∈ tb := tb_at (i := 386) (by decide +kernel) (by decide +kernel)
theorem kt_1094 : Cond.code yX5_init cX5_init 2 none ∈ tb := tb_at (i := 389) (by decide +kernel) (by decide +kernel)
theorem kt_1095 : Cond.methodLink RX11 46 yX5_init ∈ tb := tb_at (i := 387) (by decide +kernel) (by decide +kernel)
theorem kt_1096 : Cond.instanceMethod yX5_init ∈ tb := tb_at (i := 388) (by decide +kernel) (by decide +kernel)
theorem kt_1097 : Cond.classLink RX11 51 RX8 ∈ tb := tb_at (i := 420) (by decide +kernel) (by decide +kernel)
theorem kt_1098 : Cond.classLink RX11 58 RX4 ∈ tb := tb_at (i := 422) (by decide +kernel) (by decide +kernel)
theorem kt_1099 : Cond.instantiable RX4 6 ∈ tb := tb_at (i := 423) (by decide +kernel) (by decide +kernel)
theorem kt_1100 : Cond.code yX4_init cX4_init 1 none ∈ tb := tb_at (i := 426) (by decide +kernel) (by decide +kernel)
theorem kt_1101 : Cond.instanceMethod yX4_init ∈ tb := tb_at (i := 425) (by decide +kernel) (by decide +kernel)
theorem kn_46 : Cond.methodLinkNest RX7 62 yX8_init "PostGate" ∈ nw := nw_at (i := 214) (by decide +kernel) rfl
theorem kn_47 : Cond.methodLinkNest RX7 69 yX6_init "PostGate" ∈ nw := nw_at (i := 231) (by decide +kernel) rfl
theorem kn_48 : Cond.methodLinkNest RX11 53 yX8_init "PostGate" ∈ nw := nw_at (i := 341) (by decide +kernel) rfl
theorem kn_49 : Cond.methodLinkNest RX11 60 yX4_init "PostGate" ∈ nw := nw_at (i := 344) (by decide +kernel) rfl
set_option maxHeartbeats 4000000 in
set_option maxRecDepth 100000 in
theorem k_X0_init_x (l : Launch) (dC : Nat → ClassId) (dI : Nat → Nat → Nat) (cs : Nat → ClassId) (sz : Nat) (h0 : Nat) (n : Nat) (ρ : Nat) (hn : n ≤ 10000) : Met l yX0_init (.code yX0_init cX0_init 2 none :: tb) ({ frames := 1, cells := 1, slots := n, locals := 12 }) (va_Pc [.ref h0, .int (nI n)] (PT (dC, dI) cs RAWT [h0] (fun _ => .inr (0, [.null, .int 0, .int 0])) sz)) (va_Qv (fun _ : Unit => True) (fun _ T9 => ∃ (L2 : List Nat) (F2 : Nat → va_E) (ty2 : TyM), ∃ q : Nat, NEW (dC, dI) cs ty2 L2 F2 (va_A (va_pl [h0] (fun _ => .inr (0, [.null, .int 0, .int 0]))) sz) T9.heap ∧ h0 ∈ L2 ∧ ty2 h0 = (0, ρ, [q, n]) ∧ F2 h0 = .inr (0, [.ref q, .int 0, .int 0])) (va_A (va_pl [h0] (fun _ => .inr (0, [.null, .int 0, .int 0]))) sz)) 1 n (va_A (va_pl [h0] (fun _ => .inr (0, [.null, .int 0, .int 0]))) sz) := by
  refine Met.ofW (cc := cX0_init) (maxL := 2) (ret := none) (by decide) rfl ?_
  intro p e s m args below meth c s₁ B hml hv
  obtain ⟨rfl, hsz, hP, hK, hD0, hE, hO⟩ := hv
  have hx := B.exec
  have hb := B.bytes
  have hr := B.returns
  have hts : ∀ w ∈ tb, w.before _ s = true := fun w h => atoms_spec (ws := .code yX0_init cX0_init 2 none :: tb) B.pre w (List.mem_cons_of_mem _ h)
  have hown : s.vm.findClass RX0 = some m.cls := findClass_of_methodNamed B.named
  have hin : meth.name = "<init>" := (name_of_methodNamed B.named B.method).1
  have hlocks := B.notSynchronized
  subst hsz
  have hD := hD0.self (sz := s.heap.size)
  generalize hAe : va_A (va_pl [h0] (fun _ => .inr (0, [.null, .int 0, .int 0]))) s.heap.size = A at hD ⊢
  have hA : ∀ q : Nat, s.heap.size ≤ q → A q := fun q h => by rw [← hAe]; exact Or.inr h
  have hS : va_S A s.heap s.heap [] := va_S.rf
  have hl := lv_entry ([.ref h0, .int (nI n)]) (n := 2) (Nat.le_of_ble_eq_true rfl)
  rw [lg_entry_eq]
  generalize (lg_sl ([.ref h0, .int (nI n)]) ++ List.replicate (2 - (lg_sl ([.ref h0, .int (nI n)])).length) Slot.unset).toArray = ls at hl ⊢
  have hl : lv_has ls 2 [(0, .ref h0), (1, .int (nI n))] := hl
  obtain ⟨L, ty, F, hN, hL_h0, hT_h0, hF_h0⟩ : ∃ (L : List Nat) (t9 : TyM) (F : Nat → va_E), NEW (dC, dI) cs t9 L F A s.heap ∧ h0 ∈ L ∧ t9 h0 = (99, 0, []) ∧ F h0 = .inr (0, [.null, .int 0, .int 0]) := ⟨[h0], RAWT, fun _ => .inr (0, [.null, .int 0, .int 0]), ⟨hP, hD, hO, fun a _ => wta_raw rfl⟩, List.mem_singleton.mpr rfl, rfl, rfl⟩
  obtain ⟨hP, hD, hO, hW⟩ := hN
  have hfs : ∀ p ∈ ([] : List (Nat × TyE)), p.1 ∈ L ∧ ty p.1 = p.2 := fun p h => absurd h List.not_mem_nil
  refine lv_aload_n hx hb dX0_init_0 rfl (lv_at hl 0 rfl) ?_
  refine W.objInit hx hb hown (hts _ kt_1008) (hts _ kt_1009) (hts _ kt_1010) rfl (by rw [hml]; exact hl.1) rfl dX0_init_1 (Nat.le_of_ble_eq_true rfl) (Nat.le_of_ble_eq_true rfl) ?_
  refine W.eq (g2 := F0 m 4 ls []) rfl ?_
  refine lv_aload_n hx hb dX0_init_4 rfl (lv_at hl 0 rfl) ?_
  refine lv_iconst (v := 0) hx hb dX0_init_5 (by decide) ?_
  refine pg_put (ci := 0) (v := .int 0) (ty := .int) (C := RX0) (T := TX0) (N := 3) hx hb hts it_0 tyX0 tyX0_ok nmX0 hown hK hP hD hS hL_h0 hF_h0 rfl 1 (by decide) (hts _ kt_10) (fun _ h9 => h9) rfl (by decide +kernel) (rfl) (rfl) (Nat.le_of_ble_eq_true rfl) dX0_init_6 (fun H locs hP hD hS => ?_)
  obtain ⟨F_1, he_2, hP, hD, hO⟩ : ∃ G, G = va_up F h0 (.inr (0, [.null, .int 0, .int 0])) ∧ va_P (dC, dI) vwCl (va_pl L G) H ∧ va_D A (va_pl L G) ∧ OK cs ty L G := ⟨_, rfl, hP, hD, hO.up (sh.raw hT_h0)⟩
  have hF_3 : F_1 h0 = .inr (0, [.null, .int 0, .int 0]) := by rw [he_2]; exact up_self
  refine lv_aload_n hx hb dX0_init_9 rfl (lv_at hl 0 rfl) ?_
  refine lv_iconst (v := 0) hx hb dX0_init_10 (by decide) ?_
  refine pg_put (ci := 0) (v := .int 0) (ty := .boolean) (C := RX0) (T := TX0) (N := 3) hx hb hts it_0 tyX0 tyX0_ok nmX0 hown hK hP hD hS hL_h0 hF_3 rfl 2 (by decide) (hts _ kt_11) (fun _ h9 => h9) rfl (by decide +kernel) (rfl) (rfl) (Nat.le_of_ble_eq_true rfl) dX0_init_11 (fun H locs hP hD hS => ?_)
  obtain ⟨F_4, he_5, hP, hD, hO⟩ : ∃ G, G = va_up F_1 h0 (.inr (0, [.null, .int 0, .int 0])) ∧ va_P (dC, dI) vwCl (va_pl L G) H ∧ va_D A (va_pl L G) ∧ OK cs ty L G := ⟨_, rfl, hP, hD, hO.up (sh.raw hT_h0)⟩
  have hF_6 : F_4 h0 = .inr (0, [.null, .int 0, .int 0]) := by rw [he_5]; exact up_self
  refine lv_aload_n hx hb dX0_init_14 rfl (lv_at hl 0 rfl) ?_
  refine lv_iload_n hx hb dX0_init_15 rfl (lv_at hl 1 rfl) ?_
  refine va_newa (atype := .int) (ty := .int) (a0 := (n, .inl (fun _ => 0))) (N' := n) hx hb (hts _ kt_1007) rfl hK hP hD hS hA (fun _ => rfl) (nI_pos (by omega)) (nI_clamp (by omega)) (by show _ * 4 ≤ _; omega) (by show _ + 1 ≤ 1; omega) (by show _ + n ≤ n; omega) dX0_init_16 (fun q_7 cA H hKn hPa hDa hS => ?_)
  obtain rfl := cid_int hK hKn
  obtain ⟨L, ty, F_8, hN9, hold, holdF, hL_q_7, hT_q_7, hF_q_7⟩ := grow1 (e := (16, ρ, [n])) hPa hDa hO hW (sh.ints rtf_self ⟨_, rfl⟩) (wta_ints rtf_self trivial)
  obtain ⟨hP, hD, hO, hW⟩ := hN9
  have hT_h0 := (hold _ hL_h0).2.trans hT_h0
  have hF_h0 := (holdF _ hL_h0).1.trans hF_6
  have hne_h0_q_7 := (holdF _ hL_h0).2
  have hL_h0 := (hold _ hL_h0).1
  have hfs := gr_cons hold hfs hL_q_7 hT_q_7
  refine pg_putF (ci := 0) (v := .ref q_7) (ty := .array .int) (C := RX0) (T := TX0) (N := 3) hx hb hts it_0 tyX0 tyX0_ok nmX0 hown hK hP hD hS hL_h0 hF_h0 rfl 0 (by decide) (hts _ kt_12) (fun _ h9 => h9) rfl hin rfl (by decide +kernel) (rfl) (rfl) (Nat.le_of_ble_eq_true rfl) dX0_init_18 (fun H locs hP hD hS => ?_)
  obtain ⟨F_9, he_10, hP, hD, hO⟩ : ∃ G, G = va_up F_8 h0 (.inr (0, [.ref q_7, .int 0, .int 0])) ∧ va_P (dC, dI) vwCl (va_pl L G) H ∧ va_D A (va_pl L G) ∧ OK cs ty L G := ⟨_, rfl, hP, hD, hO.up (sh.raw hT_h0)⟩
  have hF_11 : F_9 h0 = .inr (0, [.ref q_7, .int 0, .int 0]) := by rw [he_10]; exact up_self
  have hr9 : (ty h0).1 = 99 := by rw [hT_h0]
  have hN9 : NEW (dC, dI) cs (rtf ty h0 (0, ρ, [q_7, n])) L F_9 A H := NEW.into ⟨hP, hD, hO, hW⟩ hr9 (by rw [hF_11]; exact sh.bytes rtf_self ⟨0, 0, rfl, (by first | omega | assumption | exact Or.inl rfl | exact Or.inr rfl), (by first | omega | assumption | exact Or.inl rfl | exact Or.inr rfl)⟩) (wta_bytes rtf_self ⟨(hfs _ (List.mem_cons_self)).1, rtf_old hr9 (hfs _ (List.mem_cons_self)).2 (by decide), by omega⟩)
  refine W.widen (k := 1) (n := n) (by omega) (by omega) ?_
  exact W.vret hx hb hr (fun t ht hWm => ⟨⟨(), rfl, trivial, ⟨L, F_9, rtf ty h0 (0, ρ, [q_7, n]), q_7, (by rw [ht]; exact hN9), hL_h0, rtf_self, hF_11⟩⟩, hS.F ht⟩) hS.2.2 dX0_init_21
set_option maxHeartbeats 4000000 in
set_option maxRecDepth 100000 in
theorem k_X7_init (l : Launch) (dC : Nat → ClassId) (dI : Nat → Nat → Nat) (cs : Nat → ClassId) (sz : Nat) (h0 : Nat) (d : Nat) (ρ : Nat) : Met l yX7_init (.code yX7_init cX7_init 2 none :: tb) ({ frames := 3, cells := 40, slots := 10697, locals := 54 }) (va_Pc [.ref h0, .ref d] (PT (dC, dI) cs RAWT [h0] (fun _ => .inr (7, [.null, .null, .null, .null, .null, .null, .null, .null, .null, .null, .null, .null, .null, .null, .null, .int 0, .int 0])) sz)) (va_Qv (fun _ : Unit => True) (fun _ T9 => ∃ (L2 : List Nat) (F2 : Nat → va_E) (ty2 : TyM), ∃ sl : Nat, ∃ sx : Nat, ∃ sy0 : Nat, ∃ sy1 : Nat, ∃ sy2 : Nat, ∃ ke : Nat, ∃ kx : Nat, ∃ ky0 : Nat, ∃ ky1 : Nat, ∃ ky2 : Nat, ∃ w0 : Nat, ∃ r0 : Nat, ∃ w1 : Nat, ∃ r1 : Nat, ∃ w2 : Nat, ∃ r2 : Nat, ∃ w3 : Nat, ∃ r3 : Nat, ∃ w4 : Nat, ∃ r4 : Nat, ∃ w5 : Nat, ∃ r5 : Nat, ∃ w6 : Nat, ∃ r6 : Nat, ∃ w7 : Nat, ∃ r7 : Nat, ∃ w8 : Nat, ∃ r8 : Nat, ∃ tk : Nat, ∃ hs : Nat, ∃ hx : Nat, ∃ hy : Nat, ∃ hw : Nat, ∃ pw : Nat, ∃ px : Nat, ∃ py : Nat, ∃ pz : Nat, ∃ pu : Nat, NEW (dC, dI) cs ty2 L2 F2 (va_A (va_pl [h0] (fun _ => .inr (7, [.null, .null, .null, .null, .null, .null, .null, .null, .null, .null, .null, .null, .null, .null, .null, .int 0, .int 0]))) sz) T9.heap ∧ h0 ∈ L2 ∧ ty2 h0 = (99, 0, []) ∧ F2 h0 = .inr (7, [.ref d, .ref sl, .ref ke, .ref w0, .ref w1, .ref w2, .ref w3, .ref w4, .ref w5, .ref w6, .ref w7, .ref w8, .ref tk, .ref hs, .ref pw, .int 0, .int 0]) ∧ (∀ p ∈ ([(sl, (9, ρ + 2, [sx, 3000, sy0, sy1, sy2])), (ke, (9, ρ + 4, [kx, 700, ky0, ky1, ky2])), (w0, (0, ρ + 82, [r0, 60])), (w1, (0, ρ + 83, [r1, 60])), (w2, (0, ρ + 84, [r2, 32])), (w3, (0, ρ + 85, [r3, 64])), (w4, (0, ρ + 86, [r4, 64])), (w5, (0, ρ + 87, [r5, 32])), (w6, (0, ρ + 88, [r6, 64])), (w7, (0, ρ + 89, [r7, 64])), (w8, (0, ρ + 90, [r8, 6100])), (tk, (18, ρ + 91, [20])), (hs, (8, ρ + 6, [hx, hy, hw])), (pw, (6, ρ + 7, [px, py, pz, pu]))] : List (Nat × TyE)), p.1 ∈ L2 ∧ ty2 p.1 = p.2)) (va_A (va_pl [h0] (fun _ => .inr (7, [.null, .null, .null, .null, .null, .null, .null, .null, .null, .null, .null, .null, .null, .null, .null, .int 0, .int 0]))) sz)) 40 10697 (va_A (va_pl [h0] (fun _ => .inr (7, [.null, .null, .null, .null, .null, .null, .null, .null, .null, .null, .null, .null, .null, .null, .null, .int 0, .int 0]))) sz) := by
  refine Met.ofW (cc := cX7_init) (maxL := 2) (ret := none) (by decide) rfl ?_
  intro p e s m args below meth c s₁ B hml hv
  obtain ⟨rfl, hsz, hP, hK, hD0, hE, hO⟩ := hv
  have hx := B.exec
  have hb := B.bytes
  have hr := B.returns
  have hts : ∀ w ∈ tb, w.before _ s = true := fun w h => atoms_spec (ws := .code yX7_init cX7_init 2 none :: tb) B.pre w (List.mem_cons_of_mem _ h)
  have hown : s.vm.findClass RX7 = some m.cls := findClass_of_methodNamed B.named
  have hin : meth.name = "<init>" := (name_of_methodNamed B.named B.method).1
  have hlocks := B.notSynchronized
  subst hsz
  have hD := hD0.self (sz := s.heap.size)
  generalize hAe : va_A (va_pl [h0] (fun _ => .inr (7, [.null, .null, .null, .null, .null, .null, .null, .null, .null, .null, .null, .null, .null, .null, .null, .int 0, .int 0]))) s.heap.size = A at hD ⊢
  have hA : ∀ q : Nat, s.heap.size ≤ q → A q := fun q h => by rw [← hAe]; exact Or.inr h
  have hS : va_S A s.heap s.heap [] := va_S.rf
  have hl := lv_entry ([.ref h0, .ref d]) (n := 2) (Nat.le_of_ble_eq_true rfl)
  rw [lg_entry_eq]
  generalize (lg_sl ([.ref h0, .ref d]) ++ List.replicate (2 - (lg_sl ([.ref h0, .ref d])).length) Slot.unset).toArray = ls at hl ⊢
  have hl : lv_has ls 2 [(0, .ref h0), (1, .ref d)] := hl
  obtain ⟨L, ty, F, hN, hL_h0, hT_h0, hF_h0⟩ : ∃ (L : List Nat) (t9 : TyM) (F : Nat → va_E), NEW (dC, dI) cs t9 L F A s.heap ∧ h0 ∈ L ∧ t9 h0 = (99, 0, []) ∧ F h0 = .inr (7, [.null, .null, .null, .null, .null, .null, .null, .null, .null, .null, .null, .null, .null, .null, .null, .int 0, .int 0]) := ⟨[h0], RAWT, fun _ => .inr (7, [.null, .null, .null, .null, .null, .null, .null, .null, .null, .null, .null, .null, .null, .null, .null, .int 0, .int 0]), ⟨hP, hD, hO, fun a _ => wta_raw rfl⟩, List.mem_singleton.mpr rfl, rfl, rfl⟩
  obtain ⟨hP, hD, hO, hW⟩ := hN
  have hfs : ∀ p ∈ ([] : List (Nat × TyE)), p.1 ∈ L ∧ ty p.1 = p.2 := fun p h => absurd h List.not_mem_nil
  refine lv_aload_n hx hb dX7_init_0 rfl (lv_at hl 0 rfl) ?_
  refine W.objInit hx hb hown (hts _ kt_1060) (hts _ kt_1009) (hts _ kt_1010) rfl (by rw [hml]; exact hl.1) rfl dX7_init_1 (Nat.le_of_ble_eq_true rfl) (Nat.le_of_ble_eq_true rfl) ?_
  refine W.eq (g2 := F0 m 4 ls []) rfl ?_
  refine lv_aload_n hx hb dX7_init_4 rfl (lv_at hl 0 rfl) ?_
  refine va_new (ci := 9) (fs := [.null, .null, .null, .null, .int 0]) (C := RX9) (T := TX9) (N := 5) hx hb hts it_9 tyX9 tyX9_ok hown (hts _ kt_1061) (hts _ kt_1049) (hts _ kt_164) hK hP hD hS hA rfl df_9 (by show _ + 1 ≤ 40; omega) (by show _ + 5 ≤ 10697; omega) dX7_init_5 (fun q_1 H hPa hDa hS => ?_)
  have hP := left1 hPa
  have hD := left2 hDa
  refine lv_dup hx hb dX7_init_8 rfl ?_
  refine lv_sipush (v := 3000) hx hb dX7_init_9 (by decide) ?_
  refine W.eq (g2 := F0 m 12 ls [.int (nI 3000), .ref q_1, .ref q_1, .ref h0]) rfl ?_
  have hFc := free1 hDa hS hA
  have hPq := right1 hPa
  refine va_callv (va_runI (As := [.int (nI 3000)]) (rest := [.ref q_1, .ref h0]) ⟨hx, hb, hml, hown, hts⟩ (k_X9_init l dC dI cs H.size q_1 3000 (ρ + 2) (by omega)) ⟨callB_of 1 hts (gi kt_1050) rfl rfl rfl (hts _ kt_164) (hts _ kt_1062) (by decide +kernel) ⟨Nat.le_of_ble_eq_true rfl, Nat.le_of_ble_eq_true rfl⟩, rfl, (hts _ kt_1052)⟩ ⟨fun a U g mk q => ⟨q.1, PT.calling q.2⟩, fun U hU hWm => ⟨rfl, PT.mk hU hWm hPq hK one1 hE (fun a _ => sh.raw rfl)⟩⟩ rfl rfl hl.1 rfl (lv_room (Nat.le_of_ble_eq_true rfl)) dX7_init_12 ⟨by show _ + 5 ≤ 40; omega, by show _ + (3000 + 123) ≤ 10697; omega⟩) hS (fun q _ h => hFc q h) hFc (fun u t H1 locs ht hvm hw hB hz1 hk1 hS => ?_)
  obtain ⟨L2, F2, ty2, x_2, y0_3, y1_4, y2_5, hN2, hc1, hc2⟩ := hB
  rw [ht] at hN2
  obtain ⟨L, ty, F_6, hN9, hold, holdF, hnew, hnewF⟩ := join1 hPa hDa hO hW hk1 hFc hN2
  obtain ⟨hP, hD, hO, hW⟩ := hN9
  generalize H1 = H at hP hS ⊢
  have hL_q_1 := (hnew _ hc1).1
  have hT_q_1 := (hnew _ hc1).2.trans hc2
  have hT_h0 := (hold _ hL_h0).2.trans hT_h0
  have hF_h0 := (holdF _ hL_h0).1.trans hF_h0
  have hnx_h0 := (holdF _ hL_h0).2
  have hL_h0 := (hold _ hL_h0).1
  have hfs := gr_cons hold hfs hL_q_1 hT_q_1
  refine pg_putF (ci := 7) (v := .ref q_1) (ty := .object "PostGate$Tags") (C := RX7) (T := TX7) (N := 17) hx hb hts it_7 tyX7 tyX7_ok nmX7 hown hK hP hD hS hL_h0 hF_h0 rfl 1 (by decide) (hts _ kt_307) (fun _ h9 => h9) rfl hin rfl (by decide +kernel) (rfl) (rfl) (Nat.le_of_ble_eq_true rfl) dX7_init_15 (fun H locs hP hD hS => ?_)
  obtain ⟨F_7, he_8, hP, hD, hO⟩ : ∃ G, G = va_up F_6 h0 (.inr (7, [.null, .ref q_1, .null, .null, .null, .null, .null, .null, .null, .null, .null, .null, .null, .null, .null, .int 0, .int 0])) ∧ va_P (dC, dI) vwCl (va_pl L G) H ∧ va_D A (va_pl L G) ∧ OK cs ty L G := ⟨_, rfl, hP, hD, hO.up (sh.raw hT_h0)⟩
  have hF_9 : F_7 h0 = .inr (7, [.null, .ref q_1, .null, .null, .null, .null, .null, .null, .null, .null, .null, .null, .null, .null, .null, .int 0, .int 0]) := by rw [he_8]; exact up_self
  refine lv_aload_n hx hb dX7_init_18 rfl (lv_at hl 0 rfl) ?_
  refine va_new (ci := 9) (fs := [.null, .null, .null, .null, .int 0]) (C := RX9) (T := TX9) (N := 5) hx hb hts it_9 tyX9 tyX9_ok hown (hts _ kt_1061) (hts _ kt_1049) (hts _ kt_164) hK hP hD hS hA rfl df_9 (by show _ + 1 ≤ 40; omega) (by show _ + 5 ≤ 10697; omega) dX7_init_19 (fun q_10 H hPa hDa hS => ?_)
  have hP := left1 hPa
  have hD := left2 hDa
  refine lv_dup hx hb dX7_init_22 rfl ?_
  refine lv_sipush (v := 700) hx hb dX7_init_23 (by decide) ?_
  refine W.eq (g2 := F0 m 26 ls [.int (nI 700), .ref q_10, .ref q_10, .ref h0]) rfl ?_
  have hFc := free1 hDa hS hA
  have hPq := right1 hPa
  refine va_callv (va_runI (As := [.int (nI 700)]) (rest := [.ref q_10, .ref h0]) ⟨hx, hb, hml, hown, hts⟩ (k_X9_init l dC dI cs H.size q_10 700 (ρ + 4) (by omega)) ⟨callB_of 1 hts (gi kt_1050) rfl rfl rfl (hts _ kt_164) (hts _ kt_1062) (by decide +kernel) ⟨Nat.le_of_ble_eq_true rfl, Nat.le_of_ble_eq_true rfl⟩, rfl, (hts _ kt_1052)⟩ ⟨fun a U g mk q => ⟨q.1, PT.calling q.2⟩, fun U hU hWm => ⟨rfl, PT.mk hU hWm hPq hK one1 hE (fun a _ => sh.raw rfl)⟩⟩ rfl rfl hl.1 rfl (lv_room (Nat.le_of_ble_eq_true rfl)) dX7_init_26 ⟨by show _ + 5 ≤ 40; omega, by show _ + (700 + 123) ≤ 10697; omega⟩) hS (fun q _ h => hFc q h) hFc (fun u t H1 locs ht hvm hw hB hz1 hk1 hS => ?_)
  obtain ⟨L2, F2, ty2, x_11, y0_12, y1_13, y2_14, hN2, hc1, hc2⟩ := hB
  rw [ht] at hN2
  obtain ⟨L, ty, F_15, hN9, hold, holdF, hnew, hnewF⟩ := join1 hPa hDa hO hW hk1 hFc hN2
  obtain ⟨hP, hD, hO, hW⟩ := hN9
  generalize H1 = H at hP hS ⊢
  have hL_q_10 := (hnew _ hc1).1
  have hT_q_10 := (hnew _ hc1).2.trans hc2
  have hT_h0 := (hold _ hL_h0).2.trans hT_h0
  have hF_h0 := (holdF _ hL_h0).1.trans hF_9
  have hnx_h0 := (holdF _ hL_h0).2
  have hL_h0 := (hold _ hL_h0).1
  have hfs := gr_cons hold hfs hL_q_10 hT_q_10
  refine pg_putF (ci := 7) (v := .ref q_10) (ty := .object "PostGate$Tags") (C := RX7) (T := TX7) (N := 17) hx hb hts it_7 tyX7 tyX7_ok nmX7 hown hK hP hD hS hL_h0 hF_h0 rfl 2 (by decide) (hts _ kt_386) (fun _ h9 => h9) rfl hin rfl (by decide +kernel) (rfl) (rfl) (Nat.le_of_ble_eq_true rfl) dX7_init_29 (fun H locs hP hD hS => ?_)
  obtain ⟨F_16, he_17, hP, hD, hO⟩ : ∃ G, G = va_up F_15 h0 (.inr (7, [.null, .ref q_1, .ref q_10, .null, .null, .null, .null, .null, .null, .null, .null, .null, .null, .null, .null, .int 0, .int 0])) ∧ va_P (dC, dI) vwCl (va_pl L G) H ∧ va_D A (va_pl L G) ∧ OK cs ty L G := ⟨_, rfl, hP, hD, hO.up (sh.raw hT_h0)⟩
  have hF_18 : F_16 h0 = .inr (7, [.null, .ref q_1, .ref q_10, .null, .null, .null, .null, .null, .null, .null, .null, .null, .null, .null, .null, .int 0, .int 0]) := by rw [he_17]; exact up_self
  refine lv_aload_n hx hb dX7_init_32 rfl (lv_at hl 0 rfl) ?_
  refine va_new (ci := 0) (fs := [.null, .int 0, .int 0]) (C := RX0) (T := TX0) (N := 3) hx hb hts it_0 tyX0 tyX0_ok hown (hts _ kt_1063) (hts _ kt_1013) (hts _ kt_1) hK hP hD hS hA rfl df_0 (by show _ + 1 ≤ 40; omega) (by show _ + 3 ≤ 10697; omega) dX7_init_33 (fun q_19 H hPa hDa hS => ?_)
  have hP := left1 hPa
  have hD := left2 hDa
  refine lv_dup hx hb dX7_init_36 rfl ?_
  refine lv_bipush (v := 60) hx hb dX7_init_37 (by decide) ?_
  refine W.eq (g2 := F0 m 39 ls [.int (nI 60), .ref q_19, .ref q_19, .ref h0]) rfl ?_
  have hFc := free1 hDa hS hA
  have hPq := right1 hPa
  refine va_callv (va_runI (As := [.int (nI 60)]) (rest := [.ref q_19, .ref h0]) ⟨hx, hb, hml, hown, hts⟩ (k_X0_init l dC dI cs H.size q_19 60 (ρ + 82) (by omega)) ⟨callB_of 1 hts (gi kt_1014) rfl rfl rfl (hts _ kt_1) (hts _ kt_1064) (by decide +kernel) ⟨Nat.le_of_ble_eq_true rfl, Nat.le_of_ble_eq_true rfl⟩, rfl, (hts _ kt_1016)⟩ ⟨fun a U g mk q => ⟨q.1, PT.calling q.2⟩, fun U hU hWm => ⟨rfl, PT.mk hU hWm hPq hK one1 hE (fun a _ => sh.raw rfl)⟩⟩ rfl rfl hl.1 rfl (lv_room (Nat.le_of_ble_eq_true rfl)) dX7_init_39 ⟨by show _ + 1 ≤ 40; omega, by show _ + 60 ≤ 10697; omega⟩) hS (fun q _ h => hFc q h) hFc (fun u t H1 locs ht hvm hw hB hz1 hk1 hS => ?_)
  obtain ⟨L2, F2, ty2, q_20, hN2, hc1, hc2⟩ := hB
  rw [ht] at hN2
  obtain ⟨L, ty, F_21, hN9, hold, holdF, hnew, hnewF⟩ := join1 hPa hDa hO hW hk1 hFc hN2
  obtain ⟨hP, hD, hO, hW⟩ := hN9
  generalize H1 = H at hP hS ⊢
  have hL_q_19 := (hnew _ hc1).1
  have hT_q_19 := (hnew _ hc1).2.trans hc2
  have hT_h0 := (hold _ hL_h0).2.trans hT_h0
  have hF_h0 := (holdF _ hL_h0).1.trans hF_18
  have hnx_h0 := (holdF _ hL_h0).2
  have hL_h0 := (hold _ hL_h0).1
  have hfs := gr_cons hold hfs hL_q_19 hT_q_19
  refine pg_putF (ci := 7) (v := .ref q_19) (ty := .object "PostGate$Bytes") (C := RX7) (T := TX7) (N := 17) hx hb hts it_7 tyX7 tyX7_ok nmX7 hown hK hP hD hS hL_h0 hF_h0 rfl 3 (by decide) (hts _ kt_371) (fun _ h9 => h9) rfl hin rfl (by decide +kernel) (rfl) (rfl) (Nat.le_of_ble_eq_true rfl) dX7_init_42 (fun H locs hP hD hS => ?_)
  obtain ⟨F_22, he_23, hP, hD, hO⟩ : ∃ G, G = va_up F_21 h0 (.inr (7, [.null, .ref q_1, .ref q_10, .ref q_19, .null, .null, .null, .null, .null, .null, .null, .null, .null, .null, .null, .int 0, .int 0])) ∧ va_P (dC, dI) vwCl (va_pl L G) H ∧ va_D A (va_pl L G) ∧ OK cs ty L G := ⟨_, rfl, hP, hD, hO.up (sh.raw hT_h0)⟩
  have hF_24 : F_22 h0 = .inr (7, [.null, .ref q_1, .ref q_10, .ref q_19, .null, .null, .null, .null, .null, .null, .null, .null, .null, .null, .null, .int 0, .int 0]) := by rw [he_23]; exact up_self
  refine lv_aload_n hx hb dX7_init_45 rfl (lv_at hl 0 rfl) ?_
  refine va_new (ci := 0) (fs := [.null, .int 0, .int 0]) (C := RX0) (T := TX0) (N := 3) hx hb hts it_0 tyX0 tyX0_ok hown (hts _ kt_1063) (hts _ kt_1013) (hts _ kt_1) hK hP hD hS hA rfl df_0 (by show _ + 1 ≤ 40; omega) (by show _ + 3 ≤ 10697; omega) dX7_init_46 (fun q_25 H hPa hDa hS => ?_)
  have hP := left1 hPa
  have hD := left2 hDa
  refine lv_dup hx hb dX7_init_49 rfl ?_
  refine lv_bipush (v := 60) hx hb dX7_init_50 (by decide) ?_
  refine W.eq (g2 := F0 m 52 ls [.int (nI 60), .ref q_25, .ref q_25, .ref h0]) rfl ?_
  have hFc := free1 hDa hS hA
  have hPq := right1 hPa
  refine va_callv (va_runI (As := [.int (nI 60)]) (rest := [.ref q_25, .ref h0]) ⟨hx, hb, hml, hown, hts⟩ (k_X0_init l dC dI cs H.size q_25 60 (ρ + 83) (by omega)) ⟨callB_of 1 hts (gi kt_1014) rfl rfl rfl (hts _ kt_1) (hts _ kt_1064) (by decide +kernel) ⟨Nat.le_of_ble_eq_true rfl, Nat.le_of_ble_eq_true rfl⟩, rfl, (hts _ kt_1016)⟩ ⟨fun a U g mk q => ⟨q.1, PT.calling q.2⟩, fun U hU hWm => ⟨rfl, PT.mk hU hWm hPq hK one1 hE (fun a _ => sh.raw rfl)⟩⟩ rfl rfl hl.1 rfl (lv_room (Nat.le_of_ble_eq_true rfl)) dX7_init_52 ⟨by show _ + 1 ≤ 40; omega, by show _ + 60 ≤ 10697; omega⟩) hS (fun q _ h => hFc q h) hFc (fun u t H1 locs ht hvm hw hB hz1 hk1 hS => ?_)
  obtain ⟨L2, F2, ty2, q_26, hN2, hc1, hc2⟩ := hB
  rw [ht] at hN2
  obtain ⟨L, ty, F_27, hN9, hold, holdF, hnew, hnewF⟩ := join1 hPa hDa hO hW hk1 hFc hN2
  obtain ⟨hP, hD, hO, hW⟩ := hN9
  generalize H1 = H at hP hS ⊢
  have hL_q_25 := (hnew _ hc1).1
  have hT_q_25 := (hnew _ hc1).2.trans hc2
  have hT_h0 := (hold _ hL_h0).2.trans hT_h0
  have hF_h0 := (holdF _ hL_h0).1.trans hF_24
  have hnx_h0 := (holdF _ hL_h0).2
  have hL_h0 := (hold _ hL_h0).1
  have hfs := gr_cons hold hfs hL_q_25 hT_q_25
  refine pg_putF (ci := 7) (v := .ref q_25) (ty := .object "PostGate$Bytes") (C := RX7) (T := TX7) (N := 17) hx hb hts it_7 tyX7 tyX7_ok nmX7 hown hK hP hD hS hL_h0 hF_h0 rfl 4 (by decide) (hts _ kt_366) (fun _ h9 => h9) rfl hin rfl (by decide +kernel) (rfl) (rfl) (Nat.le_of_ble_eq_true rfl) dX7_init_55 (fun H locs hP hD hS => ?_)
  obtain ⟨F_28, he_29, hP, hD, hO⟩ : ∃ G, G = va_up F_27 h0 (.inr (7, [.null, .ref q_1, .ref q_10, .ref q_19, .ref q_25, .null, .null, .null, .null, .null, .null, .null, .null, .null, .null, .int 0, .int 0])) ∧ va_P (dC, dI) vwCl (va_pl L G) H ∧ va_D A (va_pl L G) ∧ OK cs ty L G := ⟨_, rfl, hP, hD, hO.up (sh.raw hT_h0)⟩
  have hF_30 : F_28 h0 = .inr (7, [.null, .ref q_1, .ref q_10, .ref q_19, .ref q_25, .null, .null, .null, .null, .null, .null, .null, .null, .null, .null, .int 0, .int 0]) := by rw [he_29]; exact up_self
  refine lv_aload_n hx hb dX7_init_58 rfl (lv_at hl 0 rfl) ?_
  refine va_new (ci := 0) (fs := [.null, .int 0, .int 0]) (C := RX0) (T := TX0) (N := 3) hx hb hts it_0 tyX0 tyX0_ok hown (hts _ kt_1063) (hts _ kt_1013) (hts _ kt_1) hK hP hD hS hA rfl df_0 (by show _ + 1 ≤ 40; omega) (by show _ + 3 ≤ 10697; omega) dX7_init_59 (fun q_31 H hPa hDa hS => ?_)
  have hP := left1 hPa
  have hD := left2 hDa
  refine lv_dup hx hb dX7_init_62 rfl ?_
  refine lv_bipush (v := 32) hx hb dX7_init_63 (by decide) ?_
  refine W.eq (g2 := F0 m 65 ls [.int (nI 32), .ref q_31, .ref q_31, .ref h0]) rfl ?_
  have hFc := free1 hDa hS hA
  have hPq := right1 hPa
  refine va_callv (va_runI (As := [.int (nI 32)]) (rest := [.ref q_31, .ref h0]) ⟨hx, hb, hml, hown, hts⟩ (k_X0_init l dC dI cs H.size q_31 32 (ρ + 84) (by omega)) ⟨callB_of 1 hts (gi kt_1014) rfl rfl rfl (hts _ kt_1) (hts _ kt_1064) (by decide +kernel) ⟨Nat.le_of_ble_eq_true rfl, Nat.le_of_ble_eq_true rfl⟩, rfl, (hts _ kt_1016)⟩ ⟨fun a U g mk q => ⟨q.1, PT.calling q.2⟩, fun U hU hWm => ⟨rfl, PT.mk hU hWm hPq hK one1 hE (fun a _ => sh.raw rfl)⟩⟩ rfl rfl hl.1 rfl (lv_room (Nat.le_of_ble_eq_true rfl)) dX7_init_65 ⟨by show _ + 1 ≤ 40; omega, by show _ + 32 ≤ 10697; omega⟩) hS (fun q _ h => hFc q h) hFc (fun u t H1 locs ht hvm hw hB hz1 hk1 hS => ?_)
  obtain ⟨L2, F2, ty2, q_32, hN2, hc1, hc2⟩ := hB
  rw [ht] at hN2
  obtain ⟨L, ty, F_33, hN9, hold, holdF, hnew, hnewF⟩ := join1 hPa hDa hO hW hk1 hFc hN2
  obtain ⟨hP, hD, hO, hW⟩ := hN9
  generalize H1 = H at hP hS ⊢
  have hL_q_31 := (hnew _ hc1).1
  have hT_q_31 := (hnew _ hc1).2.trans hc2
  have hT_h0 := (hold _ hL_h0).2.trans hT_h0
  have hF_h0 := (holdF _ hL_h0).1.trans hF_30
  have hnx_h0 := (holdF _ hL_h0).2
  have hL_h0 := (hold _ hL_h0).1
  have hfs := gr_cons hold hfs hL_q_31 hT_q_31
  refine pg_putF (ci := 7) (v := .ref q_31) (ty := .object "PostGate$Bytes") (C := RX7) (T := TX7) (N := 17) hx hb hts it_7 tyX7 tyX7_ok nmX7 hown hK hP hD hS hL_h0 hF_h0 rfl 5 (by decide) (hts _ kt_342) (fun _ h9 => h9) rfl hin rfl (by decide +kernel) (rfl) (rfl) (Nat.le_of_ble_eq_true rfl) dX7_init_68 (fun H locs hP hD hS => ?_)
  obtain ⟨F_34, he_35, hP, hD, hO⟩ : ∃ G, G = va_up F_33 h0 (.inr (7, [.null, .ref q_1, .ref q_10, .ref q_19, .ref q_25, .ref q_31, .null, .null, .null, .null, .null, .null, .null, .null, .null, .int 0, .int 0])) ∧ va_P (dC, dI) vwCl (va_pl L G) H ∧ va_D A (va_pl L G) ∧ OK cs ty L G := ⟨_, rfl, hP, hD, hO.up (sh.raw hT_h0)⟩
  have hF_36 : F_34 h0 = .inr (7, [.null, .ref q_1, .ref q_10, .ref q_19, .ref q_25, .ref q_31, .null, .null, .null, .null, .null, .null, .null, .null, .null, .int 0, .int 0]) := by rw [he_35]; exact up_self
  refine lv_aload_n hx hb dX7_init_71 rfl (lv_at hl 0 rfl) ?_
  refine va_new (ci := 0) (fs := [.null, .int 0, .int 0]) (C := RX0) (T := TX0) (N := 3) hx hb hts it_0 tyX0 tyX0_ok hown (hts _ kt_1063) (hts _ kt_1013) (hts _ kt_1) hK hP hD hS hA rfl df_0 (by show _ + 1 ≤ 40; omega) (by show _ + 3 ≤ 10697; omega) dX7_init_72 (fun q_37 H hPa hDa hS => ?_)
  have hP := left1 hPa
  have hD := left2 hDa
  refine lv_dup hx hb dX7_init_75 rfl ?_
  refine lv_bipush (v := 64) hx hb dX7_init_76 (by decide) ?_
  refine W.eq (g2 := F0 m 78 ls [.int (nI 64), .ref q_37, .ref q_37, .ref h0]) rfl ?_
  have hFc := free1 hDa hS hA
  have hPq := right1 hPa
  refine va_callv (va_runI (As := [.int (nI 64)]) (rest := [.ref q_37, .ref h0]) ⟨hx, hb, hml, hown, hts⟩ (k_X0_init l dC dI cs H.size q_37 64 (ρ + 85) (by omega)) ⟨callB_of 1 hts (gi kt_1014) rfl rfl rfl (hts _ kt_1) (hts _ kt_1064) (by decide +kernel) ⟨Nat.le_of_ble_eq_true rfl, Nat.le_of_ble_eq_true rfl⟩, rfl, (hts _ kt_1016)⟩ ⟨fun a U g mk q => ⟨q.1, PT.calling q.2⟩, fun U hU hWm => ⟨rfl, PT.mk hU hWm hPq hK one1 hE (fun a _ => sh.raw rfl)⟩⟩ rfl rfl hl.1 rfl (lv_room (Nat.le_of_ble_eq_true rfl)) dX7_init_78 ⟨by show _ + 1 ≤ 40; omega, by show _ + 64 ≤ 10697; omega⟩) hS (fun q _ h => hFc q h) hFc (fun u t H1 locs ht hvm hw hB hz1 hk1 hS => ?_)
  obtain ⟨L2, F2, ty2, q_38, hN2, hc1, hc2⟩ := hB
  rw [ht] at hN2
  obtain ⟨L, ty, F_39, hN9, hold, holdF, hnew, hnewF⟩ := join1 hPa hDa hO hW hk1 hFc hN2
  obtain ⟨hP, hD, hO, hW⟩ := hN9
  generalize H1 = H at hP hS ⊢
  have hL_q_37 := (hnew _ hc1).1
  have hT_q_37 := (hnew _ hc1).2.trans hc2
  have hT_h0 := (hold _ hL_h0).2.trans hT_h0
  have hF_h0 := (holdF _ hL_h0).1.trans hF_36
  have hnx_h0 := (holdF _ hL_h0).2
  have hL_h0 := (hold _ hL_h0).1
  have hfs := gr_cons hold hfs hL_q_37 hT_q_37
  refine pg_putF (ci := 7) (v := .ref q_37) (ty := .object "PostGate$Bytes") (C := RX7) (T := TX7) (N := 17) hx hb hts it_7 tyX7 tyX7_ok nmX7 hown hK hP hD hS hL_h0 hF_h0 rfl 6 (by decide) (hts _ kt_347) (fun _ h9 => h9) rfl hin rfl (by decide +kernel) (rfl) (rfl) (Nat.le_of_ble_eq_true rfl) dX7_init_81 (fun H locs hP hD hS => ?_)
  obtain ⟨F_40, he_41, hP, hD, hO⟩ : ∃ G, G = va_up F_39 h0 (.inr (7, [.null, .ref q_1, .ref q_10, .ref q_19, .ref q_25, .ref q_31, .ref q_37, .null, .null, .null, .null, .null, .null, .null, .null, .int 0, .int 0])) ∧ va_P (dC, dI) vwCl (va_pl L G) H ∧ va_D A (va_pl L G) ∧ OK cs ty L G := ⟨_, rfl, hP, hD, hO.up (sh.raw hT_h0)⟩
  have hF_42 : F_40 h0 = .inr (7, [.null, .ref q_1, .ref q_10, .ref q_19, .ref q_25, .ref q_31, .ref q_37, .null, .null, .null, .null, .null, .null, .null, .null, .int 0, .int 0]) := by rw [he_41]; exact up_self
  refine lv_aload_n hx hb dX7_init_84 rfl (lv_at hl 0 rfl) ?_
  refine va_new (ci := 0) (fs := [.null, .int 0, .int 0]) (C := RX0) (T := TX0) (N := 3) hx hb hts it_0 tyX0 tyX0_ok hown (hts _ kt_1063) (hts _ kt_1013) (hts _ kt_1) hK hP hD hS hA rfl df_0 (by show _ + 1 ≤ 40; omega) (by show _ + 3 ≤ 10697; omega) dX7_init_85 (fun q_43 H hPa hDa hS => ?_)
  have hP := left1 hPa
  have hD := left2 hDa
  refine lv_dup hx hb dX7_init_88 rfl ?_
  refine lv_bipush (v := 64) hx hb dX7_init_89 (by decide) ?_
  refine W.eq (g2 := F0 m 91 ls [.int (nI 64), .ref q_43, .ref q_43, .ref h0]) rfl ?_
  have hFc := free1 hDa hS hA
  have hPq := right1 hPa
  refine va_callv (va_runI (As := [.int (nI 64)]) (rest := [.ref q_43, .ref h0]) ⟨hx, hb, hml, hown, hts⟩ (k_X0_init l dC dI cs H.size q_43 64 (ρ + 86) (by omega)) ⟨callB_of 1 hts (gi kt_1014) rfl rfl rfl (hts _ kt_1) (hts _ kt_1064) (by decide +kernel) ⟨Nat.le_of_ble_eq_true rfl, Nat.le_of_ble_eq_true rfl⟩, rfl, (hts _ kt_1016)⟩ ⟨fun a U g mk q => ⟨q.1, PT.calling q.2⟩, fun U hU hWm => ⟨rfl, PT.mk hU hWm hPq hK one1 hE (fun a _ => sh.raw rfl)⟩⟩ rfl rfl hl.1 rfl (lv_room (Nat.le_of_ble_eq_true rfl)) dX7_init_91 ⟨by show _ + 1 ≤ 40; omega, by show _ + 64 ≤ 10697; omega⟩) hS (fun q _ h => hFc q h) hFc (fun u t H1 locs ht hvm hw hB hz1 hk1 hS => ?_)
  obtain ⟨L2, F2, ty2, q_44, hN2, hc1, hc2⟩ := hB
  rw [ht] at hN2
  obtain ⟨L, ty, F_45, hN9, hold, holdF, hnew, hnewF⟩ := join1 hPa hDa hO hW hk1 hFc hN2
  obtain ⟨hP, hD, hO, hW⟩ := hN9
  generalize H1 = H at hP hS ⊢
  have hL_q_43 := (hnew _ hc1).1
  have hT_q_43 := (hnew _ hc1).2.trans hc2
  have hT_h0 := (hold _ hL_h0).2.trans hT_h0
  have hF_h0 := (holdF _ hL_h0).1.trans hF_42
  have hnx_h0 := (holdF _ hL_h0).2
  have hL_h0 := (hold _ hL_h0).1
  have hfs := gr_cons hold hfs hL_q_43 hT_q_43
  refine pg_putF (ci := 7) (v := .ref q_43) (ty := .object "PostGate$Bytes") (C := RX7) (T := TX7) (N := 17) hx hb hts it_7 tyX7 tyX7_ok nmX7 hown hK hP hD hS hL_h0 hF_h0 rfl 7 (by decide) (hts _ kt_385) (fun _ h9 => h9) rfl hin rfl (by decide +kernel) (rfl) (rfl) (Nat.le_of_ble_eq_true rfl) dX7_init_94 (fun H locs hP hD hS => ?_)
  obtain ⟨F_46, he_47, hP, hD, hO⟩ : ∃ G, G = va_up F_45 h0 (.inr (7, [.null, .ref q_1, .ref q_10, .ref q_19, .ref q_25, .ref q_31, .ref q_37, .ref q_43, .null, .null, .null, .null, .null, .null, .null, .int 0, .int 0])) ∧ va_P (dC, dI) vwCl (va_pl L G) H ∧ va_D A (va_pl L G) ∧ OK cs ty L G := ⟨_, rfl, hP, hD, hO.up (sh.raw hT_h0)⟩
  have hF_48 : F_46 h0 = .inr (7, [.null, .ref q_1, .ref q_10, .ref q_19, .ref q_25, .ref q_31, .ref q_37, .ref q_43, .null, .null, .null, .null, .null, .null, .null, .int 0, .int 0]) := by rw [he_47]; exact up_self
  refine lv_aload_n hx hb dX7_init_97 rfl (lv_at hl 0 rfl) ?_
  refine va_new (ci := 0) (fs := [.null, .int 0, .int 0]) (C := RX0) (T := TX0) (N := 3) hx hb hts it_0 tyX0 tyX0_ok hown (hts _ kt_1063) (hts _ kt_1013) (hts _ kt_1) hK hP hD hS hA rfl df_0 (by show _ + 1 ≤ 40; omega) (by show _ + 3 ≤ 10697; omega) dX7_init_98 (fun q_49 H hPa hDa hS => ?_)
  have hP := left1 hPa
  have hD := left2 hDa
  refine lv_dup hx hb dX7_init_101 rfl ?_
  refine lv_bipush (v := 32) hx hb dX7_init_102 (by decide) ?_
  refine W.eq (g2 := F0 m 104 ls [.int (nI 32), .ref q_49, .ref q_49, .ref h0]) rfl ?_
  have hFc := free1 hDa hS hA
  have hPq := right1 hPa
  refine va_callv (va_runI (As := [.int (nI 32)]) (rest := [.ref q_49, .ref h0]) ⟨hx, hb, hml, hown, hts⟩ (k_X0_init l dC dI cs H.size q_49 32 (ρ + 87) (by omega)) ⟨callB_of 1 hts (gi kt_1014) rfl rfl rfl (hts _ kt_1) (hts _ kt_1064) (by decide +kernel) ⟨Nat.le_of_ble_eq_true rfl, Nat.le_of_ble_eq_true rfl⟩, rfl, (hts _ kt_1016)⟩ ⟨fun a U g mk q => ⟨q.1, PT.calling q.2⟩, fun U hU hWm => ⟨rfl, PT.mk hU hWm hPq hK one1 hE (fun a _ => sh.raw rfl)⟩⟩ rfl rfl hl.1 rfl (lv_room (Nat.le_of_ble_eq_true rfl)) dX7_init_104 ⟨by show _ + 1 ≤ 40; omega, by show _ + 32 ≤ 10697; omega⟩) hS (fun q _ h => hFc q h) hFc (fun u t H1 locs ht hvm hw hB hz1 hk1 hS => ?_)
  obtain ⟨L2, F2, ty2, q_50, hN2, hc1, hc2⟩ := hB
  rw [ht] at hN2
  obtain ⟨L, ty, F_51, hN9, hold, holdF, hnew, hnewF⟩ := join1 hPa hDa hO hW hk1 hFc hN2
  obtain ⟨hP, hD, hO, hW⟩ := hN9
  generalize H1 = H at hP hS ⊢
  have hL_q_49 := (hnew _ hc1).1
  have hT_q_49 := (hnew _ hc1).2.trans hc2
  have hT_h0 := (hold _ hL_h0).2.trans hT_h0
  have hF_h0 := (holdF _ hL_h0).1.trans hF_48
  have hnx_h0 := (holdF _ hL_h0).2
  have hL_h0 := (hold _ hL_h0).1
  have hfs := gr_cons hold hfs hL_q_49 hT_q_49
  refine pg_putF (ci := 7) (v := .ref q_49) (ty := .object "PostGate$Bytes") (C := RX7) (T := TX7) (N := 17) hx hb hts it_7 tyX7 tyX7_ok nmX7 hown hK hP hD hS hL_h0 hF_h0 rfl 8 (by decide) (hts _ kt_364) (fun _ h9 => h9) rfl hin rfl (by decide +kernel) (rfl) (rfl) (Nat.le_of_ble_eq_true rfl) dX7_init_107 (fun H locs hP hD hS => ?_)
  obtain ⟨F_52, he_53, hP, hD, hO⟩ : ∃ G, G = va_up F_51 h0 (.inr (7, [.null, .ref q_1, .ref q_10, .ref q_19, .ref q_25, .ref q_31, .ref q_37, .ref q_43, .ref q_49, .null, .null, .null, .null, .null, .null, .int 0, .int 0])) ∧ va_P (dC, dI) vwCl (va_pl L G) H ∧ va_D A (va_pl L G) ∧ OK cs ty L G := ⟨_, rfl, hP, hD, hO.up (sh.raw hT_h0)⟩
  have hF_54 : F_52 h0 = .inr (7, [.null, .ref q_1, .ref q_10, .ref q_19, .ref q_25, .ref q_31, .ref q_37, .ref q_43, .ref q_49, .null, .null, .null, .null, .null, .null, .int 0, .int 0]) := by rw [he_53]; exact up_self
  refine lv_aload_n hx hb dX7_init_110 rfl (lv_at hl 0 rfl) ?_
  refine va_new (ci := 0) (fs := [.null, .int 0, .int 0]) (C := RX0) (T := TX0) (N := 3) hx hb hts it_0 tyX0 tyX0_ok hown (hts _ kt_1063) (hts _ kt_1013) (hts _ kt_1) hK hP hD hS hA rfl df_0 (by show _ + 1 ≤ 40; omega) (by show _ + 3 ≤ 10697; omega) dX7_init_111 (fun q_55 H hPa hDa hS => ?_)
  have hP := left1 hPa
  have hD := left2 hDa
  refine lv_dup hx hb dX7_init_114 rfl ?_
  refine lv_bipush (v := 64) hx hb dX7_init_115 (by decide) ?_
  refine W.eq (g2 := F0 m 117 ls [.int (nI 64), .ref q_55, .ref q_55, .ref h0]) rfl ?_
  have hFc := free1 hDa hS hA
  have hPq := right1 hPa
  refine va_callv (va_runI (As := [.int (nI 64)]) (rest := [.ref q_55, .ref h0]) ⟨hx, hb, hml, hown, hts⟩ (k_X0_init l dC dI cs H.size q_55 64 (ρ + 88) (by omega)) ⟨callB_of 1 hts (gi kt_1014) rfl rfl rfl (hts _ kt_1) (hts _ kt_1064) (by decide +kernel) ⟨Nat.le_of_ble_eq_true rfl, Nat.le_of_ble_eq_true rfl⟩, rfl, (hts _ kt_1016)⟩ ⟨fun a U g mk q => ⟨q.1, PT.calling q.2⟩, fun U hU hWm => ⟨rfl, PT.mk hU hWm hPq hK one1 hE (fun a _ => sh.raw rfl)⟩⟩ rfl rfl hl.1 rfl (lv_room (Nat.le_of_ble_eq_true rfl)) dX7_init_117 ⟨by show _ + 1 ≤ 40; omega, by show _ + 64 ≤ 10697; omega⟩) hS (fun q _ h => hFc q h) hFc (fun u t H1 locs ht hvm hw hB hz1 hk1 hS => ?_)
  obtain ⟨L2, F2, ty2, q_56, hN2, hc1, hc2⟩ := hB
  rw [ht] at hN2
  obtain ⟨L, ty, F_57, hN9, hold, holdF, hnew, hnewF⟩ := join1 hPa hDa hO hW hk1 hFc hN2
  obtain ⟨hP, hD, hO, hW⟩ := hN9
  generalize H1 = H at hP hS ⊢
  have hL_q_55 := (hnew _ hc1).1
  have hT_q_55 := (hnew _ hc1).2.trans hc2
  have hT_h0 := (hold _ hL_h0).2.trans hT_h0
  have hF_h0 := (holdF _ hL_h0).1.trans hF_54
  have hnx_h0 := (holdF _ hL_h0).2
  have hL_h0 := (hold _ hL_h0).1
  have hfs := gr_cons hold hfs hL_q_55 hT_q_55
  refine pg_putF (ci := 7) (v := .ref q_55) (ty := .object "PostGate$Bytes") (C := RX7) (T := TX7) (N := 17) hx hb hts it_7 tyX7 tyX7_ok nmX7 hown hK hP hD hS hL_h0 hF_h0 rfl 9 (by decide) (hts _ kt_407) (fun _ h9 => h9) rfl hin rfl (by decide +kernel) (rfl) (rfl) (Nat.le_of_ble_eq_true rfl) dX7_init_120 (fun H locs hP hD hS => ?_)
  obtain ⟨F_58, he_59, hP, hD, hO⟩ : ∃ G, G = va_up F_57 h0 (.inr (7, [.null, .ref q_1, .ref q_10, .ref q_19, .ref q_25, .ref q_31, .ref q_37, .ref q_43, .ref q_49, .ref q_55, .null, .null, .null, .null, .null, .int 0, .int 0])) ∧ va_P (dC, dI) vwCl (va_pl L G) H ∧ va_D A (va_pl L G) ∧ OK cs ty L G := ⟨_, rfl, hP, hD, hO.up (sh.raw hT_h0)⟩
  have hF_60 : F_58 h0 = .inr (7, [.null, .ref q_1, .ref q_10, .ref q_19, .ref q_25, .ref q_31, .ref q_37, .ref q_43, .ref q_49, .ref q_55, .null, .null, .null, .null, .null, .int 0, .int 0]) := by rw [he_59]; exact up_self
  refine lv_aload_n hx hb dX7_init_123 rfl (lv_at hl 0 rfl) ?_
  refine va_new (ci := 0) (fs := [.null, .int 0, .int 0]) (C := RX0) (T := TX0) (N := 3) hx hb hts it_0 tyX0 tyX0_ok hown (hts _ kt_1063) (hts _ kt_1013) (hts _ kt_1) hK hP hD hS hA rfl df_0 (by show _ + 1 ≤ 40; omega) (by show _ + 3 ≤ 10697; omega) dX7_init_124 (fun q_61 H hPa hDa hS => ?_)
  have hP := left1 hPa
  have hD := left2 hDa
  refine lv_dup hx hb dX7_init_127 rfl ?_
  refine lv_bipush (v := 64) hx hb dX7_init_128 (by decide) ?_
  refine W.eq (g2 := F0 m 130 ls [.int (nI 64), .ref q_61, .ref q_61, .ref h0]) rfl ?_
  have hFc := free1 hDa hS hA
  have hPq := right1 hPa
  refine va_callv (va_runI (As := [.int (nI 64)]) (rest := [.ref q_61, .ref h0]) ⟨hx, hb, hml, hown, hts⟩ (k_X0_init l dC dI cs H.size q_61 64 (ρ + 89) (by omega)) ⟨callB_of 1 hts (gi kt_1014) rfl rfl rfl (hts _ kt_1) (hts _ kt_1064) (by decide +kernel) ⟨Nat.le_of_ble_eq_true rfl, Nat.le_of_ble_eq_true rfl⟩, rfl, (hts _ kt_1016)⟩ ⟨fun a U g mk q => ⟨q.1, PT.calling q.2⟩, fun U hU hWm => ⟨rfl, PT.mk hU hWm hPq hK one1 hE (fun a _ => sh.raw rfl)⟩⟩ rfl rfl hl.1 rfl (lv_room (Nat.le_of_ble_eq_true rfl)) dX7_init_130 ⟨by show _ + 1 ≤ 40; omega, by show _ + 64 ≤ 10697; omega⟩) hS (fun q _ h => hFc q h) hFc (fun u t H1 locs ht hvm hw hB hz1 hk1 hS => ?_)
  obtain ⟨L2, F2, ty2, q_62, hN2, hc1, hc2⟩ := hB
  rw [ht] at hN2
  obtain ⟨L, ty, F_63, hN9, hold, holdF, hnew, hnewF⟩ := join1 hPa hDa hO hW hk1 hFc hN2
  obtain ⟨hP, hD, hO, hW⟩ := hN9
  generalize H1 = H at hP hS ⊢
  have hL_q_61 := (hnew _ hc1).1
  have hT_q_61 := (hnew _ hc1).2.trans hc2
  have hT_h0 := (hold _ hL_h0).2.trans hT_h0
  have hF_h0 := (holdF _ hL_h0).1.trans hF_60
  have hnx_h0 := (holdF _ hL_h0).2
  have hL_h0 := (hold _ hL_h0).1
  have hfs := gr_cons hold hfs hL_q_61 hT_q_61
  refine pg_putF (ci := 7) (v := .ref q_61) (ty := .object "PostGate$Bytes") (C := RX7) (T := TX7) (N := 17) hx hb hts it_7 tyX7 tyX7_ok nmX7 hown hK hP hD hS hL_h0 hF_h0 rfl 10 (by decide) (hts _ kt_360) (fun _ h9 => h9) rfl hin rfl (by decide +kernel) (rfl) (rfl) (Nat.le_of_ble_eq_true rfl) dX7_init_133 (fun H locs hP hD hS => ?_)
  obtain ⟨F_64, he_65, hP, hD, hO⟩ : ∃ G, G = va_up F_63 h0 (.inr (7, [.null, .ref q_1, .ref q_10, .ref q_19, .ref q_25, .ref q_31, .ref q_37, .ref q_43, .ref q_49, .ref q_55, .ref q_61, .null, .null, .null, .null, .int 0, .int 0])) ∧ va_P (dC, dI) vwCl (va_pl L G) H ∧ va_D A (va_pl L G) ∧ OK cs ty L G := ⟨_, rfl, hP, hD, hO.up (sh.raw hT_h0)⟩
  have hF_66 : F_64 h0 = .inr (7, [.null, .ref q_1, .ref q_10, .ref q_19, .ref q_25, .ref q_31, .ref q_37, .ref q_43, .ref q_49, .ref q_55, .ref q_61, .null, .null, .null, .null, .int 0, .int 0]) := by rw [he_65]; exact up_self
  refine lv_aload_n hx hb dX7_init_136 rfl (lv_at hl 0 rfl) ?_
  refine va_new (ci := 0) (fs := [.null, .int 0, .int 0]) (C := RX0) (T := TX0) (N := 3) hx hb hts it_0 tyX0 tyX0_ok hown (hts _ kt_1063) (hts _ kt_1013) (hts _ kt_1) hK hP hD hS hA rfl df_0 (by show _ + 1 ≤ 40; omega) (by show _ + 3 ≤ 10697; omega) dX7_init_137 (fun q_67 H hPa hDa hS => ?_)
  have hP := left1 hPa
  have hD := left2 hDa
  refine lv_dup hx hb dX7_init_140 rfl ?_
  refine lv_sipush (v := 6100) hx hb dX7_init_141 (by decide) ?_
  refine W.eq (g2 := F0 m 144 ls [.int (nI 6100), .ref q_67, .ref q_67, .ref h0]) rfl ?_
  have hFc := free1 hDa hS hA
  have hPq := right1 hPa
  refine va_callv (va_runI (As := [.int (nI 6100)]) (rest := [.ref q_67, .ref h0]) ⟨hx, hb, hml, hown, hts⟩ (k_X0_init l dC dI cs H.size q_67 6100 (ρ + 90) (by omega)) ⟨callB_of 1 hts (gi kt_1014) rfl rfl rfl (hts _ kt_1) (hts _ kt_1064) (by decide +kernel) ⟨Nat.le_of_ble_eq_true rfl, Nat.le_of_ble_eq_true rfl⟩, rfl, (hts _ kt_1016)⟩ ⟨fun a U g mk q => ⟨q.1, PT.calling q.2⟩, fun U hU hWm => ⟨rfl, PT.mk hU hWm hPq hK one1 hE (fun a _ => sh.raw rfl)⟩⟩ rfl rfl hl.1 rfl (lv_room (Nat.le_of_ble_eq_true rfl)) dX7_init_144 ⟨by show _ + 1 ≤ 40; omega, by show _ + 6100 ≤ 10697; omega⟩) hS (fun q _ h => hFc q h) hFc (fun u t H1 locs ht hvm hw hB hz1 hk1 hS => ?_)
  obtain ⟨L2, F2, ty2, q_68, hN2, hc1, hc2⟩ := hB
  rw [ht] at hN2
  obtain ⟨L, ty, F_69, hN9, hold, holdF, hnew, hnewF⟩ := join1 hPa hDa hO hW hk1 hFc hN2
  obtain ⟨hP, hD, hO, hW⟩ := hN9
  generalize H1 = H at hP hS ⊢
  have hL_q_67 := (hnew _ hc1).1
  have hT_q_67 := (hnew _ hc1).2.trans hc2
  have hT_h0 := (hold _ hL_h0).2.trans hT_h0
  have hF_h0 := (holdF _ hL_h0).1.trans hF_66
  have hnx_h0 := (holdF _ hL_h0).2
  have hL_h0 := (hold _ hL_h0).1
  have hfs := gr_cons hold hfs hL_q_67 hT_q_67
  refine pg_putF (ci := 7) (v := .ref q_67) (ty := .object "PostGate$Bytes") (C := RX7) (T := TX7) (N := 17) hx hb hts it_7 tyX7 tyX7_ok nmX7 hown hK hP hD hS hL_h0 hF_h0 rfl 11 (by decide) (hts _ kt_391) (fun _ h9 => h9) rfl hin rfl (by decide +kernel) (rfl) (rfl) (Nat.le_of_ble_eq_true rfl) dX7_init_147 (fun H locs hP hD hS => ?_)
  obtain ⟨F_70, he_71, hP, hD, hO⟩ : ∃ G, G = va_up F_69 h0 (.inr (7, [.null, .ref q_1, .ref q_10, .ref q_19, .ref q_25, .ref q_31, .ref q_37, .ref q_43, .ref q_49, .ref q_55, .ref q_61, .ref q_67, .null, .null, .null, .int 0, .int 0])) ∧ va_P (dC, dI) vwCl (va_pl L G) H ∧ va_D A (va_pl L G) ∧ OK cs ty L G := ⟨_, rfl, hP, hD, hO.up (sh.raw hT_h0)⟩
  have hF_72 : F_70 h0 = .inr (7, [.null, .ref q_1, .ref q_10, .ref q_19, .ref q_25, .ref q_31, .ref q_37, .ref q_43, .ref q_49, .ref q_55, .ref q_61, .ref q_67, .null, .null, .null, .int 0, .int 0]) := by rw [he_71]; exact up_self
  refine lv_aload_n hx hb dX7_init_150 rfl (lv_at hl 0 rfl) ?_
  refine lv_bipush (v := 20) hx hb dX7_init_151 (by decide) ?_
  refine va_newa (atype := .boolean) (ty := .boolean) (a0 := (20, .inl (fun _ => 0))) (N' := 20) hx hb (hts _ kt_1065) rfl hK hP hD hS hA (fun _ => rfl) (by decide) (by decide) (by show _ * 1 ≤ _; omega) (by show _ + 1 ≤ 40; omega) (by show _ + 20 ≤ 10697; omega) dX7_init_153 (fun q_73 cA H hKn hPa hDa hS => ?_)
  obtain rfl := cid_boolean hK hKn
  obtain ⟨L, ty, F_74, hN9, hold, holdF, hL_q_73, hT_q_73, hF_q_73⟩ := grow1 (e := (18, ρ + 91, [20])) hPa hDa hO hW (sh.bits rtf_self ⟨_, rfl⟩) (wta_bits rtf_self trivial)
  obtain ⟨hP, hD, hO, hW⟩ := hN9
  have hT_h0 := (hold _ hL_h0).2.trans hT_h0
  have hF_h0 := (holdF _ hL_h0).1.trans hF_72
  have hne_h0_q_73 := (holdF _ hL_h0).2
  have hL_h0 := (hold _ hL_h0).1
  have hfs := gr_cons hold hfs hL_q_73 hT_q_73
  refine pg_putF (ci := 7) (v := .ref q_73) (ty := .array .boolean) (C := RX7) (T := TX7) (N := 17) hx hb hts it_7 tyX7 tyX7_ok nmX7 hown hK hP hD hS hL_h0 hF_h0 rfl 12 (by decide) (hts _ kt_412) (fun _ h9 => h9) rfl hin rfl (by decide +kernel) (rfl) (rfl) (Nat.le_of_ble_eq_true rfl) dX7_init_155 (fun H locs hP hD hS => ?_)
  obtain ⟨F_75, he_76, hP, hD, hO⟩ : ∃ G, G = va_up F_74 h0 (.inr (7, [.null, .ref q_1, .ref q_10, .ref q_19, .ref q_25, .ref q_31, .ref q_37, .ref q_43, .ref q_49, .ref q_55, .ref q_61, .ref q_67, .ref q_73, .null, .null, .int 0, .int 0])) ∧ va_P (dC, dI) vwCl (va_pl L G) H ∧ va_D A (va_pl L G) ∧ OK cs ty L G := ⟨_, rfl, hP, hD, hO.up (sh.raw hT_h0)⟩
  have hF_77 : F_75 h0 = .inr (7, [.null, .ref q_1, .ref q_10, .ref q_19, .ref q_25, .ref q_31, .ref q_37, .ref q_43, .ref q_49, .ref q_55, .ref q_61, .ref q_67, .ref q_73, .null, .null, .int 0, .int 0]) := by rw [he_76]; exact up_self
  refine lv_aload_n hx hb dX7_init_158 rfl (lv_at hl 0 rfl) ?_
  refine va_new (ci := 8) (fs := [.null, .null, .null]) (C := RX8) (T := TX8) (N := 3) hx hb hts it_8 tyX8 tyX8_ok hown (hts _ kt_1066) (hts _ kt_1067) (hts _ kt_250) hK hP hD hS hA rfl df_8 (by show _ + 1 ≤ 40; omega) (by show _ + 3 ≤ 10697; omega) dX7_init_159 (fun q_78 H hPa hDa hS => ?_)
  have hP := left1 hPa
  have hD := left2 hDa
  refine lv_dup hx hb dX7_init_162 rfl ?_
  refine W.eq (g2 := F0 m 163 ls [.ref q_78, .ref q_78, .ref h0]) rfl ?_
  have hFc := free1 hDa hS hA
  have hPq := right1 hPa
  refine va_callv (va_runIN (As := []) (rest := [.ref q_78, .ref h0]) ⟨hx, hb, hml, hown, hts⟩ (k_X8_init l dC dI cs H.size q_78 (ρ + 6) ) ⟨va_cnB 0 hts (gi kt_1068) rfl rfl rfl (hE.nestw kn_46) (hts _ kt_250) (by decide +kernel) ⟨Nat.le_of_ble_eq_true rfl, Nat.le_of_ble_eq_true rfl⟩, rfl, (hts _ kt_1069)⟩ ⟨fun a U g mk q => ⟨q.1, PT.calling q.2⟩, fun U hU hWm => ⟨rfl, PT.mk hU hWm hPq hK one1 hE (fun a _ => sh.raw rfl)⟩⟩ rfl rfl hl.1 rfl (lv_room (Nat.le_of_ble_eq_true rfl)) dX7_init_163 ⟨by show _ + 3 ≤ 40; omega, by show _ + 80 ≤ 10697; omega⟩) hS (fun q _ h => hFc q h) hFc (fun u t H1 locs ht hvm hw hB hz1 hk1 hS => ?_)
  obtain ⟨L2, F2, ty2, x_79, y_80, w_81, hN2, hc1, hc2⟩ := hB
  rw [ht] at hN2
  obtain ⟨L, ty, F_82, hN9, hold, holdF, hnew, hnewF⟩ := join1 hPa hDa hO hW hk1 hFc hN2
  obtain ⟨hP, hD, hO, hW⟩ := hN9
  generalize H1 = H at hP hS ⊢
  have hL_q_78 := (hnew _ hc1).1
  have hT_q_78 := (hnew _ hc1).2.trans hc2
  have hT_h0 := (hold _ hL_h0).2.trans hT_h0
  have hF_h0 := (holdF _ hL_h0).1.trans hF_77
  have hnx_h0 := (holdF _ hL_h0).2
  have hL_h0 := (hold _ hL_h0).1
  have hfs := gr_cons hold hfs hL_q_78 hT_q_78
  refine pg_putF (ci := 7) (v := .ref q_78) (ty := .object "PostGate$Sha") (C := RX7) (T := TX7) (N := 17) hx hb hts it_7 tyX7 tyX7_ok nmX7 hown hK hP hD hS hL_h0 hF_h0 rfl 13 (by decide) (hts _ kt_396) (fun _ h9 => h9) rfl hin rfl (by decide +kernel) (rfl) (rfl) (Nat.le_of_ble_eq_true rfl) dX7_init_166 (fun H locs hP hD hS => ?_)
  obtain ⟨F_83, he_84, hP, hD, hO⟩ : ∃ G, G = va_up F_82 h0 (.inr (7, [.null, .ref q_1, .ref q_10, .ref q_19, .ref q_25, .ref q_31, .ref q_37, .ref q_43, .ref q_49, .ref q_55, .ref q_61, .ref q_67, .ref q_73, .ref q_78, .null, .int 0, .int 0])) ∧ va_P (dC, dI) vwCl (va_pl L G) H ∧ va_D A (va_pl L G) ∧ OK cs ty L G := ⟨_, rfl, hP, hD, hO.up (sh.raw hT_h0)⟩
  have hF_85 : F_83 h0 = .inr (7, [.null, .ref q_1, .ref q_10, .ref q_19, .ref q_25, .ref q_31, .ref q_37, .ref q_43, .ref q_49, .ref q_55, .ref q_61, .ref q_67, .ref q_73, .ref q_78, .null, .int 0, .int 0]) := by rw [he_84]; exact up_self
  refine lv_aload_n hx hb dX7_init_169 rfl (lv_at hl 0 rfl) ?_
  refine va_new (ci := 6) (fs := [.null, .null, .null, .null, .long 0]) (C := RX6) (T := TX6) (N := 5) hx hb hts it_6 tyX6 tyX6_ok hown (hts _ kt_1070) (hts _ kt_1071) (hts _ kt_275) hK hP hD hS hA rfl df_6 (by show _ + 1 ≤ 40; omega) (by show _ + 5 ≤ 10697; omega) dX7_init_170 (fun q_86 H hPa hDa hS => ?_)
  have hP := left1 hPa
  have hD := left2 hDa
  refine lv_dup hx hb dX7_init_173 rfl ?_
  refine W.eq (g2 := F0 m 174 ls [.ref q_86, .ref q_86, .ref h0]) rfl ?_
  have hFc := free1 hDa hS hA
  have hPq := right1 hPa
  refine va_callv (va_runIN (As := []) (rest := [.ref q_86, .ref h0]) ⟨hx, hb, hml, hown, hts⟩ (k_X6_init l dC dI cs H.size q_86 (ρ + 7) ) ⟨va_cnB 0 hts (gi kt_1072) rfl rfl rfl (hE.nestw kn_47) (hts _ kt_275) (by decide +kernel) ⟨Nat.le_of_ble_eq_true rfl, Nat.le_of_ble_eq_true rfl⟩, rfl, (hts _ kt_1073)⟩ ⟨fun a U g mk q => ⟨q.1, PT.calling q.2⟩, fun U hU hWm => ⟨rfl, PT.mk hU hWm hPq hK one1 hE (fun a _ => sh.raw rfl)⟩⟩ rfl rfl hl.1 rfl (lv_room (Nat.le_of_ble_eq_true rfl)) dX7_init_174 ⟨by show _ + 4 ≤ 40; omega, by show _ + 66 ≤ 10697; omega⟩) hS (fun q _ h => hFc q h) hFc (fun u t H1 locs ht hvm hw hB hz1 hk1 hS => ?_)
  obtain ⟨L2, F2, ty2, x_87, y_88, w_89, u_90, hN2, hc1, hc2⟩ := hB
  rw [ht] at hN2
  obtain ⟨L, ty, F_91, hN9, hold, holdF, hnew, hnewF⟩ := join1 hPa hDa hO hW hk1 hFc hN2
  obtain ⟨hP, hD, hO, hW⟩ := hN9
  generalize H1 = H at hP hS ⊢
  have hL_q_86 := (hnew _ hc1).1
  have hT_q_86 := (hnew _ hc1).2.trans hc2
  have hT_h0 := (hold _ hL_h0).2.trans hT_h0
  have hF_h0 := (holdF _ hL_h0).1.trans hF_85
  have hnx_h0 := (holdF _ hL_h0).2
  have hL_h0 := (hold _ hL_h0).1
  have hfs := gr_cons hold hfs hL_q_86 hT_q_86
  refine pg_putF (ci := 7) (v := .ref q_86) (ty := .object "PostGate$Power") (C := RX7) (T := TX7) (N := 17) hx hb hts it_7 tyX7 tyX7_ok nmX7 hown hK hP hD hS hL_h0 hF_h0 rfl 14 (by decide) (hts _ kt_406) (fun _ h9 => h9) rfl hin rfl (by decide +kernel) (rfl) (rfl) (Nat.le_of_ble_eq_true rfl) dX7_init_177 (fun H locs hP hD hS => ?_)
  obtain ⟨F_92, he_93, hP, hD, hO⟩ : ∃ G, G = va_up F_91 h0 (.inr (7, [.null, .ref q_1, .ref q_10, .ref q_19, .ref q_25, .ref q_31, .ref q_37, .ref q_43, .ref q_49, .ref q_55, .ref q_61, .ref q_67, .ref q_73, .ref q_78, .ref q_86, .int 0, .int 0])) ∧ va_P (dC, dI) vwCl (va_pl L G) H ∧ va_D A (va_pl L G) ∧ OK cs ty L G := ⟨_, rfl, hP, hD, hO.up (sh.raw hT_h0)⟩
  have hF_94 : F_92 h0 = .inr (7, [.null, .ref q_1, .ref q_10, .ref q_19, .ref q_25, .ref q_31, .ref q_37, .ref q_43, .ref q_49, .ref q_55, .ref q_61, .ref q_67, .ref q_73, .ref q_78, .ref q_86, .int 0, .int 0]) := by rw [he_93]; exact up_self
  refine lv_aload_n hx hb dX7_init_180 rfl (lv_at hl 0 rfl) ?_
  refine lv_iconst (v := 0) hx hb dX7_init_181 (by decide) ?_
  refine pg_put (ci := 7) (v := .int 0) (ty := .boolean) (C := RX7) (T := TX7) (N := 17) hx hb hts it_7 tyX7 tyX7_ok nmX7 hown hK hP hD hS hL_h0 hF_94 rfl 15 (by decide) (hts _ kt_326) (fun _ h9 => h9) rfl (by decide +kernel) (rfl) (rfl) (Nat.le_of_ble_eq_true rfl) dX7_init_182 (fun H locs hP hD hS => ?_)
  obtain ⟨F_95, he_96, hP, hD, hO⟩ : ∃ G, G = va_up F_92 h0 (.inr (7, [.null, .ref q_1, .ref q_10, .ref q_19, .ref q_25, .ref q_31, .ref q_37, .ref q_43, .ref q_49, .ref q_55, .ref q_61, .ref q_67, .ref q_73, .ref q_78, .ref q_86, .int 0, .int 0])) ∧ va_P (dC, dI) vwCl (va_pl L G) H ∧ va_D A (va_pl L G) ∧ OK cs ty L G := ⟨_, rfl, hP, hD, hO.up (sh.raw hT_h0)⟩
  have hF_97 : F_95 h0 = .inr (7, [.null, .ref q_1, .ref q_10, .ref q_19, .ref q_25, .ref q_31, .ref q_37, .ref q_43, .ref q_49, .ref q_55, .ref q_61, .ref q_67, .ref q_73, .ref q_78, .ref q_86, .int 0, .int 0]) := by rw [he_96]; exact up_self
  refine lv_aload_n hx hb dX7_init_185 rfl (lv_at hl 0 rfl) ?_
  refine lv_iconst (v := 0) hx hb dX7_init_186 (by decide) ?_
  refine pg_put (ci := 7) (v := .int 0) (ty := .boolean) (C := RX7) (T := TX7) (N := 17) hx hb hts it_7 tyX7 tyX7_ok nmX7 hown hK hP hD hS hL_h0 hF_97 rfl 16 (by decide) (hts _ kt_327) (fun _ h9 => h9) rfl (by decide +kernel) (rfl) (rfl) (Nat.le_of_ble_eq_true rfl) dX7_init_187 (fun H locs hP hD hS => ?_)
  obtain ⟨F_98, he_99, hP, hD, hO⟩ : ∃ G, G = va_up F_95 h0 (.inr (7, [.null, .ref q_1, .ref q_10, .ref q_19, .ref q_25, .ref q_31, .ref q_37, .ref q_43, .ref q_49, .ref q_55, .ref q_61, .ref q_67, .ref q_73, .ref q_78, .ref q_86, .int 0, .int 0])) ∧ va_P (dC, dI) vwCl (va_pl L G) H ∧ va_D A (va_pl L G) ∧ OK cs ty L G := ⟨_, rfl, hP, hD, hO.up (sh.raw hT_h0)⟩
  have hF_100 : F_98 h0 = .inr (7, [.null, .ref q_1, .ref q_10, .ref q_19, .ref q_25, .ref q_31, .ref q_37, .ref q_43, .ref q_49, .ref q_55, .ref q_61, .ref q_67, .ref q_73, .ref q_78, .ref q_86, .int 0, .int 0]) := by rw [he_99]; exact up_self
  refine lv_aload_n hx hb dX7_init_190 rfl (lv_at hl 0 rfl) ?_
  refine lv_aload_n hx hb dX7_init_191 rfl (lv_at hl 1 rfl) ?_
  refine pg_putF (ci := 7) (v := .ref d) (ty := .object "PostGate$Directory") (C := RX7) (T := TX7) (N := 17) hx hb hts it_7 tyX7 tyX7_ok nmX7 hown hK hP hD hS hL_h0 hF_100 rfl 0 (by decide) (hts _ kt_372) (fun _ h9 => h9) rfl hin rfl (by decide +kernel) (rfl) (rfl) (Nat.le_of_ble_eq_true rfl) dX7_init_192 (fun H locs hP hD hS => ?_)
  obtain ⟨F_101, he_102, hP, hD, hO⟩ : ∃ G, G = va_up F_98 h0 (.inr (7, [.ref d, .ref q_1, .ref q_10, .ref q_19, .ref q_25, .ref q_31, .ref q_37, .ref q_43, .ref q_49, .ref q_55, .ref q_61, .ref q_67, .ref q_73, .ref q_78, .ref q_86, .int 0, .int 0])) ∧ va_P (dC, dI) vwCl (va_pl L G) H ∧ va_D A (va_pl L G) ∧ OK cs ty L G := ⟨_, rfl, hP, hD, hO.up (sh.raw hT_h0)⟩
  have hF_103 : F_101 h0 = .inr (7, [.ref d, .ref q_1, .ref q_10, .ref q_19, .ref q_25, .ref q_31, .ref q_37, .ref q_43, .ref q_49, .ref q_55, .ref q_61, .ref q_67, .ref q_73, .ref q_78, .ref q_86, .int 0, .int 0]) := by rw [he_102]; exact up_self
  refine W.widen (k := 40) (n := 10697) (by omega) (by omega) ?_
  exact W.vret hx hb hr (fun t ht hWm => ⟨⟨(), rfl, trivial, ⟨L, F_101, ty, q_1, x_2, y0_3, y1_4, y2_5, q_10, x_11, y0_12, y1_13, y2_14, q_19, q_20, q_25, q_26, q_31, q_32, q_37, q_38, q_43, q_44, q_49, q_50, q_55, q_56, q_61, q_62, q_67, q_68, q_73, q_78, x_79, y_80, w_81, q_86, x_87, y_88, w_89, u_90, (by rw [ht]; exact ⟨hP, hD, hO, hW⟩), hL_h0, hT_h0, hF_103, fsub hfs (by simp)⟩⟩, hS.F ht⟩) hS.2.2 dX7_init_195
set_option maxHeartbeats 4000000 in
set_option maxRecDepth 100000 in
theorem k_X4_init_x (l : Launch) (dC : Nat → ClassId) (dI : Nat → Nat → Nat) (cs : Nat → ClassId) (sz : Nat) (h0 : Nat) (ρ : Nat) : Met l yX4_init (.code yX4_init cX4_init 1 none :: tb) ({ frames := 2, cells := 5, slots := 3063, locals := 33 }) (va_Pc [.ref h0] (PT (dC, dI) cs RAWT [h0] (fun _ => .inr (4, [.null, .null, .null, .null, .int 0, .int 0])) sz)) (va_Qv (fun _ : Unit => True) (fun _ T9 => ∃ (L2 : List Nat) (F2 : Nat → va_E) (ty2 : TyM), ∃ x : Nat, ∃ y0 : Nat, ∃ y1 : Nat, ∃ y2 : Nat, NEW (dC, dI) cs ty2 L2 F2 (va_A (va_pl [h0] (fun _ => .inr (4, [.null, .null, .null, .null, .int 0, .int 0]))) sz) T9.heap ∧ h0 ∈ L2 ∧ ty2 h0 = (4, ρ, [x, y0, y1, y2]) ∧ F2 h0 = .inr (4, [.ref x, .ref y0, .ref y1, .ref y2, .int 0, .int 0])) (va_A (va_pl [h0] (fun _ => .inr (4, [.null, .null, .null, .null, .int 0, .int 0]))) sz)) 5 3063 (va_A (va_pl [h0] (fun _ => .inr (4, [.null, .null, .null, .null, .int 0, .int 0]))) sz) := by
  refine Met.ofW (cc := cX4_init) (maxL := 1) (ret := none) (by decide) rfl ?_
  intro p e s m args below meth c s₁ B hml hv
  obtain ⟨rfl, hsz, hP, hK, hD0, hE, hO⟩ := hv
  have hx := B.exec
  have hb := B.bytes
  have hr := B.returns
  have hts : ∀ w ∈ tb, w.before _ s = true := fun w h => atoms_spec (ws := .code yX4_init cX4_init 1 none :: tb) B.pre w (List.mem_cons_of_mem _ h)
  have hown : s.vm.findClass RX4 = some m.cls := findClass_of_methodNamed B.named
  have hin : meth.name = "<init>" := (name_of_methodNamed B.named B.method).1
  have hlocks := B.notSynchronized
  subst hsz
  have hD := hD0.self (sz := s.heap.size)
  generalize hAe : va_A (va_pl [h0] (fun _ => .inr (4, [.null, .null, .null, .null, .int 0, .int 0]))) s.heap.size = A at hD ⊢
  have hA : ∀ q : Nat, s.heap.size ≤ q → A q := fun q h => by rw [← hAe]; exact Or.inr h
  have hS : va_S A s.heap s.heap [] := va_S.rf
  have hl := lv_entry ([.ref h0]) (n := 1) (Nat.le_of_ble_eq_true rfl)
  rw [lg_entry_eq]
  generalize (lg_sl ([.ref h0]) ++ List.replicate (1 - (lg_sl ([.ref h0])).length) Slot.unset).toArray = ls at hl ⊢
  have hl : lv_has ls 1 [(0, .ref h0)] := hl
  obtain ⟨L, ty, F, hN, hL_h0, hT_h0, hF_h0⟩ : ∃ (L : List Nat) (t9 : TyM) (F : Nat → va_E), NEW (dC, dI) cs t9 L F A s.heap ∧ h0 ∈ L ∧ t9 h0 = (99, 0, []) ∧ F h0 = .inr (4, [.null, .null, .null, .null, .int 0, .int 0]) := ⟨[h0], RAWT, fun _ => .inr (4, [.null, .null, .null, .null, .int 0, .int 0]), ⟨hP, hD, hO, fun a _ => wta_raw rfl⟩, List.mem_singleton.mpr rfl, rfl, rfl⟩
  obtain ⟨hP, hD, hO, hW⟩ := hN
  have hfs : ∀ p ∈ ([] : List (Nat × TyE)), p.1 ∈ L ∧ ty p.1 = p.2 := fun p h => absurd h List.not_mem_nil
  refine lv_aload_n hx hb dX4_init_0 rfl (lv_at hl 0 rfl) ?_
  refine W.objInit hx hb hown (hts _ kt_1028) (hts _ kt_1009) (hts _ kt_1010) rfl (by rw [hml]; exact hl.1) rfl dX4_init_1 (Nat.le_of_ble_eq_true rfl) (Nat.le_of_ble_eq_true rfl) ?_
  refine W.eq (g2 := F0 m 4 ls []) rfl ?_
  refine lv_aload_n hx hb dX4_init_4 rfl (lv_at hl 0 rfl) ?_
  refine va_new (ci := 0) (fs := [.null, .int 0, .int 0]) (C := RX0) (T := TX0) (N := 3) hx hb hts it_0 tyX0 tyX0_ok hown (hts _ kt_1029) (hts _ kt_1013) (hts _ kt_1) hK hP hD hS hA rfl df_0 (by show _ + 1 ≤ 5; omega) (by show _ + 3 ≤ 3063; omega) dX4_init_5 (fun q_1 H hPa hDa hS => ?_)
  have hP := left1 hPa
  have hD := left2 hDa
  refine lv_dup hx hb dX4_init_8 rfl ?_
  refine lv_sipush (v := 3000) hx hb dX4_init_9 (by decide) ?_
  refine W.eq (g2 := F0 m 12 ls [.int (nI 3000), .ref q_1, .ref q_1, .ref h0]) rfl ?_
  have hFc := free1 hDa hS hA
  have hPq := right1 hPa
  refine va_callv (va_runI (As := [.int (nI 3000)]) (rest := [.ref q_1, .ref h0]) ⟨hx, hb, hml, hown, hts⟩ (k_X0_init l dC dI cs H.size q_1 3000 (ρ + 1) (by omega)) ⟨callB_of 1 hts (gi kt_1014) rfl rfl rfl (hts _ kt_1) (hts _ kt_1030) (by decide +kernel) ⟨Nat.le_of_ble_eq_true rfl, Nat.le_of_ble_eq_true rfl⟩, rfl, (hts _ kt_1016)⟩ ⟨fun a U g mk q => ⟨q.1, PT.calling q.2⟩, fun U hU hWm => ⟨rfl, PT.mk hU hWm hPq hK one1 hE (fun a _ => sh.raw rfl)⟩⟩ rfl rfl hl.1 rfl (lv_room (Nat.le_of_ble_eq_true rfl)) dX4_init_12 ⟨by show _ + 1 ≤ 5; omega, by show _ + 3000 ≤ 3063; omega⟩) hS (fun q _ h => hFc q h) hFc (fun u t H1 locs ht hvm hw hB hz1 hk1 hS => ?_)
  obtain ⟨L2, F2, ty2, q_2, hN2, hc1, hc2⟩ := hB
  rw [ht] at hN2
  obtain ⟨L, ty, F_3, hN9, hold, holdF, hnew, hnewF⟩ := join1 hPa hDa hO hW hk1 hFc hN2
  obtain ⟨hP, hD, hO, hW⟩ := hN9
  generalize H1 = H at hP hS ⊢
  have hL_q_1 := (hnew _ hc1).1
  have hT_q_1 := (hnew _ hc1).2.trans hc2
  have hT_h0 := (hold _ hL_h0).2.trans hT_h0
  have hF_h0 := (holdF _ hL_h0).1.trans hF_h0
  have hnx_h0 := (holdF _ hL_h0).2
  have hL_h0 := (hold _ hL_h0).1
  have hfs := gr_cons hold hfs hL_q_1 hT_q_1
  refine pg_putF (ci := 4) (v := .ref q_1) (ty := .object "PostGate$Bytes") (C := RX4) (T := TX4) (N := 6) hx hb hts it_4 tyX4 tyX4_ok nmX4 hown hK hP hD hS hL_h0 hF_h0 rfl 0 (by decide) (hts _ kt_207) (fun _ h9 => h9) rfl hin rfl (by decide +kernel) (rfl) (rfl) (Nat.le_of_ble_eq_true rfl) dX4_init_15 (fun H locs hP hD hS => ?_)
  obtain ⟨F_4, he_5, hP, hD, hO⟩ : ∃ G, G = va_up F_3 h0 (.inr (4, [.ref q_1, .null, .null, .null, .int 0, .int 0])) ∧ va_P (dC, dI) vwCl (va_pl L G) H ∧ va_D A (va_pl L G) ∧ OK cs ty L G := ⟨_, rfl, hP, hD, hO.up (sh.raw hT_h0)⟩
  have hF_6 : F_4 h0 = .inr (4, [.ref q_1, .null, .null, .null, .int 0, .int 0]) := by rw [he_5]; exact up_self
  refine lv_aload_n hx hb dX4_init_18 rfl (lv_at hl 0 rfl) ?_
  refine lv_bipush (v := 20) hx hb dX4_init_19 (by decide) ?_
  refine va_newa (atype := .int) (ty := .int) (a0 := (20, .inl (fun _ => 0))) (N' := 20) hx hb (hts _ kt_1007) rfl hK hP hD hS hA (fun _ => rfl) (by decide) (by decide) (by show _ * 4 ≤ _; omega) (by show _ + 1 ≤ 5; omega) (by show _ + 20 ≤ 3063; omega) dX4_init_21 (fun q_7 cA H hKn hPa hDa hS => ?_)
  obtain rfl := cid_int hK hKn
  obtain ⟨L, ty, F_8, hN9, hold, holdF, hL_q_7, hT_q_7, hF_q_7⟩ := grow1 (e := (24, ρ, [20])) hPa hDa hO hW (sh.idx rtf_self ⟨_, rfl, fun _ => ⟨0, Nat.zero_le _, rfl⟩⟩) (wta_idx rtf_self trivial)
  obtain ⟨hP, hD, hO, hW⟩ := hN9
  have hT_h0 := (hold _ hL_h0).2.trans hT_h0
  have hF_h0 := (holdF _ hL_h0).1.trans hF_6
  have hne_h0_q_7 := (holdF _ hL_h0).2
  have hL_h0 := (hold _ hL_h0).1
  have hfs := gr_cons hold hfs hL_q_7 hT_q_7
  refine pg_putF (ci := 4) (v := .ref q_7) (ty := .array .int) (C := RX4) (T := TX4) (N := 6) hx hb hts it_4 tyX4 tyX4_ok nmX4 hown hK hP hD hS hL_h0 hF_h0 rfl 1 (by decide) (hts _ kt_205) (fun _ h9 => h9) rfl hin rfl (by decide +kernel) (rfl) (rfl) (Nat.le_of_ble_eq_true rfl) dX4_init_23 (fun H locs hP hD hS => ?_)
  obtain ⟨F_9, he_10, hP, hD, hO⟩ : ∃ G, G = va_up F_8 h0 (.inr (4, [.ref q_1, .ref q_7, .null, .null, .int 0, .int 0])) ∧ va_P (dC, dI) vwCl (va_pl L G) H ∧ va_D A (va_pl L G) ∧ OK cs ty L G := ⟨_, rfl, hP, hD, hO.up (sh.raw hT_h0)⟩
  have hF_11 : F_9 h0 = .inr (4, [.ref q_1, .ref q_7, .null, .null, .int 0, .int 0]) := by rw [he_10]; exact up_self
  refine lv_aload_n hx hb dX4_init_26 rfl (lv_at hl 0 rfl) ?_
  refine lv_bipush (v := 20) hx hb dX4_init_27 (by decide) ?_
  refine va_newa (atype := .int) (ty := .int) (a0 := (20, .inl (fun _ => 0))) (N' := 20) hx hb (hts _ kt_1007) rfl hK hP hD hS hA (fun _ => rfl) (by decide) (by decide) (by show _ * 4 ≤ _; omega) (by show _ + 1 ≤ 5; omega) (by show _ + 20 ≤ 3063; omega) dX4_init_29 (fun q_12 cA H hKn hPa hDa hS => ?_)
  obtain rfl := cid_int hK hKn
  obtain ⟨L, ty, F_13, hN9, hold, holdF, hL_q_12, hT_q_12, hF_q_12⟩ := grow1 (e := (24, ρ + 2, [20])) hPa hDa hO hW (sh.idx rtf_self ⟨_, rfl, fun _ => ⟨0, Nat.zero_le _, rfl⟩⟩) (wta_idx rtf_self trivial)
  obtain ⟨hP, hD, hO, hW⟩ := hN9
  have hT_h0 := (hold _ hL_h0).2.trans hT_h0
  have hF_h0 := (holdF _ hL_h0).1.trans hF_11
  have hne_h0_q_12 := (holdF _ hL_h0).2
  have hL_h0 := (hold _ hL_h0).1
  have hfs := gr_cons hold hfs hL_q_12 hT_q_12
  refine pg_putF (ci := 4) (v := .ref q_12) (ty := .array .int) (C := RX4) (T := TX4) (N := 6) hx hb hts it_4 tyX4 tyX4_ok nmX4 hown hK hP hD hS hL_h0 hF_h0 rfl 2 (by decide) (hts _ kt_204) (fun _ h9 => h9) rfl hin rfl (by decide +kernel) (rfl) (rfl) (Nat.le_of_ble_eq_true rfl) dX4_init_31 (fun H locs hP hD hS => ?_)
  obtain ⟨F_14, he_15, hP, hD, hO⟩ : ∃ G, G = va_up F_13 h0 (.inr (4, [.ref q_1, .ref q_7, .ref q_12, .null, .int 0, .int 0])) ∧ va_P (dC, dI) vwCl (va_pl L G) H ∧ va_D A (va_pl L G) ∧ OK cs ty L G := ⟨_, rfl, hP, hD, hO.up (sh.raw hT_h0)⟩
  have hF_16 : F_14 h0 = .inr (4, [.ref q_1, .ref q_7, .ref q_12, .null, .int 0, .int 0]) := by rw [he_15]; exact up_self
  refine lv_aload_n hx hb dX4_init_34 rfl (lv_at hl 0 rfl) ?_
  refine lv_bipush (v := 20) hx hb dX4_init_35 (by decide) ?_
  refine va_newa (atype := .int) (ty := .int) (a0 := (20, .inl (fun _ => 0))) (N' := 20) hx hb (hts _ kt_1007) rfl hK hP hD hS hA (fun _ => rfl) (by decide) (by decide) (by show _ * 4 ≤ _; omega) (by show _ + 1 ≤ 5; omega) (by show _ + 20 ≤ 3063; omega) dX4_init_37 (fun q_17 cA H hKn hPa hDa hS => ?_)
  obtain rfl := cid_int hK hKn
  obtain ⟨L, ty, F_18, hN9, hold, holdF, hL_q_17, hT_q_17, hF_q_17⟩ := grow1 (e := (24, ρ + 3, [20])) hPa hDa hO hW (sh.idx rtf_self ⟨_, rfl, fun _ => ⟨0, Nat.zero_le _, rfl⟩⟩) (wta_idx rtf_self trivial)
  obtain ⟨hP, hD, hO, hW⟩ := hN9
  have hT_h0 := (hold _ hL_h0).2.trans hT_h0
  have hF_h0 := (holdF _ hL_h0).1.trans hF_16
  have hne_h0_q_17 := (holdF _ hL_h0).2
  have hL_h0 := (hold _ hL_h0).1
  have hfs := gr_cons hold hfs hL_q_17 hT_q_17
  refine pg_putF (ci := 4) (v := .ref q_17) (ty := .array .int) (C := RX4) (T := TX4) (N := 6) hx hb hts it_4 tyX4 tyX4_ok nmX4 hown hK hP hD hS hL_h0 hF_h0 rfl 3 (by decide) (hts _ kt_220) (fun _ h9 => h9) rfl hin rfl (by decide +kernel) (rfl) (rfl) (Nat.le_of_ble_eq_true rfl) dX4_init_39 (fun H locs hP hD hS => ?_)
  obtain ⟨F_19, he_20, hP, hD, hO⟩ : ∃ G, G = va_up F_18 h0 (.inr (4, [.ref q_1, .ref q_7, .ref q_12, .ref q_17, .int 0, .int 0])) ∧ va_P (dC, dI) vwCl (va_pl L G) H ∧ va_D A (va_pl L G) ∧ OK cs ty L G := ⟨_, rfl, hP, hD, hO.up (sh.raw hT_h0)⟩
  have hF_21 : F_19 h0 = .inr (4, [.ref q_1, .ref q_7, .ref q_12, .ref q_17, .int 0, .int 0]) := by rw [he_20]; exact up_self
  refine lv_aload_n hx hb dX4_init_42 rfl (lv_at hl 0 rfl) ?_
  refine lv_iconst (v := 0) hx hb dX4_init_43 (by decide) ?_
  refine pg_put (ci := 4) (v := .int 0) (ty := .int) (C := RX4) (T := TX4) (N := 6) hx hb hts it_4 tyX4 tyX4_ok nmX4 hown hK hP hD hS hL_h0 hF_21 rfl 4 (by decide) (hts _ kt_203) (fun _ h9 => h9) rfl (by decide +kernel) (rfl) (rfl) (Nat.le_of_ble_eq_true rfl) dX4_init_44 (fun H locs hP hD hS => ?_)
  obtain ⟨F_22, he_23, hP, hD, hO⟩ : ∃ G, G = va_up F_19 h0 (.inr (4, [.ref q_1, .ref q_7, .ref q_12, .ref q_17, .int 0, .int 0])) ∧ va_P (dC, dI) vwCl (va_pl L G) H ∧ va_D A (va_pl L G) ∧ OK cs ty L G := ⟨_, rfl, hP, hD, hO.up (sh.raw hT_h0)⟩
  have hF_24 : F_22 h0 = .inr (4, [.ref q_1, .ref q_7, .ref q_12, .ref q_17, .int 0, .int 0]) := by rw [he_23]; exact up_self
  refine lv_aload_n hx hb dX4_init_47 rfl (lv_at hl 0 rfl) ?_
  refine lv_iconst (v := 0) hx hb dX4_init_48 (by decide) ?_
  refine pg_put (ci := 4) (v := .int 0) (ty := .int) (C := RX4) (T := TX4) (N := 6) hx hb hts it_4 tyX4 tyX4_ok nmX4 hown hK hP hD hS hL_h0 hF_24 rfl 5 (by decide) (hts _ kt_225) (fun _ h9 => h9) rfl (by decide +kernel) (rfl) (rfl) (Nat.le_of_ble_eq_true rfl) dX4_init_49 (fun H locs hP hD hS => ?_)
  obtain ⟨F_25, he_26, hP, hD, hO⟩ : ∃ G, G = va_up F_22 h0 (.inr (4, [.ref q_1, .ref q_7, .ref q_12, .ref q_17, .int 0, .int 0])) ∧ va_P (dC, dI) vwCl (va_pl L G) H ∧ va_D A (va_pl L G) ∧ OK cs ty L G := ⟨_, rfl, hP, hD, hO.up (sh.raw hT_h0)⟩
  have hF_27 : F_25 h0 = .inr (4, [.ref q_1, .ref q_7, .ref q_12, .ref q_17, .int 0, .int 0]) := by rw [he_26]; exact up_self
  have hr9 : (ty h0).1 = 99 := by rw [hT_h0]
  have hN9 : NEW (dC, dI) cs (rtf ty h0 (4, ρ, [q_1, q_7, q_12, q_17])) L F_25 A H := NEW.into ⟨hP, hD, hO, hW⟩ hr9 (by rw [hF_27]; exact sh.msg rtf_self ⟨0, 0, rfl, (by first | omega | assumption | exact Or.inl rfl | exact Or.inr rfl)⟩) (wta_msg rtf_self ⟨(hfs _ (List.mem_cons_of_mem _ (List.mem_cons_of_mem _ (List.mem_cons_of_mem _ (List.mem_cons_self))))).1, (hfs _ (List.mem_cons_of_mem _ (List.mem_cons_of_mem _ (List.mem_cons_self)))).1, (hfs _ (List.mem_cons_of_mem _ (List.mem_cons_self))).1, (hfs _ (List.mem_cons_self)).1, ⟨_, rtf_old hr9 (hfs _ (List.mem_cons_of_mem _ (List.mem_cons_of_mem _ (List.mem_cons_of_mem _ (List.mem_cons_self))))).2 (by decide)⟩, rtf_old hr9 (hfs _ (List.mem_cons_of_mem _ (List.mem_cons_of_mem _ (List.mem_cons_self)))).2 (by decide), rtf_old hr9 (hfs _ (List.mem_cons_of_mem _ (List.mem_cons_self))).2 (by decide), rtf_old hr9 (hfs _ (List.mem_cons_self)).2 (by decide)⟩)
  refine W.widen (k := 5) (n := 3063) (by omega) (by omega) ?_
  exact W.vret hx hb hr (fun t ht hWm => ⟨⟨(), rfl, trivial, ⟨L, F_25, rtf ty h0 (4, ρ, [q_1, q_7, q_12, q_17]), q_1, q_7, q_12, q_17, (by rw [ht]; exact hN9), hL_h0, rtf_self, hF_27⟩⟩, hS.F ht⟩) hS.2.2 dX4_init_52
set_option maxHeartbeats 4000000 in
set_option maxRecDepth 100000 in
theorem k_X11_init (l : Launch) (dC : Nat → ClassId) (dI : Nat → Nat → Nat) (cs : Nat → ClassId) (sz : Nat) (h0 : Nat) (ρ : Nat) : Met l yX11_init (.code yX11_init cX11_init 1 none :: tb) ({ frames := 4, cells := 323, slots := 55814, locals := 75 }) (va_Pc [.ref h0] (PT (dC, dI) cs RAWT [h0] (fun _ => .inr (11, [.null, .null, .null, .null, .null, .null, .null, .null, .null])) sz)) (va_Qv (fun _ : Unit => True) (fun _ T9 => ∃ (L2 : List Nat) (F2 : Nat → va_E) (ty2 : TyM), ∃ ta : Nat, ∃ ou : Nat, ∃ di : Nat, ∃ ea : Nat, ∃ ck : Nat, ∃ sl : Nat, ∃ po : Nat, ∃ hs : Nat, ∃ le : Nat, ∃ sp : Nat, ∃ x : Nat, ∃ y0 : Nat, ∃ y1 : Nat, ∃ y2 : Nat, ∃ x9 : Nat, ∃ w0 : Nat, ∃ w1 : Nat, ∃ w2 : Nat, ∃ ca0 : Nat, ∃ ca1 : Nat, ∃ ca2 : Nat, ∃ ca3 : Nat, ∃ cnm : Nat, ∃ cte : Nat, NEW (dC, dI) cs ty2 L2 F2 (va_A (va_pl [h0] (fun _ => .inr (11, [.null, .null, .null, .null, .null, .null, .null, .null, .null]))) sz) T9.heap ∧ h0 ∈ L2 ∧ ty2 h0 = (11, ρ, [ta, ou, di, ea, ck, sl, po, hs]) ∧ TS F2 ta 0 ∧ F2 di = .inr (2, [.ref ea, .int 0]) ∧ F2 le = .inr (4, [.ref x, .ref y0, .ref y1, .ref y2, .int 0, .int 0]) ∧ F2 h0 = .inr (11, [.ref ta, .ref ou, .ref di, .ref ck, .ref sl, .ref po, .ref hs, .ref le, .ref sp]) ∧ le ∈ L2 ∧ ty2 le = (4, ρ + 20, [x, y0, y1, y2]) ∧ sp ∈ L2 ∧ ty2 sp = (4, ρ + 30, [x9, w0, w1, w2]) ∧ TS F2 ou 0 ∧ F2 ck = .inr (1, [.ref di, .ref ca0, .ref ca1, .ref ca2, .ref ca3, .ref cnm, .ref cte, .int 0, .int 0, .int 0, .int 0]) ∧ ck ∈ L2 ∧ ty2 ck = (1, ρ + 5, [di, ρ + 3, ea, ca0, ca1, ca2, ca3, cnm, cte])) (va_A (va_pl [h0] (fun _ => .inr (11, [.null, .null, .null, .null, .null, .null, .null, .null, .null]))) sz)) 323 55814 (va_A (va_pl [h0] (fun _ => .inr (11, [.null, .null, .null, .null, .null, .null, .null, .null, .null]))) sz) := by
  refine Met.ofW (cc := cX11_init) (maxL := 1) (ret := none) (by decide) rfl ?_
  intro p e s m args below meth c s₁ B hml hv
  obtain ⟨rfl, hsz, hP, hK, hD0, hE, hO⟩ := hv
  have hx := B.exec
  have hb := B.bytes
  have hr := B.returns
  have hts : ∀ w ∈ tb, w.before _ s = true := fun w h => atoms_spec (ws := .code yX11_init cX11_init 1 none :: tb) B.pre w (List.mem_cons_of_mem _ h)
  have hown : s.vm.findClass RX11 = some m.cls := findClass_of_methodNamed B.named
  have hin : meth.name = "<init>" := (name_of_methodNamed B.named B.method).1
  have hlocks := B.notSynchronized
  subst hsz
  have hD := hD0.self (sz := s.heap.size)
  generalize hAe : va_A (va_pl [h0] (fun _ => .inr (11, [.null, .null, .null, .null, .null, .null, .null, .null, .null]))) s.heap.size = A at hD ⊢
  have hA : ∀ q : Nat, s.heap.size ≤ q → A q := fun q h => by rw [← hAe]; exact Or.inr h
  have hS : va_S A s.heap s.heap [] := va_S.rf
  have hl := lv_entry ([.ref h0]) (n := 1) (Nat.le_of_ble_eq_true rfl)
  rw [lg_entry_eq]
  generalize (lg_sl ([.ref h0]) ++ List.replicate (1 - (lg_sl ([.ref h0])).length) Slot.unset).toArray = ls at hl ⊢
  have hl : lv_has ls 1 [(0, .ref h0)] := hl
  obtain ⟨L, ty, F, hN, hL_h0, hT_h0, hF_h0⟩ : ∃ (L : List Nat) (t9 : TyM) (F : Nat → va_E), NEW (dC, dI) cs t9 L F A s.heap ∧ h0 ∈ L ∧ t9 h0 = (99, 0, []) ∧ F h0 = .inr (11, [.null, .null, .null, .null, .null, .null, .null, .null, .null]) := ⟨[h0], RAWT, fun _ => .inr (11, [.null, .null, .null, .null, .null, .null, .null, .null, .null]), ⟨hP, hD, hO, fun a _ => wta_raw rfl⟩, List.mem_singleton.mpr rfl, rfl, rfl⟩
  obtain ⟨hP, hD, hO, hW⟩ := hN
  have hfs : ∀ p ∈ ([] : List (Nat × TyE)), p.1 ∈ L ∧ ty p.1 = p.2 := fun p h => absurd h List.not_mem_nil
  refine lv_aload_n hx hb dX11_init_0 rfl (lv_at hl 0 rfl) ?_
  refine W.objInit hx hb hown (hts _ kt_1074) (hts _ kt_1009) (hts _ kt_1010) rfl (by rw [hml]; exact hl.1) rfl dX11_init_1 (Nat.le_of_ble_eq_true rfl) (Nat.le_of_ble_eq_true rfl) ?_
  refine W.eq (g2 := F0 m 4 ls []) rfl ?_
  refine lv_aload_n hx hb dX11_init_4 rfl (lv_at hl 0 rfl) ?_
  refine va_new (ci := 0) (fs := [.null, .int 0, .int 0]) (C := RX0) (T := TX0) (N := 3) hx hb hts it_0 tyX0 tyX0_ok hown (hts _ kt_1075) (hts _ kt_1013) (hts _ kt_1) hK hP hD hS hA rfl df_0 (by show _ + 1 ≤ 323; omega) (by show _ + 3 ≤ 55814; omega) dX11_init_5 (fun q_1 H hPa hDa hS => ?_)
  have hP := left1 hPa
  have hD := left2 hDa
  refine lv_dup hx hb dX11_init_8 rfl ?_
  refine lv_sipush (v := 3000) hx hb dX11_init_9 (by decide) ?_
  refine W.eq (g2 := F0 m 12 ls [.int (nI 3000), .ref q_1, .ref q_1, .ref h0]) rfl ?_
  have hFc := free1 hDa hS hA
  have hPq := right1 hPa
  refine va_callv (va_runI (As := [.int (nI 3000)]) (rest := [.ref q_1, .ref h0]) ⟨hx, hb, hml, hown, hts⟩ (k_X0_init_x l dC dI cs H.size q_1 3000 (ρ + 1) (by omega)) ⟨callB_of 1 hts (gi kt_1014) rfl rfl rfl (hts _ kt_1) (hts _ kt_1076) (by decide +kernel) ⟨Nat.le_of_ble_eq_true rfl, Nat.le_of_ble_eq_true rfl⟩, rfl, (hts _ kt_1016)⟩ ⟨fun a U g mk q => ⟨q.1, PT.calling q.2⟩, fun U hU hWm => ⟨rfl, PT.mk hU hWm hPq hK one1 hE (fun a _ => sh.raw rfl)⟩⟩ rfl rfl hl.1 rfl (lv_room (Nat.le_of_ble_eq_true rfl)) dX11_init_12 ⟨by show _ + 1 ≤ 323; omega, by show _ + 3000 ≤ 55814; omega⟩) hS (fun q _ h => hFc q h) hFc (fun u t H1 locs ht hvm hw hB hz1 hk1 hS => ?_)
  obtain ⟨L2, F2, ty2, q_2, hN2, hc1, hc2, hc_4⟩ := hB
  rw [ht] at hN2
  obtain ⟨L, ty, F_3, hN9, hold, holdF, hnew, hnewF⟩ := join1 hPa hDa hO hW hk1 hFc hN2
  obtain ⟨hP, hD, hO, hW⟩ := hN9
  generalize H1 = H at hP hS ⊢
  have hL_q_1 := (hnew _ hc1).1
  have hT_q_1 := (hnew _ hc1).2.trans hc2
  have hT_h0 := (hold _ hL_h0).2.trans hT_h0
  have hF_h0 := (holdF _ hL_h0).1.trans hF_h0
  have hnx_h0 := (holdF _ hL_h0).2
  have hL_h0 := (hold _ hL_h0).1
  have hfs := gr_cons hold hfs hL_q_1 hT_q_1
  have hwF_q_1 : F_3 q_1 = .inr (0, [.ref q_2, .int 0, .int 0]) := (hnewF _ hc1).trans hc_4
  refine pg_putF (ci := 11) (v := .ref q_1) (ty := .object "PostGate$Bytes") (C := RX11) (T := TX11) (N := 9) hx hb hts it_11 tyX11 tyX11_ok nmX11 hown hK hP hD hS hL_h0 hF_h0 rfl 0 (by decide) (hts _ kt_509) (fun _ h9 => h9) rfl hin rfl (by decide +kernel) (rfl) (rfl) (Nat.le_of_ble_eq_true rfl) dX11_init_15 (fun H locs hP hD hS => ?_)
  obtain ⟨F_5, he_6, hP, hD, hO⟩ : ∃ G, G = va_up F_3 h0 (.inr (11, [.ref q_1, .null, .null, .null, .null, .null, .null, .null, .null])) ∧ va_P (dC, dI) vwCl (va_pl L G) H ∧ va_D A (va_pl L G) ∧ OK cs ty L G := ⟨_, rfl, hP, hD, hO.up (sh.raw hT_h0)⟩
  have hF_7 : F_5 h0 = .inr (11, [.ref q_1, .null, .null, .null, .null, .null, .null, .null, .null]) := by rw [he_6]; exact up_self
  have hwF_q_1 : F_5 q_1 = .inr (0, [.ref q_2, .int 0, .int 0]) := by rw [he_6, up_ne (ne_ty (hfs _ (List.mem_cons_self)).2 hT_h0 (by simp))]; exact hwF_q_1
  refine lv_aload_n hx hb dX11_init_18 rfl (lv_at hl 0 rfl) ?_
  refine va_new (ci := 0) (fs := [.null, .int 0, .int 0]) (C := RX0) (T := TX0) (N := 3) hx hb hts it_0 tyX0 tyX0_ok hown (hts _ kt_1075) (hts _ kt_1013) (hts _ kt_1) hK hP hD hS hA rfl df_0 (by show _ + 1 ≤ 323; omega) (by show _ + 3 ≤ 55814; omega) dX11_init_19 (fun q_8 H hPa hDa hS => ?_)
  have hP := left1 hPa
  have hD := left2 hDa
  refine lv_dup hx hb dX11_init_22 rfl ?_
  refine lv_sipush (v := 3000) hx hb dX11_init_23 (by decide) ?_
  refine W.eq (g2 := F0 m 26 ls [.int (nI 3000), .ref q_8, .ref q_8, .ref h0]) rfl ?_
  have hFc := free1 hDa hS hA
  have hPq := right1 hPa
  refine va_callv (va_runI (As := [.int (nI 3000)]) (rest := [.ref q_8, .ref h0]) ⟨hx, hb, hml, hown, hts⟩ (k_X0_init_x l dC dI cs H.size q_8 3000 (ρ + 2) (by omega)) ⟨callB_of 1 hts (gi kt_1014) rfl rfl rfl (hts _ kt_1) (hts _ kt_1076) (by decide +kernel) ⟨Nat.le_of_ble_eq_true rfl, Nat.le_of_ble_eq_true rfl⟩, rfl, (hts _ kt_1016)⟩ ⟨fun a U g mk q => ⟨q.1, PT.calling q.2⟩, fun U hU hWm => ⟨rfl, PT.mk hU hWm hPq hK one1 hE (fun a _ => sh.raw rfl)⟩⟩ rfl rfl hl.1 rfl (lv_room (Nat.le_of_ble_eq_true rfl)) dX11_init_26 ⟨by show _ + 1 ≤ 323; omega, by show _ + 3000 ≤ 55814; omega⟩) hS (fun q _ h => hFc q h) hFc (fun u t H1 locs ht hvm hw hB hz1 hk1 hS => ?_)
  obtain ⟨L2, F2, ty2, q_9, hN2, hc1, hc2, hc_11⟩ := hB
  rw [ht] at hN2
  obtain ⟨L, ty, F_10, hN9, hold, holdF, hnew, hnewF⟩ := join1 hPa hDa hO hW hk1 hFc hN2
  obtain ⟨hP, hD, hO, hW⟩ := hN9
  generalize H1 = H at hP hS ⊢
  have hL_q_8 := (hnew _ hc1).1
  have hT_q_8 := (hnew _ hc1).2.trans hc2
  have hT_h0 := (hold _ hL_h0).2.trans hT_h0
  have hF_h0 := (holdF _ hL_h0).1.trans hF_7
  have hnx_h0 := (holdF _ hL_h0).2
  have hL_h0 := (hold _ hL_h0).1
  have hwF_q_1 := (holdF _ (hfs _ (List.mem_cons_self)).1).1.trans hwF_q_1
  have hfs := gr_cons hold hfs hL_q_8 hT_q_8
  have hwF_q_8 : F_10 q_8 = .inr (0, [.ref q_9, .int 0, .int 0]) := (hnewF _ hc1).trans hc_11
  refine pg_putF (ci := 11) (v := .ref q_8) (ty := .object "PostGate$Bytes") (C := RX11) (T := TX11) (N := 9) hx hb hts it_11 tyX11 tyX11_ok nmX11 hown hK hP hD hS hL_h0 hF_h0 rfl 1 (by decide) (hts _ kt_526) (fun _ h9 => h9) rfl hin rfl (by decide +kernel) (rfl) (rfl) (Nat.le_of_ble_eq_true rfl) dX11_init_29 (fun H locs hP hD hS => ?_)
  obtain ⟨F_12, he_13, hP, hD, hO⟩ : ∃ G, G = va_up F_10 h0 (.inr (11, [.ref q_1, .ref q_8, .null, .null, .null, .null, .null, .null, .null])) ∧ va_P (dC, dI) vwCl (va_pl L G) H ∧ va_D A (va_pl L G) ∧ OK cs ty L G := ⟨_, rfl, hP, hD, hO.up (sh.raw hT_h0)⟩
  have hF_14 : F_12 h0 = .inr (11, [.ref q_1, .ref q_8, .null, .null, .null, .null, .null, .null, .null]) := by rw [he_13]; exact up_self
  have hwF_q_1 : F_12 q_1 = .inr (0, [.ref q_2, .int 0, .int 0]) := by rw [he_13, up_ne (ne_ty (hfs _ (List.mem_cons_of_mem _ (List.mem_cons_self))).2 hT_h0 (by simp))]; exact hwF_q_1
  have hwF_q_8 : F_12 q_8 = .inr (0, [.ref q_9, .int 0, .int 0]) := by rw [he_13, up_ne (ne_ty (hfs _ (List.mem_cons_self)).2 hT_h0 (by simp))]; exact hwF_q_8
  refine lv_aload_n hx hb dX11_init_32 rfl (lv_at hl 0 rfl) ?_
  refine va_new (ci := 2) (fs := [.null, .int 0]) (C := RX2) (T := TX2) (N := 2) hx hb hts it_2 tyX2 tyX2_ok hown (hts _ kt_1077) (hts _ kt_1078) (hts _ kt_103) hK hP hD hS hA rfl df_2 (by show _ + 1 ≤ 323; omega) (by show _ + 2 ≤ 55814; omega) dX11_init_33 (fun q_15 H hPa hDa hS => ?_)
  have hP := left1 hPa
  have hD := left2 hDa
  refine lv_dup hx hb dX11_init_36 rfl ?_
  refine W.eq (g2 := F0 m 37 ls [.ref q_15, .ref q_15, .ref h0]) rfl ?_
  have hFc := free1 hDa hS hA
  have hPq := right1 hPa
  refine va_callv (va_runI (As := []) (rest := [.ref q_15, .ref h0]) ⟨hx, hb, hml, hown, hts⟩ (k_X2_init l dC dI cs H.size q_15 (ρ + 3) ) ⟨callB_of 0 hts (gi kt_1079) rfl rfl rfl (hts _ kt_103) (hts _ kt_1080) (by decide +kernel) ⟨Nat.le_of_ble_eq_true rfl, Nat.le_of_ble_eq_true rfl⟩, rfl, (hts _ kt_1081)⟩ ⟨fun a U g mk q => ⟨q.1, PT.calling q.2⟩, fun U hU hWm => ⟨rfl, PT.mk hU hWm hPq hK one1 hE (fun a _ => sh.raw rfl)⟩⟩ rfl rfl hl.1 rfl (lv_room (Nat.le_of_ble_eq_true rfl)) dX11_init_37 ⟨by show _ + 201 ≤ 323; omega, by show _ + 30840 ≤ 55814; omega⟩) hS (fun q _ h => hFc q h) hFc (fun u t H1 locs ht hvm hw hB hz1 hk1 hS => ?_)
  obtain ⟨L2, F2, ty2, x_16, hN2, hc1, hc2, hc_18⟩ := hB
  rw [ht] at hN2
  obtain ⟨L, ty, F_17, hN9, hold, holdF, hnew, hnewF⟩ := join1 hPa hDa hO hW hk1 hFc hN2
  obtain ⟨hP, hD, hO, hW⟩ := hN9
  generalize H1 = H at hP hS ⊢
  have hL_q_15 := (hnew _ hc1).1
  have hT_q_15 := (hnew _ hc1).2.trans hc2
  have hT_h0 := (hold _ hL_h0).2.trans hT_h0
  have hF_h0 := (holdF _ hL_h0).1.trans hF_14
  have hnx_h0 := (holdF _ hL_h0).2
  have hL_h0 := (hold _ hL_h0).1
  have hwF_q_1 := (holdF _ (hfs _ (List.mem_cons_of_mem _ (List.mem_cons_self))).1).1.trans hwF_q_1
  have hwF_q_8 := (holdF _ (hfs _ (List.mem_cons_self)).1).1.trans hwF_q_8
  have hfs := gr_cons hold hfs hL_q_15 hT_q_15
  have hwF_q_15 : F_17 q_15 = .inr (2, [.ref x_16, .int 0]) := (hnewF _ hc1).trans hc_18
  refine pg_putF (ci := 11) (v := .ref q_15) (ty := .object "PostGate$Directory") (C := RX11) (T := TX11) (N := 9) hx hb hts it_11 tyX11 tyX11_ok nmX11 hown hK hP hD hS hL_h0 hF_h0 rfl 2 (by decide) (hts _ kt_512) (fun _ h9 => h9) rfl hin rfl (by decide +kernel) (rfl) (rfl) (Nat.le_of_ble_eq_true rfl) dX11_init_40 (fun H locs hP hD hS => ?_)
  obtain ⟨F_19, he_20, hP, hD, hO⟩ : ∃ G, G = va_up F_17 h0 (.inr (11, [.ref q_1, .ref q_8, .ref q_15, .null, .null, .null, .null, .null, .null])) ∧ va_P (dC, dI) vwCl (va_pl L G) H ∧ va_D A (va_pl L G) ∧ OK cs ty L G := ⟨_, rfl, hP, hD, hO.up (sh.raw hT_h0)⟩
  have hF_21 : F_19 h0 = .inr (11, [.ref q_1, .ref q_8, .ref q_15, .null, .null, .null, .null, .null, .null]) := by rw [he_20]; exact up_self
  have hwF_q_1 : F_19 q_1 = .inr (0, [.ref q_2, .int 0, .int 0]) := by rw [he_20, up_ne (ne_ty (hfs _ (List.mem_cons_of_mem _ (List.mem_cons_of_mem _ (List.mem_cons_self)))).2 hT_h0 (by simp))]; exact hwF_q_1
  have hwF_q_8 : F_19 q_8 = .inr (0, [.ref q_9, .int 0, .int 0]) := by rw [he_20, up_ne (ne_ty (hfs _ (List.mem_cons_of_mem _ (List.mem_cons_self))).2 hT_h0 (by simp))]; exact hwF_q_8
  have hwF_q_15 : F_19 q_15 = .inr (2, [.ref x_16, .int 0]) := by rw [he_20, up_ne (ne_ty (hfs _ (List.mem_cons_self)).2 hT_h0 (by simp))]; exact hwF_q_15
  refine lv_aload_n hx hb dX11_init_43 rfl (lv_at hl 0 rfl) ?_
  refine va_new (ci := 1) (fs := [.null, .null, .null, .null, .null, .null, .null, .int 0, .int 0, .int 0, .int 0]) (C := RX1) (T := TX1) (N := 11) hx hb hts it_1 tyX1 tyX1_ok hown (hts _ kt_1082) (hts _ kt_1083) (hts _ kt_572) hK hP hD hS hA rfl df_1 (by show _ + 1 ≤ 323; omega) (by show _ + 11 ≤ 55814; omega) dX11_init_44 (fun q_22 H hPa hDa hS => ?_)
  have hP := left1 hPa
  have hD := left2 hDa
  refine lv_dup hx hb dX11_init_47 rfl ?_
  refine lv_aload_n hx hb dX11_init_48 rfl (lv_at hl 0 rfl) ?_
  refine pg_get (ci := 11) (v := .ref q_15) (C := RX11) (T := TX11) (N := 9) hx hb hts it_11 hown hK hP hL_h0 hF_21 rfl 2 (by decide) (hts _ kt_512) (fun _ h9 => h9) rfl dX11_init_49 ?_
  refine W.eq (g2 := F0 m 52 ls [.ref q_15, .ref q_22, .ref q_22, .ref h0]) rfl ?_
  have hFc := free1 hDa hS hA
  have hPq := right1 hPa
  refine va_callv (va_runI (As := [.ref q_15]) (rest := [.ref q_22, .ref h0]) ⟨hx, hb, hml, hown, hts⟩ (k_X1_init l dC dI cs H.size q_22 q_15 (ρ + 5) ) ⟨callB_of 1 hts (gi kt_1084) rfl rfl rfl (hts _ kt_572) (hts _ kt_1085) (by decide +kernel) ⟨Nat.le_of_ble_eq_true rfl, Nat.le_of_ble_eq_true rfl⟩, rfl, (hts _ kt_1086)⟩ ⟨fun a U g mk q => ⟨q.1, PT.calling q.2⟩, fun U hU hWm => ⟨rfl, PT.mk hU hWm hPq hK one1 hE (fun a _ => sh.raw rfl)⟩⟩ rfl rfl hl.1 rfl (lv_room (Nat.le_of_ble_eq_true rfl)) dX11_init_52 ⟨by show _ + 45 ≤ 323; omega, by show _ + 1053 ≤ 55814; omega⟩) hS (fun q _ h => hFc q h) hFc (fun u t H1 locs ht hvm hw hB hz1 hk1 hS => ?_)
  obtain ⟨L2, F2, ty2, w0_23, r0_24, w1_25, r1_26, w2_27, r2_28, w3_29, r3_30, nm_31, te_32, hN2, hc1, hc2, hc_34, hc_35⟩ := hB
  rw [ht] at hN2
  obtain ⟨L, ty, F_33, hN9, hold, holdF, hnew, hnewF⟩ := join1 hPa hDa hO hW hk1 hFc hN2
  obtain ⟨hP, hD, hO, hW⟩ := hN9
  generalize H1 = H at hP hS ⊢
  have hL_q_22 := (hnew _ hc1).1
  have hT_q_22 := (hnew _ hc1).2.trans hc2
  have hT_h0 := (hold _ hL_h0).2.trans hT_h0
  have hF_h0 := (holdF _ hL_h0).1.trans hF_21
  have hnx_h0 := (holdF _ hL_h0).2
  have hL_h0 := (hold _ hL_h0).1
  have hwF_q_1 := (holdF _ (hfs _ (List.mem_cons_of_mem _ (List.mem_cons_of_mem _ (List.mem_cons_self)))).1).1.trans hwF_q_1
  have hwF_q_8 := (holdF _ (hfs _ (List.mem_cons_of_mem _ (List.mem_cons_self))).1).1.trans hwF_q_8
  have hwF_q_15 := (holdF _ (hfs _ (List.mem_cons_self)).1).1.trans hwF_q_15
  have hfs : ∀ p ∈ ([(w0_23, (0, ρ + 36, [r0_24, 91])), (w1_25, (0, ρ + 37, [r1_26, 30])), (w2_27, (0, ρ + 38, [r2_28, 60])), (w3_29, (0, ρ + 39, [r3_30, 15])), (nm_31, (20, ρ + 40, [12])), (te_32, (22, ρ + 41, [11])), (q_15, (2, ρ + 3, [x_16])), (q_8, (0, ρ + 2, [q_9, 3000])), (q_1, (0, ρ + 1, [q_2, 3000]))] : List (Nat × TyE)), p.1 ∈ L ∧ ty p.1 = p.2 := gr_app hold hnew hfs hc_35
  have hF_q_22 : F_33 q_22 = .inr (1, [.ref q_15, .ref w0_23, .ref w1_25, .ref w2_27, .ref w3_29, .ref nm_31, .ref te_32, .int 0, .int 0, .int 0, .int 0]) := (hnewF _ hc1).trans hc_34
  have hne_h0_q_22 : h0 ≠ q_22 := fun w => hnx_h0 (w ▸ hc1)
  refine pg_putF (ci := 11) (v := .ref q_22) (ty := .object "PostGate$Checker") (C := RX11) (T := TX11) (N := 9) hx hb hts it_11 tyX11 tyX11_ok nmX11 hown hK hP hD hS hL_h0 hF_h0 rfl 3 (by decide) (hts _ kt_517) (fun _ h9 => h9) rfl hin rfl (by decide +kernel) (rfl) (rfl) (Nat.le_of_ble_eq_true rfl) dX11_init_55 (fun H locs hP hD hS => ?_)
  obtain ⟨F_36, he_37, hP, hD, hO⟩ : ∃ G, G = va_up F_33 h0 (.inr (11, [.ref q_1, .ref q_8, .ref q_15, .ref q_22, .null, .null, .null, .null, .null])) ∧ va_P (dC, dI) vwCl (va_pl L G) H ∧ va_D A (va_pl L G) ∧ OK cs ty L G := ⟨_, rfl, hP, hD, hO.up (sh.raw hT_h0)⟩
  have hF_38 : F_36 h0 = .inr (11, [.ref q_1, .ref q_8, .ref q_15, .ref q_22, .null, .null, .null, .null, .null]) := by rw [he_37]; exact up_self
  have hF_39 : F_36 q_22 = .inr (1, [.ref q_15, .ref w0_23, .ref w1_25, .ref w2_27, .ref w3_29, .ref nm_31, .ref te_32, .int 0, .int 0, .int 0, .int 0]) := by rw [he_37, up_ne hne_h0_q_22.symm]; exact hF_q_22
  have hwF_q_1 : F_36 q_1 = .inr (0, [.ref q_2, .int 0, .int 0]) := by rw [he_37, up_ne (ne_ty (hfs _ (List.mem_cons_of_mem _ (List.mem_cons_of_mem _ (List.mem_cons_of_mem _ (List.mem_cons_of_mem _ (List.mem_cons_of_mem _ (List.mem_cons_of_mem _ (List.mem_cons_of_mem _ (List.mem_cons_of_mem _ (List.mem_cons_self)))))))))).2 hT_h0 (by simp))]; exact hwF_q_1
  have hwF_q_8 : F_36 q_8 = .inr (0, [.ref q_9, .int 0, .int 0]) := by rw [he_37, up_ne (ne_ty (hfs _ (List.mem_cons_of_mem _ (List.mem_cons_of_mem _ (List.mem_cons_of_mem _ (List.mem_cons_of_mem _ (List.mem_cons_of_mem _ (List.mem_cons_of_mem _ (List.mem_cons_of_mem _ (List.mem_cons_self))))))))).2 hT_h0 (by simp))]; exact hwF_q_8
  have hwF_q_15 : F_36 q_15 = .inr (2, [.ref x_16, .int 0]) := by rw [he_37, up_ne (ne_ty (hfs _ (List.mem_cons_of_mem _ (List.mem_cons_of_mem _ (List.mem_cons_of_mem _ (List.mem_cons_of_mem _ (List.mem_cons_of_mem _ (List.mem_cons_of_mem _ (List.mem_cons_self)))))))).2 hT_h0 (by simp))]; exact hwF_q_15
  refine lv_aload_n hx hb dX11_init_58 rfl (lv_at hl 0 rfl) ?_
  refine va_new (ci := 7) (fs := [.null, .null, .null, .null, .null, .null, .null, .null, .null, .null, .null, .null, .null, .null, .null, .int 0, .int 0]) (C := RX7) (T := TX7) (N := 17) hx hb hts it_7 tyX7 tyX7_ok hown (hts _ kt_1087) (hts _ kt_1088) (hts _ kt_322) hK hP hD hS hA rfl df_7 (by show _ + 1 ≤ 323; omega) (by show _ + 17 ≤ 55814; omega) dX11_init_59 (fun q_40 H hPa hDa hS => ?_)
  have hP := left1 hPa
  have hD := left2 hDa
  refine lv_dup hx hb dX11_init_62 rfl ?_
  refine lv_aload_n hx hb dX11_init_63 rfl (lv_at hl 0 rfl) ?_
  refine pg_get (ci := 11) (v := .ref q_15) (C := RX11) (T := TX11) (N := 9) hx hb hts it_11 hown hK hP hL_h0 hF_38 rfl 2 (by decide) (hts _ kt_512) (fun _ h9 => h9) rfl dX11_init_64 ?_
  refine W.eq (g2 := F0 m 67 ls [.ref q_15, .ref q_40, .ref q_40, .ref h0]) rfl ?_
  have hFc := free1 hDa hS hA
  have hPq := right1 hPa
  refine va_callv (va_runI (As := [.ref q_15]) (rest := [.ref q_40, .ref h0]) ⟨hx, hb, hml, hown, hts⟩ (k_X7_init l dC dI cs H.size q_40 q_15 (ρ + 7) ) ⟨callB_of 1 hts (gi kt_1089) rfl rfl rfl (hts _ kt_322) (hts _ kt_1090) (by decide +kernel) ⟨Nat.le_of_ble_eq_true rfl, Nat.le_of_ble_eq_true rfl⟩, rfl, (hts _ kt_1091)⟩ ⟨fun a U g mk q => ⟨q.1, PT.calling q.2⟩, fun U hU hWm => ⟨rfl, PT.mk hU hWm hPq hK one1 hE (fun a _ => sh.raw rfl)⟩⟩ rfl rfl hl.1 rfl (lv_room (Nat.le_of_ble_eq_true rfl)) dX11_init_67 ⟨by show _ + 40 ≤ 323; omega, by show _ + 10697 ≤ 55814; omega⟩) hS (fun q _ h => hFc q h) hFc (fun u t H1 locs ht hvm hw hB hz1 hk1 hS => ?_)
  obtain ⟨L2, F2, ty2, sl_41, sx_42, sy0_43, sy1_44, sy2_45, ke_46, kx_47, ky0_48, ky1_49, ky2_50, w0_51, r0_52, w1_53, r1_54, w2_55, r2_56, w3_57, r3_58, w4_59, r4_60, w5_61, r5_62, w6_63, r6_64, w7_65, r7_66, w8_67, r8_68, tk_69, hs_70, hx_71, hy_72, hw_73, pw_74, px_75, py_76, pz_77, pu_78, hN2, hc1, hc2, hc_80, hc_81⟩ := hB
  rw [ht] at hN2
  obtain ⟨L, ty, F_79, hN9, hold, holdF, hnew, hnewF⟩ := join1 hPa hDa hO hW hk1 hFc hN2
  obtain ⟨hP, hD, hO, hW⟩ := hN9
  generalize H1 = H at hP hS ⊢
  have hL_q_40 := (hnew _ hc1).1
  have hT_q_40 := (hnew _ hc1).2.trans hc2
  have hT_h0 := (hold _ hL_h0).2.trans hT_h0
  have hF_h0 := (holdF _ hL_h0).1.trans hF_38
  have hnx_h0 := (holdF _ hL_h0).2
  have hL_h0 := (hold _ hL_h0).1
  have hT_q_22 := (hold _ hL_q_22).2.trans hT_q_22
  have hF_q_22 := (holdF _ hL_q_22).1.trans hF_39
  have hnx_q_22 := (holdF _ hL_q_22).2
  have hL_q_22 := (hold _ hL_q_22).1
  have hwF_q_1 := (holdF _ (hfs _ (List.mem_cons_of_mem _ (List.mem_cons_of_mem _ (List.mem_cons_of_mem _ (List.mem_cons_of_mem _ (List.mem_cons_of_mem _ (List.mem_cons_of_mem _ (List.mem_cons_of_mem _ (List.mem_cons_of_mem _ (List.mem_cons_self)))))))))).1).1.trans hwF_q_1
  have hwF_q_8 := (holdF _ (hfs _ (List.mem_cons_of_mem _ (List.mem_cons_of_mem _ (List.mem_cons_of_mem _ (List.mem_cons_of_mem _ (List.mem_cons_of_mem _ (List.mem_cons_of_mem _ (List.mem_cons_of_mem _ (List.mem_cons_self))))))))).1).1.trans hwF_q_8
  have hwF_q_15 := (holdF _ (hfs _ (List.mem_cons_of_mem _ (List.mem_cons_of_mem _ (List.mem_cons_of_mem _ (List.mem_cons_of_mem _ (List.mem_cons_of_mem _ (List.mem_cons_of_mem _ (List.mem_cons_self)))))))).1).1.trans hwF_q_15
  have hfs : ∀ p ∈ ([(sl_41, (9, ρ + 9, [sx_42, 3000, sy0_43, sy1_44, sy2_45])), (ke_46, (9, ρ + 11, [kx_47, 700, ky0_48, ky1_49, ky2_50])), (w0_51, (0, ρ + 89, [r0_52, 60])), (w1_53, (0, ρ + 90, [r1_54, 60])), (w2_55, (0, ρ + 91, [r2_56, 32])), (w3_57, (0, ρ + 92, [r3_58, 64])), (w4_59, (0, ρ + 93, [r4_60, 64])), (w5_61, (0, ρ + 94, [r5_62, 32])), (w6_63, (0, ρ + 95, [r6_64, 64])), (w7_65, (0, ρ + 96, [r7_66, 64])), (w8_67, (0, ρ + 97, [r8_68, 6100])), (tk_69, (18, ρ + 98, [20])), (hs_70, (8, ρ + 13, [hx_71, hy_72, hw_73])), (pw_74, (6, ρ + 14, [px_75, py_76, pz_77, pu_78])), (w0_23, (0, ρ + 36, [r0_24, 91])), (w1_25, (0, ρ + 37, [r1_26, 30])), (w2_27, (0, ρ + 38, [r2_28, 60])), (w3_29, (0, ρ + 39, [r3_30, 15])), (nm_31, (20, ρ + 40, [12])), (te_32, (22, ρ + 41, [11])), (q_15, (2, ρ + 3, [x_16])), (q_8, (0, ρ + 2, [q_9, 3000])), (q_1, (0, ρ + 1, [q_2, 3000]))] : List (Nat × TyE)), p.1 ∈ L ∧ ty p.1 = p.2 := gr_app hold hnew hfs hc_81
  have hF_q_40 : F_79 q_40 = .inr (7, [.ref q_15, .ref sl_41, .ref ke_46, .ref w0_51, .ref w1_53, .ref w2_55, .ref w3_57, .ref w4_59, .ref w5_61, .ref w6_63, .ref w7_65, .ref w8_67, .ref tk_69, .ref hs_70, .ref pw_74, .int 0, .int 0]) := (hnewF _ hc1).trans hc_80
  have hne_h0_q_40 : h0 ≠ q_40 := fun w => hnx_h0 (w ▸ hc1)
  have hne_q_22_q_40 : q_22 ≠ q_40 := fun w => hnx_q_22 (w ▸ hc1)
  refine pg_putF (ci := 11) (v := .ref q_40) (ty := .object "PostGate$Sealer") (C := RX11) (T := TX11) (N := 9) hx hb hts it_11 tyX11 tyX11_ok nmX11 hown hK hP hD hS hL_h0 hF_h0 rfl 4 (by decide) (hts _ kt_521) (fun _ h9 => h9) rfl hin rfl (by decide +kernel) (rfl) (rfl) (Nat.le_of_ble_eq_true rfl) dX11_init_70 (fun H locs hP hD hS => ?_)
  obtain ⟨F_82, he_83, hP, hD, hO⟩ : ∃ G, G = va_up F_79 h0 (.inr (11, [.ref q_1, .ref q_8, .ref q_15, .ref q_22, .ref q_40, .null, .null, .null, .null])) ∧ va_P (dC, dI) vwCl (va_pl L G) H ∧ va_D A (va_pl L G) ∧ OK cs ty L G := ⟨_, rfl, hP, hD, hO.up (sh.raw hT_h0)⟩
  have hF_84 : F_82 h0 = .inr (11, [.ref q_1, .ref q_8, .ref q_15, .ref q_22, .ref q_40, .null, .null, .null, .null]) := by rw [he_83]; exact up_self
  have hF_85 : F_82 q_22 = .inr (1, [.ref q_15, .ref w0_23, .ref w1_25, .ref w2_27, .ref w3_29, .ref nm_31, .ref te_32, .int 0, .int 0, .int 0, .int 0]) := by rw [he_83, up_ne hne_h0_q_22.symm]; exact hF_q_22
  have hF_86 : F_82 q_40 = .inr (7, [.ref q_15, .ref sl_41, .ref ke_46, .ref w0_51, .ref w1_53, .ref w2_55, .ref w3_57, .ref w4_59, .ref w5_61, .ref w6_63, .ref w7_65, .ref w8_67, .ref tk_69, .ref hs_70, .ref pw_74, .int 0, .int 0]) := by rw [he_83, up_ne hne_h0_q_40.symm]; exact hF_q_40
  have hwF_q_1 : F_82 q_1 = .inr (0, [.ref q_2, .int 0, .int 0]) := by rw [he_83, up_ne (ne_ty (hfs _ (List.mem_cons_of_mem _ (List.mem_cons_of_mem _ (List.mem_cons_of_mem _ (List.mem_cons_of_mem _ (List.mem_cons_of_mem _ (List.mem_cons_of_mem _ (List.mem_cons_of_mem _ (List.mem_cons_of_mem _ (List.mem_cons_of_mem _ (List.mem_cons_of_mem _ (List.mem_cons_of_mem _ (List.mem_cons_of_mem _ (List.mem_cons_of_mem _ (List.mem_cons_of_mem _ (List.mem_cons_of_mem _ (List.mem_cons_of_mem _ (List.mem_cons_of_mem _ (List.mem_cons_of_mem _ (List.mem_cons_of_mem _ (List.mem_cons_of_mem _ (List.mem_cons_of_mem _ (List.mem_cons_of_mem _ (List.mem_cons_self)))))))))))))))))))))))).2 hT_h0 (by simp))]; exact hwF_q_1
  have hwF_q_8 : F_82 q_8 = .inr (0, [.ref q_9, .int 0, .int 0]) := by rw [he_83, up_ne (ne_ty (hfs _ (List.mem_cons_of_mem _ (List.mem_cons_of_mem _ (List.mem_cons_of_mem _ (List.mem_cons_of_mem _ (List.mem_cons_of_mem _ (List.mem_cons_of_mem _ (List.mem_cons_of_mem _ (List.mem_cons_of_mem _ (List.mem_cons_of_mem _ (List.mem_cons_of_mem _ (List.mem_cons_of_mem _ (List.mem_cons_of_mem _ (List.mem_cons_of_mem _ (List.mem_cons_of_mem _ (List.mem_cons_of_mem _ (List.mem_cons_of_mem _ (List.mem_cons_of_mem _ (List.mem_cons_of_mem _ (List.mem_cons_of_mem _ (List.mem_cons_of_mem _ (List.mem_cons_of_mem _ (List.mem_cons_self))))))))))))))))))))))).2 hT_h0 (by simp))]; exact hwF_q_8
  have hwF_q_15 : F_82 q_15 = .inr (2, [.ref x_16, .int 0]) := by rw [he_83, up_ne (ne_ty (hfs _ (List.mem_cons_of_mem _ (List.mem_cons_of_mem _ (List.mem_cons_of_mem _ (List.mem_cons_of_mem _ (List.mem_cons_of_mem _ (List.mem_cons_of_mem _ (List.mem_cons_of_mem _ (List.mem_cons_of_mem _ (List.mem_cons_of_mem _ (List.mem_cons_of_mem _ (List.mem_cons_of_mem _ (List.mem_cons_of_mem _ (List.mem_cons_of_mem _ (List.mem_cons_of_mem _ (List.mem_cons_of_mem _ (List.mem_cons_of_mem _ (List.mem_cons_of_mem _ (List.mem_cons_of_mem _ (List.mem_cons_of_mem _ (List.mem_cons_of_mem _ (List.mem_cons_self)))))))))))))))))))))).2 hT_h0 (by simp))]; exact hwF_q_15
  refine lv_aload_n hx hb dX11_init_73 rfl (lv_at hl 0 rfl) ?_
  refine va_new (ci := 5) (fs := [.null, .null, .null, .null, .int 0, .int 0, .int 0]) (C := RX5) (T := TX5) (N := 7) hx hb hts it_5 tyX5 tyX5_ok hown (hts _ kt_1092) (hts _ kt_1093) (hts _ kt_471) hK hP hD hS hA rfl df_5 (by show _ + 1 ≤ 323; omega) (by show _ + 7 ≤ 55814; omega) dX11_init_74 (fun q_87 H hPa hDa hS => ?_)
  have hP := left1 hPa
  have hD := left2 hDa
  refine lv_dup hx hb dX11_init_77 rfl ?_
  refine lv_aload_n hx hb dX11_init_78 rfl (lv_at hl 0 rfl) ?_
  refine pg_get (ci := 11) (v := .ref q_15) (C := RX11) (T := TX11) (N := 9) hx hb hts it_11 hown hK hP hL_h0 hF_84 rfl 2 (by decide) (hts _ kt_512) (fun _ h9 => h9) rfl dX11_init_79 ?_
  refine W.eq (g2 := F0 m 82 ls [.ref q_15, .ref q_87, .ref q_87, .ref h0]) rfl ?_
  have hFc := free1 hDa hS hA
  have hPq := right1 hPa
  refine va_callv (va_runI (As := [.ref q_15]) (rest := [.ref q_87, .ref h0]) ⟨hx, hb, hml, hown, hts⟩ (k_X5_init l dC dI cs H.size q_87 q_15 (ρ + 15) ) ⟨callB_of 1 hts (gi kt_1094) rfl rfl rfl (hts _ kt_471) (hts _ kt_1095) (by decide +kernel) ⟨Nat.le_of_ble_eq_true rfl, Nat.le_of_ble_eq_true rfl⟩, rfl, (hts _ kt_1096)⟩ ⟨fun a U g mk q => ⟨q.1, PT.calling q.2⟩, fun U hU hWm => ⟨rfl, PT.mk hU hWm hPq hK one1 hE (fun a _ => sh.raw rfl)⟩⟩ rfl rfl hl.1 rfl (lv_room (Nat.le_of_ble_eq_true rfl)) dX11_init_82 ⟨by show _ + 13 ≤ 323; omega, by show _ + 960 ≤ 55814; omega⟩) hS (fun q _ h => hFc q h) hFc (fun u t H1 locs ht hvm hw hB hz1 hk1 hS => ?_)
  obtain ⟨L2, F2, ty2, w0_88, r0_89, w1_90, r1_91, rc_92, rx_93, ry0_94, ry1_95, ry2_96, hN2, hc1, hc2, hc_98, hc_99⟩ := hB
  rw [ht] at hN2
  obtain ⟨L, ty, F_97, hN9, hold, holdF, hnew, hnewF⟩ := join1 hPa hDa hO hW hk1 hFc hN2
  obtain ⟨hP, hD, hO, hW⟩ := hN9
  generalize H1 = H at hP hS ⊢
  have hL_q_87 := (hnew _ hc1).1
  have hT_q_87 := (hnew _ hc1).2.trans hc2
  have hT_h0 := (hold _ hL_h0).2.trans hT_h0
  have hF_h0 := (holdF _ hL_h0).1.trans hF_84
  have hnx_h0 := (holdF _ hL_h0).2
  have hL_h0 := (hold _ hL_h0).1
  have hT_q_22 := (hold _ hL_q_22).2.trans hT_q_22
  have hF_q_22 := (holdF _ hL_q_22).1.trans hF_85
  have hnx_q_22 := (holdF _ hL_q_22).2
  have hL_q_22 := (hold _ hL_q_22).1
  have hT_q_40 := (hold _ hL_q_40).2.trans hT_q_40
  have hF_q_40 := (holdF _ hL_q_40).1.trans hF_86
  have hnx_q_40 := (holdF _ hL_q_40).2
  have hL_q_40 := (hold _ hL_q_40).1
  have hwF_q_1 := (holdF _ (hfs _ (List.mem_cons_of_mem _ (List.mem_cons_of_mem _ (List.mem_cons_of_mem _ (List.mem_cons_of_mem _ (List.mem_cons_of_mem _ (List.mem_cons_of_mem _ (List.mem_cons_of_mem _ (List.mem_cons_of_mem _ (List.mem_cons_of_mem _ (List.mem_cons_of_mem _ (List.mem_cons_of_mem _ (List.mem_cons_of_mem _ (List.mem_cons_of_mem _ (List.mem_cons_of_mem _ (List.mem_cons_of_mem _ (List.mem_cons_of_mem _ (List.mem_cons_of_mem _ (List.mem_cons_of_mem _ (List.mem_cons_of_mem _ (List.mem_cons_of_mem _ (List.mem_cons_of_mem _ (List.mem_cons_of_mem _ (List.mem_cons_self)))))))))))))))))))))))).1).1.trans hwF_q_1
  have hwF_q_8 := (holdF _ (hfs _ (List.mem_cons_of_mem _ (List.mem_cons_of_mem _ (List.mem_cons_of_mem _ (List.mem_cons_of_mem _ (List.mem_cons_of_mem _ (List.mem_cons_of_mem _ (List.mem_cons_of_mem _ (List.mem_cons_of_mem _ (List.mem_cons_of_mem _ (List.mem_cons_of_mem _ (List.mem_cons_of_mem _ (List.mem_cons_of_mem _ (List.mem_cons_of_mem _ (List.mem_cons_of_mem _ (List.mem_cons_of_mem _ (List.mem_cons_of_mem _ (List.mem_cons_of_mem _ (List.mem_cons_of_mem _ (List.mem_cons_of_mem _ (List.mem_cons_of_mem _ (List.mem_cons_of_mem _ (List.mem_cons_self))))))))))))))))))))))).1).1.trans hwF_q_8
  have hwF_q_15 := (holdF _ (hfs _ (List.mem_cons_of_mem _ (List.mem_cons_of_mem _ (List.mem_cons_of_mem _ (List.mem_cons_of_mem _ (List.mem_cons_of_mem _ (List.mem_cons_of_mem _ (List.mem_cons_of_mem _ (List.mem_cons_of_mem _ (List.mem_cons_of_mem _ (List.mem_cons_of_mem _ (List.mem_cons_of_mem _ (List.mem_cons_of_mem _ (List.mem_cons_of_mem _ (List.mem_cons_of_mem _ (List.mem_cons_of_mem _ (List.mem_cons_of_mem _ (List.mem_cons_of_mem _ (List.mem_cons_of_mem _ (List.mem_cons_of_mem _ (List.mem_cons_of_mem _ (List.mem_cons_self)))))))))))))))))))))).1).1.trans hwF_q_15
  have hfs : ∀ p ∈ ([(w0_88, (0, ρ + 16, [r0_89, 60])), (w1_90, (0, ρ + 24, [r1_91, 60])), (rc_92, (9, ρ + 17, [rx_93, 700, ry0_94, ry1_95, ry2_96])), (sl_41, (9, ρ + 9, [sx_42, 3000, sy0_43, sy1_44, sy2_45])), (ke_46, (9, ρ + 11, [kx_47, 700, ky0_48, ky1_49, ky2_50])), (w0_51, (0, ρ + 89, [r0_52, 60])), (w1_53, (0, ρ + 90, [r1_54, 60])), (w2_55, (0, ρ + 91, [r2_56, 32])), (w3_57, (0, ρ + 92, [r3_58, 64])), (w4_59, (0, ρ + 93, [r4_60, 64])), (w5_61, (0, ρ + 94, [r5_62, 32])), (w6_63, (0, ρ + 95, [r6_64, 64])), (w7_65, (0, ρ + 96, [r7_66, 64])), (w8_67, (0, ρ + 97, [r8_68, 6100])), (tk_69, (18, ρ + 98, [20])), (hs_70, (8, ρ + 13, [hx_71, hy_72, hw_73])), (pw_74, (6, ρ + 14, [px_75, py_76, pz_77, pu_78])), (w0_23, (0, ρ + 36, [r0_24, 91])), (w1_25, (0, ρ + 37, [r1_26, 30])), (w2_27, (0, ρ + 38, [r2_28, 60])), (w3_29, (0, ρ + 39, [r3_30, 15])), (nm_31, (20, ρ + 40, [12])), (te_32, (22, ρ + 41, [11])), (q_15, (2, ρ + 3, [x_16])), (q_8, (0, ρ + 2, [q_9, 3000])), (q_1, (0, ρ + 1, [q_2, 3000]))] : List (Nat × TyE)), p.1 ∈ L ∧ ty p.1 = p.2 := gr_app hold hnew hfs hc_99
  have hF_q_87 : F_97 q_87 = .inr (5, [.ref q_15, .ref w0_88, .ref w1_90, .ref rc_92, .int 0, .int 0, .int 0]) := (hnewF _ hc1).trans hc_98
  have hne_h0_q_87 : h0 ≠ q_87 := fun w => hnx_h0 (w ▸ hc1)
  have hne_q_22_q_87 : q_22 ≠ q_87 := fun w => hnx_q_22 (w ▸ hc1)
  have hne_q_40_q_87 : q_40 ≠ q_87 := fun w => hnx_q_40 (w ▸ hc1)
  refine pg_putF (ci := 11) (v := .ref q_87) (ty := .object "PostGate$Policy") (C := RX11) (T := TX11) (N := 9) hx hb hts it_11 tyX11 tyX11_ok nmX11 hown hK hP hD hS hL_h0 hF_h0 rfl 5 (by decide) (hts _ kt_534) (fun _ h9 => h9) rfl hin rfl (by decide +kernel) (rfl) (rfl) (Nat.le_of_ble_eq_true rfl) dX11_init_85 (fun H locs hP hD hS => ?_)
  obtain ⟨F_100, he_101, hP, hD, hO⟩ : ∃ G, G = va_up F_97 h0 (.inr (11, [.ref q_1, .ref q_8, .ref q_15, .ref q_22, .ref q_40, .ref q_87, .null, .null, .null])) ∧ va_P (dC, dI) vwCl (va_pl L G) H ∧ va_D A (va_pl L G) ∧ OK cs ty L G := ⟨_, rfl, hP, hD, hO.up (sh.raw hT_h0)⟩
  have hF_102 : F_100 h0 = .inr (11, [.ref q_1, .ref q_8, .ref q_15, .ref q_22, .ref q_40, .ref q_87, .null, .null, .null]) := by rw [he_101]; exact up_self
  have hF_103 : F_100 q_22 = .inr (1, [.ref q_15, .ref w0_23, .ref w1_25, .ref w2_27, .ref w3_29, .ref nm_31, .ref te_32, .int 0, .int 0, .int 0, .int 0]) := by rw [he_101, up_ne hne_h0_q_22.symm]; exact hF_q_22
  have hF_104 : F_100 q_40 = .inr (7, [.ref q_15, .ref sl_41, .ref ke_46, .ref w0_51, .ref w1_53, .ref w2_55, .ref w3_57, .ref w4_59, .ref w5_61, .ref w6_63, .ref w7_65, .ref w8_67, .ref tk_69, .ref hs_70, .ref pw_74, .int 0, .int 0]) := by rw [he_101, up_ne hne_h0_q_40.symm]; exact hF_q_40
  have hF_105 : F_100 q_87 = .inr (5, [.ref q_15, .ref w0_88, .ref w1_90, .ref rc_92, .int 0, .int 0, .int 0]) := by rw [he_101, up_ne hne_h0_q_87.symm]; exact hF_q_87
  have hwF_q_1 : F_100 q_1 = .inr (0, [.ref q_2, .int 0, .int 0]) := by rw [he_101, up_ne (ne_ty (hfs _ (List.mem_cons_of_mem _ (List.mem_cons_of_mem _ (List.mem_cons_of_mem _ (List.mem_cons_of_mem _ (List.mem_cons_of_mem _ (List.mem_cons_of_mem _ (List.mem_cons_of_mem _ (List.mem_cons_of_mem _ (List.mem_cons_of_mem _ (List.mem_cons_of_mem _ (List.mem_cons_of_mem _ (List.mem_cons_of_mem _ (List.mem_cons_of_mem _ (List.mem_cons_of_mem _ (List.mem_cons_of_mem _ (List.mem_cons_of_mem _ (List.mem_cons_of_mem _ (List.mem_cons_of_mem _ (List.mem_cons_of_mem _ (List.mem_cons_of_mem _ (List.mem_cons_of_mem _ (List.mem_cons_of_mem _ (List.mem_cons_of_mem _ (List.mem_cons_of_mem _ (List.mem_cons_of_mem _ (List.mem_cons_self))))))))))))))))))))))))))).2 hT_h0 (by simp))]; exact hwF_q_1
  have hwF_q_8 : F_100 q_8 = .inr (0, [.ref q_9, .int 0, .int 0]) := by rw [he_101, up_ne (ne_ty (hfs _ (List.mem_cons_of_mem _ (List.mem_cons_of_mem _ (List.mem_cons_of_mem _ (List.mem_cons_of_mem _ (List.mem_cons_of_mem _ (List.mem_cons_of_mem _ (List.mem_cons_of_mem _ (List.mem_cons_of_mem _ (List.mem_cons_of_mem _ (List.mem_cons_of_mem _ (List.mem_cons_of_mem _ (List.mem_cons_of_mem _ (List.mem_cons_of_mem _ (List.mem_cons_of_mem _ (List.mem_cons_of_mem _ (List.mem_cons_of_mem _ (List.mem_cons_of_mem _ (List.mem_cons_of_mem _ (List.mem_cons_of_mem _ (List.mem_cons_of_mem _ (List.mem_cons_of_mem _ (List.mem_cons_of_mem _ (List.mem_cons_of_mem _ (List.mem_cons_of_mem _ (List.mem_cons_self)))))))))))))))))))))))))).2 hT_h0 (by simp))]; exact hwF_q_8
  have hwF_q_15 : F_100 q_15 = .inr (2, [.ref x_16, .int 0]) := by rw [he_101, up_ne (ne_ty (hfs _ (List.mem_cons_of_mem _ (List.mem_cons_of_mem _ (List.mem_cons_of_mem _ (List.mem_cons_of_mem _ (List.mem_cons_of_mem _ (List.mem_cons_of_mem _ (List.mem_cons_of_mem _ (List.mem_cons_of_mem _ (List.mem_cons_of_mem _ (List.mem_cons_of_mem _ (List.mem_cons_of_mem _ (List.mem_cons_of_mem _ (List.mem_cons_of_mem _ (List.mem_cons_of_mem _ (List.mem_cons_of_mem _ (List.mem_cons_of_mem _ (List.mem_cons_of_mem _ (List.mem_cons_of_mem _ (List.mem_cons_of_mem _ (List.mem_cons_of_mem _ (List.mem_cons_of_mem _ (List.mem_cons_of_mem _ (List.mem_cons_of_mem _ (List.mem_cons_self))))))))))))))))))))))))).2 hT_h0 (by simp))]; exact hwF_q_15
  refine lv_aload_n hx hb dX11_init_88 rfl (lv_at hl 0 rfl) ?_
  refine va_new (ci := 8) (fs := [.null, .null, .null]) (C := RX8) (T := TX8) (N := 3) hx hb hts it_8 tyX8 tyX8_ok hown (hts _ kt_1097) (hts _ kt_1067) (hts _ kt_250) hK hP hD hS hA rfl df_8 (by show _ + 1 ≤ 323; omega) (by show _ + 3 ≤ 55814; omega) dX11_init_89 (fun q_106 H hPa hDa hS => ?_)
  have hP := left1 hPa
  have hD := left2 hDa
  refine lv_dup hx hb dX11_init_92 rfl ?_
  refine W.eq (g2 := F0 m 93 ls [.ref q_106, .ref q_106, .ref h0]) rfl ?_
  have hFc := free1 hDa hS hA
  have hPq := right1 hPa
  refine va_callv (va_runIN (As := []) (rest := [.ref q_106, .ref h0]) ⟨hx, hb, hml, hown, hts⟩ (k_X8_init l dC dI cs H.size q_106 (ρ + 19) ) ⟨va_cnB 0 hts (gi kt_1068) rfl rfl rfl (hE.nestw kn_48) (hts _ kt_250) (by decide +kernel) ⟨Nat.le_of_ble_eq_true rfl, Nat.le_of_ble_eq_true rfl⟩, rfl, (hts _ kt_1069)⟩ ⟨fun a U g mk q => ⟨q.1, PT.calling q.2⟩, fun U hU hWm => ⟨rfl, PT.mk hU hWm hPq hK one1 hE (fun a _ => sh.raw rfl)⟩⟩ rfl rfl hl.1 rfl (lv_room (Nat.le_of_ble_eq_true rfl)) dX11_init_93 ⟨by show _ + 3 ≤ 323; omega, by show _ + 80 ≤ 55814; omega⟩) hS (fun q _ h => hFc q h) hFc (fun u t H1 locs ht hvm hw hB hz1 hk1 hS => ?_)
  obtain ⟨L2, F2, ty2, x_107, y_108, w_109, hN2, hc1, hc2⟩ := hB
  rw [ht] at hN2
  obtain ⟨L, ty, F_110, hN9, hold, holdF, hnew, hnewF⟩ := join1 hPa hDa hO hW hk1 hFc hN2
  obtain ⟨hP, hD, hO, hW⟩ := hN9
  generalize H1 = H at hP hS ⊢
  have hL_q_106 := (hnew _ hc1).1
  have hT_q_106 := (hnew _ hc1).2.trans hc2
  have hT_h0 := (hold _ hL_h0).2.trans hT_h0
  have hF_h0 := (holdF _ hL_h0).1.trans hF_102
  have hnx_h0 := (holdF _ hL_h0).2
  have hL_h0 := (hold _ hL_h0).1
  have hT_q_22 := (hold _ hL_q_22).2.trans hT_q_22
  have hF_q_22 := (holdF _ hL_q_22).1.trans hF_103
  have hnx_q_22 := (holdF _ hL_q_22).2
  have hL_q_22 := (hold _ hL_q_22).1
  have hT_q_40 := (hold _ hL_q_40).2.trans hT_q_40
  have hF_q_40 := (holdF _ hL_q_40).1.trans hF_104
  have hnx_q_40 := (holdF _ hL_q_40).2
  have hL_q_40 := (hold _ hL_q_40).1
  have hT_q_87 := (hold _ hL_q_87).2.trans hT_q_87
  have hF_q_87 := (holdF _ hL_q_87).1.trans hF_105
  have hnx_q_87 := (holdF _ hL_q_87).2
  have hL_q_87 := (hold _ hL_q_87).1
  have hwF_q_1 := (holdF _ (hfs _ (List.mem_cons_of_mem _ (List.mem_cons_of_mem _ (List.mem_cons_of_mem _ (List.mem_cons_of_mem _ (List.mem_cons_of_mem _ (List.mem_cons_of_mem _ (List.mem_cons_of_mem _ (List.mem_cons_of_mem _ (List.mem_cons_of_mem _ (List.mem_cons_of_mem _ (List.mem_cons_of_mem _ (List.mem_cons_of_mem _ (List.mem_cons_of_mem _ (List.mem_cons_of_mem _ (List.mem_cons_of_mem _ (List.mem_cons_of_mem _ (List.mem_cons_of_mem _ (List.mem_cons_of_mem _ (List.mem_cons_of_mem _ (List.mem_cons_of_mem _ (List.mem_cons_of_mem _ (List.mem_cons_of_mem _ (List.mem_cons_of_mem _ (List.mem_cons_of_mem _ (List.mem_cons_of_mem _ (List.mem_cons_self))))))))))))))))))))))))))).1).1.trans hwF_q_1
  have hwF_q_8 := (holdF _ (hfs _ (List.mem_cons_of_mem _ (List.mem_cons_of_mem _ (List.mem_cons_of_mem _ (List.mem_cons_of_mem _ (List.mem_cons_of_mem _ (List.mem_cons_of_mem _ (List.mem_cons_of_mem _ (List.mem_cons_of_mem _ (List.mem_cons_of_mem _ (List.mem_cons_of_mem _ (List.mem_cons_of_mem _ (List.mem_cons_of_mem _ (List.mem_cons_of_mem _ (List.mem_cons_of_mem _ (List.mem_cons_of_mem _ (List.mem_cons_of_mem _ (List.mem_cons_of_mem _ (List.mem_cons_of_mem _ (List.mem_cons_of_mem _ (List.mem_cons_of_mem _ (List.mem_cons_of_mem _ (List.mem_cons_of_mem _ (List.mem_cons_of_mem _ (List.mem_cons_of_mem _ (List.mem_cons_self)))))))))))))))))))))))))).1).1.trans hwF_q_8
  have hwF_q_15 := (holdF _ (hfs _ (List.mem_cons_of_mem _ (List.mem_cons_of_mem _ (List.mem_cons_of_mem _ (List.mem_cons_of_mem _ (List.mem_cons_of_mem _ (List.mem_cons_of_mem _ (List.mem_cons_of_mem _ (List.mem_cons_of_mem _ (List.mem_cons_of_mem _ (List.mem_cons_of_mem _ (List.mem_cons_of_mem _ (List.mem_cons_of_mem _ (List.mem_cons_of_mem _ (List.mem_cons_of_mem _ (List.mem_cons_of_mem _ (List.mem_cons_of_mem _ (List.mem_cons_of_mem _ (List.mem_cons_of_mem _ (List.mem_cons_of_mem _ (List.mem_cons_of_mem _ (List.mem_cons_of_mem _ (List.mem_cons_of_mem _ (List.mem_cons_of_mem _ (List.mem_cons_self))))))))))))))))))))))))).1).1.trans hwF_q_15
  have hfs := gr_cons hold hfs hL_q_106 hT_q_106
  refine pg_putF (ci := 11) (v := .ref q_106) (ty := .object "PostGate$Sha") (C := RX11) (T := TX11) (N := 9) hx hb hts it_11 tyX11 tyX11_ok nmX11 hown hK hP hD hS hL_h0 hF_h0 rfl 6 (by decide) (hts _ kt_539) (fun _ h9 => h9) rfl hin rfl (by decide +kernel) (rfl) (rfl) (Nat.le_of_ble_eq_true rfl) dX11_init_96 (fun H locs hP hD hS => ?_)
  obtain ⟨F_111, he_112, hP, hD, hO⟩ : ∃ G, G = va_up F_110 h0 (.inr (11, [.ref q_1, .ref q_8, .ref q_15, .ref q_22, .ref q_40, .ref q_87, .ref q_106, .null, .null])) ∧ va_P (dC, dI) vwCl (va_pl L G) H ∧ va_D A (va_pl L G) ∧ OK cs ty L G := ⟨_, rfl, hP, hD, hO.up (sh.raw hT_h0)⟩
  have hF_113 : F_111 h0 = .inr (11, [.ref q_1, .ref q_8, .ref q_15, .ref q_22, .ref q_40, .ref q_87, .ref q_106, .null, .null]) := by rw [he_112]; exact up_self
  have hF_114 : F_111 q_22 = .inr (1, [.ref q_15, .ref w0_23, .ref w1_25, .ref w2_27, .ref w3_29, .ref nm_31, .ref te_32, .int 0, .int 0, .int 0, .int 0]) := by rw [he_112, up_ne hne_h0_q_22.symm]; exact hF_q_22
  have hF_115 : F_111 q_40 = .inr (7, [.ref q_15, .ref sl_41, .ref ke_46, .ref w0_51, .ref w1_53, .ref w2_55, .ref w3_57, .ref w4_59, .ref w5_61, .ref w6_63, .ref w7_65, .ref w8_67, .ref tk_69, .ref hs_70, .ref pw_74, .int 0, .int 0]) := by rw [he_112, up_ne hne_h0_q_40.symm]; exact hF_q_40
  have hF_116 : F_111 q_87 = .inr (5, [.ref q_15, .ref w0_88, .ref w1_90, .ref rc_92, .int 0, .int 0, .int 0]) := by rw [he_112, up_ne hne_h0_q_87.symm]; exact hF_q_87
  have hwF_q_1 : F_111 q_1 = .inr (0, [.ref q_2, .int 0, .int 0]) := by rw [he_112, up_ne (ne_ty (hfs _ (List.mem_cons_of_mem _ (List.mem_cons_of_mem _ (List.mem_cons_of_mem _ (List.mem_cons_of_mem _ (List.mem_cons_of_mem _ (List.mem_cons_of_mem _ (List.mem_cons_of_mem _ (List.mem_cons_of_mem _ (List.mem_cons_of_mem _ (List.mem_cons_of_mem _ (List.mem_cons_of_mem _ (List.mem_cons_of_mem _ (List.mem_cons_of_mem _ (List.mem_cons_of_mem _ (List.mem_cons_of_mem _ (List.mem_cons_of_mem _ (List.mem_cons_of_mem _ (List.mem_cons_of_mem _ (List.mem_cons_of_mem _ (List.mem_cons_of_mem _ (List.mem_cons_of_mem _ (List.mem_cons_of_mem _ (List.mem_cons_of_mem _ (List.mem_cons_of_mem _ (List.mem_cons_of_mem _ (List.mem_cons_of_mem _ (List.mem_cons_self)))))))))))))))))))))))))))).2 hT_h0 (by simp))]; exact hwF_q_1
  have hwF_q_8 : F_111 q_8 = .inr (0, [.ref q_9, .int 0, .int 0]) := by rw [he_112, up_ne (ne_ty (hfs _ (List.mem_cons_of_mem _ (List.mem_cons_of_mem _ (List.mem_cons_of_mem _ (List.mem_cons_of_mem _ (List.mem_cons_of_mem _ (List.mem_cons_of_mem _ (List.mem_cons_of_mem _ (List.mem_cons_of_mem _ (List.mem_cons_of_mem _ (List.mem_cons_of_mem _ (List.mem_cons_of_mem _ (List.mem_cons_of_mem _ (List.mem_cons_of_mem _ (List.mem_cons_of_mem _ (List.mem_cons_of_mem _ (List.mem_cons_of_mem _ (List.mem_cons_of_mem _ (List.mem_cons_of_mem _ (List.mem_cons_of_mem _ (List.mem_cons_of_mem _ (List.mem_cons_of_mem _ (List.mem_cons_of_mem _ (List.mem_cons_of_mem _ (List.mem_cons_of_mem _ (List.mem_cons_of_mem _ (List.mem_cons_self))))))))))))))))))))))))))).2 hT_h0 (by simp))]; exact hwF_q_8
  have hwF_q_15 : F_111 q_15 = .inr (2, [.ref x_16, .int 0]) := by rw [he_112, up_ne (ne_ty (hfs _ (List.mem_cons_of_mem _ (List.mem_cons_of_mem _ (List.mem_cons_of_mem _ (List.mem_cons_of_mem _ (List.mem_cons_of_mem _ (List.mem_cons_of_mem _ (List.mem_cons_of_mem _ (List.mem_cons_of_mem _ (List.mem_cons_of_mem _ (List.mem_cons_of_mem _ (List.mem_cons_of_mem _ (List.mem_cons_of_mem _ (List.mem_cons_of_mem _ (List.mem_cons_of_mem _ (List.mem_cons_of_mem _ (List.mem_cons_of_mem _ (List.mem_cons_of_mem _ (List.mem_cons_of_mem _ (List.mem_cons_of_mem _ (List.mem_cons_of_mem _ (List.mem_cons_of_mem _ (List.mem_cons_of_mem _ (List.mem_cons_of_mem _ (List.mem_cons_of_mem _ (List.mem_cons_self)))))))))))))))))))))))))).2 hT_h0 (by simp))]; exact hwF_q_15
  refine lv_aload_n hx hb dX11_init_99 rfl (lv_at hl 0 rfl) ?_
  refine va_new (ci := 4) (fs := [.null, .null, .null, .null, .int 0, .int 0]) (C := RX4) (T := TX4) (N := 6) hx hb hts it_4 tyX4 tyX4_ok hown (hts _ kt_1098) (hts _ kt_1099) (hts _ kt_211) hK hP hD hS hA rfl df_4 (by show _ + 1 ≤ 323; omega) (by show _ + 6 ≤ 55814; omega) dX11_init_100 (fun q_117 H hPa hDa hS => ?_)
  have hP := left1 hPa
  have hD := left2 hDa
  refine lv_dup hx hb dX11_init_103 rfl ?_
  refine W.eq (g2 := F0 m 104 ls [.ref q_117, .ref q_117, .ref h0]) rfl ?_
  have hFc := free1 hDa hS hA
  have hPq := right1 hPa
  refine va_callv (va_runIN (As := []) (rest := [.ref q_117, .ref h0]) ⟨hx, hb, hml, hown, hts⟩ (k_X4_init_x l dC dI cs H.size q_117 (ρ + 20) ) ⟨va_cnB 0 hts (gi kt_1100) rfl rfl rfl (hE.nestw kn_49) (hts _ kt_211) (by decide +kernel) ⟨Nat.le_of_ble_eq_true rfl, Nat.le_of_ble_eq_true rfl⟩, rfl, (hts _ kt_1101)⟩ ⟨fun a U g mk q => ⟨q.1, PT.calling q.2⟩, fun U hU hWm => ⟨rfl, PT.mk hU hWm hPq hK one1 hE (fun a _ => sh.raw rfl)⟩⟩ rfl rfl hl.1 rfl (lv_room (Nat.le_of_ble_eq_true rfl)) dX11_init_104 ⟨by show _ + 5 ≤ 323; omega, by show _ + 3063 ≤ 55814; omega⟩) hS (fun q _ h => hFc q h) hFc (fun u t H1 locs ht hvm hw hB hz1 hk1 hS => ?_)
  obtain ⟨L2, F2, ty2, x_118, y0_119, y1_120, y2_121, hN2, hc1, hc2, hc_123⟩ := hB
  rw [ht] at hN2
  obtain ⟨L, ty, F_122, hN9, hold, holdF, hnew, hnewF⟩ := join1 hPa hDa hO hW hk1 hFc hN2
  obtain ⟨hP, hD, hO, hW⟩ := hN9
  generalize H1 = H at hP hS ⊢
  have hL_q_117 := (hnew _ hc1).1
  have hT_q_117 := (hnew _ hc1).2.trans hc2
  have hT_h0 := (hold _ hL_h0).2.trans hT_h0
  have hF_h0 := (holdF _ hL_h0).1.trans hF_113
  have hnx_h0 := (holdF _ hL_h0).2
  have hL_h0 := (hold _ hL_h0).1
  have hT_q_22 := (hold _ hL_q_22).2.trans hT_q_22
  have hF_q_22 := (holdF _ hL_q_22).1.trans hF_114
  have hnx_q_22 := (holdF _ hL_q_22).2
  have hL_q_22 := (hold _ hL_q_22).1
  have hT_q_40 := (hold _ hL_q_40).2.trans hT_q_40
  have hF_q_40 := (holdF _ hL_q_40).1.trans hF_115
  have hnx_q_40 := (holdF _ hL_q_40).2
  have hL_q_40 := (hold _ hL_q_40).1
  have hT_q_87 := (hold _ hL_q_87).2.trans hT_q_87
  have hF_q_87 := (holdF _ hL_q_87).1.trans hF_116
  have hnx_q_87 := (holdF _ hL_q_87).2
  have hL_q_87 := (hold _ hL_q_87).1
  have hwF_q_1 := (holdF _ (hfs _ (List.mem_cons_of_mem _ (List.mem_cons_of_mem _ (List.mem_cons_of_mem _ (List.mem_cons_of_mem _ (List.mem_cons_of_mem _ (List.mem_cons_of_mem _ (List.mem_cons_of_mem _ (List.mem_cons_of_mem _ (List.mem_cons_of_mem _ (List.mem_cons_of_mem _ (List.mem_cons_of_mem _ (List.mem_cons_of_mem _ (List.mem_cons_of_mem _ (List.mem_cons_of_mem _ (List.mem_cons_of_mem _ (List.mem_cons_of_mem _ (List.mem_cons_of_mem _ (List.mem_cons_of_mem _ (List.mem_cons_of_mem _ (List.mem_cons_of_mem _ (List.mem_cons_of_mem _ (List.mem_cons_of_mem _ (List.mem_cons_of_mem _ (List.mem_cons_of_mem _ (List.mem_cons_of_mem _ (List.mem_cons_of_mem _ (List.mem_cons_self)))))))))))))))))))))))))))).1).1.trans hwF_q_1
  have hwF_q_8 := (holdF _ (hfs _ (List.mem_cons_of_mem _ (List.mem_cons_of_mem _ (List.mem_cons_of_mem _ (List.mem_cons_of_mem _ (List.mem_cons_of_mem _ (List.mem_cons_of_mem _ (List.mem_cons_of_mem _ (List.mem_cons_of_mem _ (List.mem_cons_of_mem _ (List.mem_cons_of_mem _ (List.mem_cons_of_mem _ (List.mem_cons_of_mem _ (List.mem_cons_of_mem _ (List.mem_cons_of_mem _ (List.mem_cons_of_mem _ (List.mem_cons_of_mem _ (List.mem_cons_of_mem _ (List.mem_cons_of_mem _ (List.mem_cons_of_mem _ (List.mem_cons_of_mem _ (List.mem_cons_of_mem _ (List.mem_cons_of_mem _ (List.mem_cons_of_mem _ (List.mem_cons_of_mem _ (List.mem_cons_of_mem _ (List.mem_cons_self))))))))))))))))))))))))))).1).1.trans hwF_q_8
  have hwF_q_15 := (holdF _ (hfs _ (List.mem_cons_of_mem _ (List.mem_cons_of_mem _ (List.mem_cons_of_mem _ (List.mem_cons_of_mem _ (List.mem_cons_of_mem _ (List.mem_cons_of_mem _ (List.mem_cons_of_mem _ (List.mem_cons_of_mem _ (List.mem_cons_of_mem _ (List.mem_cons_of_mem _ (List.mem_cons_of_mem _ (List.mem_cons_of_mem _ (List.mem_cons_of_mem _ (List.mem_cons_of_mem _ (List.mem_cons_of_mem _ (List.mem_cons_of_mem _ (List.mem_cons_of_mem _ (List.mem_cons_of_mem _ (List.mem_cons_of_mem _ (List.mem_cons_of_mem _ (List.mem_cons_of_mem _ (List.mem_cons_of_mem _ (List.mem_cons_of_mem _ (List.mem_cons_of_mem _ (List.mem_cons_self)))))))))))))))))))))))))).1).1.trans hwF_q_15
  have hfs := gr_cons hold hfs hL_q_117 hT_q_117
  have hwF_q_117 : F_122 q_117 = .inr (4, [.ref x_118, .ref y0_119, .ref y1_120, .ref y2_121, .int 0, .int 0]) := (hnewF _ hc1).trans hc_123
  refine pg_put (ci := 11) (v := .ref q_117) (ty := .object "PostGate$Message") (C := RX11) (T := TX11) (N := 9) hx hb hts it_11 tyX11 tyX11_ok nmX11 hown hK hP hD hS hL_h0 hF_h0 rfl 7 (by decide) (hts _ kt_518) (fun _ h9 => h9) rfl (by decide +kernel) (rfl) (rfl) (Nat.le_of_ble_eq_true rfl) dX11_init_107 (fun H locs hP hD hS => ?_)
  obtain ⟨F_124, he_125, hP, hD, hO⟩ : ∃ G, G = va_up F_122 h0 (.inr (11, [.ref q_1, .ref q_8, .ref q_15, .ref q_22, .ref q_40, .ref q_87, .ref q_106, .ref q_117, .null])) ∧ va_P (dC, dI) vwCl (va_pl L G) H ∧ va_D A (va_pl L G) ∧ OK cs ty L G := ⟨_, rfl, hP, hD, hO.up (sh.raw hT_h0)⟩
  have hF_126 : F_124 h0 = .inr (11, [.ref q_1, .ref q_8, .ref q_15, .ref q_22, .ref q_40, .ref q_87, .ref q_106, .ref q_117, .null]) := by rw [he_125]; exact up_self
  have hF_127 : F_124 q_22 = .inr (1, [.ref q_15, .ref w0_23, .ref w1_25, .ref w2_27, .ref w3_29, .ref nm_31, .ref te_32, .int 0, .int 0, .int 0, .int 0]) := by rw [he_125, up_ne hne_h0_q_22.symm]; exact hF_q_22
  have hF_128 : F_124 q_40 = .inr (7, [.ref q_15, .ref sl_41, .ref ke_46, .ref w0_51, .ref w1_53, .ref w2_55, .ref w3_57, .ref w4_59, .ref w5_61, .ref w6_63, .ref w7_65, .ref w8_67, .ref tk_69, .ref hs_70, .ref pw_74, .int 0, .int 0]) := by rw [he_125, up_ne hne_h0_q_40.symm]; exact hF_q_40
  have hF_129 : F_124 q_87 = .inr (5, [.ref q_15, .ref w0_88, .ref w1_90, .ref rc_92, .int 0, .int 0, .int 0]) := by rw [he_125, up_ne hne_h0_q_87.symm]; exact hF_q_87
  have hwF_q_1 : F_124 q_1 = .inr (0, [.ref q_2, .int 0, .int 0]) := by rw [he_125, up_ne (ne_ty (hfs _ (List.mem_cons_of_mem _ (List.mem_cons_of_mem _ (List.mem_cons_of_mem _ (List.mem_cons_of_mem _ (List.mem_cons_of_mem _ (List.mem_cons_of_mem _ (List.mem_cons_of_mem _ (List.mem_cons_of_mem _ (List.mem_cons_of_mem _ (List.mem_cons_of_mem _ (List.mem_cons_of_mem _ (List.mem_cons_of_mem _ (List.mem_cons_of_mem _ (List.mem_cons_of_mem _ (List.mem_cons_of_mem _ (List.mem_cons_of_mem _ (List.mem_cons_of_mem _ (List.mem_cons_of_mem _ (List.mem_cons_of_mem _ (List.mem_cons_of_mem _ (List.mem_cons_of_mem _ (List.mem_cons_of_mem _ (List.mem_cons_of_mem _ (List.mem_cons_of_mem _ (List.mem_cons_of_mem _ (List.mem_cons_of_mem _ (List.mem_cons_of_mem _ (List.mem_cons_self))))))))))))))))))))))))))))).2 hT_h0 (by simp))]; exact hwF_q_1
  have hwF_q_8 : F_124 q_8 = .inr (0, [.ref q_9, .int 0, .int 0]) := by rw [he_125, up_ne (ne_ty (hfs _ (List.mem_cons_of_mem _ (List.mem_cons_of_mem _ (List.mem_cons_of_mem _ (List.mem_cons_of_mem _ (List.mem_cons_of_mem _ (List.mem_cons_of_mem _ (List.mem_cons_of_mem _ (List.mem_cons_of_mem _ (List.mem_cons_of_mem _ (List.mem_cons_of_mem _ (List.mem_cons_of_mem _ (List.mem_cons_of_mem _ (List.mem_cons_of_mem _ (List.mem_cons_of_mem _ (List.mem_cons_of_mem _ (List.mem_cons_of_mem _ (List.mem_cons_of_mem _ (List.mem_cons_of_mem _ (List.mem_cons_of_mem _ (List.mem_cons_of_mem _ (List.mem_cons_of_mem _ (List.mem_cons_of_mem _ (List.mem_cons_of_mem _ (List.mem_cons_of_mem _ (List.mem_cons_of_mem _ (List.mem_cons_of_mem _ (List.mem_cons_self)))))))))))))))))))))))))))).2 hT_h0 (by simp))]; exact hwF_q_8
  have hwF_q_15 : F_124 q_15 = .inr (2, [.ref x_16, .int 0]) := by rw [he_125, up_ne (ne_ty (hfs _ (List.mem_cons_of_mem _ (List.mem_cons_of_mem _ (List.mem_cons_of_mem _ (List.mem_cons_of_mem _ (List.mem_cons_of_mem _ (List.mem_cons_of_mem _ (List.mem_cons_of_mem _ (List.mem_cons_of_mem _ (List.mem_cons_of_mem _ (List.mem_cons_of_mem _ (List.mem_cons_of_mem _ (List.mem_cons_of_mem _ (List.mem_cons_of_mem _ (List.mem_cons_of_mem _ (List.mem_cons_of_mem _ (List.mem_cons_of_mem _ (List.mem_cons_of_mem _ (List.mem_cons_of_mem _ (List.mem_cons_of_mem _ (List.mem_cons_of_mem _ (List.mem_cons_of_mem _ (List.mem_cons_of_mem _ (List.mem_cons_of_mem _ (List.mem_cons_of_mem _ (List.mem_cons_of_mem _ (List.mem_cons_self))))))))))))))))))))))))))).2 hT_h0 (by simp))]; exact hwF_q_15
  have hwF_q_117 : F_124 q_117 = .inr (4, [.ref x_118, .ref y0_119, .ref y1_120, .ref y2_121, .int 0, .int 0]) := by rw [he_125, up_ne (ne_ty (hfs _ (List.mem_cons_self)).2 hT_h0 (by simp))]; exact hwF_q_117
  refine lv_aload_n hx hb dX11_init_110 rfl (lv_at hl 0 rfl) ?_
  refine va_new (ci := 4) (fs := [.null, .null, .null, .null, .int 0, .int 0]) (C := RX4) (T := TX4) (N := 6) hx hb hts it_4 tyX4 tyX4_ok hown (hts _ kt_1098) (hts _ kt_1099) (hts _ kt_211) hK hP hD hS hA rfl df_4 (by show _ + 1 ≤ 323; omega) (by show _ + 6 ≤ 55814; omega) dX11_init_111 (fun q_130 H hPa hDa hS => ?_)
  have hP := left1 hPa
  have hD := left2 hDa
  refine lv_dup hx hb dX11_init_114 rfl ?_
  refine W.eq (g2 := F0 m 115 ls [.ref q_130, .ref q_130, .ref h0]) rfl ?_
  have hFc := free1 hDa hS hA
  have hPq := right1 hPa
  refine va_callv (va_runIN (As := []) (rest := [.ref q_130, .ref h0]) ⟨hx, hb, hml, hown, hts⟩ (k_X4_init l dC dI cs H.size q_130 (ρ + 30) ) ⟨va_cnB 0 hts (gi kt_1100) rfl rfl rfl (hE.nestw kn_49) (hts _ kt_211) (by decide +kernel) ⟨Nat.le_of_ble_eq_true rfl, Nat.le_of_ble_eq_true rfl⟩, rfl, (hts _ kt_1101)⟩ ⟨fun a U g mk q => ⟨q.1, PT.calling q.2⟩, fun U hU hWm => ⟨rfl, PT.mk hU hWm hPq hK one1 hE (fun a _ => sh.raw rfl)⟩⟩ rfl rfl hl.1 rfl (lv_room (Nat.le_of_ble_eq_true rfl)) dX11_init_115 ⟨by show _ + 5 ≤ 323; omega, by show _ + 3063 ≤ 55814; omega⟩) hS (fun q _ h => hFc q h) hFc (fun u t H1 locs ht hvm hw hB hz1 hk1 hS => ?_)
  obtain ⟨L2, F2, ty2, x_131, y0_132, y1_133, y2_134, hN2, hc1, hc2⟩ := hB
  rw [ht] at hN2
  obtain ⟨L, ty, F_135, hN9, hold, holdF, hnew, hnewF⟩ := join1 hPa hDa hO hW hk1 hFc hN2
  obtain ⟨hP, hD, hO, hW⟩ := hN9
  generalize H1 = H at hP hS ⊢
  have hL_q_130 := (hnew _ hc1).1
  have hT_q_130 := (hnew _ hc1).2.trans hc2
  have hT_h0 := (hold _ hL_h0).2.trans hT_h0
  have hF_h0 := (holdF _ hL_h0).1.trans hF_126
  have hnx_h0 := (holdF _ hL_h0).2
  have hL_h0 := (hold _ hL_h0).1
  have hT_q_22 := (hold _ hL_q_22).2.trans hT_q_22
  have hF_q_22 := (holdF _ hL_q_22).1.trans hF_127
  have hnx_q_22 := (holdF _ hL_q_22).2
  have hL_q_22 := (hold _ hL_q_22).1
  have hT_q_40 := (hold _ hL_q_40).2.trans hT_q_40
  have hF_q_40 := (holdF _ hL_q_40).1.trans hF_128
  have hnx_q_40 := (holdF _ hL_q_40).2
  have hL_q_40 := (hold _ hL_q_40).1
  have hT_q_87 := (hold _ hL_q_87).2.trans hT_q_87
  have hF_q_87 := (holdF _ hL_q_87).1.trans hF_129
  have hnx_q_87 := (holdF _ hL_q_87).2
  have hL_q_87 := (hold _ hL_q_87).1
  have hwF_q_1 := (holdF _ (hfs _ (List.mem_cons_of_mem _ (List.mem_cons_of_mem _ (List.mem_cons_of_mem _ (List.mem_cons_of_mem _ (List.mem_cons_of_mem _ (List.mem_cons_of_mem _ (List.mem_cons_of_mem _ (List.mem_cons_of_mem _ (List.mem_cons_of_mem _ (List.mem_cons_of_mem _ (List.mem_cons_of_mem _ (List.mem_cons_of_mem _ (List.mem_cons_of_mem _ (List.mem_cons_of_mem _ (List.mem_cons_of_mem _ (List.mem_cons_of_mem _ (List.mem_cons_of_mem _ (List.mem_cons_of_mem _ (List.mem_cons_of_mem _ (List.mem_cons_of_mem _ (List.mem_cons_of_mem _ (List.mem_cons_of_mem _ (List.mem_cons_of_mem _ (List.mem_cons_of_mem _ (List.mem_cons_of_mem _ (List.mem_cons_of_mem _ (List.mem_cons_of_mem _ (List.mem_cons_self))))))))))))))))))))))))))))).1).1.trans hwF_q_1
  have hwF_q_8 := (holdF _ (hfs _ (List.mem_cons_of_mem _ (List.mem_cons_of_mem _ (List.mem_cons_of_mem _ (List.mem_cons_of_mem _ (List.mem_cons_of_mem _ (List.mem_cons_of_mem _ (List.mem_cons_of_mem _ (List.mem_cons_of_mem _ (List.mem_cons_of_mem _ (List.mem_cons_of_mem _ (List.mem_cons_of_mem _ (List.mem_cons_of_mem _ (List.mem_cons_of_mem _ (List.mem_cons_of_mem _ (List.mem_cons_of_mem _ (List.mem_cons_of_mem _ (List.mem_cons_of_mem _ (List.mem_cons_of_mem _ (List.mem_cons_of_mem _ (List.mem_cons_of_mem _ (List.mem_cons_of_mem _ (List.mem_cons_of_mem _ (List.mem_cons_of_mem _ (List.mem_cons_of_mem _ (List.mem_cons_of_mem _ (List.mem_cons_of_mem _ (List.mem_cons_self)))))))))))))))))))))))))))).1).1.trans hwF_q_8
  have hwF_q_15 := (holdF _ (hfs _ (List.mem_cons_of_mem _ (List.mem_cons_of_mem _ (List.mem_cons_of_mem _ (List.mem_cons_of_mem _ (List.mem_cons_of_mem _ (List.mem_cons_of_mem _ (List.mem_cons_of_mem _ (List.mem_cons_of_mem _ (List.mem_cons_of_mem _ (List.mem_cons_of_mem _ (List.mem_cons_of_mem _ (List.mem_cons_of_mem _ (List.mem_cons_of_mem _ (List.mem_cons_of_mem _ (List.mem_cons_of_mem _ (List.mem_cons_of_mem _ (List.mem_cons_of_mem _ (List.mem_cons_of_mem _ (List.mem_cons_of_mem _ (List.mem_cons_of_mem _ (List.mem_cons_of_mem _ (List.mem_cons_of_mem _ (List.mem_cons_of_mem _ (List.mem_cons_of_mem _ (List.mem_cons_of_mem _ (List.mem_cons_self))))))))))))))))))))))))))).1).1.trans hwF_q_15
  have hwF_q_117 := (holdF _ (hfs _ (List.mem_cons_self)).1).1.trans hwF_q_117
  have hfs := gr_cons hold hfs hL_q_130 hT_q_130
  refine pg_put (ci := 11) (v := .ref q_130) (ty := .object "PostGate$Message") (C := RX11) (T := TX11) (N := 9) hx hb hts it_11 tyX11 tyX11_ok nmX11 hown hK hP hD hS hL_h0 hF_h0 rfl 8 (by decide) (hts _ kt_542) (fun _ h9 => h9) rfl (by decide +kernel) (rfl) (rfl) (Nat.le_of_ble_eq_true rfl) dX11_init_118 (fun H locs hP hD hS => ?_)
  obtain ⟨F_136, he_137, hP, hD, hO⟩ : ∃ G, G = va_up F_135 h0 (.inr (11, [.ref q_1, .ref q_8, .ref q_15, .ref q_22, .ref q_40, .ref q_87, .ref q_106, .ref q_117, .ref q_130])) ∧ va_P (dC, dI) vwCl (va_pl L G) H ∧ va_D A (va_pl L G) ∧ OK cs ty L G := ⟨_, rfl, hP, hD, hO.up (sh.raw hT_h0)⟩
  have hF_138 : F_136 h0 = .inr (11, [.ref q_1, .ref q_8, .ref q_15, .ref q_22, .ref q_40, .ref q_87, .ref q_106, .ref q_117, .ref q_130]) := by rw [he_137]; exact up_self
  have hF_139 : F_136 q_22 = .inr (1, [.ref q_15, .ref w0_23, .ref w1_25, .ref w2_27, .ref w3_29, .ref nm_31, .ref te_32, .int 0, .int 0, .int 0, .int 0]) := by rw [he_137, up_ne hne_h0_q_22.symm]; exact hF_q_22
  have hF_140 : F_136 q_40 = .inr (7, [.ref q_15, .ref sl_41, .ref ke_46, .ref w0_51, .ref w1_53, .ref w2_55, .ref w3_57, .ref w4_59, .ref w5_61, .ref w6_63, .ref w7_65, .ref w8_67, .ref tk_69, .ref hs_70, .ref pw_74, .int 0, .int 0]) := by rw [he_137, up_ne hne_h0_q_40.symm]; exact hF_q_40
  have hF_141 : F_136 q_87 = .inr (5, [.ref q_15, .ref w0_88, .ref w1_90, .ref rc_92, .int 0, .int 0, .int 0]) := by rw [he_137, up_ne hne_h0_q_87.symm]; exact hF_q_87
  have hwF_q_1 : F_136 q_1 = .inr (0, [.ref q_2, .int 0, .int 0]) := by rw [he_137, up_ne (ne_ty (hfs _ (List.mem_cons_of_mem _ (List.mem_cons_of_mem _ (List.mem_cons_of_mem _ (List.mem_cons_of_mem _ (List.mem_cons_of_mem _ (List.mem_cons_of_mem _ (List.mem_cons_of_mem _ (List.mem_cons_of_mem _ (List.mem_cons_of_mem _ (List.mem_cons_of_mem _ (List.mem_cons_of_mem _ (List.mem_cons_of_mem _ (List.mem_cons_of_mem _ (List.mem_cons_of_mem _ (List.mem_cons_of_mem _ (List.mem_cons_of_mem _ (List.mem_cons_of_mem _ (List.mem_cons_of_mem _ (List.mem_cons_of_mem _ (List.mem_cons_of_mem _ (List.mem_cons_of_mem _ (List.mem_cons_of_mem _ (List.mem_cons_of_mem _ (List.mem_cons_of_mem _ (List.mem_cons_of_mem _ (List.mem_cons_of_mem _ (List.mem_cons_of_mem _ (List.mem_cons_of_mem _ (List.mem_cons_self)))))))))))))))))))))))))))))).2 hT_h0 (by simp))]; exact hwF_q_1
  have hwF_q_8 : F_136 q_8 = .inr (0, [.ref q_9, .int 0, .int 0]) := by rw [he_137, up_ne (ne_ty (hfs _ (List.mem_cons_of_mem _ (List.mem_cons_of_mem _ (List.mem_cons_of_mem _ (List.mem_cons_of_mem _ (List.mem_cons_of_mem _ (List.mem_cons_of_mem _ (List.mem_cons_of_mem _ (List.mem_cons_of_mem _ (List.mem_cons_of_mem _ (List.mem_cons_of_mem _ (List.mem_cons_of_mem _ (List.mem_cons_of_mem _ (List.mem_cons_of_mem _ (List.mem_cons_of_mem _ (List.mem_cons_of_mem _ (List.mem_cons_of_mem _ (List.mem_cons_of_mem _ (List.mem_cons_of_mem _ (List.mem_cons_of_mem _ (List.mem_cons_of_mem _ (List.mem_cons_of_mem _ (List.mem_cons_of_mem _ (List.mem_cons_of_mem _ (List.mem_cons_of_mem _ (List.mem_cons_of_mem _ (List.mem_cons_of_mem _ (List.mem_cons_of_mem _ (List.mem_cons_self))))))))))))))))))))))))))))).2 hT_h0 (by simp))]; exact hwF_q_8
  have hwF_q_15 : F_136 q_15 = .inr (2, [.ref x_16, .int 0]) := by rw [he_137, up_ne (ne_ty (hfs _ (List.mem_cons_of_mem _ (List.mem_cons_of_mem _ (List.mem_cons_of_mem _ (List.mem_cons_of_mem _ (List.mem_cons_of_mem _ (List.mem_cons_of_mem _ (List.mem_cons_of_mem _ (List.mem_cons_of_mem _ (List.mem_cons_of_mem _ (List.mem_cons_of_mem _ (List.mem_cons_of_mem _ (List.mem_cons_of_mem _ (List.mem_cons_of_mem _ (List.mem_cons_of_mem _ (List.mem_cons_of_mem _ (List.mem_cons_of_mem _ (List.mem_cons_of_mem _ (List.mem_cons_of_mem _ (List.mem_cons_of_mem _ (List.mem_cons_of_mem _ (List.mem_cons_of_mem _ (List.mem_cons_of_mem _ (List.mem_cons_of_mem _ (List.mem_cons_of_mem _ (List.mem_cons_of_mem _ (List.mem_cons_of_mem _ (List.mem_cons_self)))))))))))))))))))))))))))).2 hT_h0 (by simp))]; exact hwF_q_15
  have hwF_q_117 : F_136 q_117 = .inr (4, [.ref x_118, .ref y0_119, .ref y1_120, .ref y2_121, .int 0, .int 0]) := by rw [he_137, up_ne (ne_ty (hfs _ (List.mem_cons_of_mem _ (List.mem_cons_self))).2 hT_h0 (by simp))]; exact hwF_q_117
  have hr9 : (ty q_22).1 = 99 := by rw [hT_q_22]
  have hN9 : NEW (dC, dI) cs (rtf ty q_22 (1, ρ + 5, [q_15, ρ + 3, x_16, w0_23, w1_25, w2_27, w3_29, nm_31, te_32])) L F_136 A H := NEW.into ⟨hP, hD, hO, hW⟩ hr9 (by rw [hF_139]; exact sh.chk rtf_self ⟨0, 0, 0, 0, rfl⟩) (wta_chk rtf_self ⟨(hfs _ (List.mem_cons_of_mem _ (List.mem_cons_of_mem _ (List.mem_cons_of_mem _ (List.mem_cons_of_mem _ (List.mem_cons_of_mem _ (List.mem_cons_of_mem _ (List.mem_cons_of_mem _ (List.mem_cons_of_mem _ (List.mem_cons_of_mem _ (List.mem_cons_of_mem _ (List.mem_cons_of_mem _ (List.mem_cons_of_mem _ (List.mem_cons_of_mem _ (List.mem_cons_of_mem _ (List.mem_cons_of_mem _ (List.mem_cons_of_mem _ (List.mem_cons_of_mem _ (List.mem_cons_of_mem _ (List.mem_cons_of_mem _ (List.mem_cons_of_mem _ (List.mem_cons_of_mem _ (List.mem_cons_of_mem _ (List.mem_cons_of_mem _ (List.mem_cons_of_mem _ (List.mem_cons_of_mem _ (List.mem_cons_of_mem _ (List.mem_cons_self)))))))))))))))))))))))))))).1, rtf_old hr9 (hfs _ (List.mem_cons_of_mem _ (List.mem_cons_of_mem _ (List.mem_cons_of_mem _ (List.mem_cons_of_mem _ (List.mem_cons_of_mem _ (List.mem_cons_of_mem _ (List.mem_cons_of_mem _ (List.mem_cons_of_mem _ (List.mem_cons_of_mem _ (List.mem_cons_of_mem _ (List.mem_cons_of_mem _ (List.mem_cons_of_mem _ (List.mem_cons_of_mem _ (List.mem_cons_of_mem _ (List.mem_cons_of_mem _ (List.mem_cons_of_mem _ (List.mem_cons_of_mem _ (List.mem_cons_of_mem _ (List.mem_cons_of_mem _ (List.mem_cons_of_mem _ (List.mem_cons_of_mem _ (List.mem_cons_of_mem _ (List.mem_cons_of_mem _ (List.mem_cons_of_mem _ (List.mem_cons_of_mem _ (List.mem_cons_of_mem _ (List.mem_cons_self)))))))))))))))))))))))))))).2 (by decide), (hfs _ (List.mem_cons_of_mem _ (List.mem_cons_of_mem _ (List.mem_cons_of_mem _ (List.mem_cons_of_mem _ (List.mem_cons_of_mem _ (List.mem_cons_of_mem _ (List.mem_cons_of_mem _ (List.mem_cons_of_mem _ (List.mem_cons_of_mem _ (List.mem_cons_of_mem _ (List.mem_cons_of_mem _ (List.mem_cons_of_mem _ (List.mem_cons_of_mem _ (List.mem_cons_of_mem _ (List.mem_cons_of_mem _ (List.mem_cons_of_mem _ (List.mem_cons_of_mem _ (List.mem_cons_of_mem _ (List.mem_cons_of_mem _ (List.mem_cons_of_mem _ (List.mem_cons_self)))))))))))))))))))))).1, ⟨_, rtf_old hr9 (hfs _ (List.mem_cons_of_mem _ (List.mem_cons_of_mem _ (List.mem_cons_of_mem _ (List.mem_cons_of_mem _ (List.mem_cons_of_mem _ (List.mem_cons_of_mem _ (List.mem_cons_of_mem _ (List.mem_cons_of_mem _ (List.mem_cons_of_mem _ (List.mem_cons_of_mem _ (List.mem_cons_of_mem _ (List.mem_cons_of_mem _ (List.mem_cons_of_mem _ (List.mem_cons_of_mem _ (List.mem_cons_of_mem _ (List.mem_cons_of_mem _ (List.mem_cons_of_mem _ (List.mem_cons_of_mem _ (List.mem_cons_of_mem _ (List.mem_cons_of_mem _ (List.mem_cons_self)))))))))))))))))))))).2 (by decide)⟩, (hfs _ (List.mem_cons_of_mem _ (List.mem_cons_of_mem _ (List.mem_cons_of_mem _ (List.mem_cons_of_mem _ (List.mem_cons_of_mem _ (List.mem_cons_of_mem _ (List.mem_cons_of_mem _ (List.mem_cons_of_mem _ (List.mem_cons_of_mem _ (List.mem_cons_of_mem _ (List.mem_cons_of_mem _ (List.mem_cons_of_mem _ (List.mem_cons_of_mem _ (List.mem_cons_of_mem _ (List.mem_cons_of_mem _ (List.mem_cons_of_mem _ (List.mem_cons_of_mem _ (List.mem_cons_of_mem _ (List.mem_cons_of_mem _ (List.mem_cons_of_mem _ (List.mem_cons_of_mem _ (List.mem_cons_self))))))))))))))))))))))).1, ⟨_, rtf_old hr9 (hfs _ (List.mem_cons_of_mem _ (List.mem_cons_of_mem _ (List.mem_cons_of_mem _ (List.mem_cons_of_mem _ (List.mem_cons_of_mem _ (List.mem_cons_of_mem _ (List.mem_cons_of_mem _ (List.mem_cons_of_mem _ (List.mem_cons_of_mem _ (List.mem_cons_of_mem _ (List.mem_cons_of_mem _ (List.mem_cons_of_mem _ (List.mem_cons_of_mem _ (List.mem_cons_of_mem _ (List.mem_cons_of_mem _ (List.mem_cons_of_mem _ (List.mem_cons_of_mem _ (List.mem_cons_of_mem _ (List.mem_cons_of_mem _ (List.mem_cons_of_mem _ (List.mem_cons_of_mem _ (List.mem_cons_self))))))))))))))))))))))).2 (by decide)⟩, (hfs _ (List.mem_cons_of_mem _ (List.mem_cons_of_mem _ (List.mem_cons_of_mem _ (List.mem_cons_of_mem _ (List.mem_cons_of_mem _ (List.mem_cons_of_mem _ (List.mem_cons_of_mem _ (List.mem_cons_of_mem _ (List.mem_cons_of_mem _ (List.mem_cons_of_mem _ (List.mem_cons_of_mem _ (List.mem_cons_of_mem _ (List.mem_cons_of_mem _ (List.mem_cons_of_mem _ (List.mem_cons_of_mem _ (List.mem_cons_of_mem _ (List.mem_cons_of_mem _ (List.mem_cons_of_mem _ (List.mem_cons_of_mem _ (List.mem_cons_of_mem _ (List.mem_cons_of_mem _ (List.mem_cons_of_mem _ (List.mem_cons_self)))))))))))))))))))))))).1, ⟨_, rtf_old hr9 (hfs _ (List.mem_cons_of_mem _ (List.mem_cons_of_mem _ (List.mem_cons_of_mem _ (List.mem_cons_of_mem _ (List.mem_cons_of_mem _ (List.mem_cons_of_mem _ (List.mem_cons_of_mem _ (List.mem_cons_of_mem _ (List.mem_cons_of_mem _ (List.mem_cons_of_mem _ (List.mem_cons_of_mem _ (List.mem_cons_of_mem _ (List.mem_cons_of_mem _ (List.mem_cons_of_mem _ (List.mem_cons_of_mem _ (List.mem_cons_of_mem _ (List.mem_cons_of_mem _ (List.mem_cons_of_mem _ (List.mem_cons_of_mem _ (List.mem_cons_of_mem _ (List.mem_cons_of_mem _ (List.mem_cons_of_mem _ (List.mem_cons_self)))))))))))))))))))))))).2 (by decide)⟩, (hfs _ (List.mem_cons_of_mem _ (List.mem_cons_of_mem _ (List.mem_cons_of_mem _ (List.mem_cons_of_mem _ (List.mem_cons_of_mem _ (List.mem_cons_of_mem _ (List.mem_cons_of_mem _ (List.mem_cons_of_mem _ (List.mem_cons_of_mem _ (List.mem_cons_of_mem _ (List.mem_cons_of_mem _ (List.mem_cons_of_mem _ (List.mem_cons_of_mem _ (List.mem_cons_of_mem _ (List.mem_cons_of_mem _ (List.mem_cons_of_mem _ (List.mem_cons_of_mem _ (List.mem_cons_of_mem _ (List.mem_cons_of_mem _ (List.mem_cons_of_mem _ (List.mem_cons_of_mem _ (List.mem_cons_of_mem _ (List.mem_cons_of_mem _ (List.mem_cons_self))))))))))))))))))))))))).1, ⟨_, rtf_old hr9 (hfs _ (List.mem_cons_of_mem _ (List.mem_cons_of_mem _ (List.mem_cons_of_mem _ (List.mem_cons_of_mem _ (List.mem_cons_of_mem _ (List.mem_cons_of_mem _ (List.mem_cons_of_mem _ (List.mem_cons_of_mem _ (List.mem_cons_of_mem _ (List.mem_cons_of_mem _ (List.mem_cons_of_mem _ (List.mem_cons_of_mem _ (List.mem_cons_of_mem _ (List.mem_cons_of_mem _ (List.mem_cons_of_mem _ (List.mem_cons_of_mem _ (List.mem_cons_of_mem _ (List.mem_cons_of_mem _ (List.mem_cons_of_mem _ (List.mem_cons_of_mem _ (List.mem_cons_of_mem _ (List.mem_cons_of_mem _ (List.mem_cons_of_mem _ (List.mem_cons_self))))))))))))))))))))))))).2 (by decide)⟩, (hfs _ (List.mem_cons_of_mem _ (List.mem_cons_of_mem _ (List.mem_cons_of_mem _ (List.mem_cons_of_mem _ (List.mem_cons_of_mem _ (List.mem_cons_of_mem _ (List.mem_cons_of_mem _ (List.mem_cons_of_mem _ (List.mem_cons_of_mem _ (List.mem_cons_of_mem _ (List.mem_cons_of_mem _ (List.mem_cons_of_mem _ (List.mem_cons_of_mem _ (List.mem_cons_of_mem _ (List.mem_cons_of_mem _ (List.mem_cons_of_mem _ (List.mem_cons_of_mem _ (List.mem_cons_of_mem _ (List.mem_cons_of_mem _ (List.mem_cons_of_mem _ (List.mem_cons_of_mem _ (List.mem_cons_of_mem _ (List.mem_cons_of_mem _ (List.mem_cons_of_mem _ (List.mem_cons_self)))))))))))))))))))))))))).1, rtf_old hr9 (hfs _ (List.mem_cons_of_mem _ (List.mem_cons_of_mem _ (List.mem_cons_of_mem _ (List.mem_cons_of_mem _ (List.mem_cons_of_mem _ (List.mem_cons_of_mem _ (List.mem_cons_of_mem _ (List.mem_cons_of_mem _ (List.mem_cons_of_mem _ (List.mem_cons_of_mem _ (List.mem_cons_of_mem _ (List.mem_cons_of_mem _ (List.mem_cons_of_mem _ (List.mem_cons_of_mem _ (List.mem_cons_of_mem _ (List.mem_cons_of_mem _ (List.mem_cons_of_mem _ (List.mem_cons_of_mem _ (List.mem_cons_of_mem _ (List.mem_cons_of_mem _ (List.mem_cons_of_mem _ (List.mem_cons_of_mem _ (List.mem_cons_of_mem _ (List.mem_cons_of_mem _ (List.mem_cons_self)))))))))))))))))))))))))).2 (by decide), (hfs _ (List.mem_cons_of_mem _ (List.mem_cons_of_mem _ (List.mem_cons_of_mem _ (List.mem_cons_of_mem _ (List.mem_cons_of_mem _ (List.mem_cons_of_mem _ (List.mem_cons_of_mem _ (List.mem_cons_of_mem _ (List.mem_cons_of_mem _ (List.mem_cons_of_mem _ (List.mem_cons_of_mem _ (List.mem_cons_of_mem _ (List.mem_cons_of_mem _ (List.mem_cons_of_mem _ (List.mem_cons_of_mem _ (List.mem_cons_of_mem _ (List.mem_cons_of_mem _ (List.mem_cons_of_mem _ (List.mem_cons_of_mem _ (List.mem_cons_of_mem _ (List.mem_cons_of_mem _ (List.mem_cons_of_mem _ (List.mem_cons_of_mem _ (List.mem_cons_of_mem _ (List.mem_cons_of_mem _ (List.mem_cons_self))))))))))))))))))))))))))).1, rtf_old hr9 (hfs _ (List.mem_cons_of_mem _ (List.mem_cons_of_mem _ (List.mem_cons_of_mem _ (List.mem_cons_of_mem _ (List.mem_cons_of_mem _ (List.mem_cons_of_mem _ (List.mem_cons_of_mem _ (List.mem_cons_of_mem _ (List.mem_cons_of_mem _ (List.mem_cons_of_mem _ (List.mem_cons_of_mem _ (List.mem_cons_of_mem _ (List.mem_cons_of_mem _ (List.mem_cons_of_mem _ (List.mem_cons_of_mem _ (List.mem_cons_of_mem _ (List.mem_cons_of_mem _ (List.mem_cons_of_mem _ (List.mem_cons_of_mem _ (List.mem_cons_of_mem _ (List.mem_cons_of_mem _ (List.mem_cons_of_mem _ (List.mem_cons_of_mem _ (List.mem_cons_of_mem _ (List.mem_cons_of_mem _ (List.mem_cons_self))))))))))))))))))))))))))).2 (by decide)⟩)
  obtain ⟨ty, hty9, hN9, hfs, hT_h0, hT_q_40, hT_q_87⟩ : ∃ t9 : TyM, t9 = rtf ty q_22 (1, ρ + 5, [q_15, ρ + 3, x_16, w0_23, w1_25, w2_27, w3_29, nm_31, te_32]) ∧ NEW (dC, dI) cs t9 L F_136 A H ∧ (∀ p ∈ ((q_22, (1, ρ + 5, [q_15, ρ + 3, x_16, w0_23, w1_25, w2_27, w3_29, nm_31, te_32])) :: [(q_130, (4, ρ + 30, [x_131, y0_132, y1_133, y2_134])), (q_117, (4, ρ + 20, [x_118, y0_119, y1_120, y2_121])), (q_106, (8, ρ + 19, [x_107, y_108, w_109])), (w0_88, (0, ρ + 16, [r0_89, 60])), (w1_90, (0, ρ + 24, [r1_91, 60])), (rc_92, (9, ρ + 17, [rx_93, 700, ry0_94, ry1_95, ry2_96])), (sl_41, (9, ρ + 9, [sx_42, 3000, sy0_43, sy1_44, sy2_45])), (ke_46, (9, ρ + 11, [kx_47, 700, ky0_48, ky1_49, ky2_50])), (w0_51, (0, ρ + 89, [r0_52, 60])), (w1_53, (0, ρ + 90, [r1_54, 60])), (w2_55, (0, ρ + 91, [r2_56, 32])), (w3_57, (0, ρ + 92, [r3_58, 64])), (w4_59, (0, ρ + 93, [r4_60, 64])), (w5_61, (0, ρ + 94, [r5_62, 32])), (w6_63, (0, ρ + 95, [r6_64, 64])), (w7_65, (0, ρ + 96, [r7_66, 64])), (w8_67, (0, ρ + 97, [r8_68, 6100])), (tk_69, (18, ρ + 98, [20])), (hs_70, (8, ρ + 13, [hx_71, hy_72, hw_73])), (pw_74, (6, ρ + 14, [px_75, py_76, pz_77, pu_78])), (w0_23, (0, ρ + 36, [r0_24, 91])), (w1_25, (0, ρ + 37, [r1_26, 30])), (w2_27, (0, ρ + 38, [r2_28, 60])), (w3_29, (0, ρ + 39, [r3_30, 15])), (nm_31, (20, ρ + 40, [12])), (te_32, (22, ρ + 41, [11])), (q_15, (2, ρ + 3, [x_16])), (q_8, (0, ρ + 2, [q_9, 3000])), (q_1, (0, ρ + 1, [q_2, 3000]))] : List (Nat × TyE)), p.1 ∈ L ∧ t9 p.1 = p.2) ∧ t9 h0 = (99, 0, []) ∧ t9 q_40 = (99, 0, []) ∧ t9 q_87 = (99, 0, []) := ⟨_, rfl, hN9, into_fs hr9 hfs (by simp) hL_q_22, (rtf_ne hne_h0_q_22).trans hT_h0, (rtf_ne hne_q_22_q_40.symm).trans hT_q_40, (rtf_ne hne_q_22_q_87.symm).trans hT_q_87⟩
  obtain ⟨hP, hD, hO, hW⟩ := hN9
  have hr9 : (ty q_40).1 = 99 := by rw [hT_q_40]
  have hN9 : NEW (dC, dI) cs (rtf ty q_40 (7, ρ + 7, [q_15, ρ + 3, x_16, sl_41, sx_42, sy0_43, sy1_44, sy2_45, ke_46, kx_47, ky0_48, ky1_49, ky2_50, w0_51, w1_53, w2_55, w3_57, w4_59, w5_61, w6_63, w7_65, w8_67, tk_69, hs_70, hx_71, hy_72, hw_73, pw_74, px_75, py_76, pz_77, pu_78])) L F_136 A H := NEW.into ⟨hP, hD, hO, hW⟩ hr9 (by rw [hF_140]; exact sh.slr rtf_self ⟨0, 0, rfl⟩) (wta_slr rtf_self ⟨(hfs _ (List.mem_cons_of_mem _ (List.mem_cons_of_mem _ (List.mem_cons_of_mem _ (List.mem_cons_of_mem _ (List.mem_cons_of_mem _ (List.mem_cons_of_mem _ (List.mem_cons_of_mem _ (List.mem_cons_of_mem _ (List.mem_cons_of_mem _ (List.mem_cons_of_mem _ (List.mem_cons_of_mem _ (List.mem_cons_of_mem _ (List.mem_cons_of_mem _ (List.mem_cons_of_mem _ (List.mem_cons_of_mem _ (List.mem_cons_of_mem _ (List.mem_cons_of_mem _ (List.mem_cons_of_mem _ (List.mem_cons_of_mem _ (List.mem_cons_of_mem _ (List.mem_cons_of_mem _ (List.mem_cons_of_mem _ (List.mem_cons_of_mem _ (List.mem_cons_of_mem _ (List.mem_cons_of_mem _ (List.mem_cons_of_mem _ (List.mem_cons_of_mem _ (List.mem_cons_self))))))))))))))))))))))))))))).1, rtf_old hr9 (hfs _ (List.mem_cons_of_mem _ (List.mem_cons_of_mem _ (List.mem_cons_of_mem _ (List.mem_cons_of_mem _ (List.mem_cons_of_mem _ (List.mem_cons_of_mem _ (List.mem_cons_of_mem _ (List.mem_cons_of_mem _ (List.mem_cons_of_mem _ (List.mem_cons_of_mem _ (List.mem_cons_of_mem _ (List.mem_cons_of_mem _ (List.mem_cons_of_mem _ (List.mem_cons_of_mem _ (List.mem_cons_of_mem _ (List.mem_cons_of_mem _ (List.mem_cons_of_mem _ (List.mem_cons_of_mem _ (List.mem_cons_of_mem _ (List.mem_cons_of_mem _ (List.mem_cons_of_mem _ (List.mem_cons_of_mem _ (List.mem_cons_of_mem _ (List.mem_cons_of_mem _ (List.mem_cons_of_mem _ (List.mem_cons_of_mem _ (List.mem_cons_of_mem _ (List.mem_cons_self))))))))))))))))))))))))))))).2 (by decide), (hfs _ (List.mem_cons_of_mem _ (List.mem_cons_of_mem _ (List.mem_cons_of_mem _ (List.mem_cons_of_mem _ (List.mem_cons_of_mem _ (List.mem_cons_of_mem _ (List.mem_cons_of_mem _ (List.mem_cons_self))))))))).1, rtf_old hr9 (hfs _ (List.mem_cons_of_mem _ (List.mem_cons_of_mem _ (List.mem_cons_of_mem _ (List.mem_cons_of_mem _ (List.mem_cons_of_mem _ (List.mem_cons_of_mem _ (List.mem_cons_of_mem _ (List.mem_cons_self))))))))).2 (by decide), (hfs _ (List.mem_cons_of_mem _ (List.mem_cons_of_mem _ (List.mem_cons_of_mem _ (List.mem_cons_of_mem _ (List.mem_cons_of_mem _ (List.mem_cons_of_mem _ (List.mem_cons_of_mem _ (List.mem_cons_of_mem _ (List.mem_cons_self)))))))))).1, rtf_old hr9 (hfs _ (List.mem_cons_of_mem _ (List.mem_cons_of_mem _ (List.mem_cons_of_mem _ (List.mem_cons_of_mem _ (List.mem_cons_of_mem _ (List.mem_cons_of_mem _ (List.mem_cons_of_mem _ (List.mem_cons_of_mem _ (List.mem_cons_self)))))))))).2 (by decide), (hfs _ (List.mem_cons_of_mem _ (List.mem_cons_of_mem _ (List.mem_cons_of_mem _ (List.mem_cons_of_mem _ (List.mem_cons_of_mem _ (List.mem_cons_of_mem _ (List.mem_cons_of_mem _ (List.mem_cons_of_mem _ (List.mem_cons_of_mem _ (List.mem_cons_self))))))))))).1, ⟨_, rtf_old hr9 (hfs _ (List.mem_cons_of_mem _ (List.mem_cons_of_mem _ (List.mem_cons_of_mem _ (List.mem_cons_of_mem _ (List.mem_cons_of_mem _ (List.mem_cons_of_mem _ (List.mem_cons_of_mem _ (List.mem_cons_of_mem _ (List.mem_cons_of_mem _ (List.mem_cons_self))))))))))).2 (by decide)⟩, (hfs _ (List.mem_cons_of_mem _ (List.mem_cons_of_mem _ (List.mem_cons_of_mem _ (List.mem_cons_of_mem _ (List.mem_cons_of_mem _ (List.mem_cons_of_mem _ (List.mem_cons_of_mem _ (List.mem_cons_of_mem _ (List.mem_cons_of_mem _ (List.mem_cons_of_mem _ (List.mem_cons_self)))))))))))).1, ⟨_, rtf_old hr9 (hfs _ (List.mem_cons_of_mem _ (List.mem_cons_of_mem _ (List.mem_cons_of_mem _ (List.mem_cons_of_mem _ (List.mem_cons_of_mem _ (List.mem_cons_of_mem _ (List.mem_cons_of_mem _ (List.mem_cons_of_mem _ (List.mem_cons_of_mem _ (List.mem_cons_of_mem _ (List.mem_cons_self)))))))))))).2 (by decide)⟩, (hfs _ (List.mem_cons_of_mem _ (List.mem_cons_of_mem _ (List.mem_cons_of_mem _ (List.mem_cons_of_mem _ (List.mem_cons_of_mem _ (List.mem_cons_of_mem _ (List.mem_cons_of_mem _ (List.mem_cons_of_mem _ (List.mem_cons_of_mem _ (List.mem_cons_of_mem _ (List.mem_cons_of_mem _ (List.mem_cons_self))))))))))))).1, ⟨_, rtf_old hr9 (hfs _ (List.mem_cons_of_mem _ (List.mem_cons_of_mem _ (List.mem_cons_of_mem _ (List.mem_cons_of_mem _ (List.mem_cons_of_mem _ (List.mem_cons_of_mem _ (List.mem_cons_of_mem _ (List.mem_cons_of_mem _ (List.mem_cons_of_mem _ (List.mem_cons_of_mem _ (List.mem_cons_of_mem _ (List.mem_cons_self))))))))))))).2 (by decide)⟩, (hfs _ (List.mem_cons_of_mem _ (List.mem_cons_of_mem _ (List.mem_cons_of_mem _ (List.mem_cons_of_mem _ (List.mem_cons_of_mem _ (List.mem_cons_of_mem _ (List.mem_cons_of_mem _ (List.mem_cons_of_mem _ (List.mem_cons_of_mem _ (List.mem_cons_of_mem _ (List.mem_cons_of_mem _ (List.mem_cons_of_mem _ (List.mem_cons_self)))))))))))))).1, ⟨_, rtf_old hr9 (hfs _ (List.mem_cons_of_mem _ (List.mem_cons_of_mem _ (List.mem_cons_of_mem _ (List.mem_cons_of_mem _ (List.mem_cons_of_mem _ (List.mem_cons_of_mem _ (List.mem_cons_of_mem _ (List.mem_cons_of_mem _ (List.mem_cons_of_mem _ (List.mem_cons_of_mem _ (List.mem_cons_of_mem _ (List.mem_cons_of_mem _ (List.mem_cons_self)))))))))))))).2 (by decide)⟩, (hfs _ (List.mem_cons_of_mem _ (List.mem_cons_of_mem _ (List.mem_cons_of_mem _ (List.mem_cons_of_mem _ (List.mem_cons_of_mem _ (List.mem_cons_of_mem _ (List.mem_cons_of_mem _ (List.mem_cons_of_mem _ (List.mem_cons_of_mem _ (List.mem_cons_of_mem _ (List.mem_cons_of_mem _ (List.mem_cons_of_mem _ (List.mem_cons_of_mem _ (List.mem_cons_self))))))))))))))).1, ⟨_, rtf_old hr9 (hfs _ (List.mem_cons_of_mem _ (List.mem_cons_of_mem _ (List.mem_cons_of_mem _ (List.mem_cons_of_mem _ (List.mem_cons_of_mem _ (List.mem_cons_of_mem _ (List.mem_cons_of_mem _ (List.mem_cons_of_mem _ (List.mem_cons_of_mem _ (List.mem_cons_of_mem _ (List.mem_cons_of_mem _ (List.mem_cons_of_mem _ (List.mem_cons_of_mem _ (List.mem_cons_self))))))))))))))).2 (by decide)⟩, (hfs _ (List.mem_cons_of_mem _ (List.mem_cons_of_mem _ (List.mem_cons_of_mem _ (List.mem_cons_of_mem _ (List.mem_cons_of_mem _ (List.mem_cons_of_mem _ (List.mem_cons_of_mem _ (List.mem_cons_of_mem _ (List.mem_cons_of_mem _ (List.mem_cons_of_mem _ (List.mem_cons_of_mem _ (List.mem_cons_of_mem _ (List.mem_cons_of_mem _ (List.mem_cons_of_mem _ (List.mem_cons_self)))))))))))))))).1, ⟨_, rtf_old hr9 (hfs _ (List.mem_cons_of_mem _ (List.mem_cons_of_mem _ (List.mem_cons_of_mem _ (List.mem_cons_of_mem _ (List.mem_cons_of_mem _ (List.mem_cons_of_mem _ (List.mem_cons_of_mem _ (List.mem_cons_of_mem _ (List.mem_cons_of_mem _ (List.mem_cons_of_mem _ (List.mem_cons_of_mem _ (List.mem_cons_of_mem _ (List.mem_cons_of_mem _ (List.mem_cons_of_mem _ (List.mem_cons_self)))))))))))))))).2 (by decide)⟩, (hfs _ (List.mem_cons_of_mem _ (List.mem_cons_of_mem _ (List.mem_cons_of_mem _ (List.mem_cons_of_mem _ (List.mem_cons_of_mem _ (List.mem_cons_of_mem _ (List.mem_cons_of_mem _ (List.mem_cons_of_mem _ (List.mem_cons_of_mem _ (List.mem_cons_of_mem _ (List.mem_cons_of_mem _ (List.mem_cons_of_mem _ (List.mem_cons_of_mem _ (List.mem_cons_of_mem _ (List.mem_cons_of_mem _ (List.mem_cons_self))))))))))))))))).1, ⟨_, rtf_old hr9 (hfs _ (List.mem_cons_of_mem _ (List.mem_cons_of_mem _ (List.mem_cons_of_mem _ (List.mem_cons_of_mem _ (List.mem_cons_of_mem _ (List.mem_cons_of_mem _ (List.mem_cons_of_mem _ (List.mem_cons_of_mem _ (List.mem_cons_of_mem _ (List.mem_cons_of_mem _ (List.mem_cons_of_mem _ (List.mem_cons_of_mem _ (List.mem_cons_of_mem _ (List.mem_cons_of_mem _ (List.mem_cons_of_mem _ (List.mem_cons_self))))))))))))))))).2 (by decide)⟩, (hfs _ (List.mem_cons_of_mem _ (List.mem_cons_of_mem _ (List.mem_cons_of_mem _ (List.mem_cons_of_mem _ (List.mem_cons_of_mem _ (List.mem_cons_of_mem _ (List.mem_cons_of_mem _ (List.mem_cons_of_mem _ (List.mem_cons_of_mem _ (List.mem_cons_of_mem _ (List.mem_cons_of_mem _ (List.mem_cons_of_mem _ (List.mem_cons_of_mem _ (List.mem_cons_of_mem _ (List.mem_cons_of_mem _ (List.mem_cons_of_mem _ (List.mem_cons_self)))))))))))))))))).1, ⟨_, rtf_old hr9 (hfs _ (List.mem_cons_of_mem _ (List.mem_cons_of_mem _ (List.mem_cons_of_mem _ (List.mem_cons_of_mem _ (List.mem_cons_of_mem _ (List.mem_cons_of_mem _ (List.mem_cons_of_mem _ (List.mem_cons_of_mem _ (List.mem_cons_of_mem _ (List.mem_cons_of_mem _ (List.mem_cons_of_mem _ (List.mem_cons_of_mem _ (List.mem_cons_of_mem _ (List.mem_cons_of_mem _ (List.mem_cons_of_mem _ (List.mem_cons_of_mem _ (List.mem_cons_self)))))))))))))))))).2 (by decide)⟩, (hfs _ (List.mem_cons_of_mem _ (List.mem_cons_of_mem _ (List.mem_cons_of_mem _ (List.mem_cons_of_mem _ (List.mem_cons_of_mem _ (List.mem_cons_of_mem _ (List.mem_cons_of_mem _ (List.mem_cons_of_mem _ (List.mem_cons_of_mem _ (List.mem_cons_of_mem _ (List.mem_cons_of_mem _ (List.mem_cons_of_mem _ (List.mem_cons_of_mem _ (List.mem_cons_of_mem _ (List.mem_cons_of_mem _ (List.mem_cons_of_mem _ (List.mem_cons_of_mem _ (List.mem_cons_self))))))))))))))))))).1, ⟨_, rtf_old hr9 (hfs _ (List.mem_cons_of_mem _ (List.mem_cons_of_mem _ (List.mem_cons_of_mem _ (List.mem_cons_of_mem _ (List.mem_cons_of_mem _ (List.mem_cons_of_mem _ (List.mem_cons_of_mem _ (List.mem_cons_of_mem _ (List.mem_cons_of_mem _ (List.mem_cons_of_mem _ (List.mem_cons_of_mem _ (List.mem_cons_of_mem _ (List.mem_cons_of_mem _ (List.mem_cons_of_mem _ (List.mem_cons_of_mem _ (List.mem_cons_of_mem _ (List.mem_cons_of_mem _ (List.mem_cons_self))))))))))))))))))).2 (by decide)⟩, (hfs _ (List.mem_cons_of_mem _ (List.mem_cons_of_mem _ (List.mem_cons_of_mem _ (List.mem_cons_of_mem _ (List.mem_cons_of_mem _ (List.mem_cons_of_mem _ (List.mem_cons_of_mem _ (List.mem_cons_of_mem _ (List.mem_cons_of_mem _ (List.mem_cons_of_mem _ (List.mem_cons_of_mem _ (List.mem_cons_of_mem _ (List.mem_cons_of_mem _ (List.mem_cons_of_mem _ (List.mem_cons_of_mem _ (List.mem_cons_of_mem _ (List.mem_cons_of_mem _ (List.mem_cons_of_mem _ (List.mem_cons_self)))))))))))))))))))).1, rtf_old hr9 (hfs _ (List.mem_cons_of_mem _ (List.mem_cons_of_mem _ (List.mem_cons_of_mem _ (List.mem_cons_of_mem _ (List.mem_cons_of_mem _ (List.mem_cons_of_mem _ (List.mem_cons_of_mem _ (List.mem_cons_of_mem _ (List.mem_cons_of_mem _ (List.mem_cons_of_mem _ (List.mem_cons_of_mem _ (List.mem_cons_of_mem _ (List.mem_cons_of_mem _ (List.mem_cons_of_mem _ (List.mem_cons_of_mem _ (List.mem_cons_of_mem _ (List.mem_cons_of_mem _ (List.mem_cons_of_mem _ (List.mem_cons_self)))))))))))))))))))).2 (by decide), (hfs _ (List.mem_cons_of_mem _ (List.mem_cons_of_mem _ (List.mem_cons_of_mem _ (List.mem_cons_of_mem _ (List.mem_cons_of_mem _ (List.mem_cons_of_mem _ (List.mem_cons_of_mem _ (List.mem_cons_of_mem _ (List.mem_cons_of_mem _ (List.mem_cons_of_mem _ (List.mem_cons_of_mem _ (List.mem_cons_of_mem _ (List.mem_cons_of_mem _ (List.mem_cons_of_mem _ (List.mem_cons_of_mem _ (List.mem_cons_of_mem _ (List.mem_cons_of_mem _ (List.mem_cons_of_mem _ (List.mem_cons_of_mem _ (List.mem_cons_self))))))))))))))))))))).1, rtf_old hr9 (hfs _ (List.mem_cons_of_mem _ (List.mem_cons_of_mem _ (List.mem_cons_of_mem _ (List.mem_cons_of_mem _ (List.mem_cons_of_mem _ (List.mem_cons_of_mem _ (List.mem_cons_of_mem _ (List.mem_cons_of_mem _ (List.mem_cons_of_mem _ (List.mem_cons_of_mem _ (List.mem_cons_of_mem _ (List.mem_cons_of_mem _ (List.mem_cons_of_mem _ (List.mem_cons_of_mem _ (List.mem_cons_of_mem _ (List.mem_cons_of_mem _ (List.mem_cons_of_mem _ (List.mem_cons_of_mem _ (List.mem_cons_of_mem _ (List.mem_cons_self))))))))))))))))))))).2 (by decide), (hfs _ (List.mem_cons_of_mem _ (List.mem_cons_of_mem _ (List.mem_cons_of_mem _ (List.mem_cons_of_mem _ (List.mem_cons_of_mem _ (List.mem_cons_of_mem _ (List.mem_cons_of_mem _ (List.mem_cons_of_mem _ (List.mem_cons_of_mem _ (List.mem_cons_of_mem _ (List.mem_cons_of_mem _ (List.mem_cons_of_mem _ (List.mem_cons_of_mem _ (List.mem_cons_of_mem _ (List.mem_cons_of_mem _ (List.mem_cons_of_mem _ (List.mem_cons_of_mem _ (List.mem_cons_of_mem _ (List.mem_cons_of_mem _ (List.mem_cons_of_mem _ (List.mem_cons_self)))))))))))))))))))))).1, rtf_old hr9 (hfs _ (List.mem_cons_of_mem _ (List.mem_cons_of_mem _ (List.mem_cons_of_mem _ (List.mem_cons_of_mem _ (List.mem_cons_of_mem _ (List.mem_cons_of_mem _ (List.mem_cons_of_mem _ (List.mem_cons_of_mem _ (List.mem_cons_of_mem _ (List.mem_cons_of_mem _ (List.mem_cons_of_mem _ (List.mem_cons_of_mem _ (List.mem_cons_of_mem _ (List.mem_cons_of_mem _ (List.mem_cons_of_mem _ (List.mem_cons_of_mem _ (List.mem_cons_of_mem _ (List.mem_cons_of_mem _ (List.mem_cons_of_mem _ (List.mem_cons_of_mem _ (List.mem_cons_self)))))))))))))))))))))).2 (by decide)⟩)
  obtain ⟨ty, hty9, hN9, hfs, hT_h0, hT_q_87⟩ : ∃ t9 : TyM, t9 = rtf ty q_40 (7, ρ + 7, [q_15, ρ + 3, x_16, sl_41, sx_42, sy0_43, sy1_44, sy2_45, ke_46, kx_47, ky0_48, ky1_49, ky2_50, w0_51, w1_53, w2_55, w3_57, w4_59, w5_61, w6_63, w7_65, w8_67, tk_69, hs_70, hx_71, hy_72, hw_73, pw_74, px_75, py_76, pz_77, pu_78]) ∧ NEW (dC, dI) cs t9 L F_136 A H ∧ (∀ p ∈ ((q_40, (7, ρ + 7, [q_15, ρ + 3, x_16, sl_41, sx_42, sy0_43, sy1_44, sy2_45, ke_46, kx_47, ky0_48, ky1_49, ky2_50, w0_51, w1_53, w2_55, w3_57, w4_59, w5_61, w6_63, w7_65, w8_67, tk_69, hs_70, hx_71, hy_72, hw_73, pw_74, px_75, py_76, pz_77, pu_78])) :: [(q_22, (1, ρ + 5, [q_15, ρ + 3, x_16, w0_23, w1_25, w2_27, w3_29, nm_31, te_32])), (q_130, (4, ρ + 30, [x_131, y0_132, y1_133, y2_134])), (q_117, (4, ρ + 20, [x_118, y0_119, y1_120, y2_121])), (q_106, (8, ρ + 19, [x_107, y_108, w_109])), (w0_88, (0, ρ + 16, [r0_89, 60])), (w1_90, (0, ρ + 24, [r1_91, 60])), (rc_92, (9, ρ + 17, [rx_93, 700, ry0_94, ry1_95, ry2_96])), (sl_41, (9, ρ + 9, [sx_42, 3000, sy0_43, sy1_44, sy2_45])), (ke_46, (9, ρ + 11, [kx_47, 700, ky0_48, ky1_49, ky2_50])), (w0_51, (0, ρ + 89, [r0_52, 60])), (w1_53, (0, ρ + 90, [r1_54, 60])), (w2_55, (0, ρ + 91, [r2_56, 32])), (w3_57, (0, ρ + 92, [r3_58, 64])), (w4_59, (0, ρ + 93, [r4_60, 64])), (w5_61, (0, ρ + 94, [r5_62, 32])), (w6_63, (0, ρ + 95, [r6_64, 64])), (w7_65, (0, ρ + 96, [r7_66, 64])), (w8_67, (0, ρ + 97, [r8_68, 6100])), (tk_69, (18, ρ + 98, [20])), (hs_70, (8, ρ + 13, [hx_71, hy_72, hw_73])), (pw_74, (6, ρ + 14, [px_75, py_76, pz_77, pu_78])), (w0_23, (0, ρ + 36, [r0_24, 91])), (w1_25, (0, ρ + 37, [r1_26, 30])), (w2_27, (0, ρ + 38, [r2_28, 60])), (w3_29, (0, ρ + 39, [r3_30, 15])), (nm_31, (20, ρ + 40, [12])), (te_32, (22, ρ + 41, [11])), (q_15, (2, ρ + 3, [x_16])), (q_8, (0, ρ + 2, [q_9, 3000])), (q_1, (0, ρ + 1, [q_2, 3000]))] : List (Nat × TyE)), p.1 ∈ L ∧ t9 p.1 = p.2) ∧ t9 h0 = (99, 0, []) ∧ t9 q_87 = (99, 0, []) := ⟨_, rfl, hN9, into_fs hr9 hfs (by simp) hL_q_40, (rtf_ne hne_h0_q_40).trans hT_h0, (rtf_ne hne_q_40_q_87.symm).trans hT_q_87⟩
  obtain ⟨hP, hD, hO, hW⟩ := hN9
  have hr9 : (ty q_87).1 = 99 := by rw [hT_q_87]
  have hN9 : NEW (dC, dI) cs (rtf ty q_87 (5, ρ + 15, [q_15, ρ + 3, x_16, w0_88, w1_90, rc_92, rx_93, ry0_94, ry1_95, ry2_96])) L F_136 A H := NEW.into ⟨hP, hD, hO, hW⟩ hr9 (by rw [hF_141]; exact sh.pol rtf_self ⟨0, 0, 0, rfl⟩) (wta_pol rtf_self ⟨(hfs _ (List.mem_cons_of_mem _ (List.mem_cons_of_mem _ (List.mem_cons_of_mem _ (List.mem_cons_of_mem _ (List.mem_cons_of_mem _ (List.mem_cons_of_mem _ (List.mem_cons_of_mem _ (List.mem_cons_of_mem _ (List.mem_cons_of_mem _ (List.mem_cons_of_mem _ (List.mem_cons_of_mem _ (List.mem_cons_of_mem _ (List.mem_cons_of_mem _ (List.mem_cons_of_mem _ (List.mem_cons_of_mem _ (List.mem_cons_of_mem _ (List.mem_cons_of_mem _ (List.mem_cons_of_mem _ (List.mem_cons_of_mem _ (List.mem_cons_of_mem _ (List.mem_cons_of_mem _ (List.mem_cons_of_mem _ (List.mem_cons_of_mem _ (List.mem_cons_of_mem _ (List.mem_cons_of_mem _ (List.mem_cons_of_mem _ (List.mem_cons_of_mem _ (List.mem_cons_of_mem _ (List.mem_cons_self)))))))))))))))))))))))))))))).1, rtf_old hr9 (hfs _ (List.mem_cons_of_mem _ (List.mem_cons_of_mem _ (List.mem_cons_of_mem _ (List.mem_cons_of_mem _ (List.mem_cons_of_mem _ (List.mem_cons_of_mem _ (List.mem_cons_of_mem _ (List.mem_cons_of_mem _ (List.mem_cons_of_mem _ (List.mem_cons_of_mem _ (List.mem_cons_of_mem _ (List.mem_cons_of_mem _ (List.mem_cons_of_mem _ (List.mem_cons_of_mem _ (List.mem_cons_of_mem _ (List.mem_cons_of_mem _ (List.mem_cons_of_mem _ (List.mem_cons_of_mem _ (List.mem_cons_of_mem _ (List.mem_cons_of_mem _ (List.mem_cons_of_mem _ (List.mem_cons_of_mem _ (List.mem_cons_of_mem _ (List.mem_cons_of_mem _ (List.mem_cons_of_mem _ (List.mem_cons_of_mem _ (List.mem_cons_of_mem _ (List.mem_cons_of_mem _ (List.mem_cons_self)))))))))))))))))))))))))))))).2 (by decide), (hfs _ (List.mem_cons_of_mem _ (List.mem_cons_of_mem _ (List.mem_cons_of_mem _ (List.mem_cons_of_mem _ (List.mem_cons_of_mem _ (List.mem_cons_self))))))).1, ⟨_, rtf_old hr9 (hfs _ (List.mem_cons_of_mem _ (List.mem_cons_of_mem _ (List.mem_cons_of_mem _ (List.mem_cons_of_mem _ (List.mem_cons_of_mem _ (List.mem_cons_self))))))).2 (by decide)⟩, (hfs _ (List.mem_cons_of_mem _ (List.mem_cons_of_mem _ (List.mem_cons_of_mem _ (List.mem_cons_of_mem _ (List.mem_cons_of_mem _ (List.mem_cons_of_mem _ (List.mem_cons_self)))))))).1, ⟨_, rtf_old hr9 (hfs _ (List.mem_cons_of_mem _ (List.mem_cons_of_mem _ (List.mem_cons_of_mem _ (List.mem_cons_of_mem _ (List.mem_cons_of_mem _ (List.mem_cons_of_mem _ (List.mem_cons_self)))))))).2 (by decide)⟩, (hfs _ (List.mem_cons_of_mem _ (List.mem_cons_of_mem _ (List.mem_cons_of_mem _ (List.mem_cons_of_mem _ (List.mem_cons_of_mem _ (List.mem_cons_of_mem _ (List.mem_cons_of_mem _ (List.mem_cons_self))))))))).1, rtf_old hr9 (hfs _ (List.mem_cons_of_mem _ (List.mem_cons_of_mem _ (List.mem_cons_of_mem _ (List.mem_cons_of_mem _ (List.mem_cons_of_mem _ (List.mem_cons_of_mem _ (List.mem_cons_of_mem _ (List.mem_cons_self))))))))).2 (by decide)⟩)
  obtain ⟨ty, hty9, hN9, hfs, hT_h0⟩ : ∃ t9 : TyM, t9 = rtf ty q_87 (5, ρ + 15, [q_15, ρ + 3, x_16, w0_88, w1_90, rc_92, rx_93, ry0_94, ry1_95, ry2_96]) ∧ NEW (dC, dI) cs t9 L F_136 A H ∧ (∀ p ∈ ((q_87, (5, ρ + 15, [q_15, ρ + 3, x_16, w0_88, w1_90, rc_92, rx_93, ry0_94, ry1_95, ry2_96])) :: [(q_40, (7, ρ + 7, [q_15, ρ + 3, x_16, sl_41, sx_42, sy0_43, sy1_44, sy2_45, ke_46, kx_47, ky0_48, ky1_49, ky2_50, w0_51, w1_53, w2_55, w3_57, w4_59, w5_61, w6_63, w7_65, w8_67, tk_69, hs_70, hx_71, hy_72, hw_73, pw_74, px_75, py_76, pz_77, pu_78])), (q_22, (1, ρ + 5, [q_15, ρ + 3, x_16, w0_23, w1_25, w2_27, w3_29, nm_31, te_32])), (q_130, (4, ρ + 30, [x_131, y0_132, y1_133, y2_134])), (q_117, (4, ρ + 20, [x_118, y0_119, y1_120, y2_121])), (q_106, (8, ρ + 19, [x_107, y_108, w_109])), (w0_88, (0, ρ + 16, [r0_89, 60])), (w1_90, (0, ρ + 24, [r1_91, 60])), (rc_92, (9, ρ + 17, [rx_93, 700, ry0_94, ry1_95, ry2_96])), (sl_41, (9, ρ + 9, [sx_42, 3000, sy0_43, sy1_44, sy2_45])), (ke_46, (9, ρ + 11, [kx_47, 700, ky0_48, ky1_49, ky2_50])), (w0_51, (0, ρ + 89, [r0_52, 60])), (w1_53, (0, ρ + 90, [r1_54, 60])), (w2_55, (0, ρ + 91, [r2_56, 32])), (w3_57, (0, ρ + 92, [r3_58, 64])), (w4_59, (0, ρ + 93, [r4_60, 64])), (w5_61, (0, ρ + 94, [r5_62, 32])), (w6_63, (0, ρ + 95, [r6_64, 64])), (w7_65, (0, ρ + 96, [r7_66, 64])), (w8_67, (0, ρ + 97, [r8_68, 6100])), (tk_69, (18, ρ + 98, [20])), (hs_70, (8, ρ + 13, [hx_71, hy_72, hw_73])), (pw_74, (6, ρ + 14, [px_75, py_76, pz_77, pu_78])), (w0_23, (0, ρ + 36, [r0_24, 91])), (w1_25, (0, ρ + 37, [r1_26, 30])), (w2_27, (0, ρ + 38, [r2_28, 60])), (w3_29, (0, ρ + 39, [r3_30, 15])), (nm_31, (20, ρ + 40, [12])), (te_32, (22, ρ + 41, [11])), (q_15, (2, ρ + 3, [x_16])), (q_8, (0, ρ + 2, [q_9, 3000])), (q_1, (0, ρ + 1, [q_2, 3000]))] : List (Nat × TyE)), p.1 ∈ L ∧ t9 p.1 = p.2) ∧ t9 h0 = (99, 0, []) := ⟨_, rfl, hN9, into_fs hr9 hfs (by simp) hL_q_87, (rtf_ne hne_h0_q_87).trans hT_h0⟩
  obtain ⟨hP, hD, hO, hW⟩ := hN9
  have hr9 : (ty h0).1 = 99 := by rw [hT_h0]
  have hN9 : NEW (dC, dI) cs (rtf ty h0 (11, ρ, [q_1, q_8, q_15, x_16, q_22, q_40, q_87, q_106])) L F_136 A H := NEW.into ⟨hP, hD, hO, hW⟩ hr9 (by rw [hF_138]; exact sh.gate rtf_self ⟨q_117, q_130, ρ + 20, ρ + 30, rfl, (hfs _ (List.mem_cons_of_mem _ (List.mem_cons_of_mem _ (List.mem_cons_of_mem _ (List.mem_cons_of_mem _ (List.mem_cons_self)))))).1, ⟨_, _, _, _, rtf_old hr9 (hfs _ (List.mem_cons_of_mem _ (List.mem_cons_of_mem _ (List.mem_cons_of_mem _ (List.mem_cons_of_mem _ (List.mem_cons_self)))))).2 (by decide)⟩, (hfs _ (List.mem_cons_of_mem _ (List.mem_cons_of_mem _ (List.mem_cons_of_mem _ (List.mem_cons_self))))).1, ⟨_, _, _, _, rtf_old hr9 (hfs _ (List.mem_cons_of_mem _ (List.mem_cons_of_mem _ (List.mem_cons_of_mem _ (List.mem_cons_self))))).2 (by decide)⟩, (by omega), (by omega)⟩) (wta_gate rtf_self ⟨(hfs _ (List.mem_cons_of_mem _ (List.mem_cons_of_mem _ (List.mem_cons_of_mem _ (List.mem_cons_of_mem _ (List.mem_cons_of_mem _ (List.mem_cons_of_mem _ (List.mem_cons_of_mem _ (List.mem_cons_of_mem _ (List.mem_cons_of_mem _ (List.mem_cons_of_mem _ (List.mem_cons_of_mem _ (List.mem_cons_of_mem _ (List.mem_cons_of_mem _ (List.mem_cons_of_mem _ (List.mem_cons_of_mem _ (List.mem_cons_of_mem _ (List.mem_cons_of_mem _ (List.mem_cons_of_mem _ (List.mem_cons_of_mem _ (List.mem_cons_of_mem _ (List.mem_cons_of_mem _ (List.mem_cons_of_mem _ (List.mem_cons_of_mem _ (List.mem_cons_of_mem _ (List.mem_cons_of_mem _ (List.mem_cons_of_mem _ (List.mem_cons_of_mem _ (List.mem_cons_of_mem _ (List.mem_cons_of_mem _ (List.mem_cons_of_mem _ (List.mem_cons_of_mem _ (List.mem_cons_self))))))))))))))))))))))))))))))))).1, ⟨_, rtf_old hr9 (hfs _ (List.mem_cons_of_mem _ (List.mem_cons_of_mem _ (List.mem_cons_of_mem _ (List.mem_cons_of_mem _ (List.mem_cons_of_mem _ (List.mem_cons_of_mem _ (List.mem_cons_of_mem _ (List.mem_cons_of_mem _ (List.mem_cons_of_mem _ (List.mem_cons_of_mem _ (List.mem_cons_of_mem _ (List.mem_cons_of_mem _ (List.mem_cons_of_mem _ (List.mem_cons_of_mem _ (List.mem_cons_of_mem _ (List.mem_cons_of_mem _ (List.mem_cons_of_mem _ (List.mem_cons_of_mem _ (List.mem_cons_of_mem _ (List.mem_cons_of_mem _ (List.mem_cons_of_mem _ (List.mem_cons_of_mem _ (List.mem_cons_of_mem _ (List.mem_cons_of_mem _ (List.mem_cons_of_mem _ (List.mem_cons_of_mem _ (List.mem_cons_of_mem _ (List.mem_cons_of_mem _ (List.mem_cons_of_mem _ (List.mem_cons_of_mem _ (List.mem_cons_of_mem _ (List.mem_cons_self))))))))))))))))))))))))))))))))).2 (by decide)⟩, (hfs _ (List.mem_cons_of_mem _ (List.mem_cons_of_mem _ (List.mem_cons_of_mem _ (List.mem_cons_of_mem _ (List.mem_cons_of_mem _ (List.mem_cons_of_mem _ (List.mem_cons_of_mem _ (List.mem_cons_of_mem _ (List.mem_cons_of_mem _ (List.mem_cons_of_mem _ (List.mem_cons_of_mem _ (List.mem_cons_of_mem _ (List.mem_cons_of_mem _ (List.mem_cons_of_mem _ (List.mem_cons_of_mem _ (List.mem_cons_of_mem _ (List.mem_cons_of_mem _ (List.mem_cons_of_mem _ (List.mem_cons_of_mem _ (List.mem_cons_of_mem _ (List.mem_cons_of_mem _ (List.mem_cons_of_mem _ (List.mem_cons_of_mem _ (List.mem_cons_of_mem _ (List.mem_cons_of_mem _ (List.mem_cons_of_mem _ (List.mem_cons_of_mem _ (List.mem_cons_of_mem _ (List.mem_cons_of_mem _ (List.mem_cons_of_mem _ (List.mem_cons_self)))))))))))))))))))))))))))))))).1, ⟨_, rtf_old hr9 (hfs _ (List.mem_cons_of_mem _ (List.mem_cons_of_mem _ (List.mem_cons_of_mem _ (List.mem_cons_of_mem _ (List.mem_cons_of_mem _ (List.mem_cons_of_mem _ (List.mem_cons_of_mem _ (List.mem_cons_of_mem _ (List.mem_cons_of_mem _ (List.mem_cons_of_mem _ (List.mem_cons_of_mem _ (List.mem_cons_of_mem _ (List.mem_cons_of_mem _ (List.mem_cons_of_mem _ (List.mem_cons_of_mem _ (List.mem_cons_of_mem _ (List.mem_cons_of_mem _ (List.mem_cons_of_mem _ (List.mem_cons_of_mem _ (List.mem_cons_of_mem _ (List.mem_cons_of_mem _ (List.mem_cons_of_mem _ (List.mem_cons_of_mem _ (List.mem_cons_of_mem _ (List.mem_cons_of_mem _ (List.mem_cons_of_mem _ (List.mem_cons_of_mem _ (List.mem_cons_of_mem _ (List.mem_cons_of_mem _ (List.mem_cons_of_mem _ (List.mem_cons_self)))))))))))))))))))))))))))))))).2 (by decide)⟩, (hfs _ (List.mem_cons_of_mem _ (List.mem_cons_of_mem _ (List.mem_cons_of_mem _ (List.mem_cons_of_mem _ (List.mem_cons_of_mem _ (List.mem_cons_of_mem _ (List.mem_cons_of_mem _ (List.mem_cons_of_mem _ (List.mem_cons_of_mem _ (List.mem_cons_of_mem _ (List.mem_cons_of_mem _ (List.mem_cons_of_mem _ (List.mem_cons_of_mem _ (List.mem_cons_of_mem _ (List.mem_cons_of_mem _ (List.mem_cons_of_mem _ (List.mem_cons_of_mem _ (List.mem_cons_of_mem _ (List.mem_cons_of_mem _ (List.mem_cons_of_mem _ (List.mem_cons_of_mem _ (List.mem_cons_of_mem _ (List.mem_cons_of_mem _ (List.mem_cons_of_mem _ (List.mem_cons_of_mem _ (List.mem_cons_of_mem _ (List.mem_cons_of_mem _ (List.mem_cons_of_mem _ (List.mem_cons_of_mem _ (List.mem_cons_self))))))))))))))))))))))))))))))).1, rtf_old hr9 (hfs _ (List.mem_cons_of_mem _ (List.mem_cons_of_mem _ (List.mem_cons_of_mem _ (List.mem_cons_of_mem _ (List.mem_cons_of_mem _ (List.mem_cons_of_mem _ (List.mem_cons_of_mem _ (List.mem_cons_of_mem _ (List.mem_cons_of_mem _ (List.mem_cons_of_mem _ (List.mem_cons_of_mem _ (List.mem_cons_of_mem _ (List.mem_cons_of_mem _ (List.mem_cons_of_mem _ (List.mem_cons_of_mem _ (List.mem_cons_of_mem _ (List.mem_cons_of_mem _ (List.mem_cons_of_mem _ (List.mem_cons_of_mem _ (List.mem_cons_of_mem _ (List.mem_cons_of_mem _ (List.mem_cons_of_mem _ (List.mem_cons_of_mem _ (List.mem_cons_of_mem _ (List.mem_cons_of_mem _ (List.mem_cons_of_mem _ (List.mem_cons_of_mem _ (List.mem_cons_of_mem _ (List.mem_cons_of_mem _ (List.mem_cons_self))))))))))))))))))))))))))))))).2 (by decide), (hfs _ (List.mem_cons_of_mem _ (List.mem_cons_of_mem _ (List.mem_cons_self)))).1, ⟨_, _, _, _, _, _, rtf_old hr9 (hfs _ (List.mem_cons_of_mem _ (List.mem_cons_of_mem _ (List.mem_cons_self)))).2 (by decide)⟩, (hfs _ (List.mem_cons_of_mem _ (List.mem_cons_self))).1, ⟨_, _, _, _, _, _, _, _, _, _, _, _, _, _, _, _, _, _, _, _, _, _, _, _, _, _, _, _, _, rtf_old hr9 (hfs _ (List.mem_cons_of_mem _ (List.mem_cons_self))).2 (by decide)⟩, (hfs _ (List.mem_cons_self)).1, ⟨_, _, _, _, _, _, _, rtf_old hr9 (hfs _ (List.mem_cons_self)).2 (by decide)⟩, (hfs _ (List.mem_cons_of_mem _ (List.mem_cons_of_mem _ (List.mem_cons_of_mem _ (List.mem_cons_of_mem _ (List.mem_cons_of_mem _ (List.mem_cons_self))))))).1, ⟨_, _, _, rtf_old hr9 (hfs _ (List.mem_cons_of_mem _ (List.mem_cons_of_mem _ (List.mem_cons_of_mem _ (List.mem_cons_of_mem _ (List.mem_cons_of_mem _ (List.mem_cons_self))))))).2 (by decide)⟩⟩)
  refine W.widen (k := 323) (n := 55814) (by omega) (by omega) ?_
  exact W.vret hx hb hr (fun t ht hWm => ⟨⟨(), rfl, trivial, ⟨L, F_136, rtf ty h0 (11, ρ, [q_1, q_8, q_15, x_16, q_22, q_40, q_87, q_106]), q_1, q_8, q_15, x_16, q_22, q_40, q_87, q_106, q_117, q_130, x_118, y0_119, y1_120, y2_121, x_131, y0_132, y1_133, y2_134, w0_23, w1_25, w2_27, w3_29, nm_31, te_32, (by rw [ht]; exact hN9), hL_h0, rtf_self, ⟨by omega, _, hwF_q_1⟩, hwF_q_15, hwF_q_117, hF_138, (hfs _ (List.mem_cons_of_mem _ (List.mem_cons_of_mem _ (List.mem_cons_of_mem _ (List.mem_cons_of_mem _ (List.mem_cons_self)))))).1, rtf_old hr9 (hfs _ (List.mem_cons_of_mem _ (List.mem_cons_of_mem _ (List.mem_cons_of_mem _ (List.mem_cons_of_mem _ (List.mem_cons_self)))))).2 (by decide), (hfs _ (List.mem_cons_of_mem _ (List.mem_cons_of_mem _ (List.mem_cons_of_mem _ (List.mem_cons_self))))).1, rtf_old hr9 (hfs _ (List.mem_cons_of_mem _ (List.mem_cons_of_mem _ (List.mem_cons_of_mem _ (List.mem_cons_self))))).2 (by decide), ⟨by omega, _, hwF_q_8⟩, hF_139, (hfs _ (List.mem_cons_of_mem _ (List.mem_cons_of_mem _ (List.mem_cons_self)))).1, rtf_old hr9 (hfs _ (List.mem_cons_of_mem _ (List.mem_cons_of_mem _ (List.mem_cons_self)))).2 (by decide)⟩⟩, hS.F ht⟩) hS.2.2 dX11_init_121
