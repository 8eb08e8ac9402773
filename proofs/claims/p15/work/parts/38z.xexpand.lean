theorem dX1_addMacro_0 : decode cX1_addMacro 0 = .ok (.aload_n 0, 1) := by decide +kernel
theorem dX1_addMacro_1 : decode cX1_addMacro 1 = .ok (.getfield 29, 3) := by decide +kernel
theorem dX1_addMacro_4 : decode cX1_addMacro 4 = .ok (.iload 4, 2) := by decide +kernel
theorem dX1_addMacro_6 : decode cX1_addMacro 6 = .ok (.iconst 1, 1) := by decide +kernel
theorem dX1_addMacro_7 : decode cX1_addMacro 7 = .ok (.iadd, 1) := by decide +kernel
theorem dX1_addMacro_8 : decode cX1_addMacro 8 = .ok (.aaload, 1) := by decide +kernel
theorem dX1_addMacro_9 : decode cX1_addMacro 9 = .ok (.astore 5, 2) := by decide +kernel
theorem dX1_addMacro_11 : decode cX1_addMacro 11 = .ok (.aload_n 1, 1) := by decide +kernel
theorem dX1_addMacro_12 : decode cX1_addMacro 12 = .ok (.iload_n 2, 1) := by decide +kernel
theorem dX1_addMacro_13 : decode cX1_addMacro 13 = .ok (.iconst 1, 1) := by decide +kernel
theorem dX1_addMacro_14 : decode cX1_addMacro 14 = .ok (.iadd, 1) := by decide +kernel
theorem dX1_addMacro_15 : decode cX1_addMacro 15 = .ok (.invokevirtual 87, 3) := by decide +kernel
theorem dX1_addMacro_18 : decode cX1_addMacro 18 = .ok (.lookupswitch 64 #[(37, 34), (45, 54), (95, 44)], 34) := by decide +kernel
theorem dX1_addMacro_52 : decode cX1_addMacro 52 = .ok (.aload 5, 2) := by decide +kernel
theorem dX1_addMacro_54 : decode cX1_addMacro 54 = .ok (.bipush 37, 2) := by decide +kernel
theorem dX1_addMacro_56 : decode cX1_addMacro 56 = .ok (.invokevirtual 98, 3) := by decide +kernel
theorem dX1_addMacro_59 : decode cX1_addMacro 59 = .ok (.goto 95, 3) := by decide +kernel
theorem dX1_addMacro_62 : decode cX1_addMacro 62 = .ok (.aload 5, 2) := by decide +kernel
theorem dX1_addMacro_64 : decode cX1_addMacro 64 = .ok (.bipush 32, 2) := by decide +kernel
theorem dX1_addMacro_66 : decode cX1_addMacro 66 = .ok (.invokevirtual 98, 3) := by decide +kernel
theorem dX1_addMacro_69 : decode cX1_addMacro 69 = .ok (.goto 85, 3) := by decide +kernel
theorem dX1_addMacro_72 : decode cX1_addMacro 72 = .ok (.aload 5, 2) := by decide +kernel
theorem dX1_addMacro_74 : decode cX1_addMacro 74 = .ok (.ldc 218, 2) := by decide +kernel
theorem dX1_addMacro_76 : decode cX1_addMacro 76 = .ok (.invokevirtual 220, 3) := by decide +kernel
theorem dX1_addMacro_79 : decode cX1_addMacro 79 = .ok (.goto 75, 3) := by decide +kernel
theorem dX1_addMacro_82 : decode cX1_addMacro 82 = .ok (.aload_n 1, 1) := by decide +kernel
theorem dX1_addMacro_83 : decode cX1_addMacro 83 = .ok (.iload_n 2, 1) := by decide +kernel
theorem dX1_addMacro_84 : decode cX1_addMacro 84 = .ok (.iconst 3, 1) := by decide +kernel
theorem dX1_addMacro_85 : decode cX1_addMacro 85 = .ok (.iadd, 1) := by decide +kernel
theorem dX1_addMacro_86 : decode cX1_addMacro 86 = .ok (.invokevirtual 87, 3) := by decide +kernel
theorem dX1_addMacro_89 : decode cX1_addMacro 89 = .ok (.bipush 48, 2) := by decide +kernel
theorem dX1_addMacro_91 : decode cX1_addMacro 91 = .ok (.isub, 1) := by decide +kernel
theorem dX1_addMacro_92 : decode cX1_addMacro 92 = .ok (.istore 6, 2) := by decide +kernel
theorem dX1_addMacro_94 : decode cX1_addMacro 94 = .ok (.aload_n 1, 1) := by decide +kernel
theorem dX1_addMacro_95 : decode cX1_addMacro 95 = .ok (.iload_n 2, 1) := by decide +kernel
theorem dX1_addMacro_96 : decode cX1_addMacro 96 = .ok (.iload_n 3, 1) := by decide +kernel
theorem dX1_addMacro_97 : decode cX1_addMacro 97 = .ok (.iadd, 1) := by decide +kernel
theorem dX1_addMacro_98 : decode cX1_addMacro 98 = .ok (.iconst 2, 1) := by decide +kernel
theorem dX1_addMacro_99 : decode cX1_addMacro 99 = .ok (.isub, 1) := by decide +kernel
theorem dX1_addMacro_100 : decode cX1_addMacro 100 = .ok (.invokevirtual 87, 3) := by decide +kernel
theorem dX1_addMacro_103 : decode cX1_addMacro 103 = .ok (.bipush 114, 2) := by decide +kernel
theorem dX1_addMacro_105 : decode cX1_addMacro 105 = .ok (.if_icmp .ne 7, 3) := by decide +kernel
theorem dX1_addMacro_108 : decode cX1_addMacro 108 = .ok (.iconst 1, 1) := by decide +kernel
theorem dX1_addMacro_109 : decode cX1_addMacro 109 = .ok (.goto 4, 3) := by decide +kernel
theorem dX1_addMacro_112 : decode cX1_addMacro 112 = .ok (.iconst 0, 1) := by decide +kernel
theorem dX1_addMacro_113 : decode cX1_addMacro 113 = .ok (.istore 7, 2) := by decide +kernel
theorem dX1_addMacro_115 : decode cX1_addMacro 115 = .ok (.aload_n 0, 1) := by decide +kernel
theorem dX1_addMacro_116 : decode cX1_addMacro 116 = .ok (.aload_n 1, 1) := by decide +kernel
theorem dX1_addMacro_117 : decode cX1_addMacro 117 = .ok (.iload_n 2, 1) := by decide +kernel
theorem dX1_addMacro_118 : decode cX1_addMacro 118 = .ok (.iconst 2, 1) := by decide +kernel
theorem dX1_addMacro_119 : decode cX1_addMacro 119 = .ok (.iadd, 1) := by decide +kernel
theorem dX1_addMacro_120 : decode cX1_addMacro 120 = .ok (.invokevirtual 87, 3) := by decide +kernel
theorem dX1_addMacro_123 : decode cX1_addMacro 123 = .ok (.iload 4, 2) := by decide +kernel
theorem dX1_addMacro_125 : decode cX1_addMacro 125 = .ok (.invokevirtual 224, 3) := by decide +kernel
theorem dX1_addMacro_128 : decode cX1_addMacro 128 = .ok (.iload 6, 2) := by decide +kernel
theorem dX1_addMacro_130 : decode cX1_addMacro 130 = .ok (.iconst 1, 1) := by decide +kernel
theorem dX1_addMacro_131 : decode cX1_addMacro 131 = .ok (.if_icmp .lt 15, 3) := by decide +kernel
theorem dX1_addMacro_134 : decode cX1_addMacro 134 = .ok (.iload 6, 2) := by decide +kernel
theorem dX1_addMacro_136 : decode cX1_addMacro 136 = .ok (.bipush 9, 2) := by decide +kernel
theorem dX1_addMacro_138 : decode cX1_addMacro 138 = .ok (.if_icmp .gt 8, 3) := by decide +kernel
theorem dX1_addMacro_141 : decode cX1_addMacro 141 = .ok (.iload 6, 2) := by decide +kernel
theorem dX1_addMacro_143 : decode cX1_addMacro 143 = .ok (.goto 4, 3) := by decide +kernel
theorem dX1_addMacro_146 : decode cX1_addMacro 146 = .ok (.iconst 0, 1) := by decide +kernel
theorem dX1_addMacro_147 : decode cX1_addMacro 147 = .ok (.iload 7, 2) := by decide +kernel
theorem dX1_addMacro_149 : decode cX1_addMacro 149 = .ok (.aload 5, 2) := by decide +kernel
theorem dX1_addMacro_151 : decode cX1_addMacro 151 = .ok (.invokestatic 228, 3) := by decide +kernel
theorem dX1_addMacro_154 : decode cX1_addMacro 154 = .ok (.return_, 1) := by decide +kernel
theorem dX1_expand_0 : decode cX1_expand 0 = .ok (.aload_n 0, 1) := by decide +kernel
theorem dX1_expand_1 : decode cX1_expand 1 = .ok (.getfield 35, 3) := by decide +kernel
theorem dX1_expand_4 : decode cX1_expand 4 = .ok (.iload_n 2, 1) := by decide +kernel
theorem dX1_expand_5 : decode cX1_expand 5 = .ok (.aaload, 1) := by decide +kernel
theorem dX1_expand_6 : decode cX1_expand 6 = .ok (.astore_n 3, 1) := by decide +kernel
theorem dX1_expand_7 : decode cX1_expand 7 = .ok (.aload_n 0, 1) := by decide +kernel
theorem dX1_expand_8 : decode cX1_expand 8 = .ok (.getfield 29, 3) := by decide +kernel
theorem dX1_expand_11 : decode cX1_expand 11 = .ok (.iload_n 2, 1) := by decide +kernel
theorem dX1_expand_12 : decode cX1_expand 12 = .ok (.iconst 1, 1) := by decide +kernel
theorem dX1_expand_13 : decode cX1_expand 13 = .ok (.iadd, 1) := by decide +kernel
theorem dX1_expand_14 : decode cX1_expand 14 = .ok (.aaload, 1) := by decide +kernel
theorem dX1_expand_15 : decode cX1_expand 15 = .ok (.astore 4, 2) := by decide +kernel
theorem dX1_expand_17 : decode cX1_expand 17 = .ok (.aload_n 3, 1) := by decide +kernel
theorem dX1_expand_18 : decode cX1_expand 18 = .ok (.getfield 198, 3) := by decide +kernel
theorem dX1_expand_21 : decode cX1_expand 21 = .ok (.aload_n 3, 1) := by decide +kernel
theorem dX1_expand_22 : decode cX1_expand 22 = .ok (.getfield 201, 3) := by decide +kernel
theorem dX1_expand_25 : decode cX1_expand 25 = .ok (.if_icmp .ne 15, 3) := by decide +kernel
theorem dX1_expand_28 : decode cX1_expand 28 = .ok (.aload 4, 2) := by decide +kernel
theorem dX1_expand_30 : decode cX1_expand 30 = .ok (.aload_n 0, 1) := by decide +kernel
theorem dX1_expand_31 : decode cX1_expand 31 = .ok (.getfield 29, 3) := by decide +kernel
theorem dX1_expand_34 : decode cX1_expand 34 = .ok (.iload_n 2, 1) := by decide +kernel
theorem dX1_expand_35 : decode cX1_expand 35 = .ok (.aaload, 1) := by decide +kernel
theorem dX1_expand_36 : decode cX1_expand 36 = .ok (.invokevirtual 73, 3) := by decide +kernel
theorem dX1_expand_39 : decode cX1_expand 39 = .ok (.return_, 1) := by decide +kernel
theorem dX1_expand_40 : decode cX1_expand 40 = .ok (.aload 4, 2) := by decide +kernel
theorem dX1_expand_42 : decode cX1_expand 42 = .ok (.invokevirtual 77, 3) := by decide +kernel
theorem dX1_expand_45 : decode cX1_expand 45 = .ok (.iconst 1, 1) := by decide +kernel
theorem dX1_expand_46 : decode cX1_expand 46 = .ok (.istore 5, 2) := by decide +kernel
theorem dX1_expand_48 : decode cX1_expand 48 = .ok (.aload_n 3, 1) := by decide +kernel
theorem dX1_expand_49 : decode cX1_expand 49 = .ok (.getfield 198, 3) := by decide +kernel
theorem dX1_expand_52 : decode cX1_expand 52 = .ok (.istore 6, 2) := by decide +kernel
theorem dX1_expand_54 : decode cX1_expand 54 = .ok (.iload 6, 2) := by decide +kernel
theorem dX1_expand_56 : decode cX1_expand 56 = .ok (.aload_n 3, 1) := by decide +kernel
theorem dX1_expand_57 : decode cX1_expand 57 = .ok (.getfield 201, 3) := by decide +kernel
theorem dX1_expand_60 : decode cX1_expand 60 = .ok (.if_icmp .ge 62, 3) := by decide +kernel
theorem dX1_expand_63 : decode cX1_expand 63 = .ok (.aload_n 1, 1) := by decide +kernel
theorem dX1_expand_64 : decode cX1_expand 64 = .ok (.iload 6, 2) := by decide +kernel
theorem dX1_expand_66 : decode cX1_expand 66 = .ok (.aload_n 3, 1) := by decide +kernel
theorem dX1_expand_67 : decode cX1_expand 67 = .ok (.getfield 201, 3) := by decide +kernel
theorem dX1_expand_70 : decode cX1_expand 70 = .ok (.invokestatic 204, 3) := by decide +kernel
theorem dX1_expand_73 : decode cX1_expand 73 = .ok (.istore 7, 2) := by decide +kernel
theorem dX1_expand_75 : decode cX1_expand 75 = .ok (.iload 7, 2) := by decide +kernel
theorem dX1_expand_77 : decode cX1_expand 77 = .ok (.ifCond .ne 17, 3) := by decide +kernel
theorem dX1_expand_80 : decode cX1_expand 80 = .ok (.aload 4, 2) := by decide +kernel
theorem dX1_expand_82 : decode cX1_expand 82 = .ok (.aload_n 1, 1) := by decide +kernel
theorem dX1_expand_83 : decode cX1_expand 83 = .ok (.iload 6, 2) := by decide +kernel
theorem dX1_expand_85 : decode cX1_expand 85 = .ok (.invokevirtual 87, 3) := by decide +kernel
theorem dX1_expand_88 : decode cX1_expand 88 = .ok (.invokevirtual 98, 3) := by decide +kernel
theorem dX1_expand_91 : decode cX1_expand 91 = .ok (.goto 13, 3) := by decide +kernel
theorem dX1_expand_94 : decode cX1_expand 94 = .ok (.aload_n 0, 1) := by decide +kernel
theorem dX1_expand_95 : decode cX1_expand 95 = .ok (.aload_n 1, 1) := by decide +kernel
theorem dX1_expand_96 : decode cX1_expand 96 = .ok (.iload 6, 2) := by decide +kernel
theorem dX1_expand_98 : decode cX1_expand 98 = .ok (.iload 7, 2) := by decide +kernel
theorem dX1_expand_100 : decode cX1_expand 100 = .ok (.iload_n 2, 1) := by decide +kernel
theorem dX1_expand_101 : decode cX1_expand 101 = .ok (.invokevirtual 208, 3) := by decide +kernel
theorem dX1_expand_104 : decode cX1_expand 104 = .ok (.iconst 1, 1) := by decide +kernel
theorem dX1_expand_105 : decode cX1_expand 105 = .ok (.iload 7, 2) := by decide +kernel
theorem dX1_expand_107 : decode cX1_expand 107 = .ok (.invokestatic 212, 3) := by decide +kernel
theorem dX1_expand_110 : decode cX1_expand 110 = .ok (.istore 5, 2) := by decide +kernel
theorem dX1_expand_112 : decode cX1_expand 112 = .ok (.iload 6, 2) := by decide +kernel
theorem dX1_expand_114 : decode cX1_expand 114 = .ok (.iload 5, 2) := by decide +kernel
theorem dX1_expand_116 : decode cX1_expand 116 = .ok (.iadd, 1) := by decide +kernel
theorem dX1_expand_117 : decode cX1_expand 117 = .ok (.istore 6, 2) := by decide +kernel
theorem dX1_expand_119 : decode cX1_expand 119 = .ok (.goto (-65), 3) := by decide +kernel
theorem dX1_expand_122 : decode cX1_expand 122 = .ok (.return_, 1) := by decide +kernel
theorem dX1_pieceOf_0 : decode cX1_pieceOf 0 = .ok (.iload_n 1, 1) := by decide +kernel
theorem dX1_pieceOf_1 : decode cX1_pieceOf 1 = .ok (.lookupswitch 63 #[(105, 58), (108, 48), (111, 53), (115, 43)], 43) := by decide +kernel
theorem dX1_pieceOf_44 : decode cX1_pieceOf 44 = .ok (.aload_n 0, 1) := by decide +kernel
theorem dX1_pieceOf_45 : decode cX1_pieceOf 45 = .ok (.getfield 16, 3) := by decide +kernel
theorem dX1_pieceOf_48 : decode cX1_pieceOf 48 = .ok (.areturn, 1) := by decide +kernel
theorem dX1_pieceOf_49 : decode cX1_pieceOf 49 = .ok (.aload_n 0, 1) := by decide +kernel
theorem dX1_pieceOf_50 : decode cX1_pieceOf 50 = .ok (.getfield 20, 3) := by decide +kernel
theorem dX1_pieceOf_53 : decode cX1_pieceOf 53 = .ok (.areturn, 1) := by decide +kernel
theorem dX1_pieceOf_54 : decode cX1_pieceOf 54 = .ok (.aload_n 0, 1) := by decide +kernel
theorem dX1_pieceOf_55 : decode cX1_pieceOf 55 = .ok (.getfield 23, 3) := by decide +kernel
theorem dX1_pieceOf_58 : decode cX1_pieceOf 58 = .ok (.areturn, 1) := by decide +kernel
theorem dX1_pieceOf_59 : decode cX1_pieceOf 59 = .ok (.aload_n 0, 1) := by decide +kernel
theorem dX1_pieceOf_60 : decode cX1_pieceOf 60 = .ok (.getfield 26, 3) := by decide +kernel
theorem dX1_pieceOf_63 : decode cX1_pieceOf 63 = .ok (.areturn, 1) := by decide +kernel
theorem dX1_pieceOf_64 : decode cX1_pieceOf 64 = .ok (.aload_n 0, 1) := by decide +kernel
theorem dX1_pieceOf_65 : decode cX1_pieceOf 65 = .ok (.getfield 29, 3) := by decide +kernel
theorem dX1_pieceOf_68 : decode cX1_pieceOf 68 = .ok (.iload_n 2, 1) := by decide +kernel
theorem dX1_pieceOf_69 : decode cX1_pieceOf 69 = .ok (.aaload, 1) := by decide +kernel
theorem dX1_pieceOf_70 : decode cX1_pieceOf 70 = .ok (.areturn, 1) := by decide +kernel
theorem kt_565 : Cond.fieldLink RX1 26 "PostGate$Checker" "quad" "LPostGate$Bytes;" ∈ tb := tb_at (i := 226) (by decide +kernel) (by decide +kernel)
theorem kt_566 : Cond.fieldLink RX1 20 "PostGate$Checker" "local" "LPostGate$Bytes;" ∈ tb := tb_at (i := 223) (by decide +kernel) (by decide +kernel)
theorem kt_567 : Cond.fieldLink RX1 23 "PostGate$Checker" "domain" "LPostGate$Bytes;" ∈ tb := tb_at (i := 224) (by decide +kernel) (by decide +kernel)
theorem kt_568 : Cond.fieldLink RX1 16 "PostGate$Checker" "whole" "LPostGate$Bytes;" ∈ tb := tb_at (i := 222) (by decide +kernel) (by decide +kernel)
theorem kt_569 : Cond.fieldLink RX1 29 "PostGate$Checker" "names" "[LPostGate$Bytes;" ∈ tb := tb_at (i := 227) (by decide +kernel) (by decide +kernel)
theorem kt_570 : Cond.methodLink RX1 220 yX0_addText ∈ tb := tb_at (i := 748) (by decide +kernel) (by decide +kernel)
theorem kt_571 : Cond.code yX1_pieceOf cX1_pieceOf 3 (some (.object "PostGate$Bytes")) ∈ tb := tb_at (i := 755) (by decide +kernel) (by decide +kernel)
theorem kt_572 : Cond.initialized RX1 ∈ tb := tb_at (i := 85) (by decide +kernel) (by decide +kernel)
theorem kt_573 : Cond.methodLink RX1 224 yX1_pieceOf ∈ tb := tb_at (i := 752) (by decide +kernel) (by decide +kernel)
theorem kt_574 : Cond.instanceMethod yX1_pieceOf ∈ tb := tb_at (i := 754) (by decide +kernel) (by decide +kernel)
theorem kt_575 : Cond.selects RX1 yX1_pieceOf yX1_pieceOf ∈ tb := tb_at (i := 9) (by decide +kernel) (by decide +kernel)
theorem kt_576 : Cond.code yX1_addParts cX1_addParts 8 none ∈ tb := tb_at (i := 758) (by decide +kernel) (by decide +kernel)
theorem kt_577 : Cond.methodLink RX1 228 yX1_addParts ∈ tb := tb_at (i := 756) (by decide +kernel) (by decide +kernel)
theorem kt_578 : Cond.static yX1_addParts ∈ tb := tb_at (i := 757) (by decide +kernel) (by decide +kernel)
theorem kt_579 : Cond.fieldLink RX1 35 "PostGate$Checker" "terms" "[LPostGate$Term;" ∈ tb := tb_at (i := 228) (by decide +kernel) (by decide +kernel)
theorem kt_580 : Cond.methodLink RX1 77 yX0_clear ∈ tb := tb_at (i := 582) (by decide +kernel) (by decide +kernel)
theorem kt_581 : Cond.methodLink RX1 204 yX10_macroLength ∈ tb := tb_at (i := 742) (by decide +kernel) (by decide +kernel)
theorem kt_582 : Cond.code yX1_addMacro cX1_addMacro 8 none ∈ tb := tb_at (i := 746) (by decide +kernel) (by decide +kernel)
theorem kt_583 : Cond.methodLink RX1 208 yX1_addMacro ∈ tb := tb_at (i := 743) (by decide +kernel) (by decide +kernel)
theorem kt_584 : Cond.instanceMethod yX1_addMacro ∈ tb := tb_at (i := 745) (by decide +kernel) (by decide +kernel)
theorem kt_585 : Cond.selects RX1 yX1_addMacro yX1_addMacro ∈ tb := tb_at (i := 8) (by decide +kernel) (by decide +kernel)
theorem kt_586 : Cond.methodLink RX1 212 Lib.Math.max.name ∈ tb := tb_at (i := 764) (by decide +kernel) (by decide +kernel)
theorem kt_587 : Cond.methodLink RX1 73 yX0_copy ∈ tb := tb_at (i := 576) (by decide +kernel) (by decide +kernel)
theorem kn_24 : Cond.fieldLinkNest RX1 198 "PostGate$Term" "start" "I" "PostGate" ∈ nw := nw_at (i := 121) (by decide +kernel) rfl
theorem kn_25 : Cond.fieldLinkNest RX1 201 "PostGate$Term" "stop" "I" "PostGate" ∈ nw := nw_at (i := 123) (by decide +kernel) rfl
def TXE (cs : Nat → ClassId) (F : Nat → va_E) (w n : Nat) (V : List Nat) : Prop := ∃ (r z : Nat) (f : Nat → Int32), F w = .inr (0, [.ref r, .int (nI z), .int 0]) ∧ F r = .inl (cs 16, n, .inl f) ∧ SRC V z f ∧ z ≤ n
def TXG (cs : Nat → ClassId) (F : Nat → va_E) (w n : Nat) (U : List Nat) : Prop := ∃ (r y : Nat) (oo : Int32) (f : Nat → Int32), F w = .inr (0, [.ref r, .int (nI y), .int oo]) ∧ F r = .inl (cs 16, n, .inl f) ∧ TGA U n y oo f
def NME (cs : Nat → ClassId) (F : Nat → va_E) (nm lv : Nat) (V : List Nat) : Prop := ∃ (fn : Nat → Option Nat) (b : Nat), F nm = .inl (cs 20, 12, .inr (.inr (.inr (.inr fn)))) ∧ fn lv = some b ∧ TXE cs F b 60 V
def NMG (cs : Nat → ClassId) (F : Nat → va_E) (nm lv : Nat) (U : List Nat) : Prop := ∃ (fn : Nat → Option Nat) (b : Nat), F nm = .inl (cs 20, 12, .inr (.inr (.inr (.inr fn)))) ∧ fn lv = some b ∧ TXG cs F b 60 U
theorem TXE.get {cs : Nat → ClassId} {ty : TyM} {L : List Nat} {F : Nat → va_E} {w δ r n : Nat} {V : List Nat} (h : TXE cs F w n V) (hO : OK cs ty L F) (hL : w ∈ L) (hT : ty w = (0, δ, [r, n])) : ∃ (z : Nat) (f : Nat → Int32), F w = .inr (0, [.ref r, .int (nI z), .int 0]) ∧ F r = .inl (cs 16, n, .inl f) ∧ SRC V z f ∧ z ≤ n := by
  obtain ⟨r9, z, f, h1, h2, h3, h4⟩ := h
  obtain ⟨z1, o1, u1, -, -⟩ := hO.bytes hL hT
  have e8 := u1.symm.trans h1
  simp only [Sum.inr.injEq, Prod.mk.injEq, List.cons.injEq, Value.ref.injEq, true_and] at e8
  obtain ⟨rfl, -⟩ := e8
  exact ⟨z, f, h1, h2, h3, h4⟩
theorem TXG.get {cs : Nat → ClassId} {ty : TyM} {L : List Nat} {F : Nat → va_E} {w δ r n : Nat} {U : List Nat} (h : TXG cs F w n U) (hO : OK cs ty L F) (hL : w ∈ L) (hT : ty w = (0, δ, [r, n])) : ∃ (y : Nat) (oo : Int32) (f : Nat → Int32), F w = .inr (0, [.ref r, .int (nI y), .int oo]) ∧ F r = .inl (cs 16, n, .inl f) ∧ TGA U n y oo f := by
  obtain ⟨r9, y, oo, f, h1, h2, h3⟩ := h
  obtain ⟨z1, o1, u1, -, -⟩ := hO.bytes hL hT
  have e8 := u1.symm.trans h1
  simp only [Sum.inr.injEq, Prod.mk.injEq, List.cons.injEq, Value.ref.injEq, true_and] at e8
  obtain ⟨rfl, -⟩ := e8
  exact ⟨y, oo, f, h1, h2, h3⟩
theorem TXE.fr {cs : Nat → ClassId} {ty : TyM} {L S : List Nat} {F G : Nat → va_E} {w δ r n : Nat} {V : List Nat} (h : TXE cs F w n V) (hO : OK cs ty L F) (hW : WT ty L) (hL : w ∈ L) (hT : ty w = (0, δ, [r, n])) (hR : FR ty S F G) (hS : δ ∉ S) : TXE cs G w n V := by
  obtain ⟨z, f, h1, h2, h3, h4⟩ := h.get hO hL hT
  obtain ⟨m1, m2, -⟩ := hW.bytes hL hT
  exact ⟨r, z, f, (hR w (by rw [hT]; exact hS)).trans h1, (hR r (by rw [m2]; exact hS)).trans h2, h3, h4⟩
theorem NME.get {cs : Nat → ClassId} {F : Nat → va_E} {nm lv b : Nat} {fn : Nat → Option Nat} {V : List Nat} (h : NME cs F nm lv V) (h1 : F nm = .inl (cs 20, 12, .inr (.inr (.inr (.inr fn))))) (hb : fn lv = some b) : TXE cs F b 60 V := by
  obtain ⟨fn9, b9, g1, g2, g3⟩ := h
  obtain rfl : fn9 = fn := by
    have e9 := g1.symm.trans h1
    simpa using e9
  obtain rfl : b9 = b := Option.some.inj (g2.symm.trans hb)
  exact g3
theorem NMG.get {cs : Nat → ClassId} {F : Nat → va_E} {nm lv b : Nat} {fn : Nat → Option Nat} {U : List Nat} (h : NMG cs F nm lv U) (h1 : F nm = .inl (cs 20, 12, .inr (.inr (.inr (.inr fn))))) (hb : fn lv = some b) : TXG cs F b 60 U := by
  obtain ⟨fn9, b9, g1, g2, g3⟩ := h
  obtain rfl : fn9 = fn := by
    have e9 := g1.symm.trans h1
    simpa using e9
  obtain rfl : b9 = b := Option.some.inj (g2.symm.trans hb)
  exact g3
abbrev SDR := List Nat × List Nat × List Nat × List Nat
def SNP (cs : Nat → ClassId) (F : Nat → va_E) (w0 w1 w2 w3 : Nat) (S : SDR) : Prop := TXE cs F w0 91 S.1 ∧ TXE cs F w1 30 S.2.1 ∧ TXE cs F w2 60 S.2.2.1 ∧ TXE cs F w3 15 S.2.2.2
def pcW (S : SDR) (dn : List Nat) (c : Nat) : List Nat := if c = 115 then S.1 else if c = 108 then S.2.1 else if c = 111 then S.2.2.1 else if c = 105 then S.2.2.2 else dn
def dgW (x : Nat) : Nat := if 49 ≤ x ∧ x ≤ 57 then x - 48 else 0
def trW (x : Nat) : Int32 := if x = 114 then 1 else 0
def mcV (T : Nat → Nat) (i n : Nat) (S : SDR) (dn : List Nat) : List Nat := if T (i + 1) = 37 then [37] else if T (i + 1) = 95 then [32] else if T (i + 1) = 45 then [37, 50, 48] else prL (pcW S dn (T (i + 2))) (dgW (T (i + 3))) (trW (T (i + n - 2)))
noncomputable def exw (T : Nat → Nat) (q : Nat) (S : SDR) (dn : List Nat) : Nat → Nat → List Nat
  | 0, _ => []
  | k + 1, i => if q ≤ i then [] else (if mcT T i q = 0 then [T i] else mcV T i (mcT T i q) S dn) ++ exw T q S dn k (i + max 1 (mcT T i q))
noncomputable def exT (T : Nat → Nat) (a q : Nat) (S : SDR) (dn : List Nat) : List Nat := if a = q then dn else exw T q S dn (q - a) a
theorem exw_s {T : Nat → Nat} {q : Nat} {S : SDR} {dn : List Nat} {k i : Nat} : exw T q S dn (k + 1) i = if q ≤ i then [] else (if mcT T i q = 0 then [T i] else mcV T i (mcT T i q) S dn) ++ exw T q S dn k (i + max 1 (mcT T i q)) := rfl
theorem exw_d {T : Nat → Nat} {q : Nat} {S : SDR} {dn : List Nat} : ∀ k i, q ≤ i → exw T q S dn k i = []
  | 0, _, _ => rfl
  | k + 1, i, h => by rw [exw_s, if_pos h]
theorem exw_f {T : Nat → Nat} {q : Nat} {S : SDR} {dn : List Nat} : ∀ k m i, q - i ≤ k → k ≤ m → exw T q S dn k i = exw T q S dn m i := by
  intro k
  induction k with
  | zero => intro m i h1 _; rw [exw_d m i (by omega)]; rfl
  | succ k ih =>
    intro m i h1 h2
    obtain ⟨p9, rfl⟩ : ∃ p9, m = p9 + 1 := ⟨m - 1, by omega⟩
    rw [exw_s, exw_s]
    by_cases c : q ≤ i
    · rw [if_pos c, if_pos c]
    · rw [if_neg c, if_neg c, ih p9 (i + max 1 (mcT T i q)) (by omega) (by omega)]
theorem exw_n {T : Nat → Nat} {q i : Nat} {S : SDR} {dn U X : List Nat} (h : U ++ exw T q S dn (q - i) i = X) (hi : i < q) : U ++ (if mcT T i q = 0 then [T i] else mcV T i (mcT T i q) S dn) ++ exw T q S dn (q - (i + max 1 (mcT T i q))) (i + max 1 (mcT T i q)) = X := by
  rw [show q - i = (q - i - 1) + 1 by omega, exw_s, if_neg (by omega), ← List.append_assoc] at h
  rw [← h]
  exact congrArg _ (exw_f _ _ _ (Nat.le_refl _) (by omega))
theorem mcT_let {T : Nat → Nat} {a q : Nat} (h : mcT T a q ≠ 0) (h1 : ¬ (T (a + 1) = 37 ∨ T (a + 1) = 95 ∨ T (a + 1) = 45)) : mcL (T (a + 2)) ∧ 4 ≤ mcT T a q := by
  unfold mcT at h ⊢
  by_cases c1 : T a = 37 ∧ a + 1 < q
  · rw [if_pos c1, if_neg h1] at h ⊢
    by_cases c3 : T (a + 1) = 123 ∧ mcL (T (a + 2))
    · rw [if_pos c3] at h ⊢
      refine ⟨c3.2, ?_⟩
      have g1 := mcD_le T (a + 3)
      have g2 := mcR_le T (mcD T (a + 3))
      unfold mcE at h ⊢
      by_cases c4 : mcR T (mcD T (a + 3)) < q ∧ T (mcR T (mcD T (a + 3))) = 125
      · rw [if_pos c4]
        omega
      · rw [if_neg c4] at h
        exact absurd rfl h
    · rw [if_neg c3] at h
      exact absurd rfl h
  · rw [if_neg c1] at h
    exact absurd rfl h
theorem mcL_lt {x : Nat} (h : mcL x) : x < 128 := by
  rcases h with h | h | h | h | h <;> omega
theorem dg_y {x : Int32} (h1 : ¬ x - 48 < 1) (h2 : ¬ 9 < x - 48) : x - 48 = nI (dgW (cdv x)) := by
  obtain ⟨k, hk, e⟩ := nI_of (x := x - 48) (fun q => h1 (Int32.lt_trans q (by decide)))
  rw [e] at h1 h2
  have k1 : 1 ≤ k := Nat.not_lt.mp (fun q => h1 ((nI_ltI (b := 1) hk (by omega)).mpr q))
  have k2 : k ≤ 9 := Nat.not_lt.mp (fun q => h2 ((nI_ltI (a := 9) (by omega) hk).mpr q))
  have e2 : x = nI (k + 48) := by
    rw [show x = x - 48 + 48 from Int32.toBitVec_inj.mp (by simp), e]
    exact nI_add k 48
  rw [e, e2, cdv_nI (by omega)]
  unfold dgW
  rw [if_pos (by omega), show k + 48 - 48 = k by omega]
theorem dg_n {x : Int32} (h : x - 48 < 1 ∨ 9 < x - 48) : dgW (cdv x) = 0 := by
  unfold dgW
  by_cases c : 49 ≤ cdv x ∧ cdv x ≤ 57
  · exfalso
    have e := cdv_in (x := x) (by omega)
    have e2 : x - 48 = nI (cdv x - 48) := (congrArg (fun q => q - 48) e).trans (pk_sub (b := 48) (by omega))
    rw [e2] at h
    rcases h with h | h
    · have h9 := (nI_ltI (b := 1) (by omega) (by omega)).mp h
      omega
    · have h9 := (nI_ltI (a := 9) (by omega) (by omega)).mp h
      omega
  · rw [if_neg c]
set_option maxHeartbeats 4000000 in
set_option maxRecDepth 100000 in
theorem s_X1_pieceOf_e (l : Launch) (dC : Nat → ClassId) (dI : Nat → Nat → Nat) (cs : Nat → ClassId) (ty : TyM) (L : List Nat) (sz : Nat) (F : Nat → va_E) (h0 : Nat) (ρ : Nat) (d : Nat) (δ : Nat) (ea : Nat) (w0 : Nat) (w1 : Nat) (w2 : Nat) (w3 : Nat) (nm : Nat) (te : Nat) (lv : Nat) (cl : Nat) (SD : SDR) (dn : List Nat) (hW : WT ty L) (hL_h0 : h0 ∈ L) (hT_h0 : ty h0 = (1, ρ, [d, δ, ea, w0, w1, w2, w3, nm, te])) (hlv : lv ≤ 10) (hcl : cl < 128) (hSD : SNP cs F w0 w1 w2 w3 SD) (hND : NME cs F nm lv dn) : Met l yX1_pieceOf (.code yX1_pieceOf cX1_pieceOf 3 (some (.object "PostGate$Bytes")) :: tb) ({ frames := 0, cells := 0, slots := 0, locals := 0 }) (va_Pc [.ref h0, .int (nI cl), .int (nI lv)] (PT (dC, dI) cs ty L F sz)) (va_Qr (fun _ : Unit => True) (fun _ ra T9 => ∃ F2 : Nat → va_E, ∃ vr : Nat, ∃ vn : Nat, ∃ μ : Nat, QT (dC, dI) cs ty L [] F F2 (va_A (va_pl L F) sz) T9 ∧ ra ∈ L ∧ ty ra = (0, μ, [vr, vn]) ∧ TXE cs F2 ra vn (pcW SD dn cl) ∧ ((ρ + 31 ≤ μ ∧ μ ≤ ρ + 34) ∨ μ = ρ + 35 + lv + 5)) (va_A (va_pl L F) sz)) 0 0 (va_A (va_pl L F) sz) := by
  refine Met.ofW (cc := cX1_pieceOf) (maxL := 3) (ret := (some (.object "PostGate$Bytes"))) (by decide) rfl ?_
  intro p e s m args below meth c s₁ B hml hv
  obtain ⟨rfl, hsz, hP, hK, hD0, hE, hO⟩ := hv
  have hx := B.exec
  have hb := B.bytes
  have hr := B.returns
  have hts : ∀ w ∈ tb, w.before _ s = true := fun w h => atoms_spec (ws := .code yX1_pieceOf cX1_pieceOf 3 (some (.object "PostGate$Bytes")) :: tb) B.pre w (List.mem_cons_of_mem _ h)
  have hown : s.vm.findClass RX1 = some m.cls := findClass_of_methodNamed B.named
  have hlocks := B.notSynchronized
  subst hsz
  have hD := hD0.self (sz := s.heap.size)
  generalize hAe : va_A (va_pl L F) s.heap.size = A at hD ⊢
  have hA : ∀ q : Nat, s.heap.size ≤ q → A q := fun q h => by rw [← hAe]; exact Or.inr h
  have hS : va_S A s.heap s.heap [] := va_S.rf
  have hR : FR ty [] F F := FR.refl
  have hl := lv_entry ([.ref h0, .int (nI cl), .int (nI lv)]) (n := 3) (Nat.le_of_ble_eq_true rfl)
  rw [lg_entry_eq]
  generalize (lg_sl ([.ref h0, .int (nI cl), .int (nI lv)]) ++ List.replicate (3 - (lg_sl ([.ref h0, .int (nI cl), .int (nI lv)])).length) Slot.unset).toArray = ls at hl ⊢
  have hl : lv_has ls 3 [(0, .ref h0), (1, .int (nI cl)), (2, .int (nI lv))] := hl
  obtain ⟨hi_1, ht_2, hi_3, ⟨r_4, ht_5⟩, hi_6, ⟨r_7, ht_8⟩, hi_9, ⟨r_10, ht_11⟩, hi_12, ⟨r_13, ht_14⟩, hi_15, ht_16, hi_17, ht_18⟩ := hW.chk hL_h0 hT_h0
  obtain ⟨v0_19, v1_20, v2_21, v3_22, hF_23⟩ := hO.chk hL_h0 hT_h0
  obtain ⟨f_24, hF_25, hq_26⟩ := hO.rbytes hi_15 ht_16
  refine lv_iload_n hx hb dX1_pieceOf_0 rfl (lv_at hl 1 rfl) ?_
  by_cases c_27 : (nI cl) = 105
  ·
    refine lv_lookup (off := 58) (tgt := 59) hx hb dX1_pieceOf_1 (by decide) (by rw [c_27]; decide) (by decide) ?_
    refine lv_aload_n hx hb dX1_pieceOf_59 rfl (lv_at hl 0 rfl) ?_
    refine pg_get (ci := 1) (v := .ref w3) (C := RX1) (T := TX1) (N := 11) hx hb hts it_1 hown hK hP hL_h0 hF_23 rfl 4 (by decide) (hts _ kt_565) (fun _ h9 => h9) rfl dX1_pieceOf_60 ?_
    refine W.widen (k := 0) (n := 0) (by omega) (by omega) ?_
    exact W.aret hx hb hr (Or.inl ⟨_, rfl⟩) (Or.inr ⟨_, rfl⟩) (fun t ht hWm => ⟨⟨(), w3, rfl, trivial, ⟨F, r_13, 15, ρ + 34, QT.mk ht hP hD hO hR, hi_12, ht_14, (by unfold pcW; rw [if_neg (show ¬ cl = 115 by have h9 := (show cl = 105 from (nI_eq (b := 105) (by omega) (by omega)).mp c_27); omega), if_neg (show ¬ cl = 108 by have h9 := (show cl = 105 from (nI_eq (b := 105) (by omega) (by omega)).mp c_27); omega), if_neg (show ¬ cl = 111 by have h9 := (show cl = 105 from (nI_eq (b := 105) (by omega) (by omega)).mp c_27); omega), if_pos (show cl = 105 from (nI_eq (b := 105) (by omega) (by omega)).mp c_27)]; exact hSD.2.2.2), (Or.inl ⟨by omega, by omega⟩)⟩⟩, hS.F ht⟩) hS.2.2 dX1_pieceOf_63
  ·
    by_cases c_28 : (nI cl) = 108
    ·
      refine lv_lookup (off := 48) (tgt := 49) hx hb dX1_pieceOf_1 (by decide) (by rw [c_28]; decide) (by decide) ?_
      refine lv_aload_n hx hb dX1_pieceOf_49 rfl (lv_at hl 0 rfl) ?_
      refine pg_get (ci := 1) (v := .ref w1) (C := RX1) (T := TX1) (N := 11) hx hb hts it_1 hown hK hP hL_h0 hF_23 rfl 2 (by decide) (hts _ kt_566) (fun _ h9 => h9) rfl dX1_pieceOf_50 ?_
      refine W.widen (k := 0) (n := 0) (by omega) (by omega) ?_
      exact W.aret hx hb hr (Or.inl ⟨_, rfl⟩) (Or.inr ⟨_, rfl⟩) (fun t ht hWm => ⟨⟨(), w1, rfl, trivial, ⟨F, r_7, 30, ρ + 32, QT.mk ht hP hD hO hR, hi_6, ht_8, (by unfold pcW; rw [if_neg (show ¬ cl = 115 by have h9 := (show cl = 108 from (nI_eq (b := 108) (by omega) (by omega)).mp c_28); omega), if_pos (show cl = 108 from (nI_eq (b := 108) (by omega) (by omega)).mp c_28)]; exact hSD.2.1), (Or.inl ⟨by omega, by omega⟩)⟩⟩, hS.F ht⟩) hS.2.2 dX1_pieceOf_53
    ·
      by_cases c_29 : (nI cl) = 111
      ·
        refine lv_lookup (off := 53) (tgt := 54) hx hb dX1_pieceOf_1 (by decide) (by rw [c_29]; decide) (by decide) ?_
        refine lv_aload_n hx hb dX1_pieceOf_54 rfl (lv_at hl 0 rfl) ?_
        refine pg_get (ci := 1) (v := .ref w2) (C := RX1) (T := TX1) (N := 11) hx hb hts it_1 hown hK hP hL_h0 hF_23 rfl 3 (by decide) (hts _ kt_567) (fun _ h9 => h9) rfl dX1_pieceOf_55 ?_
        refine W.widen (k := 0) (n := 0) (by omega) (by omega) ?_
        exact W.aret hx hb hr (Or.inl ⟨_, rfl⟩) (Or.inr ⟨_, rfl⟩) (fun t ht hWm => ⟨⟨(), w2, rfl, trivial, ⟨F, r_10, 60, ρ + 33, QT.mk ht hP hD hO hR, hi_9, ht_11, (by unfold pcW; rw [if_neg (show ¬ cl = 115 by have h9 := (show cl = 111 from (nI_eq (b := 111) (by omega) (by omega)).mp c_29); omega), if_neg (show ¬ cl = 108 by have h9 := (show cl = 111 from (nI_eq (b := 111) (by omega) (by omega)).mp c_29); omega), if_pos (show cl = 111 from (nI_eq (b := 111) (by omega) (by omega)).mp c_29)]; exact hSD.2.2.1), (Or.inl ⟨by omega, by omega⟩)⟩⟩, hS.F ht⟩) hS.2.2 dX1_pieceOf_58
      ·
        by_cases c_30 : (nI cl) = 115
        ·
          refine lv_lookup (off := 43) (tgt := 44) hx hb dX1_pieceOf_1 (by decide) (by rw [c_30]; decide) (by decide) ?_
          refine lv_aload_n hx hb dX1_pieceOf_44 rfl (lv_at hl 0 rfl) ?_
          refine pg_get (ci := 1) (v := .ref w0) (C := RX1) (T := TX1) (N := 11) hx hb hts it_1 hown hK hP hL_h0 hF_23 rfl 1 (by decide) (hts _ kt_568) (fun _ h9 => h9) rfl dX1_pieceOf_45 ?_
          refine W.widen (k := 0) (n := 0) (by omega) (by omega) ?_
          exact W.aret hx hb hr (Or.inl ⟨_, rfl⟩) (Or.inr ⟨_, rfl⟩) (fun t ht hWm => ⟨⟨(), w0, rfl, trivial, ⟨F, r_4, 91, ρ + 31, QT.mk ht hP hD hO hR, hi_3, ht_5, (by unfold pcW; rw [if_pos (show cl = 115 from (nI_eq (b := 115) (by omega) (by omega)).mp c_30)]; exact hSD.1), (Or.inl ⟨by omega, by omega⟩)⟩⟩, hS.F ht⟩) hS.2.2 dX1_pieceOf_48
        ·
          refine lv_lookup (off := 63) (tgt := 64) hx hb dX1_pieceOf_1 (by decide) (lk4 _ _ _ _ _ _ _ _ _ (fun h => c_27 (Int32.toInt_inj.mp h)) (fun h => c_28 (Int32.toInt_inj.mp h)) (fun h => c_29 (Int32.toInt_inj.mp h)) (fun h => c_30 (Int32.toInt_inj.mp h))) (by decide) ?_
          refine lv_aload_n hx hb dX1_pieceOf_64 rfl (lv_at hl 0 rfl) ?_
          refine pg_get (ci := 1) (v := .ref nm) (C := RX1) (T := TX1) (N := 11) hx hb hts it_1 hown hK hP hL_h0 hF_23 rfl 5 (by decide) (hts _ kt_569) (fun _ h9 => h9) rfl dX1_pieceOf_65 ?_
          refine lv_iload_n hx hb dX1_pieceOf_68 rfl (lv_at hl 2 rfl) ?_
          obtain ⟨b_31, r_32, hbf_33, hi_34, ht_35⟩ := hq_26 lv (by omega)
          refine pg_aald (r := b_31) hx hb hK hP hi_15 4 hF_25 rfl (vp_in_nI (by omega) (by omega)) (show f_24 ((nI lv) : Int32).toNatClampNeg = _ from by rw [show ((nI lv) : Int32) = nI lv from rfl, nI_clamp (by omega)]; exact hbf_33) dX1_pieceOf_69 ?_
          refine W.widen (k := 0) (n := 0) (by omega) (by omega) ?_
          exact W.aret hx hb hr (Or.inl ⟨_, rfl⟩) (Or.inr ⟨_, rfl⟩) (fun t ht hWm => ⟨⟨(), b_31, rfl, trivial, ⟨F, r_32, 60, ρ + 35 + lv + 5, QT.mk ht hP hD hO hR, hi_34, ht_35, (by unfold pcW; rw [if_neg (show ¬ cl = 115 from fun q => c_30 (by rw [q]; rfl)), if_neg (show ¬ cl = 108 from fun q => c_28 (by rw [q]; rfl)), if_neg (show ¬ cl = 111 from fun q => c_29 (by rw [q]; rfl)), if_neg (show ¬ cl = 105 from fun q => c_27 (by rw [q]; rfl))]; exact hND.get hF_25 hbf_33), (Or.inr (by omega))⟩⟩, hS.F ht⟩) hS.2.2 dX1_pieceOf_70
set_option maxHeartbeats 4000000 in
set_option maxRecDepth 100000 in
theorem s_X1_addMacro_e (l : Launch) (dC : Nat → ClassId) (dI : Nat → Nat → Nat) (cs : Nat → ClassId) (ty : TyM) (L : List Nat) (sz : Nat) (F : Nat → va_E) (h0 : Nat) (ρ : Nat) (d : Nat) (δ : Nat) (ea : Nat) (w0 : Nat) (w1 : Nat) (w2 : Nat) (w3 : Nat) (nm : Nat) (te : Nat) (g1 : Nat) (σ : Nat) (r1 : Nat) (n1 : Nat) (z : Nat) (lv : Nat) (i : Nat) (ml : Nat) (tq : Nat) (f : Nat → Int32) (SD : SDR) (dn : List Nat) (U : List Nat) (hW : WT ty L) (hL_h0 : h0 ∈ L) (hT_h0 : ty h0 = (1, ρ, [d, δ, ea, w0, w1, w2, w3, nm, te])) (hL_g1 : g1 ∈ L) (hT_g1 : ty g1 = (0, σ, [r1, n1])) (hFg : F g1 = .inr (0, [.ref r1, .int (nI z), .int 0])) (hFr : F r1 = .inl (cs 16, n1, .inl f)) (hzn : z ≤ n1) (hn9 : n1 ≤ 10000) (hsr : ρ + 98 ≤ σ) (hlv : lv ≤ 10) (hi9 : i ≤ 9000) (hmL : ml = mcT (TC f z) i tq) (hm0 : ml ≠ 0) (hSD : SNP cs F w0 w1 w2 w3 SD) (hND : NME cs F nm lv dn) (hNG : NMG cs F nm (lv + 1) U) : Met l yX1_addMacro (.code yX1_addMacro cX1_addMacro 8 none :: tb) ({ frames := 5, cells := 0, slots := 0, locals := 107 }) (va_Pc [.ref h0, .ref g1, .int (nI i), .int (nI ml), .int (nI lv)] (PTE (dC, dI) cs ty L F sz [])) (va_Qv (fun _ : Unit => True) (fun _ T9 => ∃ F2 : Nat → va_E, QT (dC, dI) cs ty L [ρ + 35 + lv + 6] F F2 (va_A (va_pl L F) sz) T9 ∧ NMG cs F2 nm (lv + 1) (U ++ mcV (TC f z) i ml SD dn)) (va_A (va_pl L F) sz)) 0 0 (va_A (va_pl L F) sz) := by
  refine Met.ofW (cc := cX1_addMacro) (maxL := 8) (ret := none) (by decide) rfl ?_
  intro p e s m args below meth c s₁ B hml hv
  obtain ⟨rfl, ⟨hsz, hP, hK, hD0, hE, hO⟩, hG, hX⟩ := hv
  have hx := B.exec
  have hb := B.bytes
  have hr := B.returns
  have hts : ∀ w ∈ tb, w.before _ s = true := fun w h => atoms_spec (ws := .code yX1_addMacro cX1_addMacro 8 none :: tb) B.pre w (List.mem_cons_of_mem _ h)
  have hown : s.vm.findClass RX1 = some m.cls := findClass_of_methodNamed B.named
  have hlocks := B.notSynchronized
  subst hsz
  have hD := hD0.self (sz := s.heap.size)
  generalize hAe : va_A (va_pl L F) s.heap.size = A at hD hG hX ⊢
  have hA : ∀ q : Nat, s.heap.size ≤ q → A q := fun q h => by rw [← hAe]; exact Or.inr h
  have hS : va_S A s.heap s.heap [] := va_S.rf
  have hR : FR ty [ρ + 35 + lv + 6] F F := FR.refl
  have hl := lv_entry ([.ref h0, .ref g1, .int (nI i), .int (nI ml), .int (nI lv)]) (n := 8) (Nat.le_of_ble_eq_true rfl)
  rw [lg_entry_eq]
  generalize (lg_sl ([.ref h0, .ref g1, .int (nI i), .int (nI ml), .int (nI lv)]) ++ List.replicate (8 - (lg_sl ([.ref h0, .ref g1, .int (nI i), .int (nI ml), .int (nI lv)])).length) Slot.unset).toArray = ls at hl ⊢
  have hl : lv_has ls 8 [(0, .ref h0), (1, .ref g1), (2, .int (nI i)), (3, .int (nI ml)), (4, .int (nI lv))] := hl
  obtain ⟨hi_1, ht_2, hi_3, ⟨r_4, ht_5⟩, hi_6, ⟨r_7, ht_8⟩, hi_9, ⟨r_10, ht_11⟩, hi_12, ⟨r_13, ht_14⟩, hi_15, ht_16, hi_17, ht_18⟩ := hW.chk hL_h0 hT_h0
  obtain ⟨v0_19, v1_20, v2_21, v3_22, hF_23⟩ := hO.chk hL_h0 hT_h0
  obtain ⟨f_24, hF_25, hq_26⟩ := hO.rbytes hi_15 ht_16
  obtain ⟨hi_27, ht_28, hq_29⟩ := hW.bytes hL_g1 hT_g1
  have hml7 := mcT_le (T := (TC f z)) (a := i) (tt := tq)
  refine lv_aload_n hx hb dX1_addMacro_0 rfl (lv_at hl 0 rfl) ?_
  refine pg_get (ci := 1) (v := .ref nm) (C := RX1) (T := TX1) (N := 11) hx hb hts it_1 hown hK hP hL_h0 hF_23 rfl 5 (by decide) (hts _ kt_569) (fun _ h9 => h9) rfl dX1_addMacro_1 ?_
  refine lv_iload hx hb dX1_addMacro_4 (lv_at hl 4 rfl) ?_
  refine lv_iconst (v := 1) hx hb dX1_addMacro_6 (by decide) ?_
  refine lv_iadd hx hb dX1_addMacro_7 ?_
  refine lv_topi (fun x_30 ex_30 => ?_)
  obtain rfl : x_30 = (nI (lv + 1)) := ex_30.trans (nI_1 lv)
  obtain ⟨b_31, r_32, hbf_33, hi_34, ht_35⟩ := hq_26 (lv + 1) (by omega)
  refine pg_aald (r := b_31) hx hb hK hP hi_15 4 hF_25 rfl (vp_in_nI (by omega) (by omega)) (show f_24 ((nI (lv + 1)) : Int32).toNatClampNeg = _ from by rw [show ((nI (lv + 1)) : Int32) = nI (lv + 1) from rfl, nI_clamp (by omega)]; exact hbf_33) dX1_addMacro_8 ?_
  have ht_35 : ty b_31 = (0, ρ + 35 + lv + 6, [r_32, 60]) := ht_35
  obtain ⟨hi_36, ht_37, hq_38⟩ := hW.bytes hi_34 ht_35
  obtain ⟨ty_, to_, tf_, hy1, hy2, hy3⟩ := (hNG.get hF_25 hbf_33).get hO hi_34 ht_35
  refine lv_astore (lv' := [(5, .ref b_31), (0, .ref h0), (1, .ref g1), (2, .int (nI i)), (3, .int (nI ml)), (4, .int (nI lv))]) hx hb dX1_addMacro_9 hl (by decide) rfl (fun ls hl => ?_)
  refine lv_aload_n hx hb dX1_addMacro_11 rfl (lv_at hl 2 rfl) ?_
  refine lv_iload_n hx hb dX1_addMacro_12 rfl (lv_at hl 3 rfl) ?_
  refine lv_iconst (v := 1) hx hb dX1_addMacro_13 (by decide) ?_
  refine lv_iadd hx hb dX1_addMacro_14 ?_
  refine lv_topi (fun x_39 ex_39 => ?_)
  obtain rfl : x_39 = (nI (i + 1)) := ex_39.trans (nI_add i 1)
  have hFc := pg_free hD hS hA
  refine va_calli (va_runV (As := [.int (nI (i + 1))]) (rest := []) ⟨hx, hb, hml, hown, hts⟩ (s_X0_at_g l dC dI cs ty L s.heap.size F g1 σ r1 n1 z (i + 1) f hW hL_g1 hT_g1 hFg hFr (by omega) (by omega) (by omega)) ⟨callB_of 1 hts (gi kt_21) rfl rfl rfl (hts _ kt_1) (hts _ kt_301) (by decide +kernel) ⟨Nat.le_of_ble_eq_true rfl, Nat.le_of_ble_eq_true rfl⟩, (hts _ kt_23), (hts _ kt_24)⟩ ⟨fun a U g mk q => ⟨q.1, PT.calling q.2⟩, pg_recv hK hP hL_g1 hFg (q := (RX0, TX0, 3)) rfl, fun U hU hWm => ⟨rfl, PT.mk hU hWm hP hK hD hE hO⟩⟩ rfl rfl hl.1 rfl (lv_room (Nat.le_of_ble_eq_true rfl)) dX1_addMacro_15 ⟨by show _ + 0 ≤ 0; omega, by show _ + 0 ≤ 0; omega⟩) hS (fun q _ h => hFc q h) hFc (fun r_40 u t H1 locs ht hvm hw hB hz1 hk1 hS => ?_)
  obtain ⟨F_41, hB1⟩ := hB
  obtain rfl : F = F_41 := (funext (fun a => hB1.2.2.2 a List.not_mem_nil)).symm
  obtain ⟨hP, hD, hO, hR⟩ := QT.back hB1 ht hFc hR (fun q h => absurd h List.not_mem_nil)
  generalize H1 = H at hP hS ⊢
  have hw : r_40 = atn f z (i + 1) := hw
  have hw_42 := hw
  subst hw_42
  by_cases c_43 : (atn f z (i + 1)) = 37
  ·
    refine lv_lookup (off := 34) (tgt := 52) hx hb dX1_addMacro_18 (by decide) (by rw [c_43]; decide) (by decide) ?_
    refine lv_aload hx hb dX1_addMacro_52 (lv_at hl 0 rfl) ?_
    refine lv_bipush (v := 37) hx hb dX1_addMacro_54 (by decide) ?_
    refine W.eq (g2 := F0 m 56 ls [.int (nI 37), .ref b_31]) rfl ?_
    have hFc := pg_free hD hS hA
    refine va_callv (va_runV (As := [.int (nI 37)]) (rest := []) ⟨hx, hb, hml, hown, hts⟩ (s_X0_add_t l dC dI cs ty L H.size F b_31 (ρ + 35 + lv + 6) r_32 60 ty_ 37 tf_ to_ U hW hi_34 ht_35 hy1 hy2 (by omega) (hy3)) ⟨callB_of 1 hts (gi kt_13) rfl rfl rfl (hts _ kt_1) (hts _ kt_563) (by decide +kernel) ⟨Nat.le_of_ble_eq_true rfl, Nat.le_of_ble_eq_true rfl⟩, (hts _ kt_15), (hts _ kt_16)⟩ ⟨fun a U g mk q => ⟨q.1, PT.calling q.2⟩, pg_recv hK hP hi_34 hy1 (q := (RX0, TX0, 3)) rfl, fun U hU hWm => ⟨rfl, PT.mk hU hWm hP hK hD hE hO⟩⟩ rfl rfl hl.1 rfl (lv_room (Nat.le_of_ble_eq_true rfl)) dX1_addMacro_56 ⟨by show _ + 0 ≤ 0; omega, by show _ + 0 ≤ 0; omega⟩) hS (fun q _ h => hFc q h) hFc (fun u t H1 locs ht hvm hw hB hz1 hk1 hS => ?_)
    obtain ⟨F_45, y2_46, oo2_47, f2_48, hB1, hq_49, hq_50, hq_51⟩ := hB
    obtain ⟨hP, hD, hO, hR⟩ := QT.back hB1 ht hFc hR (fun q h => by simp only [List.mem_cons, List.not_mem_nil, or_false] at h ⊢; omega)
    have hF_52 : F_45 g1 = .inr (0, [.ref r1, .int (nI z), .int 0]) := (hB1.2.2.2 g1 (by rw [hT_g1]; simp only [List.mem_cons, List.not_mem_nil, or_false]; omega)).trans hFg
    have hF_53 : F_45 r1 = .inl (cs 16, n1, .inl f) := (hB1.2.2.2 r1 (by rw [ht_28]; simp only [List.mem_cons, List.not_mem_nil, or_false]; omega)).trans hFr
    have hF_54 : F_45 h0 = .inr (1, [.ref d, .ref w0, .ref w1, .ref w2, .ref w3, .ref nm, .ref te, .int v0_19, .int v1_20, .int v2_21, .int v3_22]) := (hB1.2.2.2 h0 (by rw [hT_h0]; simp only [List.mem_cons, List.not_mem_nil, or_false]; omega)).trans hF_23
    have hF_55 : F_45 nm = .inl (cs 20, 12, .inr (.inr (.inr (.inr f_24)))) := (hB1.2.2.2 nm (by rw [ht_16]; simp only [List.mem_cons, List.not_mem_nil, or_false]; omega)).trans hF_25
    generalize H1 = H at hP hS ⊢
    refine lv_goto (tgt := 154) hx hb dX1_addMacro_59 (by decide) ?_
    refine W.widen (k := 0) (n := 0) (by omega) (by omega) ?_
    exact W.vret hx hb hr (fun t ht hWm => ⟨⟨(), rfl, trivial, ⟨F_45, QT.mk ht hP hD hO hR, ⟨f_24, b_31, hF_55, hbf_33, r_32, _, _, _, hq_49, hq_50, by unfold mcV; rw [if_pos (show (TC f z) (i + 1) = 37 from ((cdv_eq (by first | decide | omega)).mpr c_43))]; exact hq_51⟩⟩⟩, hS.F ht⟩) hS.2.2 dX1_addMacro_154
  ·
    by_cases c_56 : (atn f z (i + 1)) = 45
    ·
      refine lv_lookup (off := 54) (tgt := 72) hx hb dX1_addMacro_18 (by decide) (by rw [c_56]; decide) (by decide) ?_
      refine lv_aload hx hb dX1_addMacro_72 (lv_at hl 0 rfl) ?_
      obtain ⟨q_57, v_58, hr_q_57, hXc_q_57⟩ := hG.2.2.2.2 ("PostGate$Checker", 218, "%20", [37, 50, 48]) (by decide +kernel)
      have hXc_q_57 : SXc q_57 v_58 3 (cct [37, 50, 48]) A s s.heap := hXc_q_57
      have hX_q_57 : SX q_57 v_58 3 A s s.heap := hXc_q_57.sx
      obtain ⟨xo_q_57, xc_q_57, xv_q_57, xt_q_57, xn_q_57⟩ := id hXc_q_57
      have hr_q_57 : vk_R "PostGate$Checker" 218 "%20" q_57 s := hr_q_57
      refine va_ldcS hx hb hown hr_q_57 dX1_addMacro_74 ?_
      have hFc := pg_free hD hS hA
      refine va_callv (va_runV (As := [.ref q_57]) (rest := []) ⟨hx, hb, hml, hown, hts⟩ (s_X0_addText_t l dC dI cs ty L H.size F b_31 (ρ + 35 + lv + 6) r_32 60 q_57 v_58 3 (cct [37, 50, 48]) ty_ tf_ to_ U ([37, 50, 48]) hW hi_34 ht_35 hy1 hy2 (by omega) (hy3) (⟨rfl, by decide +kernel⟩)) ⟨callB_of 1 hts (gi kt_367) rfl rfl rfl (hts _ kt_1) (hts _ kt_570) (by decide +kernel) ⟨Nat.le_of_ble_eq_true rfl, Nat.le_of_ble_eq_true rfl⟩, (hts _ kt_369), (hts _ kt_370)⟩ ⟨fun a U g mk q => ⟨q.1, PTC.calling q.2⟩, pg_recv hK hP hi_34 hy1 (q := (RX0, TX0, 3)) rfl, fun U hU hWm => ⟨rfl, PTC.mk hU hWm hP hK hD hE hO hG hXc_q_57 hS hFc⟩⟩ rfl rfl hl.1 rfl (lv_room (Nat.le_of_ble_eq_true rfl)) dX1_addMacro_76 ⟨by show _ + 0 ≤ 0; omega, by show _ + 0 ≤ 0; omega⟩) hS (fun q _ h => hFc q h) hFc (fun u t H1 locs ht hvm hw hB hz1 hk1 hS => ?_)
      obtain ⟨F_60, y2_61, oo2_62, f2_63, hB1, hq_64, hq_65, hq_66⟩ := hB
      obtain ⟨hP, hD, hO, hR⟩ := QT.back hB1 ht hFc hR (fun q h => by simp only [List.mem_cons, List.not_mem_nil, or_false] at h ⊢; omega)
      have hF_67 : F_60 g1 = .inr (0, [.ref r1, .int (nI z), .int 0]) := (hB1.2.2.2 g1 (by rw [hT_g1]; simp only [List.mem_cons, List.not_mem_nil, or_false]; omega)).trans hFg
      have hF_68 : F_60 r1 = .inl (cs 16, n1, .inl f) := (hB1.2.2.2 r1 (by rw [ht_28]; simp only [List.mem_cons, List.not_mem_nil, or_false]; omega)).trans hFr
      have hF_69 : F_60 h0 = .inr (1, [.ref d, .ref w0, .ref w1, .ref w2, .ref w3, .ref nm, .ref te, .int v0_19, .int v1_20, .int v2_21, .int v3_22]) := (hB1.2.2.2 h0 (by rw [hT_h0]; simp only [List.mem_cons, List.not_mem_nil, or_false]; omega)).trans hF_23
      have hF_70 : F_60 nm = .inl (cs 20, 12, .inr (.inr (.inr (.inr f_24)))) := (hB1.2.2.2 nm (by rw [ht_16]; simp only [List.mem_cons, List.not_mem_nil, or_false]; omega)).trans hF_25
      generalize H1 = H at hP hS ⊢
      refine lv_goto (tgt := 154) hx hb dX1_addMacro_79 (by decide) ?_
      refine W.widen (k := 0) (n := 0) (by omega) (by omega) ?_
      exact W.vret hx hb hr (fun t ht hWm => ⟨⟨(), rfl, trivial, ⟨F_60, QT.mk ht hP hD hO hR, ⟨f_24, b_31, hF_70, hbf_33, r_32, _, _, _, hq_64, hq_65, by unfold mcV; rw [if_neg (show ¬ (TC f z) (i + 1) = 37 from (fun q => c_43 ((cdv_eq (by first | decide | omega)).mp q))), if_neg (show ¬ (TC f z) (i + 1) = 95 from fun q => absurd (q.symm.trans (show (TC f z) (i + 1) = 45 from ((cdv_eq (by first | decide | omega)).mpr c_56))) (by decide)), if_pos (show (TC f z) (i + 1) = 45 from ((cdv_eq (by first | decide | omega)).mpr c_56))]; exact hq_66⟩⟩⟩, hS.F ht⟩) hS.2.2 dX1_addMacro_154
    ·
      by_cases c_71 : (atn f z (i + 1)) = 95
      ·
        refine lv_lookup (off := 44) (tgt := 62) hx hb dX1_addMacro_18 (by decide) (by rw [c_71]; decide) (by decide) ?_
        refine lv_aload hx hb dX1_addMacro_62 (lv_at hl 0 rfl) ?_
        refine lv_bipush (v := 32) hx hb dX1_addMacro_64 (by decide) ?_
        refine W.eq (g2 := F0 m 66 ls [.int (nI 32), .ref b_31]) rfl ?_
        have hFc := pg_free hD hS hA
        refine va_callv (va_runV (As := [.int (nI 32)]) (rest := []) ⟨hx, hb, hml, hown, hts⟩ (s_X0_add_t l dC dI cs ty L H.size F b_31 (ρ + 35 + lv + 6) r_32 60 ty_ 32 tf_ to_ U hW hi_34 ht_35 hy1 hy2 (by omega) (hy3)) ⟨callB_of 1 hts (gi kt_13) rfl rfl rfl (hts _ kt_1) (hts _ kt_563) (by decide +kernel) ⟨Nat.le_of_ble_eq_true rfl, Nat.le_of_ble_eq_true rfl⟩, (hts _ kt_15), (hts _ kt_16)⟩ ⟨fun a U g mk q => ⟨q.1, PT.calling q.2⟩, pg_recv hK hP hi_34 hy1 (q := (RX0, TX0, 3)) rfl, fun U hU hWm => ⟨rfl, PT.mk hU hWm hP hK hD hE hO⟩⟩ rfl rfl hl.1 rfl (lv_room (Nat.le_of_ble_eq_true rfl)) dX1_addMacro_66 ⟨by show _ + 0 ≤ 0; omega, by show _ + 0 ≤ 0; omega⟩) hS (fun q _ h => hFc q h) hFc (fun u t H1 locs ht hvm hw hB hz1 hk1 hS => ?_)
        obtain ⟨F_73, y2_74, oo2_75, f2_76, hB1, hq_77, hq_78, hq_79⟩ := hB
        obtain ⟨hP, hD, hO, hR⟩ := QT.back hB1 ht hFc hR (fun q h => by simp only [List.mem_cons, List.not_mem_nil, or_false] at h ⊢; omega)
        have hF_80 : F_73 g1 = .inr (0, [.ref r1, .int (nI z), .int 0]) := (hB1.2.2.2 g1 (by rw [hT_g1]; simp only [List.mem_cons, List.not_mem_nil, or_false]; omega)).trans hFg
        have hF_81 : F_73 r1 = .inl (cs 16, n1, .inl f) := (hB1.2.2.2 r1 (by rw [ht_28]; simp only [List.mem_cons, List.not_mem_nil, or_false]; omega)).trans hFr
        have hF_82 : F_73 h0 = .inr (1, [.ref d, .ref w0, .ref w1, .ref w2, .ref w3, .ref nm, .ref te, .int v0_19, .int v1_20, .int v2_21, .int v3_22]) := (hB1.2.2.2 h0 (by rw [hT_h0]; simp only [List.mem_cons, List.not_mem_nil, or_false]; omega)).trans hF_23
        have hF_83 : F_73 nm = .inl (cs 20, 12, .inr (.inr (.inr (.inr f_24)))) := (hB1.2.2.2 nm (by rw [ht_16]; simp only [List.mem_cons, List.not_mem_nil, or_false]; omega)).trans hF_25
        generalize H1 = H at hP hS ⊢
        refine lv_goto (tgt := 154) hx hb dX1_addMacro_69 (by decide) ?_
        refine W.widen (k := 0) (n := 0) (by omega) (by omega) ?_
        exact W.vret hx hb hr (fun t ht hWm => ⟨⟨(), rfl, trivial, ⟨F_73, QT.mk ht hP hD hO hR, ⟨f_24, b_31, hF_83, hbf_33, r_32, _, _, _, hq_77, hq_78, by unfold mcV; rw [if_neg (show ¬ (TC f z) (i + 1) = 37 from (fun q => c_43 ((cdv_eq (by first | decide | omega)).mp q))), if_pos (show (TC f z) (i + 1) = 95 from ((cdv_eq (by first | decide | omega)).mpr c_71))]; exact hq_79⟩⟩⟩, hS.F ht⟩) hS.2.2 dX1_addMacro_154
      ·
        refine lv_lookup (off := 64) (tgt := 82) hx hb dX1_addMacro_18 (by decide) (lk3 _ _ _ _ _ _ _ (fun h => c_43 (Int32.toInt_inj.mp h)) (fun h => c_56 (Int32.toInt_inj.mp h)) (fun h => c_71 (Int32.toInt_inj.mp h))) (by decide) ?_
        have hn3 : ¬ ((TC f z) (i + 1) = 37 ∨ (TC f z) (i + 1) = 95 ∨ (TC f z) (i + 1) = 45) := fun q => q.elim (fun q => c_43 ((cdv_eq (by first | decide | omega)).mp q)) (fun q2 => q2.elim (fun q => c_71 ((cdv_eq (by first | decide | omega)).mp q)) (fun q => c_56 ((cdv_eq (by first | decide | omega)).mp q)))
        obtain ⟨hle, hm4⟩ := mcT_let (q := tq) (by rw [← hmL]; exact hm0) hn3
        have hl2 := mcL_lt hle
        refine lv_aload_n hx hb dX1_addMacro_82 rfl (lv_at hl 2 rfl) ?_
        refine lv_iload_n hx hb dX1_addMacro_83 rfl (lv_at hl 3 rfl) ?_
        refine lv_iconst (v := 3) hx hb dX1_addMacro_84 (by decide) ?_
        refine lv_iadd hx hb dX1_addMacro_85 ?_
        refine lv_topi (fun x_84 ex_84 => ?_)
        obtain rfl : x_84 = (nI (i + 3)) := ex_84.trans (nI_add i 3)
        have hFc := pg_free hD hS hA
        refine va_calli (va_runV (As := [.int (nI (i + 3))]) (rest := []) ⟨hx, hb, hml, hown, hts⟩ (s_X0_at_g l dC dI cs ty L H.size F g1 σ r1 n1 z (i + 3) f hW hL_g1 hT_g1 hFg hFr (by omega) (by omega) (by omega)) ⟨callB_of 1 hts (gi kt_21) rfl rfl rfl (hts _ kt_1) (hts _ kt_301) (by decide +kernel) ⟨Nat.le_of_ble_eq_true rfl, Nat.le_of_ble_eq_true rfl⟩, (hts _ kt_23), (hts _ kt_24)⟩ ⟨fun a U g mk q => ⟨q.1, PT.calling q.2⟩, pg_recv hK hP hL_g1 hFg (q := (RX0, TX0, 3)) rfl, fun U hU hWm => ⟨rfl, PT.mk hU hWm hP hK hD hE hO⟩⟩ rfl rfl hl.1 rfl (lv_room (Nat.le_of_ble_eq_true rfl)) dX1_addMacro_86 ⟨by show _ + 0 ≤ 0; omega, by show _ + 0 ≤ 0; omega⟩) hS (fun q _ h => hFc q h) hFc (fun r_85 u t H1 locs ht hvm hw hB hz1 hk1 hS => ?_)
        obtain ⟨F_86, hB1⟩ := hB
        obtain rfl : F = F_86 := (funext (fun a => hB1.2.2.2 a List.not_mem_nil)).symm
        obtain ⟨hP, hD, hO, hR⟩ := QT.back hB1 ht hFc hR (fun q h => absurd h List.not_mem_nil)
        generalize H1 = H at hP hS ⊢
        have hw : r_85 = atn f z (i + 3) := hw
        have hw_87 := hw
        subst hw_87
        refine lv_bipush (v := 48) hx hb dX1_addMacro_89 (by decide) ?_
        refine lv_isub hx hb dX1_addMacro_91 ?_
        refine lv_topi (fun x_88 ex_88 => ?_)
        refine lv_istore (lv' := [(6, .int x_88), (5, .ref b_31), (0, .ref h0), (1, .ref g1), (2, .int (nI i)), (3, .int (nI ml)), (4, .int (nI lv))]) hx hb dX1_addMacro_92 hl (by decide) rfl (fun ls hl => ?_)
        refine lv_aload_n hx hb dX1_addMacro_94 rfl (lv_at hl 3 rfl) ?_
        refine lv_iload_n hx hb dX1_addMacro_95 rfl (lv_at hl 4 rfl) ?_
        refine lv_iload_n hx hb dX1_addMacro_96 rfl (lv_at hl 5 rfl) ?_
        refine lv_iadd hx hb dX1_addMacro_97 ?_
        refine lv_topi (fun x_89 ex_89 => ?_)
        obtain rfl : x_89 = (nI (i + ml)) := ex_89.trans (nI_add i ml)
        refine lv_iconst (v := 2) hx hb dX1_addMacro_98 (by decide) ?_
        refine lv_isub hx hb dX1_addMacro_99 ?_
        refine lv_topi (fun x_90 ex_90 => ?_)
        obtain rfl : x_90 = (nI (i + ml - 2)) := ex_90.trans (pk_sub (b := 2) (by omega))
        have hFc := pg_free hD hS hA
        refine va_calli (va_runV (As := [.int (nI (i + ml - 2))]) (rest := []) ⟨hx, hb, hml, hown, hts⟩ (s_X0_at_g l dC dI cs ty L H.size F g1 σ r1 n1 z (i + ml - 2) f hW hL_g1 hT_g1 hFg hFr (by omega) (by omega) (by omega)) ⟨callB_of 1 hts (gi kt_21) rfl rfl rfl (hts _ kt_1) (hts _ kt_301) (by decide +kernel) ⟨Nat.le_of_ble_eq_true rfl, Nat.le_of_ble_eq_true rfl⟩, (hts _ kt_23), (hts _ kt_24)⟩ ⟨fun a U g mk q => ⟨q.1, PT.calling q.2⟩, pg_recv hK hP hL_g1 hFg (q := (RX0, TX0, 3)) rfl, fun U hU hWm => ⟨rfl, PT.mk hU hWm hP hK hD hE hO⟩⟩ rfl rfl hl.1 rfl (lv_room (Nat.le_of_ble_eq_true rfl)) dX1_addMacro_100 ⟨by show _ + 0 ≤ 0; omega, by show _ + 0 ≤ 0; omega⟩) hS (fun q _ h => hFc q h) hFc (fun r_91 u t H1 locs ht hvm hw hB hz1 hk1 hS => ?_)
        obtain ⟨F_92, hB1⟩ := hB
        obtain rfl : F = F_92 := (funext (fun a => hB1.2.2.2 a List.not_mem_nil)).symm
        obtain ⟨hP, hD, hO, hR⟩ := QT.back hB1 ht hFc hR (fun q h => absurd h List.not_mem_nil)
        generalize H1 = H at hP hS ⊢
        have hw : r_91 = atn f z (i + ml - 2) := hw
        have hw_93 := hw
        subst hw_93
        refine lv_bipush (v := 114) hx hb dX1_addMacro_103 (by decide) ?_
        refine lv_icmp_ne (tgt := 112) hx hb dX1_addMacro_105 (by decide) (fun c_94 => ?_) (fun c_94 => ?_)
        ·
          refine lv_iconst (v := 0) hx hb dX1_addMacro_112 (by decide) ?_
          refine lv_istore (lv' := [(7, .int 0), (6, .int x_88), (5, .ref b_31), (0, .ref h0), (1, .ref g1), (2, .int (nI i)), (3, .int (nI ml)), (4, .int (nI lv))]) hx hb dX1_addMacro_113 hl (by decide) rfl (fun ls hl => ?_)
          refine lv_aload_n hx hb dX1_addMacro_115 rfl (lv_at hl 3 rfl) ?_
          refine lv_aload_n hx hb dX1_addMacro_116 rfl (lv_at hl 4 rfl) ?_
          refine lv_iload_n hx hb dX1_addMacro_117 rfl (lv_at hl 5 rfl) ?_
          refine lv_iconst (v := 2) hx hb dX1_addMacro_118 (by decide) ?_
          refine lv_iadd hx hb dX1_addMacro_119 ?_
          refine lv_topi (fun x_95 ex_95 => ?_)
          obtain rfl : x_95 = (nI (i + 2)) := ex_95.trans (nI_add i 2)
          have hFc := pg_free hD hS hA
          refine va_calli (va_runV (As := [.int (nI (i + 2))]) (rest := [.ref h0]) ⟨hx, hb, hml, hown, hts⟩ (s_X0_at_g l dC dI cs ty L H.size F g1 σ r1 n1 z (i + 2) f hW hL_g1 hT_g1 hFg hFr (by omega) (by omega) (by omega)) ⟨callB_of 1 hts (gi kt_21) rfl rfl rfl (hts _ kt_1) (hts _ kt_301) (by decide +kernel) ⟨Nat.le_of_ble_eq_true rfl, Nat.le_of_ble_eq_true rfl⟩, (hts _ kt_23), (hts _ kt_24)⟩ ⟨fun a U g mk q => ⟨q.1, PT.calling q.2⟩, pg_recv hK hP hL_g1 hFg (q := (RX0, TX0, 3)) rfl, fun U hU hWm => ⟨rfl, PT.mk hU hWm hP hK hD hE hO⟩⟩ rfl rfl hl.1 rfl (lv_room (Nat.le_of_ble_eq_true rfl)) dX1_addMacro_120 ⟨by show _ + 0 ≤ 0; omega, by show _ + 0 ≤ 0; omega⟩) hS (fun q _ h => hFc q h) hFc (fun r_96 u t H1 locs ht hvm hw hB hz1 hk1 hS => ?_)
          obtain ⟨F_97, hB1⟩ := hB
          obtain rfl : F = F_97 := (funext (fun a => hB1.2.2.2 a List.not_mem_nil)).symm
          obtain ⟨hP, hD, hO, hR⟩ := QT.back hB1 ht hFc hR (fun q h => absurd h List.not_mem_nil)
          generalize H1 = H at hP hS ⊢
          have hw : r_96 = atn f z (i + 2) := hw
          have hw_98 := hw
          have hw_99 : r_96 = nI ((TC f z) (i + 2)) := hw_98.trans (cdv_in (by show (TC f z) (i + 2) < 128; exact hl2))
          subst hw_99
          refine lv_iload hx hb dX1_addMacro_123 (lv_at hl 7 rfl) ?_
          have hFc := pg_free hD hS hA
          refine va_callr (va_runV (As := [.int (nI ((TC f z) (i + 2))), .int (nI lv)]) (rest := []) ⟨hx, hb, hml, hown, hts⟩ (s_X1_pieceOf_e l dC dI cs ty L H.size F h0 ρ d δ ea w0 w1 w2 w3 nm te lv ((TC f z) (i + 2)) SD dn hW hL_h0 hT_h0 (by omega) (hl2) (hSD) (hND)) ⟨callB_of 2 hts (gi kt_571) rfl rfl rfl (hts _ kt_572) (hts _ kt_573) (by decide +kernel) ⟨Nat.le_of_ble_eq_true rfl, Nat.le_of_ble_eq_true rfl⟩, (hts _ kt_574), (hts _ kt_575)⟩ ⟨fun a U g mk q => ⟨q.1, PT.calling q.2⟩, pg_recv hK hP hL_h0 hF_23 (q := (RX1, TX1, 11)) rfl, fun U hU hWm => ⟨rfl, PT.mk hU hWm hP hK hD hE hO⟩⟩ rfl rfl hl.1 rfl (lv_room (Nat.le_of_ble_eq_true rfl)) dX1_addMacro_125 ⟨by show _ + 0 ≤ 0; omega, by show _ + 0 ≤ 0; omega⟩) hS (fun q _ h => hFc q h) hFc (fun u r_100 t H1 locs ht hvm hw hB hz1 hk1 hS => ?_)
          obtain ⟨F_101, vr_102, vn_103, μ_104, hB1, hq_105, hq_106, hq_107, hq_108⟩ := hB
          obtain rfl : F = F_101 := (funext (fun a => hB1.2.2.2 a List.not_mem_nil)).symm
          obtain ⟨hP, hD, hO, hR⟩ := QT.back hB1 ht hFc hR (fun q h => absurd h List.not_mem_nil)
          generalize H1 = H at hP hS ⊢
          obtain ⟨pz, pf, hp1, hp2, hp3, hp4⟩ := hq_107.get hO hq_105 hq_106
          obtain ⟨hi_109, ht_110, hq_111⟩ := hW.bytes hq_105 hq_106
          refine lv_iload hx hb dX1_addMacro_128 (lv_at hl 1 rfl) ?_
          refine lv_iconst (v := 1) hx hb dX1_addMacro_130 (by decide) ?_
          refine lv_icmp_lt (tgt := 146) hx hb dX1_addMacro_131 (by decide) (fun c_112 => ?_) (fun c_112 => ?_)
          ·
            have hdg : dgW ((TC f z) (i + 3)) = 0 := dg_n (Or.inl (by rw [← ex_88]; exact c_112))
            refine lv_iconst (v := 0) hx hb dX1_addMacro_146 (by decide) ?_
            refine lv_iload hx hb dX1_addMacro_147 (lv_at hl 0 rfl) ?_
            refine lv_aload hx hb dX1_addMacro_149 (lv_at hl 2 rfl) ?_
            refine W.eq (g2 := F0 m 151 ls [.ref b_31, .int 0, .int (nI 0), .ref r_100]) rfl ?_
            have hFc := pg_free hD hS hA
            refine va_callv (va_runS (As := [.ref r_100, .int (nI 0), .int 0, .ref b_31]) (rest := []) ⟨hx, hb, hml, hown, hts⟩ (s_X1_addParts_e l dC dI cs ty L H.size F r_100 μ_104 vr_102 vn_103 b_31 (ρ + 35 + lv + 6) r_32 60 pz 0 ty_ pf tf_ 0 to_ (pcW SD dn ((TC f z) (i + 2))) U hW hq_105 hq_106 hi_34 ht_35 hp1 hp2 (hp4) (by omega) (hp3) (by rcases hq_108 with h9 | h9 <;> omega) (by omega) hy1 hy2 (by omega) (hy3)) ⟨callB_of 4 hts (gi kt_576) rfl rfl rfl (hts _ kt_572) (hts _ kt_577) (by decide +kernel) ⟨Nat.le_of_ble_eq_true rfl, Nat.le_of_ble_eq_true rfl⟩, (hts _ kt_578)⟩ ⟨fun a U g mk q => ⟨q.1, PT.calling q.2⟩, fun U hU hWm => ⟨rfl, PT.mk hU hWm hP hK hD hE hO⟩⟩ rfl rfl hl.1 rfl (lv_room (Nat.le_of_ble_eq_true rfl)) dX1_addMacro_151 ⟨by show _ + 0 ≤ 0; omega, by show _ + 0 ≤ 0; omega⟩) hS (fun q _ h => hFc q h) hFc (fun u t H1 locs ht hvm hw hB hz1 hk1 hS => ?_)
            obtain ⟨F_114, y2_115, oo2_116, f2_117, hB1, hq_118, hq_119, hq_120⟩ := hB
            obtain ⟨hP, hD, hO, hR⟩ := QT.back hB1 ht hFc hR (fun q h => by simp only [List.mem_cons, List.not_mem_nil, or_false] at h ⊢; omega)
            have hF_121 : F_114 g1 = .inr (0, [.ref r1, .int (nI z), .int 0]) := (hB1.2.2.2 g1 (by rw [hT_g1]; simp only [List.mem_cons, List.not_mem_nil, or_false]; omega)).trans hFg
            have hF_122 : F_114 r1 = .inl (cs 16, n1, .inl f) := (hB1.2.2.2 r1 (by rw [ht_28]; simp only [List.mem_cons, List.not_mem_nil, or_false]; omega)).trans hFr
            have hF_123 : F_114 h0 = .inr (1, [.ref d, .ref w0, .ref w1, .ref w2, .ref w3, .ref nm, .ref te, .int v0_19, .int v1_20, .int v2_21, .int v3_22]) := (hB1.2.2.2 h0 (by rw [hT_h0]; simp only [List.mem_cons, List.not_mem_nil, or_false]; omega)).trans hF_23
            have hF_124 : F_114 nm = .inl (cs 20, 12, .inr (.inr (.inr (.inr f_24)))) := (hB1.2.2.2 nm (by rw [ht_16]; simp only [List.mem_cons, List.not_mem_nil, or_false]; omega)).trans hF_25
            generalize H1 = H at hP hS ⊢
            refine W.widen (k := 0) (n := 0) (by omega) (by omega) ?_
            exact W.vret hx hb hr (fun t ht hWm => ⟨⟨(), rfl, trivial, ⟨F_114, QT.mk ht hP hD hO hR, ⟨f_24, b_31, hF_124, hbf_33, r_32, _, _, _, hq_118, hq_119, by unfold mcV; rw [if_neg (show ¬ (TC f z) (i + 1) = 37 from (fun q => c_43 ((cdv_eq (by first | decide | omega)).mp q))), if_neg (show ¬ (TC f z) (i + 1) = 95 from (fun q => c_71 ((cdv_eq (by first | decide | omega)).mp q))), if_neg (show ¬ (TC f z) (i + 1) = 45 from (fun q => c_56 ((cdv_eq (by first | decide | omega)).mp q))), show trW ((TC f z) (i + ml - 2)) = 0 from if_neg (fun q => c_94 ((cdv_eq (by first | decide | omega)).mp q)), hdg]; exact hq_120⟩⟩⟩, hS.F ht⟩) hS.2.2 dX1_addMacro_154
          ·
            refine lv_iload hx hb dX1_addMacro_134 (lv_at hl 1 rfl) ?_
            refine lv_bipush (v := 9) hx hb dX1_addMacro_136 (by decide) ?_
            refine lv_icmp_gt (tgt := 146) hx hb dX1_addMacro_138 (by decide) (fun c_125 => ?_) (fun c_125 => ?_)
            ·
              have hdg : dgW ((TC f z) (i + 3)) = 0 := dg_n (Or.inr (by rw [← ex_88]; exact c_125))
              refine lv_iconst (v := 0) hx hb dX1_addMacro_146 (by decide) ?_
              refine lv_iload hx hb dX1_addMacro_147 (lv_at hl 0 rfl) ?_
              refine lv_aload hx hb dX1_addMacro_149 (lv_at hl 2 rfl) ?_
              refine W.eq (g2 := F0 m 151 ls [.ref b_31, .int 0, .int (nI 0), .ref r_100]) rfl ?_
              have hFc := pg_free hD hS hA
              refine va_callv (va_runS (As := [.ref r_100, .int (nI 0), .int 0, .ref b_31]) (rest := []) ⟨hx, hb, hml, hown, hts⟩ (s_X1_addParts_e l dC dI cs ty L H.size F r_100 μ_104 vr_102 vn_103 b_31 (ρ + 35 + lv + 6) r_32 60 pz 0 ty_ pf tf_ 0 to_ (pcW SD dn ((TC f z) (i + 2))) U hW hq_105 hq_106 hi_34 ht_35 hp1 hp2 (hp4) (by omega) (hp3) (by rcases hq_108 with h9 | h9 <;> omega) (by omega) hy1 hy2 (by omega) (hy3)) ⟨callB_of 4 hts (gi kt_576) rfl rfl rfl (hts _ kt_572) (hts _ kt_577) (by decide +kernel) ⟨Nat.le_of_ble_eq_true rfl, Nat.le_of_ble_eq_true rfl⟩, (hts _ kt_578)⟩ ⟨fun a U g mk q => ⟨q.1, PT.calling q.2⟩, fun U hU hWm => ⟨rfl, PT.mk hU hWm hP hK hD hE hO⟩⟩ rfl rfl hl.1 rfl (lv_room (Nat.le_of_ble_eq_true rfl)) dX1_addMacro_151 ⟨by show _ + 0 ≤ 0; omega, by show _ + 0 ≤ 0; omega⟩) hS (fun q _ h => hFc q h) hFc (fun u t H1 locs ht hvm hw hB hz1 hk1 hS => ?_)
              obtain ⟨F_127, y2_128, oo2_129, f2_130, hB1, hq_131, hq_132, hq_133⟩ := hB
              obtain ⟨hP, hD, hO, hR⟩ := QT.back hB1 ht hFc hR (fun q h => by simp only [List.mem_cons, List.not_mem_nil, or_false] at h ⊢; omega)
              have hF_134 : F_127 g1 = .inr (0, [.ref r1, .int (nI z), .int 0]) := (hB1.2.2.2 g1 (by rw [hT_g1]; simp only [List.mem_cons, List.not_mem_nil, or_false]; omega)).trans hFg
              have hF_135 : F_127 r1 = .inl (cs 16, n1, .inl f) := (hB1.2.2.2 r1 (by rw [ht_28]; simp only [List.mem_cons, List.not_mem_nil, or_false]; omega)).trans hFr
              have hF_136 : F_127 h0 = .inr (1, [.ref d, .ref w0, .ref w1, .ref w2, .ref w3, .ref nm, .ref te, .int v0_19, .int v1_20, .int v2_21, .int v3_22]) := (hB1.2.2.2 h0 (by rw [hT_h0]; simp only [List.mem_cons, List.not_mem_nil, or_false]; omega)).trans hF_23
              have hF_137 : F_127 nm = .inl (cs 20, 12, .inr (.inr (.inr (.inr f_24)))) := (hB1.2.2.2 nm (by rw [ht_16]; simp only [List.mem_cons, List.not_mem_nil, or_false]; omega)).trans hF_25
              generalize H1 = H at hP hS ⊢
              refine W.widen (k := 0) (n := 0) (by omega) (by omega) ?_
              exact W.vret hx hb hr (fun t ht hWm => ⟨⟨(), rfl, trivial, ⟨F_127, QT.mk ht hP hD hO hR, ⟨f_24, b_31, hF_137, hbf_33, r_32, _, _, _, hq_131, hq_132, by unfold mcV; rw [if_neg (show ¬ (TC f z) (i + 1) = 37 from (fun q => c_43 ((cdv_eq (by first | decide | omega)).mp q))), if_neg (show ¬ (TC f z) (i + 1) = 95 from (fun q => c_71 ((cdv_eq (by first | decide | omega)).mp q))), if_neg (show ¬ (TC f z) (i + 1) = 45 from (fun q => c_56 ((cdv_eq (by first | decide | omega)).mp q))), show trW ((TC f z) (i + ml - 2)) = 0 from if_neg (fun q => c_94 ((cdv_eq (by first | decide | omega)).mp q)), hdg]; exact hq_133⟩⟩⟩, hS.F ht⟩) hS.2.2 dX1_addMacro_154
            ·
              have hd1 : x_88 = nI (dgW ((TC f z) (i + 3))) := ex_88.trans (dg_y (by rw [← ex_88]; exact c_112) (by rw [← ex_88]; exact c_125))
              subst hd1
              have hd9 : dgW ((TC f z) (i + 3)) ≤ 9 := by unfold dgW; split <;> omega
              refine lv_iload hx hb dX1_addMacro_141 (lv_at hl 1 rfl) ?_
              refine lv_goto (tgt := 147) hx hb dX1_addMacro_143 (by decide) ?_
              refine lv_iload hx hb dX1_addMacro_147 (lv_at hl 0 rfl) ?_
              refine lv_aload hx hb dX1_addMacro_149 (lv_at hl 2 rfl) ?_
              have hFc := pg_free hD hS hA
              refine va_callv (va_runS (As := [.ref r_100, .int (nI (dgW ((TC f z) (i + 3)))), .int 0, .ref b_31]) (rest := []) ⟨hx, hb, hml, hown, hts⟩ (s_X1_addParts_e l dC dI cs ty L H.size F r_100 μ_104 vr_102 vn_103 b_31 (ρ + 35 + lv + 6) r_32 60 pz (dgW ((TC f z) (i + 3))) ty_ pf tf_ 0 to_ (pcW SD dn ((TC f z) (i + 2))) U hW hq_105 hq_106 hi_34 ht_35 hp1 hp2 (hp4) (by omega) (hp3) (by rcases hq_108 with h9 | h9 <;> omega) (by omega) hy1 hy2 (by omega) (hy3)) ⟨callB_of 4 hts (gi kt_576) rfl rfl rfl (hts _ kt_572) (hts _ kt_577) (by decide +kernel) ⟨Nat.le_of_ble_eq_true rfl, Nat.le_of_ble_eq_true rfl⟩, (hts _ kt_578)⟩ ⟨fun a U g mk q => ⟨q.1, PT.calling q.2⟩, fun U hU hWm => ⟨rfl, PT.mk hU hWm hP hK hD hE hO⟩⟩ rfl rfl hl.1 rfl (lv_room (Nat.le_of_ble_eq_true rfl)) dX1_addMacro_151 ⟨by show _ + 0 ≤ 0; omega, by show _ + 0 ≤ 0; omega⟩) hS (fun q _ h => hFc q h) hFc (fun u t H1 locs ht hvm hw hB hz1 hk1 hS => ?_)
              obtain ⟨F_139, y2_140, oo2_141, f2_142, hB1, hq_143, hq_144, hq_145⟩ := hB
              obtain ⟨hP, hD, hO, hR⟩ := QT.back hB1 ht hFc hR (fun q h => by simp only [List.mem_cons, List.not_mem_nil, or_false] at h ⊢; omega)
              have hF_146 : F_139 g1 = .inr (0, [.ref r1, .int (nI z), .int 0]) := (hB1.2.2.2 g1 (by rw [hT_g1]; simp only [List.mem_cons, List.not_mem_nil, or_false]; omega)).trans hFg
              have hF_147 : F_139 r1 = .inl (cs 16, n1, .inl f) := (hB1.2.2.2 r1 (by rw [ht_28]; simp only [List.mem_cons, List.not_mem_nil, or_false]; omega)).trans hFr
              have hF_148 : F_139 h0 = .inr (1, [.ref d, .ref w0, .ref w1, .ref w2, .ref w3, .ref nm, .ref te, .int v0_19, .int v1_20, .int v2_21, .int v3_22]) := (hB1.2.2.2 h0 (by rw [hT_h0]; simp only [List.mem_cons, List.not_mem_nil, or_false]; omega)).trans hF_23
              have hF_149 : F_139 nm = .inl (cs 20, 12, .inr (.inr (.inr (.inr f_24)))) := (hB1.2.2.2 nm (by rw [ht_16]; simp only [List.mem_cons, List.not_mem_nil, or_false]; omega)).trans hF_25
              generalize H1 = H at hP hS ⊢
              refine W.widen (k := 0) (n := 0) (by omega) (by omega) ?_
              exact W.vret hx hb hr (fun t ht hWm => ⟨⟨(), rfl, trivial, ⟨F_139, QT.mk ht hP hD hO hR, ⟨f_24, b_31, hF_149, hbf_33, r_32, _, _, _, hq_143, hq_144, by unfold mcV; rw [if_neg (show ¬ (TC f z) (i + 1) = 37 from (fun q => c_43 ((cdv_eq (by first | decide | omega)).mp q))), if_neg (show ¬ (TC f z) (i + 1) = 95 from (fun q => c_71 ((cdv_eq (by first | decide | omega)).mp q))), if_neg (show ¬ (TC f z) (i + 1) = 45 from (fun q => c_56 ((cdv_eq (by first | decide | omega)).mp q))), show trW ((TC f z) (i + ml - 2)) = 0 from if_neg (fun q => c_94 ((cdv_eq (by first | decide | omega)).mp q))]; exact hq_145⟩⟩⟩, hS.F ht⟩) hS.2.2 dX1_addMacro_154
        ·
          refine lv_iconst (v := 1) hx hb dX1_addMacro_108 (by decide) ?_
          refine lv_goto (tgt := 113) hx hb dX1_addMacro_109 (by decide) ?_
          refine lv_istore (lv' := [(7, .int 1), (6, .int x_88), (5, .ref b_31), (0, .ref h0), (1, .ref g1), (2, .int (nI i)), (3, .int (nI ml)), (4, .int (nI lv))]) hx hb dX1_addMacro_113 hl (by decide) rfl (fun ls hl => ?_)
          refine lv_aload_n hx hb dX1_addMacro_115 rfl (lv_at hl 3 rfl) ?_
          refine lv_aload_n hx hb dX1_addMacro_116 rfl (lv_at hl 4 rfl) ?_
          refine lv_iload_n hx hb dX1_addMacro_117 rfl (lv_at hl 5 rfl) ?_
          refine lv_iconst (v := 2) hx hb dX1_addMacro_118 (by decide) ?_
          refine lv_iadd hx hb dX1_addMacro_119 ?_
          refine lv_topi (fun x_150 ex_150 => ?_)
          obtain rfl : x_150 = (nI (i + 2)) := ex_150.trans (nI_add i 2)
          have hFc := pg_free hD hS hA
          refine va_calli (va_runV (As := [.int (nI (i + 2))]) (rest := [.ref h0]) ⟨hx, hb, hml, hown, hts⟩ (s_X0_at_g l dC dI cs ty L H.size F g1 σ r1 n1 z (i + 2) f hW hL_g1 hT_g1 hFg hFr (by omega) (by omega) (by omega)) ⟨callB_of 1 hts (gi kt_21) rfl rfl rfl (hts _ kt_1) (hts _ kt_301) (by decide +kernel) ⟨Nat.le_of_ble_eq_true rfl, Nat.le_of_ble_eq_true rfl⟩, (hts _ kt_23), (hts _ kt_24)⟩ ⟨fun a U g mk q => ⟨q.1, PT.calling q.2⟩, pg_recv hK hP hL_g1 hFg (q := (RX0, TX0, 3)) rfl, fun U hU hWm => ⟨rfl, PT.mk hU hWm hP hK hD hE hO⟩⟩ rfl rfl hl.1 rfl (lv_room (Nat.le_of_ble_eq_true rfl)) dX1_addMacro_120 ⟨by show _ + 0 ≤ 0; omega, by show _ + 0 ≤ 0; omega⟩) hS (fun q _ h => hFc q h) hFc (fun r_151 u t H1 locs ht hvm hw hB hz1 hk1 hS => ?_)
          obtain ⟨F_152, hB1⟩ := hB
          obtain rfl : F = F_152 := (funext (fun a => hB1.2.2.2 a List.not_mem_nil)).symm
          obtain ⟨hP, hD, hO, hR⟩ := QT.back hB1 ht hFc hR (fun q h => absurd h List.not_mem_nil)
          generalize H1 = H at hP hS ⊢
          have hw : r_151 = atn f z (i + 2) := hw
          have hw_153 := hw
          have hw_154 : r_151 = nI ((TC f z) (i + 2)) := hw_153.trans (cdv_in (by show (TC f z) (i + 2) < 128; exact hl2))
          subst hw_154
          refine lv_iload hx hb dX1_addMacro_123 (lv_at hl 7 rfl) ?_
          have hFc := pg_free hD hS hA
          refine va_callr (va_runV (As := [.int (nI ((TC f z) (i + 2))), .int (nI lv)]) (rest := []) ⟨hx, hb, hml, hown, hts⟩ (s_X1_pieceOf_e l dC dI cs ty L H.size F h0 ρ d δ ea w0 w1 w2 w3 nm te lv ((TC f z) (i + 2)) SD dn hW hL_h0 hT_h0 (by omega) (hl2) (hSD) (hND)) ⟨callB_of 2 hts (gi kt_571) rfl rfl rfl (hts _ kt_572) (hts _ kt_573) (by decide +kernel) ⟨Nat.le_of_ble_eq_true rfl, Nat.le_of_ble_eq_true rfl⟩, (hts _ kt_574), (hts _ kt_575)⟩ ⟨fun a U g mk q => ⟨q.1, PT.calling q.2⟩, pg_recv hK hP hL_h0 hF_23 (q := (RX1, TX1, 11)) rfl, fun U hU hWm => ⟨rfl, PT.mk hU hWm hP hK hD hE hO⟩⟩ rfl rfl hl.1 rfl (lv_room (Nat.le_of_ble_eq_true rfl)) dX1_addMacro_125 ⟨by show _ + 0 ≤ 0; omega, by show _ + 0 ≤ 0; omega⟩) hS (fun q _ h => hFc q h) hFc (fun u r_155 t H1 locs ht hvm hw hB hz1 hk1 hS => ?_)
          obtain ⟨F_156, vr_157, vn_158, μ_159, hB1, hq_160, hq_161, hq_162, hq_163⟩ := hB
          obtain rfl : F = F_156 := (funext (fun a => hB1.2.2.2 a List.not_mem_nil)).symm
          obtain ⟨hP, hD, hO, hR⟩ := QT.back hB1 ht hFc hR (fun q h => absurd h List.not_mem_nil)
          generalize H1 = H at hP hS ⊢
          obtain ⟨pz, pf, hp1, hp2, hp3, hp4⟩ := hq_162.get hO hq_160 hq_161
          obtain ⟨hi_164, ht_165, hq_166⟩ := hW.bytes hq_160 hq_161
          refine lv_iload hx hb dX1_addMacro_128 (lv_at hl 1 rfl) ?_
          refine lv_iconst (v := 1) hx hb dX1_addMacro_130 (by decide) ?_
          refine lv_icmp_lt (tgt := 146) hx hb dX1_addMacro_131 (by decide) (fun c_167 => ?_) (fun c_167 => ?_)
          ·
            have hdg : dgW ((TC f z) (i + 3)) = 0 := dg_n (Or.inl (by rw [← ex_88]; exact c_167))
            refine lv_iconst (v := 0) hx hb dX1_addMacro_146 (by decide) ?_
            refine lv_iload hx hb dX1_addMacro_147 (lv_at hl 0 rfl) ?_
            refine lv_aload hx hb dX1_addMacro_149 (lv_at hl 2 rfl) ?_
            refine W.eq (g2 := F0 m 151 ls [.ref b_31, .int 1, .int (nI 0), .ref r_155]) rfl ?_
            have hFc := pg_free hD hS hA
            refine va_callv (va_runS (As := [.ref r_155, .int (nI 0), .int 1, .ref b_31]) (rest := []) ⟨hx, hb, hml, hown, hts⟩ (s_X1_addParts_e l dC dI cs ty L H.size F r_155 μ_159 vr_157 vn_158 b_31 (ρ + 35 + lv + 6) r_32 60 pz 0 ty_ pf tf_ 1 to_ (pcW SD dn ((TC f z) (i + 2))) U hW hq_160 hq_161 hi_34 ht_35 hp1 hp2 (hp4) (by omega) (hp3) (by rcases hq_163 with h9 | h9 <;> omega) (by omega) hy1 hy2 (by omega) (hy3)) ⟨callB_of 4 hts (gi kt_576) rfl rfl rfl (hts _ kt_572) (hts _ kt_577) (by decide +kernel) ⟨Nat.le_of_ble_eq_true rfl, Nat.le_of_ble_eq_true rfl⟩, (hts _ kt_578)⟩ ⟨fun a U g mk q => ⟨q.1, PT.calling q.2⟩, fun U hU hWm => ⟨rfl, PT.mk hU hWm hP hK hD hE hO⟩⟩ rfl rfl hl.1 rfl (lv_room (Nat.le_of_ble_eq_true rfl)) dX1_addMacro_151 ⟨by show _ + 0 ≤ 0; omega, by show _ + 0 ≤ 0; omega⟩) hS (fun q _ h => hFc q h) hFc (fun u t H1 locs ht hvm hw hB hz1 hk1 hS => ?_)
            obtain ⟨F_169, y2_170, oo2_171, f2_172, hB1, hq_173, hq_174, hq_175⟩ := hB
            obtain ⟨hP, hD, hO, hR⟩ := QT.back hB1 ht hFc hR (fun q h => by simp only [List.mem_cons, List.not_mem_nil, or_false] at h ⊢; omega)
            have hF_176 : F_169 g1 = .inr (0, [.ref r1, .int (nI z), .int 0]) := (hB1.2.2.2 g1 (by rw [hT_g1]; simp only [List.mem_cons, List.not_mem_nil, or_false]; omega)).trans hFg
            have hF_177 : F_169 r1 = .inl (cs 16, n1, .inl f) := (hB1.2.2.2 r1 (by rw [ht_28]; simp only [List.mem_cons, List.not_mem_nil, or_false]; omega)).trans hFr
            have hF_178 : F_169 h0 = .inr (1, [.ref d, .ref w0, .ref w1, .ref w2, .ref w3, .ref nm, .ref te, .int v0_19, .int v1_20, .int v2_21, .int v3_22]) := (hB1.2.2.2 h0 (by rw [hT_h0]; simp only [List.mem_cons, List.not_mem_nil, or_false]; omega)).trans hF_23
            have hF_179 : F_169 nm = .inl (cs 20, 12, .inr (.inr (.inr (.inr f_24)))) := (hB1.2.2.2 nm (by rw [ht_16]; simp only [List.mem_cons, List.not_mem_nil, or_false]; omega)).trans hF_25
            generalize H1 = H at hP hS ⊢
            refine W.widen (k := 0) (n := 0) (by omega) (by omega) ?_
            exact W.vret hx hb hr (fun t ht hWm => ⟨⟨(), rfl, trivial, ⟨F_169, QT.mk ht hP hD hO hR, ⟨f_24, b_31, hF_179, hbf_33, r_32, _, _, _, hq_173, hq_174, by unfold mcV; rw [if_neg (show ¬ (TC f z) (i + 1) = 37 from (fun q => c_43 ((cdv_eq (by first | decide | omega)).mp q))), if_neg (show ¬ (TC f z) (i + 1) = 95 from (fun q => c_71 ((cdv_eq (by first | decide | omega)).mp q))), if_neg (show ¬ (TC f z) (i + 1) = 45 from (fun q => c_56 ((cdv_eq (by first | decide | omega)).mp q))), show trW ((TC f z) (i + ml - 2)) = 1 from if_pos ((cdv_eq (by first | decide | omega)).mpr c_94), hdg]; exact hq_175⟩⟩⟩, hS.F ht⟩) hS.2.2 dX1_addMacro_154
          ·
            refine lv_iload hx hb dX1_addMacro_134 (lv_at hl 1 rfl) ?_
            refine lv_bipush (v := 9) hx hb dX1_addMacro_136 (by decide) ?_
            refine lv_icmp_gt (tgt := 146) hx hb dX1_addMacro_138 (by decide) (fun c_180 => ?_) (fun c_180 => ?_)
            ·
              have hdg : dgW ((TC f z) (i + 3)) = 0 := dg_n (Or.inr (by rw [← ex_88]; exact c_180))
              refine lv_iconst (v := 0) hx hb dX1_addMacro_146 (by decide) ?_
              refine lv_iload hx hb dX1_addMacro_147 (lv_at hl 0 rfl) ?_
              refine lv_aload hx hb dX1_addMacro_149 (lv_at hl 2 rfl) ?_
              refine W.eq (g2 := F0 m 151 ls [.ref b_31, .int 1, .int (nI 0), .ref r_155]) rfl ?_
              have hFc := pg_free hD hS hA
              refine va_callv (va_runS (As := [.ref r_155, .int (nI 0), .int 1, .ref b_31]) (rest := []) ⟨hx, hb, hml, hown, hts⟩ (s_X1_addParts_e l dC dI cs ty L H.size F r_155 μ_159 vr_157 vn_158 b_31 (ρ + 35 + lv + 6) r_32 60 pz 0 ty_ pf tf_ 1 to_ (pcW SD dn ((TC f z) (i + 2))) U hW hq_160 hq_161 hi_34 ht_35 hp1 hp2 (hp4) (by omega) (hp3) (by rcases hq_163 with h9 | h9 <;> omega) (by omega) hy1 hy2 (by omega) (hy3)) ⟨callB_of 4 hts (gi kt_576) rfl rfl rfl (hts _ kt_572) (hts _ kt_577) (by decide +kernel) ⟨Nat.le_of_ble_eq_true rfl, Nat.le_of_ble_eq_true rfl⟩, (hts _ kt_578)⟩ ⟨fun a U g mk q => ⟨q.1, PT.calling q.2⟩, fun U hU hWm => ⟨rfl, PT.mk hU hWm hP hK hD hE hO⟩⟩ rfl rfl hl.1 rfl (lv_room (Nat.le_of_ble_eq_true rfl)) dX1_addMacro_151 ⟨by show _ + 0 ≤ 0; omega, by show _ + 0 ≤ 0; omega⟩) hS (fun q _ h => hFc q h) hFc (fun u t H1 locs ht hvm hw hB hz1 hk1 hS => ?_)
              obtain ⟨F_182, y2_183, oo2_184, f2_185, hB1, hq_186, hq_187, hq_188⟩ := hB
              obtain ⟨hP, hD, hO, hR⟩ := QT.back hB1 ht hFc hR (fun q h => by simp only [List.mem_cons, List.not_mem_nil, or_false] at h ⊢; omega)
              have hF_189 : F_182 g1 = .inr (0, [.ref r1, .int (nI z), .int 0]) := (hB1.2.2.2 g1 (by rw [hT_g1]; simp only [List.mem_cons, List.not_mem_nil, or_false]; omega)).trans hFg
              have hF_190 : F_182 r1 = .inl (cs 16, n1, .inl f) := (hB1.2.2.2 r1 (by rw [ht_28]; simp only [List.mem_cons, List.not_mem_nil, or_false]; omega)).trans hFr
              have hF_191 : F_182 h0 = .inr (1, [.ref d, .ref w0, .ref w1, .ref w2, .ref w3, .ref nm, .ref te, .int v0_19, .int v1_20, .int v2_21, .int v3_22]) := (hB1.2.2.2 h0 (by rw [hT_h0]; simp only [List.mem_cons, List.not_mem_nil, or_false]; omega)).trans hF_23
              have hF_192 : F_182 nm = .inl (cs 20, 12, .inr (.inr (.inr (.inr f_24)))) := (hB1.2.2.2 nm (by rw [ht_16]; simp only [List.mem_cons, List.not_mem_nil, or_false]; omega)).trans hF_25
              generalize H1 = H at hP hS ⊢
              refine W.widen (k := 0) (n := 0) (by omega) (by omega) ?_
              exact W.vret hx hb hr (fun t ht hWm => ⟨⟨(), rfl, trivial, ⟨F_182, QT.mk ht hP hD hO hR, ⟨f_24, b_31, hF_192, hbf_33, r_32, _, _, _, hq_186, hq_187, by unfold mcV; rw [if_neg (show ¬ (TC f z) (i + 1) = 37 from (fun q => c_43 ((cdv_eq (by first | decide | omega)).mp q))), if_neg (show ¬ (TC f z) (i + 1) = 95 from (fun q => c_71 ((cdv_eq (by first | decide | omega)).mp q))), if_neg (show ¬ (TC f z) (i + 1) = 45 from (fun q => c_56 ((cdv_eq (by first | decide | omega)).mp q))), show trW ((TC f z) (i + ml - 2)) = 1 from if_pos ((cdv_eq (by first | decide | omega)).mpr c_94), hdg]; exact hq_188⟩⟩⟩, hS.F ht⟩) hS.2.2 dX1_addMacro_154
            ·
              have hd1 : x_88 = nI (dgW ((TC f z) (i + 3))) := ex_88.trans (dg_y (by rw [← ex_88]; exact c_167) (by rw [← ex_88]; exact c_180))
              subst hd1
              have hd9 : dgW ((TC f z) (i + 3)) ≤ 9 := by unfold dgW; split <;> omega
              refine lv_iload hx hb dX1_addMacro_141 (lv_at hl 1 rfl) ?_
              refine lv_goto (tgt := 147) hx hb dX1_addMacro_143 (by decide) ?_
              refine lv_iload hx hb dX1_addMacro_147 (lv_at hl 0 rfl) ?_
              refine lv_aload hx hb dX1_addMacro_149 (lv_at hl 2 rfl) ?_
              have hFc := pg_free hD hS hA
              refine va_callv (va_runS (As := [.ref r_155, .int (nI (dgW ((TC f z) (i + 3)))), .int 1, .ref b_31]) (rest := []) ⟨hx, hb, hml, hown, hts⟩ (s_X1_addParts_e l dC dI cs ty L H.size F r_155 μ_159 vr_157 vn_158 b_31 (ρ + 35 + lv + 6) r_32 60 pz (dgW ((TC f z) (i + 3))) ty_ pf tf_ 1 to_ (pcW SD dn ((TC f z) (i + 2))) U hW hq_160 hq_161 hi_34 ht_35 hp1 hp2 (hp4) (by omega) (hp3) (by rcases hq_163 with h9 | h9 <;> omega) (by omega) hy1 hy2 (by omega) (hy3)) ⟨callB_of 4 hts (gi kt_576) rfl rfl rfl (hts _ kt_572) (hts _ kt_577) (by decide +kernel) ⟨Nat.le_of_ble_eq_true rfl, Nat.le_of_ble_eq_true rfl⟩, (hts _ kt_578)⟩ ⟨fun a U g mk q => ⟨q.1, PT.calling q.2⟩, fun U hU hWm => ⟨rfl, PT.mk hU hWm hP hK hD hE hO⟩⟩ rfl rfl hl.1 rfl (lv_room (Nat.le_of_ble_eq_true rfl)) dX1_addMacro_151 ⟨by show _ + 0 ≤ 0; omega, by show _ + 0 ≤ 0; omega⟩) hS (fun q _ h => hFc q h) hFc (fun u t H1 locs ht hvm hw hB hz1 hk1 hS => ?_)
              obtain ⟨F_194, y2_195, oo2_196, f2_197, hB1, hq_198, hq_199, hq_200⟩ := hB
              obtain ⟨hP, hD, hO, hR⟩ := QT.back hB1 ht hFc hR (fun q h => by simp only [List.mem_cons, List.not_mem_nil, or_false] at h ⊢; omega)
              have hF_201 : F_194 g1 = .inr (0, [.ref r1, .int (nI z), .int 0]) := (hB1.2.2.2 g1 (by rw [hT_g1]; simp only [List.mem_cons, List.not_mem_nil, or_false]; omega)).trans hFg
              have hF_202 : F_194 r1 = .inl (cs 16, n1, .inl f) := (hB1.2.2.2 r1 (by rw [ht_28]; simp only [List.mem_cons, List.not_mem_nil, or_false]; omega)).trans hFr
              have hF_203 : F_194 h0 = .inr (1, [.ref d, .ref w0, .ref w1, .ref w2, .ref w3, .ref nm, .ref te, .int v0_19, .int v1_20, .int v2_21, .int v3_22]) := (hB1.2.2.2 h0 (by rw [hT_h0]; simp only [List.mem_cons, List.not_mem_nil, or_false]; omega)).trans hF_23
              have hF_204 : F_194 nm = .inl (cs 20, 12, .inr (.inr (.inr (.inr f_24)))) := (hB1.2.2.2 nm (by rw [ht_16]; simp only [List.mem_cons, List.not_mem_nil, or_false]; omega)).trans hF_25
              generalize H1 = H at hP hS ⊢
              refine W.widen (k := 0) (n := 0) (by omega) (by omega) ?_
              exact W.vret hx hb hr (fun t ht hWm => ⟨⟨(), rfl, trivial, ⟨F_194, QT.mk ht hP hD hO hR, ⟨f_24, b_31, hF_204, hbf_33, r_32, _, _, _, hq_198, hq_199, by unfold mcV; rw [if_neg (show ¬ (TC f z) (i + 1) = 37 from (fun q => c_43 ((cdv_eq (by first | decide | omega)).mp q))), if_neg (show ¬ (TC f z) (i + 1) = 95 from (fun q => c_71 ((cdv_eq (by first | decide | omega)).mp q))), if_neg (show ¬ (TC f z) (i + 1) = 45 from (fun q => c_56 ((cdv_eq (by first | decide | omega)).mp q))), show trW ((TC f z) (i + ml - 2)) = 1 from if_pos ((cdv_eq (by first | decide | omega)).mpr c_94)]; exact hq_200⟩⟩⟩, hS.F ht⟩) hS.2.2 dX1_addMacro_154
def TMS (cs : Nat → ClassId) (F : Nat → va_E) (te lv k g st q : Nat) (x ad : Int32) : Prop := ∃ (fn : Nat → Option Nat) (b : Nat), F te = .inl (cs 22, 11, .inr (.inr (.inr (.inr fn)))) ∧ fn lv = some b ∧ F b = .inr (10, [.int (nI k), .int (nI g), .int (nI st), .int (nI q), .int x, .int ad])
theorem TMS.get {cs : Nat → ClassId} {F : Nat → va_E} {te lv k g st q b : Nat} {x ad : Int32} {fn : Nat → Option Nat} (h : TMS cs F te lv k g st q x ad) (h1 : F te = .inl (cs 22, 11, .inr (.inr (.inr (.inr fn))))) (hb : fn lv = some b) : F b = .inr (10, [.int (nI k), .int (nI g), .int (nI st), .int (nI q), .int x, .int ad]) := by
  obtain ⟨fn9, b9, g1, g2, g3⟩ := h
  obtain rfl : fn9 = fn := by
    have e9 := g1.symm.trans h1
    simpa using e9
  obtain rfl : b9 = b := Option.some.inj (g2.symm.trans hb)
  exact g3
theorem SNP.fr {cs : Nat → ClassId} {ty : TyM} {L S : List Nat} {F G : Nat → va_E} {w0 w1 w2 w3 δ r0 r1 r2 r3 : Nat} {V : SDR} (h : SNP cs F w0 w1 w2 w3 V) (hO : OK cs ty L F) (hW : WT ty L) (hL0 : w0 ∈ L) (hT0 : ty w0 = (0, δ + 31, [r0, 91])) (hL1 : w1 ∈ L) (hT1 : ty w1 = (0, δ + 32, [r1, 30])) (hL2 : w2 ∈ L) (hT2 : ty w2 = (0, δ + 33, [r2, 60])) (hL3 : w3 ∈ L) (hT3 : ty w3 = (0, δ + 34, [r3, 15])) (hR : FR ty S F G) (hS : ∀ k, 31 ≤ k → k ≤ 34 → δ + k ∉ S) : SNP cs G w0 w1 w2 w3 V :=
  ⟨h.1.fr hO hW hL0 hT0 hR (hS 31 (by omega) (by omega)), h.2.1.fr hO hW hL1 hT1 hR (hS 32 (by omega) (by omega)), h.2.2.1.fr hO hW hL2 hT2 hR (hS 33 (by omega) (by omega)), h.2.2.2.fr hO hW hL3 hT3 hR (hS 34 (by omega) (by omega))⟩
theorem NME.fr {cs : Nat → ClassId} {ty : TyM} {L S : List Nat} {F G : Nat → va_E} {nm lv δ b r : Nat} {fn : Nat → Option Nat} {V : List Nat} (h : NME cs F nm lv V) (h1 : F nm = .inl (cs 20, 12, .inr (.inr (.inr (.inr fn))))) (h2 : G nm = .inl (cs 20, 12, .inr (.inr (.inr (.inr fn))))) (hb : fn lv = some b) (hO : OK cs ty L F) (hW : WT ty L) (hL : b ∈ L) (hT : ty b = (0, δ, [r, 60])) (hR : FR ty S F G) (hS : δ ∉ S) : NME cs G nm lv V :=
  ⟨fn, b, h2, hb, (h.get h1 hb).fr hO hW hL hT hR hS⟩
theorem src_tga {V : List Nat} {z n : Nat} {f fc : Nat → Int32} (h : SRC V z f) (hz : z ≤ n) (hc : ∀ j, j < z → fc j = f j) : TGA V n z 0 fc := by
  obtain ⟨h1, h2, -⟩ := h
  exact ⟨by omega, by rw [if_neg (by omega)], fun j hj => (hc j hj).trans (h2 j hj)⟩
theorem tga_nil {n : Nat} {f : Nat → Int32} : TGA [] n 0 0 f := ⟨by show 0 = min 0 n; omega, by rw [if_neg (by show ¬ n < 0; omega)], fun j hj => absurd hj (Nat.not_lt_zero _)⟩
theorem ishw_ok {T : Nat → Nat} {tt i : Nat} (h : ishw T tt (tt - i) i = true) (hi : i < tt) : (33 ≤ T i ∧ T i ≤ 126) ∧ ¬ (T i = 37 ∧ mcT T i tt = 0) := Classical.byContradiction (fun c => ishw_n h hi c rfl)
set_option maxHeartbeats 4000000 in
set_option maxRecDepth 100000 in
theorem s_X1_expand_e (l : Launch) (dC : Nat → ClassId) (dI : Nat → Nat → Nat) (cs : Nat → ClassId) (ty : TyM) (L : List Nat) (sz : Nat) (F : Nat → va_E) (h0 : Nat) (ρ : Nat) (d : Nat) (δ : Nat) (ea : Nat) (w0 : Nat) (w1 : Nat) (w2 : Nat) (w3 : Nat) (nm : Nat) (te : Nat) (g1 : Nat) (σ : Nat) (r1 : Nat) (n1 : Nat) (z : Nat) (lv : Nat) (k1 : Nat) (k2 : Nat) (k3 : Nat) (k4 : Nat) (f : Nat → Int32) (SD : SDR) (dn : List Nat) (xb : Int32) (xa : Int32) (hW : WT ty L) (hL_h0 : h0 ∈ L) (hT_h0 : ty h0 = (1, ρ, [d, δ, ea, w0, w1, w2, w3, nm, te])) (hL_g1 : g1 ∈ L) (hT_g1 : ty g1 = (0, σ, [r1, n1])) (hFg : F g1 = .inr (0, [.ref r1, .int (nI z), .int 0])) (hFr : F r1 = .inl (cs 16, n1, .inl f)) (hzn : z ≤ n1) (hn9 : n1 ≤ 10000) (hsr : ρ + 98 ≤ σ) (hlv : lv ≤ 10) (hk34 : k3 ≤ k4) (hk49 : k4 ≤ 8000) (hH : k3 = k4 ∨ HSW (TC f z) k3 k4) (hTM : TMS cs F te lv k1 k2 k3 k4 xb xa) (hSD : SNP cs F w0 w1 w2 w3 SD) (hND : NME cs F nm lv dn) : Met l yX1_expand (.code yX1_expand cX1_expand 8 none :: tb) ({ frames := 6, cells := 0, slots := 0, locals := 134 }) (va_Pc [.ref h0, .ref g1, .int (nI lv)] (PTE (dC, dI) cs ty L F sz [])) (va_Qv (fun _ : Unit => True) (fun _ T9 => ∃ F2 : Nat → va_E, QT (dC, dI) cs ty L [ρ + 35 + lv + 6] F F2 (va_A (va_pl L F) sz) T9 ∧ NMG cs F2 nm (lv + 1) (exT (TC f z) k3 k4 SD dn)) (va_A (va_pl L F) sz)) 0 0 (va_A (va_pl L F) sz) := by
  refine Met.ofW (cc := cX1_expand) (maxL := 8) (ret := none) (by decide) rfl ?_
  intro p e s m args below meth c s₁ B hml hv
  obtain ⟨rfl, ⟨hsz, hP, hK, hD0, hE, hO⟩, hG, hX⟩ := hv
  have hx := B.exec
  have hb := B.bytes
  have hr := B.returns
  have hts : ∀ w ∈ tb, w.before _ s = true := fun w h => atoms_spec (ws := .code yX1_expand cX1_expand 8 none :: tb) B.pre w (List.mem_cons_of_mem _ h)
  have hown : s.vm.findClass RX1 = some m.cls := findClass_of_methodNamed B.named
  have hlocks := B.notSynchronized
  subst hsz
  have hD := hD0.self (sz := s.heap.size)
  generalize hAe : va_A (va_pl L F) s.heap.size = A at hD hG hX ⊢
  have hA : ∀ q : Nat, s.heap.size ≤ q → A q := fun q h => by rw [← hAe]; exact Or.inr h
  have hS : va_S A s.heap s.heap [] := va_S.rf
  have hR : FR ty [ρ + 35 + lv + 6] F F := FR.refl
  have hl := lv_entry ([.ref h0, .ref g1, .int (nI lv)]) (n := 8) (Nat.le_of_ble_eq_true rfl)
  rw [lg_entry_eq]
  generalize (lg_sl ([.ref h0, .ref g1, .int (nI lv)]) ++ List.replicate (8 - (lg_sl ([.ref h0, .ref g1, .int (nI lv)])).length) Slot.unset).toArray = ls at hl ⊢
  have hl : lv_has ls 8 [(0, .ref h0), (1, .ref g1), (2, .int (nI lv))] := hl
  obtain ⟨hi_1, ht_2, hi_3, ⟨r_4, ht_5⟩, hi_6, ⟨r_7, ht_8⟩, hi_9, ⟨r_10, ht_11⟩, hi_12, ⟨r_13, ht_14⟩, hi_15, ht_16, hi_17, ht_18⟩ := hW.chk hL_h0 hT_h0
  obtain ⟨v0_19, v1_20, v2_21, v3_22, hF_23⟩ := hO.chk hL_h0 hT_h0
  obtain ⟨f_24, hF_25, hq_26⟩ := hO.rbytes hi_15 ht_16
  obtain ⟨f_27, hF_28, hq_29⟩ := hO.rterm hi_17 ht_18
  obtain ⟨hi_30, ht_31, hq_32⟩ := hW.bytes hL_g1 hT_g1
  have hO0 := hO
  have hn0 := hF_25
  refine lv_aload_n hx hb dX1_expand_0 rfl (lv_at hl 0 rfl) ?_
  refine pg_get (ci := 1) (v := .ref te) (C := RX1) (T := TX1) (N := 11) hx hb hts it_1 hown hK hP hL_h0 hF_23 rfl 6 (by decide) (hts _ kt_579) (fun _ h9 => h9) rfl dX1_expand_1 ?_
  refine lv_iload_n hx hb dX1_expand_4 rfl (lv_at hl 2 rfl) ?_
  obtain ⟨b_33, hbf_34, hi_35, ht_36⟩ := hq_29 lv (by omega)
  refine pg_aald (r := b_33) hx hb hK hP hi_17 6 hF_28 rfl (vp_in_nI (by omega) (by omega)) (show f_27 ((nI lv) : Int32).toNatClampNeg = _ from by rw [show ((nI lv) : Int32) = nI lv from rfl, nI_clamp (by omega)]; exact hbf_34) dX1_expand_5 ?_
  have htm := hTM.get hF_28 hbf_34
  refine lv_astore_n (lv' := [(3, .ref b_33), (0, .ref h0), (1, .ref g1), (2, .int (nI lv))]) hx hb dX1_expand_6 rfl hl (by decide) rfl (fun ls hl => ?_)
  refine lv_aload_n hx hb dX1_expand_7 rfl (lv_at hl 1 rfl) ?_
  refine pg_get (ci := 1) (v := .ref nm) (C := RX1) (T := TX1) (N := 11) hx hb hts it_1 hown hK hP hL_h0 hF_23 rfl 5 (by decide) (hts _ kt_569) (fun _ h9 => h9) rfl dX1_expand_8 ?_
  refine lv_iload_n hx hb dX1_expand_11 rfl (lv_at hl 3 rfl) ?_
  refine lv_iconst (v := 1) hx hb dX1_expand_12 (by decide) ?_
  refine lv_iadd hx hb dX1_expand_13 ?_
  refine lv_topi (fun x_37 ex_37 => ?_)
  obtain rfl : x_37 = (nI (lv + 1)) := ex_37.trans (nI_1 lv)
  obtain ⟨b_38, r_39, hbf_40, hi_41, ht_42⟩ := hq_26 (lv + 1) (by omega)
  refine pg_aald (r := b_38) hx hb hK hP hi_15 4 hF_25 rfl (vp_in_nI (by omega) (by omega)) (show f_24 ((nI (lv + 1)) : Int32).toNatClampNeg = _ from by rw [show ((nI (lv + 1)) : Int32) = nI (lv + 1) from rfl, nI_clamp (by omega)]; exact hbf_40) dX1_expand_14 ?_
  have ht_42 : ty b_38 = (0, ρ + 35 + lv + 6, [r_39, 60]) := ht_42
  obtain ⟨hi_43, ht_44, hq_45⟩ := hW.bytes hi_41 ht_42
  obtain ⟨z_46, o_47, hF_48, hq_49, hq_50⟩ := hO.bytes hi_41 ht_42
  obtain ⟨f_51, hF_52⟩ := hO.ints hi_43 ht_44
  refine lv_astore (lv' := [(4, .ref b_38), (3, .ref b_33), (0, .ref h0), (1, .ref g1), (2, .int (nI lv))]) hx hb dX1_expand_15 hl (by decide) rfl (fun ls hl => ?_)
  refine lv_aload_n hx hb dX1_expand_17 rfl (lv_at hl 1 rfl) ?_
  refine pg_getN (ci := 10) (v := .int (nI k3)) (C := RX10) (T := TX10) (N := 6) hx hb hts it_10 hown hK hP hi_35 htm rfl 2 (by decide) (hE.nest kn_24) (fun _ h9 => h9) rfl dX1_expand_18 ?_
  refine lv_aload_n hx hb dX1_expand_21 rfl (lv_at hl 1 rfl) ?_
  refine pg_getN (ci := 10) (v := .int (nI k4)) (C := RX10) (T := TX10) (N := 6) hx hb hts it_10 hown hK hP hi_35 htm rfl 3 (by decide) (hE.nest kn_25) (fun _ h9 => h9) rfl dX1_expand_22 ?_
  refine lv_icmp_ne (tgt := 40) hx hb dX1_expand_25 (by decide) (fun c_53 => ?_) (fun c_53 => ?_)
  ·
    have h34 : ¬ k3 = k4 := fun q => c_53 (by rw [q])
    refine lv_aload hx hb dX1_expand_40 (lv_at hl 0 rfl) ?_
    have hFc := pg_free hD hS hA
    refine va_callv (va_runV (As := []) (rest := []) ⟨hx, hb, hml, hown, hts⟩ (s_X0_clear l dC dI cs ty L s.heap.size F b_38 (ρ + 35 + lv + 6) r_39 60 hW hi_41 ht_42) ⟨callB_of 0 hts (gi kt_32) rfl rfl rfl (hts _ kt_1) (hts _ kt_580) (by decide +kernel) ⟨Nat.le_of_ble_eq_true rfl, Nat.le_of_ble_eq_true rfl⟩, (hts _ kt_34), (hts _ kt_35)⟩ ⟨fun a U g mk q => ⟨q.1, PT.calling q.2⟩, pg_recv hK hP hi_41 hF_48 (q := (RX0, TX0, 3)) rfl, fun U hU hWm => ⟨rfl, PT.mk hU hWm hP hK hD hE hO⟩⟩ rfl rfl hl.1 rfl (lv_room (Nat.le_of_ble_eq_true rfl)) dX1_expand_42 ⟨by show _ + 0 ≤ 0; omega, by show _ + 0 ≤ 0; omega⟩) hS (fun q _ h => hFc q h) hFc (fun u t H1 locs ht hvm hw hB hz1 hk1 hS => ?_)
    obtain ⟨F_56, hB1, hq_57⟩ := hB
    obtain ⟨hP, hD, hO, hR⟩ := QT.back hB1 ht hFc hR (fun q h => by simp only [List.mem_cons, List.not_mem_nil, or_false] at h ⊢; omega)
    have hF_58 : F_56 g1 = .inr (0, [.ref r1, .int (nI z), .int 0]) := (hB1.2.2.2 g1 (by rw [hT_g1]; simp only [List.mem_cons, List.not_mem_nil, or_false]; omega)).trans hFg
    have hF_59 : F_56 r1 = .inl (cs 16, n1, .inl f) := (hB1.2.2.2 r1 (by rw [ht_31]; simp only [List.mem_cons, List.not_mem_nil, or_false]; omega)).trans hFr
    have hF_60 : F_56 h0 = .inr (1, [.ref d, .ref w0, .ref w1, .ref w2, .ref w3, .ref nm, .ref te, .int v0_19, .int v1_20, .int v2_21, .int v3_22]) := (hB1.2.2.2 h0 (by rw [hT_h0]; simp only [List.mem_cons, List.not_mem_nil, or_false]; omega)).trans hF_23
    have hF_61 : F_56 nm = .inl (cs 20, 12, .inr (.inr (.inr (.inr f_24)))) := (hB1.2.2.2 nm (by rw [ht_16]; simp only [List.mem_cons, List.not_mem_nil, or_false]; omega)).trans hF_25
    have hF_62 : F_56 te = .inl (cs 22, 11, .inr (.inr (.inr (.inr f_27)))) := (hB1.2.2.2 te (by rw [ht_18]; simp only [List.mem_cons, List.not_mem_nil, or_false]; omega)).trans hF_28
    have hF_63 : F_56 b_33 = .inr (10, [.int (nI k1), .int (nI k2), .int (nI k3), .int (nI k4), .int xb, .int xa]) := (hB1.2.2.2 b_33 (by rw [ht_36]; simp only [List.mem_cons, List.not_mem_nil, or_false]; omega)).trans htm
    generalize H1 = H at hP hS ⊢
    refine lv_iconst (v := 1) hx hb dX1_expand_45 (by decide) ?_
    refine lv_istore (lv' := [(5, .int 1), (4, .ref b_38), (3, .ref b_33), (0, .ref h0), (1, .ref g1), (2, .int (nI lv))]) hx hb dX1_expand_46 hl (by decide) rfl (fun ls hl => ?_)
    refine lv_aload_n hx hb dX1_expand_48 rfl (lv_at hl 2 rfl) ?_
    refine pg_getN (ci := 10) (v := .int (nI k3)) (C := RX10) (T := TX10) (N := 6) hx hb hts it_10 hown hK hP hi_35 hF_63 rfl 2 (by decide) (hE.nest kn_24) (fun _ h9 => h9) rfl dX1_expand_49 ?_
    refine lv_istore (lv' := [(6, .int (nI k3)), (5, .int 1), (4, .ref b_38), (3, .ref b_33), (0, .ref h0), (1, .ref g1), (2, .int (nI lv))]) hx hb dX1_expand_52 hl (by decide) rfl (fun ls hl => ?_)
    obtain ⟨b_64, r_65, hbf_66, hi_67, ht_68⟩ := hq_26 lv (by omega)
    obtain ⟨f_69, hF_70⟩ := hO.ints hi_43 ht_44
    have hNG : NMG cs F_56 nm (lv + 1) [] := ⟨f_24, b_38, hF_61, hbf_40, r_39, _, _, _, hq_57, hF_70, tga_nil⟩
    refine W.widen (k := 0) (n := 0) (by omega) (by omega) ?_
    have hF_72 : F g1 = .inr (0, [.ref r1, .int (nI z), .int 0]) := (hR g1 (by rw [hT_g1]; simp only [List.mem_cons, List.not_mem_nil, or_false]; omega)).symm.trans hF_58
    have hF_73 : F r1 = .inl (cs 16, n1, .inl f) := (hR r1 (by rw [ht_31]; simp only [List.mem_cons, List.not_mem_nil, or_false]; omega)).symm.trans hF_59
    have hF_74 : F h0 = .inr (1, [.ref d, .ref w0, .ref w1, .ref w2, .ref w3, .ref nm, .ref te, .int v0_19, .int v1_20, .int v2_21, .int v3_22]) := (hR h0 (by rw [hT_h0]; simp only [List.mem_cons, List.not_mem_nil, or_false]; omega)).symm.trans hF_60
    have hF_75 : F nm = .inl (cs 20, 12, .inr (.inr (.inr (.inr f_24)))) := (hR nm (by rw [ht_16]; simp only [List.mem_cons, List.not_mem_nil, or_false]; omega)).symm.trans hF_61
    have hF_76 : F te = .inl (cs 22, 11, .inr (.inr (.inr (.inr f_27)))) := (hR te (by rw [ht_18]; simp only [List.mem_cons, List.not_mem_nil, or_false]; omega)).symm.trans hF_62
    have hF_77 : F b_33 = .inr (10, [.int (nI k1), .int (nI k2), .int (nI k3), .int (nI k4), .int xb, .int xa]) := (hR b_33 (by rw [ht_36]; simp only [List.mem_cons, List.not_mem_nil, or_false]; omega)).symm.trans hF_63
    refine pl_loop (σ := Nat × Int32 × (List Nat)) A (dC, dI) cs ty L [ρ + 35 + lv + 6] F 54 8 (fun (i, w5, UU) => [(6, .int (nI i)), (5, .int w5), (4, .ref b_38), (3, .ref b_33), (0, .ref h0), (1, .ref g1), (2, .int (nI lv))]) (fun (i, w5, UU) => []) (fun (i, w5, UU) FF => (k3 ≤ i ∧ i ≤ 9000) ∧ ishw (TC f z) k4 (k4 - i) i = true ∧ UU ++ exw (TC f z) k4 SD dn (k4 - i) i = exw (TC f z) k4 SD dn (k4 - k3) k3 ∧ NMG cs FF nm (lv + 1) UU ∧ True) (fun (i, w5, UU) => k4 - i) ?_ (k3, 1, []) F_56 (⟨⟨Nat.le_refl _, by omega⟩, (hH.resolve_left h34).2, rfl, hNG, trivial⟩) hO hR _ _ hP hD hS ls (lv_sub hl [0, 1, 2, 3, 4, 5, 6] rfl)
    rintro ⟨i, w5, UU⟩ F_71 hv_78 hO hR ih_79 H locs hP hD hS ls hl
    have hl : lv_has ls 8 [(6, .int (nI i)), (5, .int w5), (4, .ref b_38), (3, .ref b_33), (0, .ref h0), (1, .ref g1), (2, .int (nI lv))] := hl
    have hv_78 : (k3 ≤ i ∧ i ≤ 9000) ∧ ishw (TC f z) k4 (k4 - i) i = true ∧ UU ++ exw (TC f z) k4 SD dn (k4 - i) i = exw (TC f z) k4 SD dn (k4 - k3) k3 ∧ NMG cs F_71 nm (lv + 1) UU ∧ True := hv_78
    refine W.eq (g2 := F0 m 54 ls []) rfl ?_
    have hF_80 : F_71 g1 = .inr (0, [.ref r1, .int (nI z), .int 0]) := (hR g1 (by rw [hT_g1]; simp only [List.mem_cons, List.not_mem_nil, or_false]; omega)).trans hF_72
    have hF_81 : F_71 r1 = .inl (cs 16, n1, .inl f) := (hR r1 (by rw [ht_31]; simp only [List.mem_cons, List.not_mem_nil, or_false]; omega)).trans hF_73
    have hF_82 : F_71 h0 = .inr (1, [.ref d, .ref w0, .ref w1, .ref w2, .ref w3, .ref nm, .ref te, .int v0_19, .int v1_20, .int v2_21, .int v3_22]) := (hR h0 (by rw [hT_h0]; simp only [List.mem_cons, List.not_mem_nil, or_false]; omega)).trans hF_74
    have hF_83 : F_71 nm = .inl (cs 20, 12, .inr (.inr (.inr (.inr f_24)))) := (hR nm (by rw [ht_16]; simp only [List.mem_cons, List.not_mem_nil, or_false]; omega)).trans hF_75
    have hF_84 : F_71 te = .inl (cs 22, 11, .inr (.inr (.inr (.inr f_27)))) := (hR te (by rw [ht_18]; simp only [List.mem_cons, List.not_mem_nil, or_false]; omega)).trans hF_76
    have hF_85 : F_71 b_33 = .inr (10, [.int (nI k1), .int (nI k2), .int (nI k3), .int (nI k4), .int xb, .int xa]) := (hR b_33 (by rw [ht_36]; simp only [List.mem_cons, List.not_mem_nil, or_false]; omega)).trans hF_77
    obtain ⟨⟨hv1, hv0⟩, hv2, hv3, hv4, -⟩ := id hv_78
    have hmi := mcT_le (T := (TC f z)) (a := i) (tt := k4)
    have hSD2 := hSD.fr hO0 hW hi_3 ht_5 hi_6 ht_8 hi_9 ht_11 hi_12 ht_14 hR (fun k9 h1 h2 => by simp only [List.mem_cons, List.not_mem_nil, or_false]; omega)
    have hND2 := hND.fr hn0 hF_83 hbf_66 hO0 hW hi_67 ht_68 hR (by simp only [List.mem_cons, List.not_mem_nil, or_false]; omega)
    refine lv_iload hx hb dX1_expand_54 (lv_at hl 0 rfl) ?_
    refine lv_aload_n hx hb dX1_expand_56 rfl (lv_at hl 3 rfl) ?_
    refine pg_getN (ci := 10) (v := .int (nI k4)) (C := RX10) (T := TX10) (N := 6) hx hb hts it_10 hown hK hP hi_35 hF_85 rfl 3 (by decide) (hE.nest kn_25) (fun _ h9 => h9) rfl dX1_expand_57 ?_
    refine lv_icmp_ge (tgt := 122) hx hb dX1_expand_60 (by decide) (fun c_86 => ?_) (fun c_86 => ?_)
    ·
      have hi_87 : k4 ≤ i := leN (N := k4) c_86
      have hik : k4 ≤ i := (nI_leI (by omega) (by omega)).mp c_86
      refine W.widen (k := 0) (n := 0) (by omega) (by omega) ?_
      exact W.vret hx hb hr (fun t ht hWm => ⟨⟨(), rfl, trivial, ⟨F_71, QT.mk ht hP hD hO hR, (by have h9 := hv3; rw [exw_d (k4 - i) i hik, List.append_nil] at h9; unfold exT; rw [if_neg h34, ← h9]; exact hv4)⟩⟩, hS.F ht⟩) hS.2.2 dX1_expand_122
    ·
      have hi_88 : i < k4 := ltN (N := k4) c_86
      have hik : i < k4 := Nat.not_le.mp (fun q => c_86 ((nI_leI (by omega) (by omega)).mpr q))
      have hok := ishw_ok hv2 hik
      refine lv_aload_n hx hb dX1_expand_63 rfl (lv_at hl 5 rfl) ?_
      refine lv_iload hx hb dX1_expand_64 (lv_at hl 0 rfl) ?_
      refine lv_aload_n hx hb dX1_expand_66 rfl (lv_at hl 3 rfl) ?_
      refine pg_getN (ci := 10) (v := .int (nI k4)) (C := RX10) (T := TX10) (N := 6) hx hb hts it_10 hown hK hP hi_35 hF_85 rfl 3 (by decide) (hE.nest kn_25) (fun _ h9 => h9) rfl dX1_expand_67 ?_
      have hFc := pg_free hD hS hA
      refine va_calli (va_runS (As := [.ref g1, .int (nI i), .int (nI k4)]) (rest := []) ⟨hx, hb, hml, hown, hts⟩ (s_X10_macroLength_e l dC dI cs ty L H.size F_71 g1 σ r1 n1 z i k4 f hW hL_g1 hT_g1 hF_80 hF_81 (by omega) (by omega) (by omega) (by omega)) ⟨callB_of 3 hts (gi kt_127) rfl rfl rfl (hts _ kt_90) (hts _ kt_581) (by decide +kernel) ⟨Nat.le_of_ble_eq_true rfl, Nat.le_of_ble_eq_true rfl⟩, (hts _ kt_129)⟩ ⟨fun a U g mk q => ⟨q.1, PT.calling q.2⟩, fun U hU hWm => ⟨rfl, PT.mk hU hWm hP hK hD hE hO⟩⟩ rfl rfl hl.1 rfl (lv_room (Nat.le_of_ble_eq_true rfl)) dX1_expand_70 ⟨by show _ + 0 ≤ 0; omega, by show _ + 0 ≤ 0; omega⟩) hS (fun q _ h => hFc q h) hFc (fun r_89 u t H1 locs ht hvm hw hB hz1 hk1 hS => ?_)
      obtain ⟨F_90, hB1⟩ := hB
      obtain rfl : F_71 = F_90 := (funext (fun a => hB1.2.2.2 a List.not_mem_nil)).symm
      obtain ⟨hP, hD, hO, hR⟩ := QT.back hB1 ht hFc hR (fun q h => absurd h List.not_mem_nil)
      generalize H1 = H at hP hS ⊢
      have hw : r_89 = nI (mcT (TC f z) i k4) := hw
      have hw_91 := hw
      subst hw_91
      refine lv_istore (lv' := [(7, .int (nI (mcT (TC f z) i k4))), (6, .int (nI i)), (5, .int w5), (4, .ref b_38), (3, .ref b_33), (0, .ref h0), (1, .ref g1), (2, .int (nI lv))]) hx hb dX1_expand_73 hl (by decide) rfl (fun ls hl => ?_)
      refine lv_iload hx hb dX1_expand_75 (lv_at hl 0 rfl) ?_
      refine lv_if_ne (tgt := 94) hx hb dX1_expand_77 (by decide) (fun c_92 => ?_) (fun c_92 => ?_)
      ·
        have hm0 : ¬ (mcT (TC f z) i k4) = 0 := fun q => c_92 (by rw [q]; rfl)
        refine lv_aload_n hx hb dX1_expand_94 rfl (lv_at hl 5 rfl) ?_
        refine lv_aload_n hx hb dX1_expand_95 rfl (lv_at hl 6 rfl) ?_
        refine lv_iload hx hb dX1_expand_96 (lv_at hl 1 rfl) ?_
        refine lv_iload hx hb dX1_expand_98 (lv_at hl 0 rfl) ?_
        refine lv_iload_n hx hb dX1_expand_100 rfl (lv_at hl 7 rfl) ?_
        have hFc := pg_free hD hS hA
        refine va_callv (va_runV (As := [.ref g1, .int (nI i), .int (nI (mcT (TC f z) i k4)), .int (nI lv)]) (rest := []) ⟨hx, hb, hml, hown, hts⟩ (s_X1_addMacro_e l dC dI cs ty L H.size F_71 h0 ρ d δ ea w0 w1 w2 w3 nm te g1 σ r1 n1 z lv i (mcT (TC f z) i k4) k4 f SD dn UU hW hL_h0 hT_h0 hL_g1 hT_g1 hF_80 hF_81 (by omega) (by omega) (hsr) (hlv) (by omega) (rfl) (hm0) (hSD2) (hND2) (hv4)) ⟨callB_of 4 hts (gi kt_582) rfl rfl rfl (hts _ kt_572) (hts _ kt_583) (by decide +kernel) ⟨Nat.le_of_ble_eq_true rfl, Nat.le_of_ble_eq_true rfl⟩, (hts _ kt_584), (hts _ kt_585)⟩ ⟨fun a U g mk q => ⟨q.1, PTE.calling q.2⟩, pg_recv hK hP hL_h0 hF_82 (q := (RX1, TX1, 11)) rfl, fun U hU hWm => ⟨rfl, PTE.mk hU hWm hP hK hD hE hO hG (fun x hx => absurd hx List.not_mem_nil) hS hFc⟩⟩ rfl rfl hl.1 rfl (lv_room (Nat.le_of_ble_eq_true rfl)) dX1_expand_101 ⟨by show _ + 0 ≤ 0; omega, by show _ + 0 ≤ 0; omega⟩) hS (fun q _ h => hFc q h) hFc (fun u t H1 locs ht hvm hw hB hz1 hk1 hS => ?_)
        obtain ⟨F_95, hB1, hq_96⟩ := hB
        obtain ⟨hP, hD, hO, hR⟩ := QT.back hB1 ht hFc hR (fun q h => by simp only [List.mem_cons, List.not_mem_nil, or_false] at h ⊢; omega)
        have hF_97 : F_95 g1 = .inr (0, [.ref r1, .int (nI z), .int 0]) := (hB1.2.2.2 g1 (by rw [hT_g1]; simp only [List.mem_cons, List.not_mem_nil, or_false]; omega)).trans hF_80
        have hF_98 : F_95 r1 = .inl (cs 16, n1, .inl f) := (hB1.2.2.2 r1 (by rw [ht_31]; simp only [List.mem_cons, List.not_mem_nil, or_false]; omega)).trans hF_81
        have hF_99 : F_95 h0 = .inr (1, [.ref d, .ref w0, .ref w1, .ref w2, .ref w3, .ref nm, .ref te, .int v0_19, .int v1_20, .int v2_21, .int v3_22]) := (hB1.2.2.2 h0 (by rw [hT_h0]; simp only [List.mem_cons, List.not_mem_nil, or_false]; omega)).trans hF_82
        have hF_100 : F_95 nm = .inl (cs 20, 12, .inr (.inr (.inr (.inr f_24)))) := (hB1.2.2.2 nm (by rw [ht_16]; simp only [List.mem_cons, List.not_mem_nil, or_false]; omega)).trans hF_83
        have hF_101 : F_95 te = .inl (cs 22, 11, .inr (.inr (.inr (.inr f_27)))) := (hB1.2.2.2 te (by rw [ht_18]; simp only [List.mem_cons, List.not_mem_nil, or_false]; omega)).trans hF_84
        have hF_102 : F_95 b_33 = .inr (10, [.int (nI k1), .int (nI k2), .int (nI k3), .int (nI k4), .int xb, .int xa]) := (hB1.2.2.2 b_33 (by rw [ht_36]; simp only [List.mem_cons, List.not_mem_nil, or_false]; omega)).trans hF_85
        generalize H1 = H at hP hS ⊢
        refine lv_iconst (v := 1) hx hb dX1_expand_104 (by decide) ?_
        refine lv_iload hx hb dX1_expand_105 (lv_at hl 0 rfl) ?_
        refine va_mmax hx hb (by rw [hml]; exact hl.1.symm) hown (hts _ kt_586) (hts _ kt_18) (hts _ kt_19) (hts _ kt_20) (Nat.le_of_ble_eq_true rfl) (Nat.le_of_ble_eq_true rfl) (by show _ ≤ 0; omega) (by show _ ≤ 0; omega) dX1_expand_107 ?_
        refine lv_topi (fun x_103 ex_103 => ?_)
        obtain rfl : x_103 = (nI (max 1 (mcT (TC f z) i k4))) := ex_103.trans (mx1 (by omega))
        refine lv_istore (lv' := [(5, .int (nI (max 1 (mcT (TC f z) i k4)))), (7, .int (nI (mcT (TC f z) i k4))), (6, .int (nI i)), (4, .ref b_38), (3, .ref b_33), (0, .ref h0), (1, .ref g1), (2, .int (nI lv))]) hx hb dX1_expand_110 hl (by decide) rfl (fun ls hl => ?_)
        refine lv_iload hx hb dX1_expand_112 (lv_at hl 2 rfl) ?_
        refine lv_iload hx hb dX1_expand_114 (lv_at hl 0 rfl) ?_
        refine lv_iadd hx hb dX1_expand_116 ?_
        refine lv_topi (fun x_104 ex_104 => ?_)
        obtain rfl : x_104 = (nI (i + max 1 (mcT (TC f z) i k4))) := ex_104.trans (nI_add i (max 1 (mcT (TC f z) i k4)))
        refine lv_istore (lv' := [(6, .int (nI (i + max 1 (mcT (TC f z) i k4)))), (5, .int (nI (max 1 (mcT (TC f z) i k4)))), (7, .int (nI (mcT (TC f z) i k4))), (4, .ref b_38), (3, .ref b_33), (0, .ref h0), (1, .ref g1), (2, .int (nI lv))]) hx hb dX1_expand_117 hl (by decide) rfl (fun ls hl => ?_)
        refine lv_goto (tgt := 54) hx hb dX1_expand_119 (by decide) ?_
        refine W.widen (k := 0) (n := 0) (by omega) (by omega) ?_
        exact ih_79 ((i + max 1 (mcT (TC f z) i k4)), (nI (max 1 (mcT (TC f z) i k4))), (UU ++ mcV (TC f z) i (mcT (TC f z) i k4) SD dn)) F_95 (⟨⟨by omega, by omega⟩, ishw_y hv2 hik (ishw_ok hv2 hik), by have h9 := exw_n hv3 hik; rw [if_neg hm0] at h9; exact h9, hq_96, trivial⟩) (by show k4 - (i + max 1 (mcT (TC f z) i k4)) < k4 - i; omega) hO hR _ _ hP hD hS ls (lv_sub hl [0, 1, 3, 4, 5, 6, 7] rfl)
      ·
        have hm0 : (mcT (TC f z) i k4) = 0 := (nI_eq (b := 0) (by omega) (by omega)).mp c_92
        obtain ⟨ty_, to_, tf_, hy1, hy2, hy3⟩ := (hv4.get hF_83 hbf_40).get hO hi_41 ht_42
        refine lv_aload hx hb dX1_expand_80 (lv_at hl 3 rfl) ?_
        refine lv_aload_n hx hb dX1_expand_82 rfl (lv_at hl 6 rfl) ?_
        refine lv_iload hx hb dX1_expand_83 (lv_at hl 1 rfl) ?_
        have hFc := pg_free hD hS hA
        refine va_calli (va_runV (As := [.int (nI i)]) (rest := [.ref b_38]) ⟨hx, hb, hml, hown, hts⟩ (s_X0_at_g l dC dI cs ty L H.size F_71 g1 σ r1 n1 z i f hW hL_g1 hT_g1 hF_80 hF_81 (by omega) (by omega) (by omega)) ⟨callB_of 1 hts (gi kt_21) rfl rfl rfl (hts _ kt_1) (hts _ kt_301) (by decide +kernel) ⟨Nat.le_of_ble_eq_true rfl, Nat.le_of_ble_eq_true rfl⟩, (hts _ kt_23), (hts _ kt_24)⟩ ⟨fun a U g mk q => ⟨q.1, PT.calling q.2⟩, pg_recv hK hP hL_g1 hF_80 (q := (RX0, TX0, 3)) rfl, fun U hU hWm => ⟨rfl, PT.mk hU hWm hP hK hD hE hO⟩⟩ rfl rfl hl.1 rfl (lv_room (Nat.le_of_ble_eq_true rfl)) dX1_expand_85 ⟨by show _ + 0 ≤ 0; omega, by show _ + 0 ≤ 0; omega⟩) hS (fun q _ h => hFc q h) hFc (fun r_106 u t H1 locs ht hvm hw hB hz1 hk1 hS => ?_)
        obtain ⟨F_107, hB1⟩ := hB
        obtain rfl : F_71 = F_107 := (funext (fun a => hB1.2.2.2 a List.not_mem_nil)).symm
        obtain ⟨hP, hD, hO, hR⟩ := QT.back hB1 ht hFc hR (fun q h => absurd h List.not_mem_nil)
        generalize H1 = H at hP hS ⊢
        have hw : r_106 = atn f z i := hw
        have hw_108 := hw
        have hw_109 := hw_108.trans (cdv_in (x := atn f z i) (by show (TC f z) i < 128; omega))
        subst hw_109
        have hFc := pg_free hD hS hA
        refine va_callv (va_runV (As := [.int (nI ((TC f z) i))]) (rest := []) ⟨hx, hb, hml, hown, hts⟩ (s_X0_add_t l dC dI cs ty L H.size F_71 b_38 (ρ + 35 + lv + 6) r_39 60 ty_ ((TC f z) i) tf_ to_ UU hW hi_41 ht_42 hy1 hy2 (by omega) (hy3)) ⟨callB_of 1 hts (gi kt_13) rfl rfl rfl (hts _ kt_1) (hts _ kt_563) (by decide +kernel) ⟨Nat.le_of_ble_eq_true rfl, Nat.le_of_ble_eq_true rfl⟩, (hts _ kt_15), (hts _ kt_16)⟩ ⟨fun a U g mk q => ⟨q.1, PT.calling q.2⟩, pg_recv hK hP hi_41 hy1 (q := (RX0, TX0, 3)) rfl, fun U hU hWm => ⟨rfl, PT.mk hU hWm hP hK hD hE hO⟩⟩ rfl rfl hl.1 rfl (lv_room (Nat.le_of_ble_eq_true rfl)) dX1_expand_88 ⟨by show _ + 0 ≤ 0; omega, by show _ + 0 ≤ 0; omega⟩) hS (fun q _ h => hFc q h) hFc (fun u t H1 locs ht hvm hw hB hz1 hk1 hS => ?_)
        obtain ⟨F_111, y2_112, oo2_113, f2_114, hB1, hq_115, hq_116, hq_117⟩ := hB
        obtain ⟨hP, hD, hO, hR⟩ := QT.back hB1 ht hFc hR (fun q h => by simp only [List.mem_cons, List.not_mem_nil, or_false] at h ⊢; omega)
        have hF_118 : F_111 g1 = .inr (0, [.ref r1, .int (nI z), .int 0]) := (hB1.2.2.2 g1 (by rw [hT_g1]; simp only [List.mem_cons, List.not_mem_nil, or_false]; omega)).trans hF_80
        have hF_119 : F_111 r1 = .inl (cs 16, n1, .inl f) := (hB1.2.2.2 r1 (by rw [ht_31]; simp only [List.mem_cons, List.not_mem_nil, or_false]; omega)).trans hF_81
        have hF_120 : F_111 h0 = .inr (1, [.ref d, .ref w0, .ref w1, .ref w2, .ref w3, .ref nm, .ref te, .int v0_19, .int v1_20, .int v2_21, .int v3_22]) := (hB1.2.2.2 h0 (by rw [hT_h0]; simp only [List.mem_cons, List.not_mem_nil, or_false]; omega)).trans hF_82
        have hF_121 : F_111 nm = .inl (cs 20, 12, .inr (.inr (.inr (.inr f_24)))) := (hB1.2.2.2 nm (by rw [ht_16]; simp only [List.mem_cons, List.not_mem_nil, or_false]; omega)).trans hF_83
        have hF_122 : F_111 te = .inl (cs 22, 11, .inr (.inr (.inr (.inr f_27)))) := (hB1.2.2.2 te (by rw [ht_18]; simp only [List.mem_cons, List.not_mem_nil, or_false]; omega)).trans hF_84
        have hF_123 : F_111 b_33 = .inr (10, [.int (nI k1), .int (nI k2), .int (nI k3), .int (nI k4), .int xb, .int xa]) := (hB1.2.2.2 b_33 (by rw [ht_36]; simp only [List.mem_cons, List.not_mem_nil, or_false]; omega)).trans hF_85
        generalize H1 = H at hP hS ⊢
        have hNG_124 : NMG cs F_111 nm (lv + 1) (UU ++ [(TC f z) i]) := ⟨f_24, b_38, hF_121, hbf_40, r_39, _, _, _, hq_115, hq_116, hq_117⟩
        refine lv_goto (tgt := 104) hx hb dX1_expand_91 (by decide) ?_
        refine lv_iconst (v := 1) hx hb dX1_expand_104 (by decide) ?_
        refine lv_iload hx hb dX1_expand_105 (lv_at hl 0 rfl) ?_
        refine va_mmax hx hb (by rw [hml]; exact hl.1.symm) hown (hts _ kt_586) (hts _ kt_18) (hts _ kt_19) (hts _ kt_20) (Nat.le_of_ble_eq_true rfl) (Nat.le_of_ble_eq_true rfl) (by show _ ≤ 0; omega) (by show _ ≤ 0; omega) dX1_expand_107 ?_
        refine lv_topi (fun x_125 ex_125 => ?_)
        obtain rfl : x_125 = (nI (max 1 (mcT (TC f z) i k4))) := ex_125.trans (mx1 (by omega))
        refine lv_istore (lv' := [(5, .int (nI (max 1 (mcT (TC f z) i k4)))), (7, .int (nI (mcT (TC f z) i k4))), (6, .int (nI i)), (4, .ref b_38), (3, .ref b_33), (0, .ref h0), (1, .ref g1), (2, .int (nI lv))]) hx hb dX1_expand_110 hl (by decide) rfl (fun ls hl => ?_)
        refine lv_iload hx hb dX1_expand_112 (lv_at hl 2 rfl) ?_
        refine lv_iload hx hb dX1_expand_114 (lv_at hl 0 rfl) ?_
        refine lv_iadd hx hb dX1_expand_116 ?_
        refine lv_topi (fun x_126 ex_126 => ?_)
        obtain rfl : x_126 = (nI (i + max 1 (mcT (TC f z) i k4))) := ex_126.trans (nI_add i (max 1 (mcT (TC f z) i k4)))
        refine lv_istore (lv' := [(6, .int (nI (i + max 1 (mcT (TC f z) i k4)))), (5, .int (nI (max 1 (mcT (TC f z) i k4)))), (7, .int (nI (mcT (TC f z) i k4))), (4, .ref b_38), (3, .ref b_33), (0, .ref h0), (1, .ref g1), (2, .int (nI lv))]) hx hb dX1_expand_117 hl (by decide) rfl (fun ls hl => ?_)
        refine lv_goto (tgt := 54) hx hb dX1_expand_119 (by decide) ?_
        refine W.widen (k := 0) (n := 0) (by omega) (by omega) ?_
        exact ih_79 ((i + max 1 (mcT (TC f z) i k4)), (nI (max 1 (mcT (TC f z) i k4))), (UU ++ [(TC f z) i])) F_111 (⟨⟨by omega, by omega⟩, ishw_y hv2 hik (ishw_ok hv2 hik), by have h9 := exw_n hv3 hik; rw [if_pos hm0] at h9; exact h9, hNG_124, trivial⟩) (by show k4 - (i + max 1 (mcT (TC f z) i k4)) < k4 - i; omega) hO hR _ _ hP hD hS ls (lv_sub hl [0, 1, 3, 4, 5, 6, 7] rfl)
  ·
    have h34 : k3 = k4 := (nI_eq (by omega) (by omega)).mp c_53
    refine lv_aload hx hb dX1_expand_28 (lv_at hl 0 rfl) ?_
    refine lv_aload_n hx hb dX1_expand_30 rfl (lv_at hl 2 rfl) ?_
    refine pg_get (ci := 1) (v := .ref nm) (C := RX1) (T := TX1) (N := 11) hx hb hts it_1 hown hK hP hL_h0 hF_23 rfl 5 (by decide) (hts _ kt_569) (fun _ h9 => h9) rfl dX1_expand_31 ?_
    refine lv_iload_n hx hb dX1_expand_34 rfl (lv_at hl 4 rfl) ?_
    obtain ⟨b_128, r_129, hbf_130, hi_131, ht_132⟩ := hq_26 lv (by omega)
    refine pg_aald (r := b_128) hx hb hK hP hi_15 4 hF_25 rfl (vp_in_nI (by omega) (by omega)) (show f_24 ((nI lv) : Int32).toNatClampNeg = _ from by rw [show ((nI lv) : Int32) = nI lv from rfl, nI_clamp (by omega)]; exact hbf_130) dX1_expand_35 ?_
    obtain ⟨hi_133, ht_134, hq_135⟩ := hW.bytes hi_131 ht_132
    obtain ⟨pz, pf, hp1, hp2, hp3, hp4⟩ := (hND.get hF_25 hbf_130).get hO hi_131 ht_132
    have hFc := pg_free hD hS hA
    refine va_callv (va_runV (As := [.ref b_128]) (rest := []) ⟨hx, hb, hml, hown, hts⟩ (s_X0_copy_e l dC dI cs ty L s.heap.size F b_38 (ρ + 35 + lv + 6) r_39 60 b_128 (ρ + 35 + lv + 5) r_129 60 pz pf hW hi_41 ht_42 hi_131 ht_132 hp1 hp2 (by omega) (by omega) (by omega) (hp4) (by omega)) ⟨callB_of 1 hts (gi kt_221) rfl rfl rfl (hts _ kt_1) (hts _ kt_587) (by decide +kernel) ⟨Nat.le_of_ble_eq_true rfl, Nat.le_of_ble_eq_true rfl⟩, (hts _ kt_223), (hts _ kt_224)⟩ ⟨fun a U g mk q => ⟨q.1, PT.calling q.2⟩, pg_recv hK hP hi_41 hF_48 (q := (RX0, TX0, 3)) rfl, fun U hU hWm => ⟨rfl, PT.mk hU hWm hP hK hD hE hO⟩⟩ rfl rfl hl.1 rfl (lv_room (Nat.le_of_ble_eq_true rfl)) dX1_expand_36 ⟨by show _ + 0 ≤ 0; omega, by show _ + 0 ≤ 0; omega⟩) hS (fun q _ h => hFc q h) hFc (fun u t H1 locs ht hvm hw hB hz1 hk1 hS => ?_)
    obtain ⟨F_137, fc_138, hB1, hq_139, hq_140, hq_141⟩ := hB
    obtain ⟨hP, hD, hO, hR⟩ := QT.back hB1 ht hFc hR (fun q h => by simp only [List.mem_cons, List.not_mem_nil, or_false] at h ⊢; omega)
    have hF_142 : F_137 g1 = .inr (0, [.ref r1, .int (nI z), .int 0]) := (hB1.2.2.2 g1 (by rw [hT_g1]; simp only [List.mem_cons, List.not_mem_nil, or_false]; omega)).trans hFg
    have hF_143 : F_137 r1 = .inl (cs 16, n1, .inl f) := (hB1.2.2.2 r1 (by rw [ht_31]; simp only [List.mem_cons, List.not_mem_nil, or_false]; omega)).trans hFr
    have hF_144 : F_137 h0 = .inr (1, [.ref d, .ref w0, .ref w1, .ref w2, .ref w3, .ref nm, .ref te, .int v0_19, .int v1_20, .int v2_21, .int v3_22]) := (hB1.2.2.2 h0 (by rw [hT_h0]; simp only [List.mem_cons, List.not_mem_nil, or_false]; omega)).trans hF_23
    have hF_145 : F_137 nm = .inl (cs 20, 12, .inr (.inr (.inr (.inr f_24)))) := (hB1.2.2.2 nm (by rw [ht_16]; simp only [List.mem_cons, List.not_mem_nil, or_false]; omega)).trans hF_25
    have hF_146 : F_137 te = .inl (cs 22, 11, .inr (.inr (.inr (.inr f_27)))) := (hB1.2.2.2 te (by rw [ht_18]; simp only [List.mem_cons, List.not_mem_nil, or_false]; omega)).trans hF_28
    have hF_147 : F_137 b_33 = .inr (10, [.int (nI k1), .int (nI k2), .int (nI k3), .int (nI k4), .int xb, .int xa]) := (hB1.2.2.2 b_33 (by rw [ht_36]; simp only [List.mem_cons, List.not_mem_nil, or_false]; omega)).trans htm
    have hF_148 : F_137 b_128 = .inr (0, [.ref r_129, .int (nI pz), .int 0]) := (hB1.2.2.2 b_128 (by rw [ht_132]; simp)).trans hp1
    have hF_149 : F_137 r_129 = .inl (cs 16, 60, .inl pf) := (hB1.2.2.2 r_129 (by rw [ht_134]; simp)).trans hp2
    generalize H1 = H at hP hS ⊢
    refine W.widen (k := 0) (n := 0) (by omega) (by omega) ?_
    exact W.vret hx hb hr (fun t ht hWm => ⟨⟨(), rfl, trivial, ⟨F_137, QT.mk ht hP hD hO hR, ⟨f_24, b_38, hF_145, hbf_40, r_39, _, _, _, hq_139, hq_140, by unfold exT; rw [if_pos h34]; exact src_tga hp3 hp4 hq_141⟩⟩⟩, hS.F ht⟩) hS.2.2 dX1_expand_39
