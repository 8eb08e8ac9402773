theorem dX2_onlyText_0 : decode cX2_onlyText 0 = .ok (.iconst (-1), 1) := by decide +kernel
theorem dX2_onlyText_1 : decode cX2_onlyText 1 = .ok (.istore 4, 2) := by decide +kernel
theorem dX2_onlyText_3 : decode cX2_onlyText 3 = .ok (.iconst 0, 1) := by decide +kernel
theorem dX2_onlyText_4 : decode cX2_onlyText 4 = .ok (.istore 5, 2) := by decide +kernel
theorem dX2_onlyText_6 : decode cX2_onlyText 6 = .ok (.iload 5, 2) := by decide +kernel
theorem dX2_onlyText_8 : decode cX2_onlyText 8 = .ok (.aload_n 0, 1) := by decide +kernel
theorem dX2_onlyText_9 : decode cX2_onlyText 9 = .ok (.getfield 17, 3) := by decide +kernel
theorem dX2_onlyText_12 : decode cX2_onlyText 12 = .ok (.if_icmp .ge 117, 3) := by decide +kernel
theorem dX2_onlyText_15 : decode cX2_onlyText 15 = .ok (.aload_n 0, 1) := by decide +kernel
theorem dX2_onlyText_16 : decode cX2_onlyText 16 = .ok (.getfield 13, 3) := by decide +kernel
theorem dX2_onlyText_19 : decode cX2_onlyText 19 = .ok (.iload 5, 2) := by decide +kernel
theorem dX2_onlyText_21 : decode cX2_onlyText 21 = .ok (.aaload, 1) := by decide +kernel
theorem dX2_onlyText_22 : decode cX2_onlyText 22 = .ok (.getfield 56, 3) := by decide +kernel
theorem dX2_onlyText_25 : decode cX2_onlyText 25 = .ok (.astore 6, 2) := by decide +kernel
theorem dX2_onlyText_27 : decode cX2_onlyText 27 = .ok (.aload_n 0, 1) := by decide +kernel
theorem dX2_onlyText_28 : decode cX2_onlyText 28 = .ok (.getfield 13, 3) := by decide +kernel
theorem dX2_onlyText_31 : decode cX2_onlyText 31 = .ok (.iload 5, 2) := by decide +kernel
theorem dX2_onlyText_33 : decode cX2_onlyText 33 = .ok (.aaload, 1) := by decide +kernel
theorem dX2_onlyText_34 : decode cX2_onlyText 34 = .ok (.getfield 39, 3) := by decide +kernel
theorem dX2_onlyText_37 : decode cX2_onlyText 37 = .ok (.ifCond .ne 86, 3) := by decide +kernel
theorem dX2_onlyText_40 : decode cX2_onlyText 40 = .ok (.aload_n 0, 1) := by decide +kernel
theorem dX2_onlyText_41 : decode cX2_onlyText 41 = .ok (.getfield 13, 3) := by decide +kernel
theorem dX2_onlyText_44 : decode cX2_onlyText 44 = .ok (.iload 5, 2) := by decide +kernel
theorem dX2_onlyText_46 : decode cX2_onlyText 46 = .ok (.aaload, 1) := by decide +kernel
theorem dX2_onlyText_47 : decode cX2_onlyText 47 = .ok (.getfield 45, 3) := by decide +kernel
theorem dX2_onlyText_50 : decode cX2_onlyText 50 = .ok (.aload_n 1, 1) := by decide +kernel
theorem dX2_onlyText_51 : decode cX2_onlyText 51 = .ok (.invokevirtual 59, 3) := by decide +kernel
theorem dX2_onlyText_54 : decode cX2_onlyText 54 = .ok (.ifCond .eq 69, 3) := by decide +kernel
theorem dX2_onlyText_57 : decode cX2_onlyText 57 = .ok (.aload 6, 2) := by decide +kernel
theorem dX2_onlyText_59 : decode cX2_onlyText 59 = .ok (.iconst 0, 1) := by decide +kernel
theorem dX2_onlyText_60 : decode cX2_onlyText 60 = .ok (.aload 6, 2) := by decide +kernel
theorem dX2_onlyText_62 : decode cX2_onlyText 62 = .ok (.getfield 22, 3) := by decide +kernel
theorem dX2_onlyText_65 : decode cX2_onlyText 65 = .ok (.aload_n 2, 1) := by decide +kernel
theorem dX2_onlyText_66 : decode cX2_onlyText 66 = .ok (.invokevirtual 69, 3) := by decide +kernel
theorem dX2_onlyText_69 : decode cX2_onlyText 69 = .ok (.ifCond .ne 6, 3) := by decide +kernel
theorem dX2_onlyText_72 : decode cX2_onlyText 72 = .ok (.goto 51, 3) := by decide +kernel
theorem dX2_onlyText_75 : decode cX2_onlyText 75 = .ok (.iload_n 3, 1) := by decide +kernel
theorem dX2_onlyText_76 : decode cX2_onlyText 76 = .ok (.ifCond .eq 32, 3) := by decide +kernel
theorem dX2_onlyText_79 : decode cX2_onlyText 79 = .ok (.aload 6, 2) := by decide +kernel
theorem dX2_onlyText_81 : decode cX2_onlyText 81 = .ok (.getfield 22, 3) := by decide +kernel
theorem dX2_onlyText_84 : decode cX2_onlyText 84 = .ok (.aload_n 2, 1) := by decide +kernel
theorem dX2_onlyText_85 : decode cX2_onlyText 85 = .ok (.invokevirtual 73, 3) := by decide +kernel
theorem dX2_onlyText_88 : decode cX2_onlyText 88 = .ok (.if_icmp .le 20, 3) := by decide +kernel
theorem dX2_onlyText_91 : decode cX2_onlyText 91 = .ok (.aload 6, 2) := by decide +kernel
theorem dX2_onlyText_93 : decode cX2_onlyText 93 = .ok (.aload_n 2, 1) := by decide +kernel
theorem dX2_onlyText_94 : decode cX2_onlyText 94 = .ok (.invokevirtual 73, 3) := by decide +kernel
theorem dX2_onlyText_97 : decode cX2_onlyText 97 = .ok (.invokevirtual 79, 3) := by decide +kernel
theorem dX2_onlyText_100 : decode cX2_onlyText 100 = .ok (.bipush 32, 2) := by decide +kernel
theorem dX2_onlyText_102 : decode cX2_onlyText 102 = .ok (.if_icmp .eq 6, 3) := by decide +kernel
theorem dX2_onlyText_105 : decode cX2_onlyText 105 = .ok (.goto 18, 3) := by decide +kernel
theorem dX2_onlyText_108 : decode cX2_onlyText 108 = .ok (.iload 4, 2) := by decide +kernel
theorem dX2_onlyText_110 : decode cX2_onlyText 110 = .ok (.iconst (-1), 1) := by decide +kernel
theorem dX2_onlyText_111 : decode cX2_onlyText 111 = .ok (.if_icmp .ne 8, 3) := by decide +kernel
theorem dX2_onlyText_114 : decode cX2_onlyText 114 = .ok (.iload 5, 2) := by decide +kernel
theorem dX2_onlyText_116 : decode cX2_onlyText 116 = .ok (.goto 5, 3) := by decide +kernel
theorem dX2_onlyText_119 : decode cX2_onlyText 119 = .ok (.bipush (-2), 2) := by decide +kernel
theorem dX2_onlyText_121 : decode cX2_onlyText 121 = .ok (.istore 4, 2) := by decide +kernel
theorem dX2_onlyText_123 : decode cX2_onlyText 123 = .ok (.iinc 5 1, 3) := by decide +kernel
theorem dX2_onlyText_126 : decode cX2_onlyText 126 = .ok (.goto (-120), 3) := by decide +kernel
theorem dX2_onlyText_129 : decode cX2_onlyText 129 = .ok (.iload 4, 2) := by decide +kernel
theorem dX2_onlyText_131 : decode cX2_onlyText 131 = .ok (.ireturn, 1) := by decide +kernel
theorem dX2_take_0 : decode cX2_take 0 = .ok (.aload_n 0, 1) := by decide +kernel
theorem dX2_take_1 : decode cX2_take 1 = .ok (.getfield 17, 3) := by decide +kernel
theorem dX2_take_4 : decode cX2_take 4 = .ok (.bipush 40, 2) := by decide +kernel
theorem dX2_take_6 : decode cX2_take 6 = .ok (.if_icmp .ne 6, 3) := by decide +kernel
theorem dX2_take_9 : decode cX2_take 9 = .ok (.bipush (-3), 2) := by decide +kernel
theorem dX2_take_11 : decode cX2_take 11 = .ok (.ireturn, 1) := by decide +kernel
theorem dX2_take_12 : decode cX2_take 12 = .ok (.iload_n 1, 1) := by decide +kernel
theorem dX2_take_13 : decode cX2_take 13 = .ok (.ifCond .eq 8, 3) := by decide +kernel
theorem dX2_take_16 : decode cX2_take 16 = .ok (.iload_n 1, 1) := by decide +kernel
theorem dX2_take_17 : decode cX2_take 17 = .ok (.iconst 2, 1) := by decide +kernel
theorem dX2_take_18 : decode cX2_take 18 = .ok (.if_icmp .ne 7, 3) := by decide +kernel
theorem dX2_take_21 : decode cX2_take 21 = .ok (.iconst 1, 1) := by decide +kernel
theorem dX2_take_22 : decode cX2_take 22 = .ok (.goto 4, 3) := by decide +kernel
theorem dX2_take_25 : decode cX2_take 25 = .ok (.iconst 0, 1) := by decide +kernel
theorem dX2_take_26 : decode cX2_take 26 = .ok (.istore 4, 2) := by decide +kernel
theorem dX2_take_28 : decode cX2_take 28 = .ok (.iload 4, 2) := by decide +kernel
theorem dX2_take_30 : decode cX2_take 30 = .ok (.ifCond .eq 17, 3) := by decide +kernel
theorem dX2_take_33 : decode cX2_take 33 = .ok (.aload_n 3, 1) := by decide +kernel
theorem dX2_take_34 : decode cX2_take 34 = .ok (.bipush 32, 2) := by decide +kernel
theorem dX2_take_36 : decode cX2_take 36 = .ok (.iconst 0, 1) := by decide +kernel
theorem dX2_take_37 : decode cX2_take 37 = .ok (.aload_n 3, 1) := by decide +kernel
theorem dX2_take_38 : decode cX2_take 38 = .ok (.getfield 22, 3) := by decide +kernel
theorem dX2_take_41 : decode cX2_take 41 = .ok (.invokevirtual 27, 3) := by decide +kernel
theorem dX2_take_44 : decode cX2_take 44 = .ok (.goto 7, 3) := by decide +kernel
theorem dX2_take_47 : decode cX2_take 47 = .ok (.aload_n 3, 1) := by decide +kernel
theorem dX2_take_48 : decode cX2_take 48 = .ok (.getfield 22, 3) := by decide +kernel
theorem dX2_take_51 : decode cX2_take 51 = .ok (.istore 5, 2) := by decide +kernel
theorem dX2_take_53 : decode cX2_take 53 = .ok (.iload_n 1, 1) := by decide +kernel
theorem dX2_take_54 : decode cX2_take 54 = .ok (.ifCond .lt 18, 3) := by decide +kernel
theorem dX2_take_57 : decode cX2_take 57 = .ok (.iload_n 1, 1) := by decide +kernel
theorem dX2_take_58 : decode cX2_take 58 = .ok (.iconst 4, 1) := by decide +kernel
theorem dX2_take_59 : decode cX2_take 59 = .ok (.if_icmp .gt 13, 3) := by decide +kernel
theorem dX2_take_62 : decode cX2_take 62 = .ok (.aload_n 3, 1) := by decide +kernel
theorem dX2_take_63 : decode cX2_take 63 = .ok (.iconst 0, 1) := by decide +kernel
theorem dX2_take_64 : decode cX2_take 64 = .ok (.iload 5, 2) := by decide +kernel
theorem dX2_take_66 : decode cX2_take 66 = .ok (.invokevirtual 31, 3) := by decide +kernel
theorem dX2_take_69 : decode cX2_take 69 = .ok (.ifCond .ne 5, 3) := by decide +kernel
theorem dX2_take_72 : decode cX2_take 72 = .ok (.iconst (-1), 1) := by decide +kernel
theorem dX2_take_73 : decode cX2_take 73 = .ok (.ireturn, 1) := by decide +kernel
theorem dX2_take_74 : decode cX2_take 74 = .ok (.iload 4, 2) := by decide +kernel
theorem dX2_take_76 : decode cX2_take 76 = .ok (.ifCond .eq 15, 3) := by decide +kernel
theorem dX2_take_79 : decode cX2_take 79 = .ok (.iload_n 1, 1) := by decide +kernel
theorem dX2_take_80 : decode cX2_take 80 = .ok (.aload_n 3, 1) := by decide +kernel
theorem dX2_take_81 : decode cX2_take 81 = .ok (.iload 5, 2) := by decide +kernel
theorem dX2_take_83 : decode cX2_take 83 = .ok (.invokestatic 35, 3) := by decide +kernel
theorem dX2_take_86 : decode cX2_take 86 = .ok (.ifCond .ne 5, 3) := by decide +kernel
theorem dX2_take_89 : decode cX2_take 89 = .ok (.iconst (-1), 1) := by decide +kernel
theorem dX2_take_90 : decode cX2_take 90 = .ok (.ireturn, 1) := by decide +kernel
theorem dX2_take_91 : decode cX2_take 91 = .ok (.aload_n 0, 1) := by decide +kernel
theorem dX2_take_92 : decode cX2_take 92 = .ok (.getfield 13, 3) := by decide +kernel
theorem dX2_take_95 : decode cX2_take 95 = .ok (.aload_n 0, 1) := by decide +kernel
theorem dX2_take_96 : decode cX2_take 96 = .ok (.getfield 17, 3) := by decide +kernel
theorem dX2_take_99 : decode cX2_take 99 = .ok (.aaload, 1) := by decide +kernel
theorem dX2_take_100 : decode cX2_take 100 = .ok (.astore 6, 2) := by decide +kernel
theorem dX2_take_102 : decode cX2_take 102 = .ok (.aload 6, 2) := by decide +kernel
theorem dX2_take_104 : decode cX2_take 104 = .ok (.iload_n 1, 1) := by decide +kernel
theorem dX2_take_105 : decode cX2_take 105 = .ok (.putfield 39, 3) := by decide +kernel
theorem dX2_take_108 : decode cX2_take 108 = .ok (.aload 6, 2) := by decide +kernel
theorem dX2_take_110 : decode cX2_take 110 = .ok (.iload_n 2, 1) := by decide +kernel
theorem dX2_take_111 : decode cX2_take 111 = .ok (.putfield 42, 3) := by decide +kernel
theorem dX2_take_114 : decode cX2_take 114 = .ok (.aload 6, 2) := by decide +kernel
theorem dX2_take_116 : decode cX2_take 116 = .ok (.getfield 45, 3) := by decide +kernel
theorem dX2_take_119 : decode cX2_take 119 = .ok (.invokevirtual 49, 3) := by decide +kernel
theorem dX2_take_122 : decode cX2_take 122 = .ok (.aload 6, 2) := by decide +kernel
theorem dX2_take_124 : decode cX2_take 124 = .ok (.getfield 45, 3) := by decide +kernel
theorem dX2_take_127 : decode cX2_take 127 = .ok (.aload_n 3, 1) := by decide +kernel
theorem dX2_take_128 : decode cX2_take 128 = .ok (.iconst 0, 1) := by decide +kernel
theorem dX2_take_129 : decode cX2_take 129 = .ok (.iload 5, 2) := by decide +kernel
theorem dX2_take_131 : decode cX2_take 131 = .ok (.invokevirtual 52, 3) := by decide +kernel
theorem dX2_take_134 : decode cX2_take 134 = .ok (.aload 6, 2) := by decide +kernel
theorem dX2_take_136 : decode cX2_take 136 = .ok (.getfield 56, 3) := by decide +kernel
theorem dX2_take_139 : decode cX2_take 139 = .ok (.invokevirtual 49, 3) := by decide +kernel
theorem dX2_take_142 : decode cX2_take 142 = .ok (.aload 6, 2) := by decide +kernel
theorem dX2_take_144 : decode cX2_take 144 = .ok (.getfield 56, 3) := by decide +kernel
theorem dX2_take_147 : decode cX2_take 147 = .ok (.aload_n 3, 1) := by decide +kernel
theorem dX2_take_148 : decode cX2_take 148 = .ok (.iload 5, 2) := by decide +kernel
theorem dX2_take_150 : decode cX2_take 150 = .ok (.iconst 1, 1) := by decide +kernel
theorem dX2_take_151 : decode cX2_take 151 = .ok (.iadd, 1) := by decide +kernel
theorem dX2_take_152 : decode cX2_take 152 = .ok (.aload_n 3, 1) := by decide +kernel
theorem dX2_take_153 : decode cX2_take 153 = .ok (.getfield 22, 3) := by decide +kernel
theorem dX2_take_156 : decode cX2_take 156 = .ok (.invokevirtual 52, 3) := by decide +kernel
theorem dX2_take_159 : decode cX2_take 159 = .ok (.aload_n 0, 1) := by decide +kernel
theorem dX2_take_160 : decode cX2_take 160 = .ok (.dup, 1) := by decide +kernel
theorem dX2_take_161 : decode cX2_take 161 = .ok (.getfield 17, 3) := by decide +kernel
theorem dX2_take_164 : decode cX2_take 164 = .ok (.iconst 1, 1) := by decide +kernel
theorem dX2_take_165 : decode cX2_take 165 = .ok (.iadd, 1) := by decide +kernel
theorem dX2_take_166 : decode cX2_take 166 = .ok (.putfield 17, 3) := by decide +kernel
theorem dX2_take_169 : decode cX2_take 169 = .ok (.aload_n 0, 1) := by decide +kernel
theorem dX2_take_170 : decode cX2_take 170 = .ok (.getfield 17, 3) := by decide +kernel
theorem dX2_take_173 : decode cX2_take 173 = .ok (.ireturn, 1) := by decide +kernel
theorem dX2_valueAt_0 : decode cX2_valueAt 0 = .ok (.aload_n 0, 1) := by decide +kernel
theorem dX2_valueAt_1 : decode cX2_valueAt 1 = .ok (.getfield 13, 3) := by decide +kernel
theorem dX2_valueAt_4 : decode cX2_valueAt 4 = .ok (.iload_n 1, 1) := by decide +kernel
theorem dX2_valueAt_5 : decode cX2_valueAt 5 = .ok (.ifCond .lt 13, 3) := by decide +kernel
theorem dX2_valueAt_8 : decode cX2_valueAt 8 = .ok (.iload_n 1, 1) := by decide +kernel
theorem dX2_valueAt_9 : decode cX2_valueAt 9 = .ok (.bipush 40, 2) := by decide +kernel
theorem dX2_valueAt_11 : decode cX2_valueAt 11 = .ok (.if_icmp .ge 7, 3) := by decide +kernel
theorem dX2_valueAt_14 : decode cX2_valueAt 14 = .ok (.iload_n 1, 1) := by decide +kernel
theorem dX2_valueAt_15 : decode cX2_valueAt 15 = .ok (.goto 4, 3) := by decide +kernel
theorem dX2_valueAt_18 : decode cX2_valueAt 18 = .ok (.iconst 0, 1) := by decide +kernel
theorem dX2_valueAt_19 : decode cX2_valueAt 19 = .ok (.aaload, 1) := by decide +kernel
theorem dX2_valueAt_20 : decode cX2_valueAt 20 = .ok (.getfield 56, 3) := by decide +kernel
theorem dX2_valueAt_23 : decode cX2_valueAt 23 = .ok (.areturn, 1) := by decide +kernel
theorem kt_112 : Cond.code yX0_begins cX0_begins 4 (some .boolean) ∈ tb := tb_at (i := 617) (by decide +kernel) (by decide +kernel)
theorem kt_113 : Cond.methodLink RX2 69 yX0_begins ∈ tb := tb_at (i := 614) (by decide +kernel) (by decide +kernel)
theorem kt_114 : Cond.instanceMethod yX0_begins ∈ tb := tb_at (i := 615) (by decide +kernel) (by decide +kernel)
theorem kt_115 : Cond.selects RX0 yX0_begins yX0_begins ∈ tb := tb_at (i := 616) (by decide +kernel) (by decide +kernel)
theorem kt_116 : Cond.methodLink RX2 73 yJ0_length_8abf5 ∈ tb := tb_at (i := 670) (by decide +kernel) (by decide +kernel)
theorem kt_117 : Cond.methodLink RX2 79 yX0_at ∈ tb := tb_at (i := 671) (by decide +kernel) (by decide +kernel)
theorem kt_118 : Cond.methodLink RX2 49 yX0_clear ∈ tb := tb_at (i := 537) (by decide +kernel) (by decide +kernel)
theorem kt_119 : Cond.methodLink RX2 52 yX0_addRange ∈ tb := tb_at (i := 541) (by decide +kernel) (by decide +kernel)
theorem kt_120 : Cond.code yX2_isValue cX2_isValue 3 (some .boolean) ∈ tb := tb_at (i := 536) (by decide +kernel) (by decide +kernel)
theorem kt_121 : Cond.methodLink RX2 35 yX2_isValue ∈ tb := tb_at (i := 534) (by decide +kernel) (by decide +kernel)
theorem kt_122 : Cond.static yX2_isValue ∈ tb := tb_at (i := 535) (by decide +kernel) (by decide +kernel)
theorem kt_123 : Cond.code yX0_find cX0_find 5 (some .int) ∈ tb := tb_at (i := 516) (by decide +kernel) (by decide +kernel)
theorem kt_124 : Cond.methodLink RX2 27 yX0_find ∈ tb := tb_at (i := 513) (by decide +kernel) (by decide +kernel)
theorem kt_125 : Cond.instanceMethod yX0_find ∈ tb := tb_at (i := 514) (by decide +kernel) (by decide +kernel)
theorem kt_126 : Cond.selects RX0 yX0_find yX0_find ∈ tb := tb_at (i := 515) (by decide +kernel) (by decide +kernel)
theorem kn_4 : Cond.fieldLinkNest RX2 56 "PostGate$Entry" "value" "LPostGate$Bytes;" "PostGate" ∈ nw := nw_at (i := 76) (by decide +kernel) rfl
set_option maxHeartbeats 4000000 in
set_option maxRecDepth 100000 in
theorem s_X2_valueAt (l : Launch) (dC : Nat → ClassId) (dI : Nat → Nat → Nat) (cs : Nat → ClassId) (ty : TyM) (L : List Nat) (sz : Nat) (F : Nat → va_E) (h0 : Nat) (ρ : Nat) (ea : Nat) (x1 : Int32) (hW : WT ty L) (hL_h0 : h0 ∈ L) (hT_h0 : ty h0 = (2, ρ, [ea])) : Met l yX2_valueAt (.code yX2_valueAt cX2_valueAt 2 (some (.object "PostGate$Bytes")) :: tb) ({ frames := 0, cells := 0, slots := 0, locals := 0 }) (va_Pc [.ref h0, .int x1] (PT (dC, dI) cs ty L F sz)) (va_Qr (fun _ : Unit => True) (fun _ ra T9 => ∃ F2 : Nat → va_E, ∃ vr : Nat, QT (dC, dI) cs ty L [] F F2 (va_A (va_pl L F) sz) T9 ∧ ra ∈ L ∧ ty ra = (0, ρ + 1, [vr, 700])) (va_A (va_pl L F) sz)) 0 0 (va_A (va_pl L F) sz) := by
  refine Met.ofW (cc := cX2_valueAt) (maxL := 2) (ret := (some (.object "PostGate$Bytes"))) (by decide) rfl ?_
  intro p e s m args below meth c s₁ B hml hv
  obtain ⟨rfl, hsz, hP, hK, hD0, hE, hO⟩ := hv
  have hx := B.exec
  have hb := B.bytes
  have hr := B.returns
  have hts : ∀ w ∈ tb, w.before _ s = true := fun w h => atoms_spec (ws := .code yX2_valueAt cX2_valueAt 2 (some (.object "PostGate$Bytes")) :: tb) B.pre w (List.mem_cons_of_mem _ h)
  have hown : s.vm.findClass RX2 = some m.cls := findClass_of_methodNamed B.named
  have hlocks := B.notSynchronized
  subst hsz
  have hD := hD0.self (sz := s.heap.size)
  generalize hAe : va_A (va_pl L F) s.heap.size = A at hD ⊢
  have hA : ∀ q : Nat, s.heap.size ≤ q → A q := fun q h => by rw [← hAe]; exact Or.inr h
  have hS : va_S A s.heap s.heap [] := va_S.rf
  have hR : FR ty [] F F := FR.refl
  have hl := lv_entry ([.ref h0, .int x1]) (n := 2) (Nat.le_of_ble_eq_true rfl)
  rw [lg_entry_eq]
  generalize (lg_sl ([.ref h0, .int x1]) ++ List.replicate (2 - (lg_sl ([.ref h0, .int x1])).length) Slot.unset).toArray = ls at hl ⊢
  have hl : lv_has ls 2 [(0, .ref h0), (1, .int x1)] := hl
  refine lv_aload_n hx hb dX2_valueAt_0 rfl (lv_at hl 0 rfl) ?_
  obtain ⟨hi_1, ht_2⟩ := hW.dir hL_h0 hT_h0
  obtain ⟨z_3, hF_4, hq_5⟩ := hO.dir hL_h0 hT_h0
  refine pg_get (ci := 2) (v := .ref ea) (C := RX2) (T := TX2) (N := 2) hx hb hts it_2 hown hK hP hL_h0 hF_4 rfl 0 (by decide) (hts _ kt_84) (fun _ h9 => h9) rfl dX2_valueAt_1 ?_
  refine lv_iload_n hx hb dX2_valueAt_4 rfl (lv_at hl 1 rfl) ?_
  refine lv_if_lt (tgt := 18) hx hb dX2_valueAt_5 (by decide) (fun c_6 => ?_) (fun c_6 => ?_)
  ·
    refine lv_iconst (v := 0) hx hb dX2_valueAt_18 (by decide) ?_
    obtain ⟨f_7, hF_8, hq_9⟩ := hO.rentry hi_1 ht_2
    obtain ⟨b_10, x_11, y_12, hbf_13, hi_14, ht_15⟩ := hq_9 0 (by omega)
    refine pg_aald (r := b_10) hx hb hK hP hi_1 5 hF_8 rfl (show vp_in (0 : Int32) 40 from (show vp_in (nI 0) 40 from vp_in_nI (by omega) (by omega))) (show f_7 (0 : Int32).toNatClampNeg = _ from by rw [show (0 : Int32) = nI 0 from rfl, nI_clamp (by omega)]; exact hbf_13) dX2_valueAt_19 ?_
    obtain ⟨hi_16, hi_17, ⟨r_18, ht_19⟩, ⟨r_20, ht_21⟩⟩ := hW.entry hi_14 ht_15
    obtain ⟨v0_22, v1_23, hF_24⟩ := hO.entry hi_14 ht_15
    refine pg_getN (ci := 3) (v := .ref y_12) (C := RX3) (T := TX3) (N := 4) hx hb hts it_3 hown hK hP hi_14 hF_24 rfl 1 (by decide) (hE.nest kn_4) (fun _ h9 => h9) rfl dX2_valueAt_20 ?_
    refine W.widen (k := 0) (n := 0) (by omega) (by omega) ?_
    exact W.aret hx hb hr (Or.inl ⟨_, rfl⟩) (Or.inr ⟨_, rfl⟩) (fun t ht hWm => ⟨⟨(), y_12, rfl, trivial, ⟨F, r_20, QT.mk ht hP hD hO hR, hi_17, ht_21⟩⟩, hS.F ht⟩) hS.2.2 dX2_valueAt_23
  ·
    refine lv_iload_n hx hb dX2_valueAt_8 rfl (lv_at hl 1 rfl) ?_
    refine lv_bipush (v := 40) hx hb dX2_valueAt_9 (by decide) ?_
    refine lv_icmp_ge (tgt := 18) hx hb dX2_valueAt_11 (by decide) (fun c_25 => ?_) (fun c_25 => ?_)
    ·
      refine lv_iconst (v := 0) hx hb dX2_valueAt_18 (by decide) ?_
      obtain ⟨f_26, hF_27, hq_28⟩ := hO.rentry hi_1 ht_2
      obtain ⟨b_29, x_30, y_31, hbf_32, hi_33, ht_34⟩ := hq_28 0 (by omega)
      refine pg_aald (r := b_29) hx hb hK hP hi_1 5 hF_27 rfl (show vp_in (0 : Int32) 40 from (show vp_in (nI 0) 40 from vp_in_nI (by omega) (by omega))) (show f_26 (0 : Int32).toNatClampNeg = _ from by rw [show (0 : Int32) = nI 0 from rfl, nI_clamp (by omega)]; exact hbf_32) dX2_valueAt_19 ?_
      obtain ⟨hi_35, hi_36, ⟨r_37, ht_38⟩, ⟨r_39, ht_40⟩⟩ := hW.entry hi_33 ht_34
      obtain ⟨v0_41, v1_42, hF_43⟩ := hO.entry hi_33 ht_34
      refine pg_getN (ci := 3) (v := .ref y_31) (C := RX3) (T := TX3) (N := 4) hx hb hts it_3 hown hK hP hi_33 hF_43 rfl 1 (by decide) (hE.nest kn_4) (fun _ h9 => h9) rfl dX2_valueAt_20 ?_
      refine W.widen (k := 0) (n := 0) (by omega) (by omega) ?_
      exact W.aret hx hb hr (Or.inl ⟨_, rfl⟩) (Or.inr ⟨_, rfl⟩) (fun t ht hWm => ⟨⟨(), y_31, rfl, trivial, ⟨F, r_39, QT.mk ht hP hD hO hR, hi_36, ht_40⟩⟩, hS.F ht⟩) hS.2.2 dX2_valueAt_23
    ·
      obtain ⟨j, hj, rfl⟩ := nI_of c_6
      have hj40 : j < 40 := ltI hj c_25
      refine lv_iload_n hx hb dX2_valueAt_14 rfl (lv_at hl 1 rfl) ?_
      refine lv_goto (tgt := 19) hx hb dX2_valueAt_15 (by decide) ?_
      obtain ⟨f_44, hF_45, hq_46⟩ := hO.rentry hi_1 ht_2
      obtain ⟨b_47, x_48, y_49, hbf_50, hi_51, ht_52⟩ := hq_46 j (by omega)
      refine pg_aald (r := b_47) hx hb hK hP hi_1 5 hF_45 rfl (vp_in_nI (by omega) (by omega)) (show f_44 ((nI j) : Int32).toNatClampNeg = _ from by rw [show ((nI j) : Int32) = nI j from rfl, nI_clamp (by omega)]; exact hbf_50) dX2_valueAt_19 ?_
      obtain ⟨hi_53, hi_54, ⟨r_55, ht_56⟩, ⟨r_57, ht_58⟩⟩ := hW.entry hi_51 ht_52
      obtain ⟨v0_59, v1_60, hF_61⟩ := hO.entry hi_51 ht_52
      refine pg_getN (ci := 3) (v := .ref y_49) (C := RX3) (T := TX3) (N := 4) hx hb hts it_3 hown hK hP hi_51 hF_61 rfl 1 (by decide) (hE.nest kn_4) (fun _ h9 => h9) rfl dX2_valueAt_20 ?_
      refine W.widen (k := 0) (n := 0) (by omega) (by omega) ?_
      exact W.aret hx hb hr (Or.inl ⟨_, rfl⟩) (Or.inr ⟨_, rfl⟩) (fun t ht hWm => ⟨⟨(), y_49, rfl, trivial, ⟨F, r_57, QT.mk ht hP hD hO hR, hi_54, ht_58⟩⟩, hS.F ht⟩) hS.2.2 dX2_valueAt_23
set_option maxHeartbeats 4000000 in
set_option maxRecDepth 100000 in
theorem s_X2_onlyText (l : Launch) (dC : Nat → ClassId) (dI : Nat → Nat → Nat) (cs : Nat → ClassId) (ty : TyM) (L : List Nat) (sz : Nat) (F : Nat → va_E) (h0 : Nat) (ρ : Nat) (ea : Nat) (g1 : Nat) (σ : Nat) (r1 : Nat) (n1 : Nat) (q : Nat) (v : Nat) (k0 : Nat) (x3 : Int32) (hW : WT ty L) (hL_h0 : h0 ∈ L) (hT_h0 : ty h0 = (2, ρ, [ea])) (hL_g1 : g1 ∈ L) (hT_g1 : ty g1 = (0, σ, [r1, n1])) : Met l yX2_onlyText (.code yX2_onlyText cX2_onlyText 7 (some .int) :: tb) ({ frames := 6, cells := 0, slots := 0, locals := 132 }) (va_Pc [.ref h0, .ref g1, .ref q, .int x3] (PTE (dC, dI) cs ty L F sz [(q, v, k0)])) (va_Qi (fun (r : Int32) (_ : Unit) => True) (fun _ T9 => ∃ F2 : Nat → va_E, QT (dC, dI) cs ty L [] F F2 (va_A (va_pl L F) sz) T9) (va_A (va_pl L F) sz)) 0 0 (va_A (va_pl L F) sz) := by
  refine Met.ofW (cc := cX2_onlyText) (maxL := 7) (ret := (some .int)) (by decide) rfl ?_
  intro p e s m args below meth c s₁ B hml hv
  obtain ⟨rfl, ⟨hsz, hP, hK, hD0, hE, hO⟩, hG, hX⟩ := hv
  have hx := B.exec
  have hb := B.bytes
  have hr := B.returns
  have hts : ∀ w ∈ tb, w.before _ s = true := fun w h => atoms_spec (ws := .code yX2_onlyText cX2_onlyText 7 (some .int) :: tb) B.pre w (List.mem_cons_of_mem _ h)
  have hown : s.vm.findClass RX2 = some m.cls := findClass_of_methodNamed B.named
  have hlocks := B.notSynchronized
  subst hsz
  have hD := hD0.self (sz := s.heap.size)
  generalize hAe : va_A (va_pl L F) s.heap.size = A at hD hG hX ⊢
  have hX_q : SX q v k0 A s s.heap := hX (q, v, k0) (by simp)
  obtain ⟨xo_q, xc_q, xv_q, xf_q, xt_q, xn_q⟩ := id hX_q
  have hA : ∀ q : Nat, s.heap.size ≤ q → A q := fun q h => by rw [← hAe]; exact Or.inr h
  have hS : va_S A s.heap s.heap [] := va_S.rf
  have hR : FR ty [] F F := FR.refl
  have hl := lv_entry ([.ref h0, .ref g1, .ref q, .int x3]) (n := 7) (Nat.le_of_ble_eq_true rfl)
  rw [lg_entry_eq]
  generalize (lg_sl ([.ref h0, .ref g1, .ref q, .int x3]) ++ List.replicate (7 - (lg_sl ([.ref h0, .ref g1, .ref q, .int x3])).length) Slot.unset).toArray = ls at hl ⊢
  have hl : lv_has ls 7 [(0, .ref h0), (1, .ref g1), (2, .ref q), (3, .int x3)] := hl
  refine lv_iconst (v := (-1)) hx hb dX2_onlyText_0 (by decide) ?_
  refine lv_istore (lv' := [(4, .int (-1)), (0, .ref h0), (1, .ref g1), (2, .ref q), (3, .int x3)]) hx hb dX2_onlyText_1 hl (by decide) rfl (fun ls hl => ?_)
  refine lv_iconst (v := 0) hx hb dX2_onlyText_3 (by decide) ?_
  refine lv_istore (lv' := [(5, .int 0), (4, .int (-1)), (0, .ref h0), (1, .ref g1), (2, .ref q), (3, .int x3)]) hx hb dX2_onlyText_4 hl (by decide) rfl (fun ls hl => ?_)
  refine W.widen (k := 0) (n := 0) (by omega) (by omega) ?_
  refine pl_loop (σ := Nat × Int32) A (dC, dI) cs ty L [] F 6 7 (fun (j, w4) => [(5, .int (nI j)), (4, .int w4), (0, .ref h0), (1, .ref g1), (2, .ref q), (3, .int x3)]) (fun (j, w4) => []) (fun (j, w4) _ => j ≤ 40) (fun (j, w4) => 40 - j) ?_ (0, (-1)) F (by omega) hO hR _ _ hP hD hS ls (lv_sub hl [0, 1, 2, 3, 4, 5] rfl)
  rintro ⟨j, w4⟩ F_1 hv_2 hO hR ih_3 H locs hP hD hS ls hl
  have hl : lv_has ls 7 [(5, .int (nI j)), (4, .int w4), (0, .ref h0), (1, .ref g1), (2, .ref q), (3, .int x3)] := hl
  have hv_2 : j ≤ 40 := hv_2
  refine W.eq (g2 := F0 m 6 ls []) rfl ?_
  refine lv_iload hx hb dX2_onlyText_6 (lv_at hl 0 rfl) ?_
  refine lv_aload_n hx hb dX2_onlyText_8 rfl (lv_at hl 2 rfl) ?_
  obtain ⟨hi_4, ht_5⟩ := hW.dir hL_h0 hT_h0
  obtain ⟨z_6, hF_7, hq_8⟩ := hO.dir hL_h0 hT_h0
  refine pg_get (ci := 2) (v := .int (nI z_6)) (C := RX2) (T := TX2) (N := 2) hx hb hts it_2 hown hK hP hL_h0 hF_7 rfl 1 (by decide) (hts _ kt_83) (fun _ h9 => h9) rfl dX2_onlyText_9 ?_
  refine lv_icmp_ge (tgt := 129) hx hb dX2_onlyText_12 (by decide) (fun c_9 => ?_) (fun c_9 => ?_)
  ·
    have hi_10 : z_6 ≤ j := leN (N := z_6) c_9
    refine lv_iload hx hb dX2_onlyText_129 (lv_at hl 1 rfl) ?_
    refine W.widen (k := 0) (n := 0) (by omega) (by omega) ?_
    exact W.iret (v := w4) hx hb hr (fun t ht hWm => ⟨⟨w4, (), rfl, trivial, ⟨F_1, QT.mk ht hP hD hO hR⟩⟩, hS.F ht⟩) hS.2.2 dX2_onlyText_131
  ·
    have hi_11 : j < z_6 := ltN (N := z_6) c_9
    have hjz : j < z_6 := ltI (by omega) c_9
    refine lv_aload_n hx hb dX2_onlyText_15 rfl (lv_at hl 2 rfl) ?_
    refine pg_get (ci := 2) (v := .ref ea) (C := RX2) (T := TX2) (N := 2) hx hb hts it_2 hown hK hP hL_h0 hF_7 rfl 0 (by decide) (hts _ kt_84) (fun _ h9 => h9) rfl dX2_onlyText_16 ?_
    refine lv_iload hx hb dX2_onlyText_19 (lv_at hl 0 rfl) ?_
    obtain ⟨f_12, hF_13, hq_14⟩ := hO.rentry hi_4 ht_5
    obtain ⟨b_15, x_16, y_17, hbf_18, hi_19, ht_20⟩ := hq_14 j (by omega)
    refine pg_aald (r := b_15) hx hb hK hP hi_4 5 hF_13 rfl (vp_in_nI (by omega) (by omega)) (show f_12 ((nI j) : Int32).toNatClampNeg = _ from by rw [show ((nI j) : Int32) = nI j from rfl, nI_clamp (by omega)]; exact hbf_18) dX2_onlyText_21 ?_
    obtain ⟨hi_21, hi_22, ⟨r_23, ht_24⟩, ⟨r_25, ht_26⟩⟩ := hW.entry hi_19 ht_20
    obtain ⟨v0_27, v1_28, hF_29⟩ := hO.entry hi_19 ht_20
    refine pg_getN (ci := 3) (v := .ref y_17) (C := RX3) (T := TX3) (N := 4) hx hb hts it_3 hown hK hP hi_19 hF_29 rfl 1 (by decide) (hE.nest kn_4) (fun _ h9 => h9) rfl dX2_onlyText_22 ?_
    refine lv_astore (lv' := [(6, .ref y_17), (5, .int (nI j)), (4, .int w4), (0, .ref h0), (1, .ref g1), (2, .ref q), (3, .int x3)]) hx hb dX2_onlyText_25 hl (by decide) rfl (fun ls hl => ?_)
    refine lv_aload_n hx hb dX2_onlyText_27 rfl (lv_at hl 3 rfl) ?_
    refine pg_get (ci := 2) (v := .ref ea) (C := RX2) (T := TX2) (N := 2) hx hb hts it_2 hown hK hP hL_h0 hF_7 rfl 0 (by decide) (hts _ kt_84) (fun _ h9 => h9) rfl dX2_onlyText_28 ?_
    refine lv_iload hx hb dX2_onlyText_31 (lv_at hl 1 rfl) ?_
    obtain ⟨b_30, x_31, y_32, hbf_33, hi_34, ht_35⟩ := hq_14 j (by omega)
    refine pg_aald (r := b_30) hx hb hK hP hi_4 5 hF_13 rfl (vp_in_nI (by omega) (by omega)) (show f_12 ((nI j) : Int32).toNatClampNeg = _ from by rw [show ((nI j) : Int32) = nI j from rfl, nI_clamp (by omega)]; exact hbf_33) dX2_onlyText_33 ?_
    obtain ⟨hi_36, hi_37, ⟨r_38, ht_39⟩, ⟨r_40, ht_41⟩⟩ := hW.entry hi_34 ht_35
    obtain ⟨v0_42, v1_43, hF_44⟩ := hO.entry hi_34 ht_35
    refine pg_getN (ci := 3) (v := .int v0_42) (C := RX3) (T := TX3) (N := 4) hx hb hts it_3 hown hK hP hi_34 hF_44 rfl 2 (by decide) (hE.nest kn_0) (fun _ h9 => h9) rfl dX2_onlyText_34 ?_
    refine lv_if_ne (tgt := 123) hx hb dX2_onlyText_37 (by decide) (fun c_45 => ?_) (fun c_45 => ?_)
    ·
      refine lv_iinc (v := (nI (j + 1))) (lv' := [(5, .int (nI (j + 1))), (6, .ref y_17), (4, .int w4), (0, .ref h0), (1, .ref g1), (2, .ref q), (3, .int x3)]) hx hb dX2_onlyText_123 hl (k := 1) rfl (nI_1 _) (by decide) rfl (fun ls hl => ?_)
      refine lv_goto (tgt := 6) hx hb dX2_onlyText_126 (by decide) ?_
      refine W.widen (k := 0) (n := 0) (by omega) (by omega) ?_
      exact ih_3 ((j + 1), w4) F_1 (by first | omega | exact ⟨by omega, by omega⟩ | trivial) (by show 40 - (j + 1) < 40 - j; omega) hO hR _ _ hP hD hS ls (lv_sub hl [0, 2, 3, 4, 5, 6] rfl)
    ·
      refine lv_aload_n hx hb dX2_onlyText_40 rfl (lv_at hl 3 rfl) ?_
      refine pg_get (ci := 2) (v := .ref ea) (C := RX2) (T := TX2) (N := 2) hx hb hts it_2 hown hK hP hL_h0 hF_7 rfl 0 (by decide) (hts _ kt_84) (fun _ h9 => h9) rfl dX2_onlyText_41 ?_
      refine lv_iload hx hb dX2_onlyText_44 (lv_at hl 1 rfl) ?_
      obtain ⟨b_46, x_47, y_48, hbf_49, hi_50, ht_51⟩ := hq_14 j (by omega)
      refine pg_aald (r := b_46) hx hb hK hP hi_4 5 hF_13 rfl (vp_in_nI (by omega) (by omega)) (show f_12 ((nI j) : Int32).toNatClampNeg = _ from by rw [show ((nI j) : Int32) = nI j from rfl, nI_clamp (by omega)]; exact hbf_49) dX2_onlyText_46 ?_
      obtain ⟨hi_52, hi_53, ⟨r_54, ht_55⟩, ⟨r_56, ht_57⟩⟩ := hW.entry hi_50 ht_51
      obtain ⟨v0_58, v1_59, hF_60⟩ := hO.entry hi_50 ht_51
      refine pg_getN (ci := 3) (v := .ref x_47) (C := RX3) (T := TX3) (N := 4) hx hb hts it_3 hown hK hP hi_50 hF_60 rfl 0 (by decide) (hE.nest kn_1) (fun _ h9 => h9) rfl dX2_onlyText_47 ?_
      refine lv_aload_n hx hb dX2_onlyText_50 rfl (lv_at hl 4 rfl) ?_
      have hFc := pg_free hD hS hA
      obtain ⟨hi_61, ht_62, hq_63⟩ := hW.bytes hi_52 ht_55
      obtain ⟨z_64, o_65, hF_66, hq_67, hq_68⟩ := hO.bytes hi_52 ht_55
      refine va_calli (va_runV (As := [.ref g1]) (rest := []) ⟨hx, hb, hml, hown, hts⟩ (s_X0_same l dC dI cs ty L H.size F_1 x_47 (ρ + 1) r_54 60 g1 σ r1 n1 hW hi_52 ht_55 hL_g1 hT_g1) ⟨callB_of 1 hts (gi kt_85) rfl rfl rfl (hts _ kt_1) (hts _ kt_86) (by decide +kernel) ⟨Nat.le_of_ble_eq_true rfl, Nat.le_of_ble_eq_true rfl⟩, (hts _ kt_87), (hts _ kt_88)⟩ ⟨fun a U g mk q => ⟨q.1, PT.calling q.2⟩, pg_recv hK hP hi_52 hF_66 (q := (RX0, TX0, 3)) rfl, fun U hU hWm => ⟨rfl, PT.mk hU hWm hP hK hD hE hO⟩⟩ rfl rfl hl.1 rfl (lv_room (Nat.le_of_ble_eq_true rfl)) dX2_onlyText_51 ⟨by show _ + 0 ≤ 0; omega, by show _ + 0 ≤ 0; omega⟩) hS (fun q _ h => hFc q h) hFc (fun r_69 u t H1 locs ht hvm hw hB hz1 hk1 hS => ?_)
      obtain ⟨F_70, hB1⟩ := hB
      obtain ⟨hP, hD, hO, hR⟩ := QT.back hB1 ht hFc hR (fun q h => absurd h List.not_mem_nil)
      have hF_71 : F_70 h0 = .inr (2, [.ref ea, .int (nI z_6)]) := (hB1.2.2.2 h0 List.not_mem_nil).trans hF_7
      have hF_72 : F_70 ea = .inl (cs 21, 40, .inr (.inr (.inr (.inr f_12)))) := (hB1.2.2.2 ea List.not_mem_nil).trans hF_13
      have hF_73 : F_70 b_15 = .inr (3, [.ref x_16, .ref y_17, .int v0_27, .int v1_28]) := (hB1.2.2.2 b_15 List.not_mem_nil).trans hF_29
      have hF_74 : F_70 b_30 = .inr (3, [.ref x_31, .ref y_32, .int v0_42, .int v1_43]) := (hB1.2.2.2 b_30 List.not_mem_nil).trans hF_44
      have hF_75 : F_70 b_46 = .inr (3, [.ref x_47, .ref y_48, .int v0_58, .int v1_59]) := (hB1.2.2.2 b_46 List.not_mem_nil).trans hF_60
      have hF_76 : F_70 x_47 = .inr (0, [.ref r_54, .int (nI z_64), .int o_65]) := (hB1.2.2.2 x_47 List.not_mem_nil).trans hF_66
      generalize H1 = H at hP hS ⊢
      have hw : (r_69 = 0 ∨ r_69 = 1) := hw
      have hw_77 := hw
      refine lv_if_eq (tgt := 123) hx hb dX2_onlyText_54 (by decide) (fun c_78 => ?_) (fun c_78 => ?_)
      ·
        refine lv_iinc (v := (nI (j + 1))) (lv' := [(5, .int (nI (j + 1))), (6, .ref y_17), (4, .int w4), (0, .ref h0), (1, .ref g1), (2, .ref q), (3, .int x3)]) hx hb dX2_onlyText_123 hl (k := 1) rfl (nI_1 _) (by decide) rfl (fun ls hl => ?_)
        refine lv_goto (tgt := 6) hx hb dX2_onlyText_126 (by decide) ?_
        refine W.widen (k := 0) (n := 0) (by omega) (by omega) ?_
        exact ih_3 ((j + 1), w4) F_70 (by first | omega | exact ⟨by omega, by omega⟩ | trivial) (by show 40 - (j + 1) < 40 - j; omega) hO hR _ _ hP hD hS ls (lv_sub hl [0, 2, 3, 4, 5, 6] rfl)
      ·
        refine lv_aload hx hb dX2_onlyText_57 (lv_at hl 0 rfl) ?_
        refine lv_iconst (v := 0) hx hb dX2_onlyText_59 (by decide) ?_
        refine lv_aload hx hb dX2_onlyText_60 (lv_at hl 0 rfl) ?_
        obtain ⟨hi_79, ht_80, hq_81⟩ := hW.bytes hi_22 ht_26
        obtain ⟨z_82, o_83, hF_84, hq_85, hq_86⟩ := hO.bytes hi_22 ht_26
        refine pg_getN (ci := 0) (v := .int (nI z_82)) (C := RX0) (T := TX0) (N := 3) hx hb hts it_0 hown hK hP hi_22 hF_84 rfl 1 (by decide) (hE.nest kn_3) (fun _ h9 => h9) rfl dX2_onlyText_62 ?_
        refine lv_aload_n hx hb dX2_onlyText_65 rfl (lv_at hl 5 rfl) ?_
        have hFc := pg_free hD hS hA
        refine va_calli (va_runV (As := [.int 0, .int (nI z_82), .ref q]) (rest := []) ⟨hx, hb, hml, hown, hts⟩ (s_X0_begins l dC dI cs ty L H.size F_70 y_17 (ρ + 1) r_25 700 q v k0 0 (nI z_82) hW hi_22 ht_26) ⟨callB_of 3 hts (gi kt_112) rfl rfl rfl (hts _ kt_1) (hts _ kt_113) (by decide +kernel) ⟨Nat.le_of_ble_eq_true rfl, Nat.le_of_ble_eq_true rfl⟩, (hts _ kt_114), (hts _ kt_115)⟩ ⟨fun a U g mk q => ⟨q.1, PTE.calling q.2⟩, pg_recv hK hP hi_22 hF_84 (q := (RX0, TX0, 3)) rfl, fun U hU hWm => ⟨rfl, PTE.mk hU hWm hP hK hD hE hO hG (fun x hx => by rw [List.mem_singleton] at hx; subst hx; exact hX_q) hS hFc⟩⟩ rfl rfl hl.1 rfl (lv_room (Nat.le_of_ble_eq_true rfl)) dX2_onlyText_66 ⟨by show _ + 0 ≤ 0; omega, by show _ + 0 ≤ 0; omega⟩) hS (fun q _ h => hFc q h) hFc (fun r_87 u t H1 locs ht hvm hw hB hz1 hk1 hS => ?_)
        obtain ⟨F_88, hB1⟩ := hB
        obtain ⟨hP, hD, hO, hR⟩ := QT.back hB1 ht hFc hR (fun q h => absurd h List.not_mem_nil)
        have hF_89 : F_88 h0 = .inr (2, [.ref ea, .int (nI z_6)]) := (hB1.2.2.2 h0 List.not_mem_nil).trans hF_71
        have hF_90 : F_88 ea = .inl (cs 21, 40, .inr (.inr (.inr (.inr f_12)))) := (hB1.2.2.2 ea List.not_mem_nil).trans hF_72
        have hF_91 : F_88 b_15 = .inr (3, [.ref x_16, .ref y_17, .int v0_27, .int v1_28]) := (hB1.2.2.2 b_15 List.not_mem_nil).trans hF_73
        have hF_92 : F_88 b_30 = .inr (3, [.ref x_31, .ref y_32, .int v0_42, .int v1_43]) := (hB1.2.2.2 b_30 List.not_mem_nil).trans hF_74
        have hF_93 : F_88 b_46 = .inr (3, [.ref x_47, .ref y_48, .int v0_58, .int v1_59]) := (hB1.2.2.2 b_46 List.not_mem_nil).trans hF_75
        have hF_94 : F_88 x_47 = .inr (0, [.ref r_54, .int (nI z_64), .int o_65]) := (hB1.2.2.2 x_47 List.not_mem_nil).trans hF_76
        have hF_95 : F_88 y_17 = .inr (0, [.ref r_25, .int (nI z_82), .int o_83]) := (hB1.2.2.2 y_17 List.not_mem_nil).trans hF_84
        generalize H1 = H at hP hS ⊢
        have hw : (r_87 = 0 ∨ r_87 = 1) := hw
        have hw_96 := hw
        refine lv_if_ne (tgt := 75) hx hb dX2_onlyText_69 (by decide) (fun c_97 => ?_) (fun c_97 => ?_)
        ·
          refine lv_iload_n hx hb dX2_onlyText_75 rfl (lv_at hl 6 rfl) ?_
          refine lv_if_eq (tgt := 108) hx hb dX2_onlyText_76 (by decide) (fun c_98 => ?_) (fun c_98 => ?_)
          ·
            refine lv_iload hx hb dX2_onlyText_108 (lv_at hl 2 rfl) ?_
            refine lv_iconst (v := (-1)) hx hb dX2_onlyText_110 (by decide) ?_
            refine lv_icmp_ne (tgt := 119) hx hb dX2_onlyText_111 (by decide) (fun c_99 => ?_) (fun c_99 => ?_)
            ·
              refine lv_bipush (v := (-2)) hx hb dX2_onlyText_119 (by decide) ?_
              refine lv_istore (lv' := [(4, .int (-2)), (6, .ref y_17), (5, .int (nI j)), (0, .ref h0), (1, .ref g1), (2, .ref q), (3, .int x3)]) hx hb dX2_onlyText_121 hl (by decide) rfl (fun ls hl => ?_)
              refine lv_iinc (v := (nI (j + 1))) (lv' := [(5, .int (nI (j + 1))), (4, .int (-2)), (6, .ref y_17), (0, .ref h0), (1, .ref g1), (2, .ref q), (3, .int x3)]) hx hb dX2_onlyText_123 hl (k := 2) rfl (nI_1 _) (by decide) rfl (fun ls hl => ?_)
              refine lv_goto (tgt := 6) hx hb dX2_onlyText_126 (by decide) ?_
              refine W.widen (k := 0) (n := 0) (by omega) (by omega) ?_
              exact ih_3 ((j + 1), (-2)) F_88 (by first | omega | exact ⟨by omega, by omega⟩ | trivial) (by show 40 - (j + 1) < 40 - j; omega) hO hR _ _ hP hD hS ls (lv_sub hl [0, 1, 3, 4, 5, 6] rfl)
            ·
              refine lv_iload hx hb dX2_onlyText_114 (lv_at hl 1 rfl) ?_
              refine lv_goto (tgt := 121) hx hb dX2_onlyText_116 (by decide) ?_
              refine lv_istore (lv' := [(4, .int (nI j)), (6, .ref y_17), (5, .int (nI j)), (0, .ref h0), (1, .ref g1), (2, .ref q), (3, .int x3)]) hx hb dX2_onlyText_121 hl (by decide) rfl (fun ls hl => ?_)
              refine lv_iinc (v := (nI (j + 1))) (lv' := [(5, .int (nI (j + 1))), (4, .int (nI j)), (6, .ref y_17), (0, .ref h0), (1, .ref g1), (2, .ref q), (3, .int x3)]) hx hb dX2_onlyText_123 hl (k := 2) rfl (nI_1 _) (by decide) rfl (fun ls hl => ?_)
              refine lv_goto (tgt := 6) hx hb dX2_onlyText_126 (by decide) ?_
              refine W.widen (k := 0) (n := 0) (by omega) (by omega) ?_
              exact ih_3 ((j + 1), (nI j)) F_88 (by first | omega | exact ⟨by omega, by omega⟩ | trivial) (by show 40 - (j + 1) < 40 - j; omega) hO hR _ _ hP hD hS ls (lv_sub hl [0, 1, 3, 4, 5, 6] rfl)
          ·
            refine lv_aload hx hb dX2_onlyText_79 (lv_at hl 0 rfl) ?_
            refine pg_getN (ci := 0) (v := .int (nI z_82)) (C := RX0) (T := TX0) (N := 3) hx hb hts it_0 hown hK hP hi_22 hF_95 rfl 1 (by decide) (hE.nest kn_3) (fun _ h9 => h9) rfl dX2_onlyText_81 ?_
            refine lv_aload_n hx hb dX2_onlyText_84 rfl (lv_at hl 5 rfl) ?_
            have hFc := pg_free hD hS hA
            refine va_calli (va_runV (As := []) (rest := [.int (nI z_82)]) ⟨hx, hb, hml, hown, hts⟩ (s_J0_length_8abf5 l dC dI cs ty L H.size F_88 q v k0 hW ) ⟨callB_of 0 hts (gi kt_71) rfl rfl rfl (hts _ kt_51) (hts _ kt_116) (by decide +kernel) ⟨Nat.le_of_ble_eq_true rfl, Nat.le_of_ble_eq_true rfl⟩, (hts _ kt_73), (hts _ kt_74)⟩ ⟨fun a U g mk q => ⟨q.1, PTE.calling q.2⟩, sx_recv hX_q hS, fun U hU hWm => ⟨rfl, PTE.mk hU hWm hP hK hD hE hO hG (fun x hx => by rw [List.mem_singleton] at hx; subst hx; exact hX_q) hS hFc⟩⟩ rfl rfl hl.1 rfl (lv_room (Nat.le_of_ble_eq_true rfl)) dX2_onlyText_85 ⟨by show _ + 0 ≤ 0; omega, by show _ + 0 ≤ 0; omega⟩) hS (fun q _ h => hFc q h) hFc (fun r_100 u t H1 locs ht hvm hw hB hz1 hk1 hS => ?_)
            obtain ⟨F_101, hB1⟩ := hB
            obtain ⟨hP, hD, hO, hR⟩ := QT.back hB1 ht hFc hR (fun q h => absurd h List.not_mem_nil)
            have hF_102 : F_101 h0 = .inr (2, [.ref ea, .int (nI z_6)]) := (hB1.2.2.2 h0 List.not_mem_nil).trans hF_89
            have hF_103 : F_101 ea = .inl (cs 21, 40, .inr (.inr (.inr (.inr f_12)))) := (hB1.2.2.2 ea List.not_mem_nil).trans hF_90
            have hF_104 : F_101 b_15 = .inr (3, [.ref x_16, .ref y_17, .int v0_27, .int v1_28]) := (hB1.2.2.2 b_15 List.not_mem_nil).trans hF_91
            have hF_105 : F_101 b_30 = .inr (3, [.ref x_31, .ref y_32, .int v0_42, .int v1_43]) := (hB1.2.2.2 b_30 List.not_mem_nil).trans hF_92
            have hF_106 : F_101 b_46 = .inr (3, [.ref x_47, .ref y_48, .int v0_58, .int v1_59]) := (hB1.2.2.2 b_46 List.not_mem_nil).trans hF_93
            have hF_107 : F_101 x_47 = .inr (0, [.ref r_54, .int (nI z_64), .int o_65]) := (hB1.2.2.2 x_47 List.not_mem_nil).trans hF_94
            have hF_108 : F_101 y_17 = .inr (0, [.ref r_25, .int (nI z_82), .int o_83]) := (hB1.2.2.2 y_17 List.not_mem_nil).trans hF_95
            generalize H1 = H at hP hS ⊢
            have hw : r_100 = nI k0 := hw
            have hw_109 := hw
            refine lv_icmp_le (tgt := 108) hx hb dX2_onlyText_88 (by decide) (fun c_110 => ?_) (fun c_110 => ?_)
            ·
              refine lv_iload hx hb dX2_onlyText_108 (lv_at hl 2 rfl) ?_
              refine lv_iconst (v := (-1)) hx hb dX2_onlyText_110 (by decide) ?_
              refine lv_icmp_ne (tgt := 119) hx hb dX2_onlyText_111 (by decide) (fun c_111 => ?_) (fun c_111 => ?_)
              ·
                refine lv_bipush (v := (-2)) hx hb dX2_onlyText_119 (by decide) ?_
                refine lv_istore (lv' := [(4, .int (-2)), (6, .ref y_17), (5, .int (nI j)), (0, .ref h0), (1, .ref g1), (2, .ref q), (3, .int x3)]) hx hb dX2_onlyText_121 hl (by decide) rfl (fun ls hl => ?_)
                refine lv_iinc (v := (nI (j + 1))) (lv' := [(5, .int (nI (j + 1))), (4, .int (-2)), (6, .ref y_17), (0, .ref h0), (1, .ref g1), (2, .ref q), (3, .int x3)]) hx hb dX2_onlyText_123 hl (k := 2) rfl (nI_1 _) (by decide) rfl (fun ls hl => ?_)
                refine lv_goto (tgt := 6) hx hb dX2_onlyText_126 (by decide) ?_
                refine W.widen (k := 0) (n := 0) (by omega) (by omega) ?_
                exact ih_3 ((j + 1), (-2)) F_101 (by first | omega | exact ⟨by omega, by omega⟩ | trivial) (by show 40 - (j + 1) < 40 - j; omega) hO hR _ _ hP hD hS ls (lv_sub hl [0, 1, 3, 4, 5, 6] rfl)
              ·
                refine lv_iload hx hb dX2_onlyText_114 (lv_at hl 1 rfl) ?_
                refine lv_goto (tgt := 121) hx hb dX2_onlyText_116 (by decide) ?_
                refine lv_istore (lv' := [(4, .int (nI j)), (6, .ref y_17), (5, .int (nI j)), (0, .ref h0), (1, .ref g1), (2, .ref q), (3, .int x3)]) hx hb dX2_onlyText_121 hl (by decide) rfl (fun ls hl => ?_)
                refine lv_iinc (v := (nI (j + 1))) (lv' := [(5, .int (nI (j + 1))), (4, .int (nI j)), (6, .ref y_17), (0, .ref h0), (1, .ref g1), (2, .ref q), (3, .int x3)]) hx hb dX2_onlyText_123 hl (k := 2) rfl (nI_1 _) (by decide) rfl (fun ls hl => ?_)
                refine lv_goto (tgt := 6) hx hb dX2_onlyText_126 (by decide) ?_
                refine W.widen (k := 0) (n := 0) (by omega) (by omega) ?_
                exact ih_3 ((j + 1), (nI j)) F_101 (by first | omega | exact ⟨by omega, by omega⟩ | trivial) (by show 40 - (j + 1) < 40 - j; omega) hO hR _ _ hP hD hS ls (lv_sub hl [0, 1, 3, 4, 5, 6] rfl)
            ·
              refine lv_aload hx hb dX2_onlyText_91 (lv_at hl 0 rfl) ?_
              refine lv_aload_n hx hb dX2_onlyText_93 rfl (lv_at hl 5 rfl) ?_
              have hFc := pg_free hD hS hA
              refine va_calli (va_runV (As := []) (rest := [.ref y_17]) ⟨hx, hb, hml, hown, hts⟩ (s_J0_length_8abf5 l dC dI cs ty L H.size F_101 q v k0 hW ) ⟨callB_of 0 hts (gi kt_71) rfl rfl rfl (hts _ kt_51) (hts _ kt_116) (by decide +kernel) ⟨Nat.le_of_ble_eq_true rfl, Nat.le_of_ble_eq_true rfl⟩, (hts _ kt_73), (hts _ kt_74)⟩ ⟨fun a U g mk q => ⟨q.1, PTE.calling q.2⟩, sx_recv hX_q hS, fun U hU hWm => ⟨rfl, PTE.mk hU hWm hP hK hD hE hO hG (fun x hx => by rw [List.mem_singleton] at hx; subst hx; exact hX_q) hS hFc⟩⟩ rfl rfl hl.1 rfl (lv_room (Nat.le_of_ble_eq_true rfl)) dX2_onlyText_94 ⟨by show _ + 0 ≤ 0; omega, by show _ + 0 ≤ 0; omega⟩) hS (fun q _ h => hFc q h) hFc (fun r_112 u t H1 locs ht hvm hw hB hz1 hk1 hS => ?_)
              obtain ⟨F_113, hB1⟩ := hB
              obtain ⟨hP, hD, hO, hR⟩ := QT.back hB1 ht hFc hR (fun q h => absurd h List.not_mem_nil)
              have hF_114 : F_113 h0 = .inr (2, [.ref ea, .int (nI z_6)]) := (hB1.2.2.2 h0 List.not_mem_nil).trans hF_102
              have hF_115 : F_113 ea = .inl (cs 21, 40, .inr (.inr (.inr (.inr f_12)))) := (hB1.2.2.2 ea List.not_mem_nil).trans hF_103
              have hF_116 : F_113 b_15 = .inr (3, [.ref x_16, .ref y_17, .int v0_27, .int v1_28]) := (hB1.2.2.2 b_15 List.not_mem_nil).trans hF_104
              have hF_117 : F_113 b_30 = .inr (3, [.ref x_31, .ref y_32, .int v0_42, .int v1_43]) := (hB1.2.2.2 b_30 List.not_mem_nil).trans hF_105
              have hF_118 : F_113 b_46 = .inr (3, [.ref x_47, .ref y_48, .int v0_58, .int v1_59]) := (hB1.2.2.2 b_46 List.not_mem_nil).trans hF_106
              have hF_119 : F_113 x_47 = .inr (0, [.ref r_54, .int (nI z_64), .int o_65]) := (hB1.2.2.2 x_47 List.not_mem_nil).trans hF_107
              have hF_120 : F_113 y_17 = .inr (0, [.ref r_25, .int (nI z_82), .int o_83]) := (hB1.2.2.2 y_17 List.not_mem_nil).trans hF_108
              generalize H1 = H at hP hS ⊢
              have hw : r_112 = nI k0 := hw
              have hw_121 := hw
              have hFc := pg_free hD hS hA
              refine va_calli (va_runV (As := [.int r_112]) (rest := []) ⟨hx, hb, hml, hown, hts⟩ (s_X0_at l dC dI cs ty L H.size F_113 y_17 (ρ + 1) r_25 700 r_112 hW hi_22 ht_26) ⟨callB_of 1 hts (gi kt_21) rfl rfl rfl (hts _ kt_1) (hts _ kt_117) (by decide +kernel) ⟨Nat.le_of_ble_eq_true rfl, Nat.le_of_ble_eq_true rfl⟩, (hts _ kt_23), (hts _ kt_24)⟩ ⟨fun a U g mk q => ⟨q.1, PT.calling q.2⟩, pg_recv hK hP hi_22 hF_120 (q := (RX0, TX0, 3)) rfl, fun U hU hWm => ⟨rfl, PT.mk hU hWm hP hK hD hE hO⟩⟩ rfl rfl hl.1 rfl (lv_room (Nat.le_of_ble_eq_true rfl)) dX2_onlyText_97 ⟨by show _ + 0 ≤ 0; omega, by show _ + 0 ≤ 0; omega⟩) hS (fun q _ h => hFc q h) hFc (fun r_122 u t H1 locs ht hvm hw hB hz1 hk1 hS => ?_)
              obtain ⟨F_123, hB1⟩ := hB
              obtain ⟨hP, hD, hO, hR⟩ := QT.back hB1 ht hFc hR (fun q h => absurd h List.not_mem_nil)
              have hF_124 : F_123 h0 = .inr (2, [.ref ea, .int (nI z_6)]) := (hB1.2.2.2 h0 List.not_mem_nil).trans hF_114
              have hF_125 : F_123 ea = .inl (cs 21, 40, .inr (.inr (.inr (.inr f_12)))) := (hB1.2.2.2 ea List.not_mem_nil).trans hF_115
              have hF_126 : F_123 b_15 = .inr (3, [.ref x_16, .ref y_17, .int v0_27, .int v1_28]) := (hB1.2.2.2 b_15 List.not_mem_nil).trans hF_116
              have hF_127 : F_123 b_30 = .inr (3, [.ref x_31, .ref y_32, .int v0_42, .int v1_43]) := (hB1.2.2.2 b_30 List.not_mem_nil).trans hF_117
              have hF_128 : F_123 b_46 = .inr (3, [.ref x_47, .ref y_48, .int v0_58, .int v1_59]) := (hB1.2.2.2 b_46 List.not_mem_nil).trans hF_118
              have hF_129 : F_123 x_47 = .inr (0, [.ref r_54, .int (nI z_64), .int o_65]) := (hB1.2.2.2 x_47 List.not_mem_nil).trans hF_119
              have hF_130 : F_123 y_17 = .inr (0, [.ref r_25, .int (nI z_82), .int o_83]) := (hB1.2.2.2 y_17 List.not_mem_nil).trans hF_120
              generalize H1 = H at hP hS ⊢
              have hw : True := hw
              have hw_131 := hw
              refine lv_bipush (v := 32) hx hb dX2_onlyText_100 (by decide) ?_
              refine lv_icmp_eq (tgt := 108) hx hb dX2_onlyText_102 (by decide) (fun c_132 => ?_) (fun c_132 => ?_)
              ·
                refine lv_iload hx hb dX2_onlyText_108 (lv_at hl 2 rfl) ?_
                refine lv_iconst (v := (-1)) hx hb dX2_onlyText_110 (by decide) ?_
                refine lv_icmp_ne (tgt := 119) hx hb dX2_onlyText_111 (by decide) (fun c_133 => ?_) (fun c_133 => ?_)
                ·
                  refine lv_bipush (v := (-2)) hx hb dX2_onlyText_119 (by decide) ?_
                  refine lv_istore (lv' := [(4, .int (-2)), (6, .ref y_17), (5, .int (nI j)), (0, .ref h0), (1, .ref g1), (2, .ref q), (3, .int x3)]) hx hb dX2_onlyText_121 hl (by decide) rfl (fun ls hl => ?_)
                  refine lv_iinc (v := (nI (j + 1))) (lv' := [(5, .int (nI (j + 1))), (4, .int (-2)), (6, .ref y_17), (0, .ref h0), (1, .ref g1), (2, .ref q), (3, .int x3)]) hx hb dX2_onlyText_123 hl (k := 2) rfl (nI_1 _) (by decide) rfl (fun ls hl => ?_)
                  refine lv_goto (tgt := 6) hx hb dX2_onlyText_126 (by decide) ?_
                  refine W.widen (k := 0) (n := 0) (by omega) (by omega) ?_
                  exact ih_3 ((j + 1), (-2)) F_123 (by first | omega | exact ⟨by omega, by omega⟩ | trivial) (by show 40 - (j + 1) < 40 - j; omega) hO hR _ _ hP hD hS ls (lv_sub hl [0, 1, 3, 4, 5, 6] rfl)
                ·
                  refine lv_iload hx hb dX2_onlyText_114 (lv_at hl 1 rfl) ?_
                  refine lv_goto (tgt := 121) hx hb dX2_onlyText_116 (by decide) ?_
                  refine lv_istore (lv' := [(4, .int (nI j)), (6, .ref y_17), (5, .int (nI j)), (0, .ref h0), (1, .ref g1), (2, .ref q), (3, .int x3)]) hx hb dX2_onlyText_121 hl (by decide) rfl (fun ls hl => ?_)
                  refine lv_iinc (v := (nI (j + 1))) (lv' := [(5, .int (nI (j + 1))), (4, .int (nI j)), (6, .ref y_17), (0, .ref h0), (1, .ref g1), (2, .ref q), (3, .int x3)]) hx hb dX2_onlyText_123 hl (k := 2) rfl (nI_1 _) (by decide) rfl (fun ls hl => ?_)
                  refine lv_goto (tgt := 6) hx hb dX2_onlyText_126 (by decide) ?_
                  refine W.widen (k := 0) (n := 0) (by omega) (by omega) ?_
                  exact ih_3 ((j + 1), (nI j)) F_123 (by first | omega | exact ⟨by omega, by omega⟩ | trivial) (by show 40 - (j + 1) < 40 - j; omega) hO hR _ _ hP hD hS ls (lv_sub hl [0, 1, 3, 4, 5, 6] rfl)
              ·
                refine lv_goto (tgt := 123) hx hb dX2_onlyText_105 (by decide) ?_
                refine lv_iinc (v := (nI (j + 1))) (lv' := [(5, .int (nI (j + 1))), (6, .ref y_17), (4, .int w4), (0, .ref h0), (1, .ref g1), (2, .ref q), (3, .int x3)]) hx hb dX2_onlyText_123 hl (k := 1) rfl (nI_1 _) (by decide) rfl (fun ls hl => ?_)
                refine lv_goto (tgt := 6) hx hb dX2_onlyText_126 (by decide) ?_
                refine W.widen (k := 0) (n := 0) (by omega) (by omega) ?_
                exact ih_3 ((j + 1), w4) F_123 (by first | omega | exact ⟨by omega, by omega⟩ | trivial) (by show 40 - (j + 1) < 40 - j; omega) hO hR _ _ hP hD hS ls (lv_sub hl [0, 2, 3, 4, 5, 6] rfl)
        ·
          refine lv_goto (tgt := 123) hx hb dX2_onlyText_72 (by decide) ?_
          refine lv_iinc (v := (nI (j + 1))) (lv' := [(5, .int (nI (j + 1))), (6, .ref y_17), (4, .int w4), (0, .ref h0), (1, .ref g1), (2, .ref q), (3, .int x3)]) hx hb dX2_onlyText_123 hl (k := 1) rfl (nI_1 _) (by decide) rfl (fun ls hl => ?_)
          refine lv_goto (tgt := 6) hx hb dX2_onlyText_126 (by decide) ?_
          refine W.widen (k := 0) (n := 0) (by omega) (by omega) ?_
          exact ih_3 ((j + 1), w4) F_88 (by first | omega | exact ⟨by omega, by omega⟩ | trivial) (by show 40 - (j + 1) < 40 - j; omega) hO hR _ _ hP hD hS ls (lv_sub hl [0, 2, 3, 4, 5, 6] rfl)
theorem fndp {r x : Int32} {n : Nat} (h : r = x ∨ ∃ j : Nat, j < n ∧ r = nI j) (hx : ¬ x < 0) (hn : n ≤ 10000) : ¬ r < 0 := by
  rcases h with h | ⟨j, hj, h⟩
  · rw [h]; exact hx
  · rw [h]; exact nI_pos (by omega)
set_option maxHeartbeats 4000000 in
set_option maxRecDepth 100000 in
theorem s_X2_take (l : Launch) (dC : Nat → ClassId) (dI : Nat → Nat → Nat) (cs : Nat → ClassId) (ty : TyM) (L : List Nat) (sz : Nat) (F : Nat → va_E) (h0 : Nat) (ρ : Nat) (ea : Nat) (g1 : Nat) (σ : Nat) (r1 : Nat) (n1 : Nat) (x1 : Int32) (x2 : Int32) (hW : WT ty L) (hL_h0 : h0 ∈ L) (hT_h0 : ty h0 = (2, ρ, [ea])) (hL_g1 : g1 ∈ L) (hT_g1 : ty g1 = (0, σ, [r1, n1])) : Met l yX2_take (.code yX2_take cX2_take 7 (some .int) :: tb) ({ frames := 3, cells := 0, slots := 0, locals := 74 }) (va_Pc [.ref h0, .int x1, .int x2, .ref g1] (PT (dC, dI) cs ty L F sz)) (va_Qi (fun (r : Int32) (_ : Unit) => True) (fun _ T9 => ∃ F2 : Nat → va_E, QT (dC, dI) cs ty L [ρ, ρ + 1] F F2 (va_A (va_pl L F) sz) T9) (va_A (va_pl L F) sz)) 0 0 (va_A (va_pl L F) sz) := by
  refine Met.ofW (cc := cX2_take) (maxL := 7) (ret := (some .int)) (by decide) rfl ?_
  intro p e s m args below meth c s₁ B hml hv
  obtain ⟨rfl, hsz, hP, hK, hD0, hE, hO⟩ := hv
  have hx := B.exec
  have hb := B.bytes
  have hr := B.returns
  have hts : ∀ w ∈ tb, w.before _ s = true := fun w h => atoms_spec (ws := .code yX2_take cX2_take 7 (some .int) :: tb) B.pre w (List.mem_cons_of_mem _ h)
  have hown : s.vm.findClass RX2 = some m.cls := findClass_of_methodNamed B.named
  have hlocks := B.notSynchronized
  subst hsz
  have hD := hD0.self (sz := s.heap.size)
  generalize hAe : va_A (va_pl L F) s.heap.size = A at hD ⊢
  have hA : ∀ q : Nat, s.heap.size ≤ q → A q := fun q h => by rw [← hAe]; exact Or.inr h
  have hS : va_S A s.heap s.heap [] := va_S.rf
  have hR : FR ty [ρ, ρ + 1] F F := FR.refl
  have hl := lv_entry ([.ref h0, .int x1, .int x2, .ref g1]) (n := 7) (Nat.le_of_ble_eq_true rfl)
  rw [lg_entry_eq]
  generalize (lg_sl ([.ref h0, .int x1, .int x2, .ref g1]) ++ List.replicate (7 - (lg_sl ([.ref h0, .int x1, .int x2, .ref g1])).length) Slot.unset).toArray = ls at hl ⊢
  have hl : lv_has ls 7 [(0, .ref h0), (1, .int x1), (2, .int x2), (3, .ref g1)] := hl
  refine lv_aload_n hx hb dX2_take_0 rfl (lv_at hl 0 rfl) ?_
  obtain ⟨hi_1, ht_2⟩ := hW.dir hL_h0 hT_h0
  obtain ⟨z_3, hF_4, hq_5⟩ := hO.dir hL_h0 hT_h0
  refine pg_get (ci := 2) (v := .int (nI z_3)) (C := RX2) (T := TX2) (N := 2) hx hb hts it_2 hown hK hP hL_h0 hF_4 rfl 1 (by decide) (hts _ kt_83) (fun _ h9 => h9) rfl dX2_take_1 ?_
  refine lv_bipush (v := 40) hx hb dX2_take_4 (by decide) ?_
  refine lv_icmp_ne (tgt := 12) hx hb dX2_take_6 (by decide) (fun c_6 => ?_) (fun c_6 => ?_)
  ·
    have hc40 : z_3 ≠ 40 := fun h => c_6 (by rw [h]; rfl)
    refine W.widen (k := 0) (n := 0) (by omega) (by omega) ?_
    refine pl_cut (σ := Int32 × Int32) A (dC, dI) cs ty L [ρ, ρ + 1] F 53 7 (fun (s5, s4) => [(4, .int s4), (5, .int s5), (0, .ref h0), (1, .int x1), (2, .int x2), (3, .ref g1)]) (fun (s5, s4) => []) (fun (s5, s4) FF => ¬ s5 < 0 ∧ FF h0 = .inr (2, [.ref ea, .int (nI z_3)])) ?_ (fun jn_8 => ?_)
    ·
      rintro ⟨s5, s4⟩ F_9 hv_10 hO hR H locs hP hD hS ls hl
      have hl : lv_has ls 7 [(4, .int s4), (5, .int s5), (0, .ref h0), (1, .int x1), (2, .int x2), (3, .ref g1)] := hl
      have hv_10 : ¬ s5 < 0 ∧ F_9 h0 = .inr (2, [.ref ea, .int (nI z_3)]) := hv_10
      refine W.eq (g2 := F0 m 53 ls []) rfl ?_
      obtain ⟨hv1, hv2⟩ := hv_10
      refine lv_iload_n hx hb dX2_take_53 rfl (lv_at hl 3 rfl) ?_
      refine lv_if_lt (tgt := 72) hx hb dX2_take_54 (by decide) (fun c_11 => ?_) (fun c_11 => ?_)
      ·
        refine lv_iconst (v := (-1)) hx hb dX2_take_72 (by decide) ?_
        refine W.widen (k := 0) (n := 0) (by omega) (by omega) ?_
        exact W.iret (v := (-1)) hx hb hr (fun t ht hWm => ⟨⟨(-1), (), rfl, trivial, ⟨F_9, QT.mk ht hP hD hO hR⟩⟩, hS.F ht⟩) hS.2.2 dX2_take_73
      ·
        refine lv_iload_n hx hb dX2_take_57 rfl (lv_at hl 3 rfl) ?_
        refine lv_iconst (v := 4) hx hb dX2_take_58 (by decide) ?_
        refine lv_icmp_gt (tgt := 72) hx hb dX2_take_59 (by decide) (fun c_12 => ?_) (fun c_12 => ?_)
        ·
          refine lv_iconst (v := (-1)) hx hb dX2_take_72 (by decide) ?_
          refine W.widen (k := 0) (n := 0) (by omega) (by omega) ?_
          exact W.iret (v := (-1)) hx hb hr (fun t ht hWm => ⟨⟨(-1), (), rfl, trivial, ⟨F_9, QT.mk ht hP hD hO hR⟩⟩, hS.F ht⟩) hS.2.2 dX2_take_73
        ·
          refine lv_aload_n hx hb dX2_take_62 rfl (lv_at hl 5 rfl) ?_
          refine lv_iconst (v := 0) hx hb dX2_take_63 (by decide) ?_
          refine lv_iload hx hb dX2_take_64 (lv_at hl 1 rfl) ?_
          have hFc := pg_free hD hS hA
          obtain ⟨hi_13, ht_14, hq_15⟩ := hW.bytes hL_g1 hT_g1
          obtain ⟨z_16, o_17, hF_18, hq_19, hq_20⟩ := hO.bytes hL_g1 hT_g1
          refine va_calli (va_runV (As := [.int 0, .int s5]) (rest := []) ⟨hx, hb, hml, hown, hts⟩ (s_X0_isName l dC dI cs ty L H.size F_9 g1 σ r1 n1 0 s5 hW hL_g1 hT_g1) ⟨callB_of 2 hts (gi kt_108) rfl rfl rfl (hts _ kt_1) (hts _ kt_109) (by decide +kernel) ⟨Nat.le_of_ble_eq_true rfl, Nat.le_of_ble_eq_true rfl⟩, (hts _ kt_110), (hts _ kt_111)⟩ ⟨fun a U g mk q => ⟨q.1, PT.calling q.2⟩, pg_recv hK hP hL_g1 hF_18 (q := (RX0, TX0, 3)) rfl, fun U hU hWm => ⟨rfl, PT.mk hU hWm hP hK hD hE hO⟩⟩ rfl rfl hl.1 rfl (lv_room (Nat.le_of_ble_eq_true rfl)) dX2_take_66 ⟨by show _ + 0 ≤ 0; omega, by show _ + 0 ≤ 0; omega⟩) hS (fun q _ h => hFc q h) hFc (fun r_21 u t H1 locs ht hvm hw hB hz1 hk1 hS => ?_)
          obtain ⟨F_22, hB1⟩ := hB
          obtain ⟨hP, hD, hO, hR⟩ := QT.back hB1 ht hFc hR (fun q h => absurd h List.not_mem_nil)
          have hF_23 : F_22 h0 = .inr (2, [.ref ea, .int (nI z_3)]) := (hB1.2.2.2 h0 List.not_mem_nil).trans hv2
          have hF_24 : F_22 g1 = .inr (0, [.ref r1, .int (nI z_16), .int o_17]) := (hB1.2.2.2 g1 List.not_mem_nil).trans hF_18
          generalize H1 = H at hP hS ⊢
          have hw : (r_21 = 0 ∨ r_21 = 1) := hw
          have hw_25 := hw
          refine lv_if_ne (tgt := 74) hx hb dX2_take_69 (by decide) (fun c_26 => ?_) (fun c_26 => ?_)
          ·
            refine lv_iload hx hb dX2_take_74 (lv_at hl 0 rfl) ?_
            refine lv_if_eq (tgt := 91) hx hb dX2_take_76 (by decide) (fun c_27 => ?_) (fun c_27 => ?_)
            ·
              refine lv_aload_n hx hb dX2_take_91 rfl (lv_at hl 2 rfl) ?_
              refine pg_get (ci := 2) (v := .ref ea) (C := RX2) (T := TX2) (N := 2) hx hb hts it_2 hown hK hP hL_h0 hF_23 rfl 0 (by decide) (hts _ kt_84) (fun _ h9 => h9) rfl dX2_take_92 ?_
              refine lv_aload_n hx hb dX2_take_95 rfl (lv_at hl 2 rfl) ?_
              refine pg_get (ci := 2) (v := .int (nI z_3)) (C := RX2) (T := TX2) (N := 2) hx hb hts it_2 hown hK hP hL_h0 hF_23 rfl 1 (by decide) (hts _ kt_83) (fun _ h9 => h9) rfl dX2_take_96 ?_
              obtain ⟨f_28, hF_29, hq_30⟩ := hO.rentry hi_1 ht_2
              obtain ⟨b_31, x_32, y_33, hbf_34, hi_35, ht_36⟩ := hq_30 z_3 (by omega)
              refine pg_aald (r := b_31) hx hb hK hP hi_1 5 hF_29 rfl (vp_in_nI (by omega) (by omega)) (show f_28 ((nI z_3) : Int32).toNatClampNeg = _ from by rw [show ((nI z_3) : Int32) = nI z_3 from rfl, nI_clamp (by omega)]; exact hbf_34) dX2_take_99 ?_
              refine lv_astore (lv' := [(6, .ref b_31), (4, .int s4), (5, .int s5), (0, .ref h0), (1, .int x1), (2, .int x2), (3, .ref g1)]) hx hb dX2_take_100 hl (by decide) rfl (fun ls hl => ?_)
              refine lv_aload hx hb dX2_take_102 (lv_at hl 0 rfl) ?_
              refine lv_iload_n hx hb dX2_take_104 rfl (lv_at hl 4 rfl) ?_
              obtain ⟨hi_37, hi_38, ⟨r_39, ht_40⟩, ⟨r_41, ht_42⟩⟩ := hW.entry hi_35 ht_36
              obtain ⟨v0_43, v1_44, hF_45⟩ := hO.entry hi_35 ht_36
              refine pg_putN (ci := 3) (v := .int x1) (ty := .int) (C := RX3) (T := TX3) (N := 4) hx hb hts it_3 tyX3 tyX3_ok nmX3 hown hK hP hD hS hi_35 hF_45 rfl 2 (by decide) (hE.nest kn_0) (fun _ h9 => h9) rfl (by decide +kernel) (rfl) (rfl) (Nat.le_of_ble_eq_true rfl) dX2_take_105 (fun H locs hP hD hS => ?_)
              obtain ⟨F_46, he_47, hP, hD, hO, hR⟩ : ∃ G, G = va_up F_22 b_31 (.inr (3, [.ref x_32, .ref y_33, .int x1, .int v1_44])) ∧ va_P (dC, dI) vwCl (va_pl L G) H ∧ va_D A (va_pl L G) ∧ OK cs ty L G ∧ FR ty [ρ, ρ + 1] F G := ⟨_, rfl, hP, hD, hO.up (sh.entry ht_36 ⟨x1, v1_44, rfl⟩), hR.up ht_36 (by simp)⟩
              have hF_48 : F_46 b_31 = .inr (3, [.ref x_32, .ref y_33, .int x1, .int v1_44]) := by rw [he_47]; exact up_self
              have hF_49 : F_46 h0 = .inr (2, [.ref ea, .int (nI z_3)]) := by rw [he_47, up_ne (ne_ty hT_h0 ht_36 (by simp))]; exact hF_23
              have hF_50 : F_46 g1 = .inr (0, [.ref r1, .int (nI z_16), .int o_17]) := by rw [he_47, up_ne (ne_ty hT_g1 ht_36 (by simp))]; exact hF_24
              have hF_51 : F_46 ea = .inl (cs 21, 40, .inr (.inr (.inr (.inr f_28)))) := by rw [he_47, up_ne (ne_ty ht_2 ht_36 (by simp))]; exact hF_29
              refine lv_aload hx hb dX2_take_108 (lv_at hl 0 rfl) ?_
              refine lv_iload_n hx hb dX2_take_110 rfl (lv_at hl 5 rfl) ?_
              refine pg_putN (ci := 3) (v := .int x2) (ty := .int) (C := RX3) (T := TX3) (N := 4) hx hb hts it_3 tyX3 tyX3_ok nmX3 hown hK hP hD hS hi_35 hF_48 rfl 3 (by decide) (hE.nest kn_2) (fun _ h9 => h9) rfl (by decide +kernel) (rfl) (rfl) (Nat.le_of_ble_eq_true rfl) dX2_take_111 (fun H locs hP hD hS => ?_)
              obtain ⟨F_52, he_53, hP, hD, hO, hR⟩ : ∃ G, G = va_up F_46 b_31 (.inr (3, [.ref x_32, .ref y_33, .int x1, .int x2])) ∧ va_P (dC, dI) vwCl (va_pl L G) H ∧ va_D A (va_pl L G) ∧ OK cs ty L G ∧ FR ty [ρ, ρ + 1] F G := ⟨_, rfl, hP, hD, hO.up (sh.entry ht_36 ⟨x1, x2, rfl⟩), hR.up ht_36 (by simp)⟩
              have hF_54 : F_52 b_31 = .inr (3, [.ref x_32, .ref y_33, .int x1, .int x2]) := by rw [he_53]; exact up_self
              have hF_55 : F_52 h0 = .inr (2, [.ref ea, .int (nI z_3)]) := by rw [he_53, up_ne (ne_ty hT_h0 ht_36 (by simp))]; exact hF_49
              have hF_56 : F_52 g1 = .inr (0, [.ref r1, .int (nI z_16), .int o_17]) := by rw [he_53, up_ne (ne_ty hT_g1 ht_36 (by simp))]; exact hF_50
              have hF_57 : F_52 ea = .inl (cs 21, 40, .inr (.inr (.inr (.inr f_28)))) := by rw [he_53, up_ne (ne_ty ht_2 ht_36 (by simp))]; exact hF_51
              refine lv_aload hx hb dX2_take_114 (lv_at hl 0 rfl) ?_
              refine pg_getN (ci := 3) (v := .ref x_32) (C := RX3) (T := TX3) (N := 4) hx hb hts it_3 hown hK hP hi_35 hF_54 rfl 0 (by decide) (hE.nest kn_1) (fun _ h9 => h9) rfl dX2_take_116 ?_
              have hFc := pg_free hD hS hA
              obtain ⟨hi_58, ht_59, hq_60⟩ := hW.bytes hi_37 ht_40
              obtain ⟨z_61, o_62, hF_63, hq_64, hq_65⟩ := hO.bytes hi_37 ht_40
              refine va_callv (va_runV (As := []) (rest := []) ⟨hx, hb, hml, hown, hts⟩ (s_X0_clear l dC dI cs ty L H.size F_52 x_32 (ρ + 1) r_39 60 hW hi_37 ht_40) ⟨callB_of 0 hts (gi kt_32) rfl rfl rfl (hts _ kt_1) (hts _ kt_118) (by decide +kernel) ⟨Nat.le_of_ble_eq_true rfl, Nat.le_of_ble_eq_true rfl⟩, (hts _ kt_34), (hts _ kt_35)⟩ ⟨fun a U g mk q => ⟨q.1, PT.calling q.2⟩, pg_recv hK hP hi_37 hF_63 (q := (RX0, TX0, 3)) rfl, fun U hU hWm => ⟨rfl, PT.mk hU hWm hP hK hD hE hO⟩⟩ rfl rfl hl.1 rfl (lv_room (Nat.le_of_ble_eq_true rfl)) dX2_take_119 ⟨by show _ + 0 ≤ 0; omega, by show _ + 0 ≤ 0; omega⟩) hS (fun q _ h => hFc q h) hFc (fun u t H1 locs ht hvm hw hB hz1 hk1 hS => ?_)
              obtain ⟨F_67, hB1, hq_68⟩ := hB
              obtain ⟨hP, hD, hO, hR⟩ := QT.back hB1 ht hFc hR (fun q h => by simp only [List.mem_cons, List.not_mem_nil, or_false] at h ⊢; omega)
              have hF_69 : F_67 b_31 = .inr (3, [.ref x_32, .ref y_33, .int x1, .int x2]) := (hB1.2.2.2 b_31 (by rw [ht_36]; simp)).trans hF_54
              have hF_70 : F_67 h0 = .inr (2, [.ref ea, .int (nI z_3)]) := (hB1.2.2.2 h0 (by rw [hT_h0]; simp)).trans hF_55
              have hF_71 : F_67 ea = .inl (cs 21, 40, .inr (.inr (.inr (.inr f_28)))) := (hB1.2.2.2 ea (by rw [ht_2]; simp)).trans hF_57
              generalize H1 = H at hP hS ⊢
              refine lv_aload hx hb dX2_take_122 (lv_at hl 0 rfl) ?_
              refine pg_getN (ci := 3) (v := .ref x_32) (C := RX3) (T := TX3) (N := 4) hx hb hts it_3 hown hK hP hi_35 hF_69 rfl 0 (by decide) (hE.nest kn_1) (fun _ h9 => h9) rfl dX2_take_124 ?_
              refine lv_aload_n hx hb dX2_take_127 rfl (lv_at hl 6 rfl) ?_
              refine lv_iconst (v := 0) hx hb dX2_take_128 (by decide) ?_
              refine lv_iload hx hb dX2_take_129 (lv_at hl 2 rfl) ?_
              have hFc := pg_free hD hS hA
              refine va_callv (va_runV (As := [.ref g1, .int 0, .int s5]) (rest := []) ⟨hx, hb, hml, hown, hts⟩ (s_X0_addRange l dC dI cs ty L H.size F_67 x_32 (ρ + 1) r_39 60 g1 σ r1 n1 0 s5 hW hi_37 ht_40 hL_g1 hT_g1 (hv1)) ⟨callB_of 3 hts (gi kt_36) rfl rfl rfl (hts _ kt_1) (hts _ kt_119) (by decide +kernel) ⟨Nat.le_of_ble_eq_true rfl, Nat.le_of_ble_eq_true rfl⟩, (hts _ kt_38), (hts _ kt_39)⟩ ⟨fun a U g mk q => ⟨q.1, PT.calling q.2⟩, pg_recv hK hP hi_37 hq_68 (q := (RX0, TX0, 3)) rfl, fun U hU hWm => ⟨rfl, PT.mk hU hWm hP hK hD hE hO⟩⟩ rfl rfl hl.1 rfl (lv_room (Nat.le_of_ble_eq_true rfl)) dX2_take_131 ⟨by show _ + 0 ≤ 0; omega, by show _ + 0 ≤ 0; omega⟩) hS (fun q _ h => hFc q h) hFc (fun u t H1 locs ht hvm hw hB hz1 hk1 hS => ?_)
              obtain ⟨F_73, hB1⟩ := hB
              obtain ⟨hP, hD, hO, hR⟩ := QT.back hB1 ht hFc hR (fun q h => by simp only [List.mem_cons, List.not_mem_nil, or_false] at h ⊢; omega)
              have hF_74 : F_73 b_31 = .inr (3, [.ref x_32, .ref y_33, .int x1, .int x2]) := (hB1.2.2.2 b_31 (by rw [ht_36]; simp)).trans hF_69
              have hF_75 : F_73 h0 = .inr (2, [.ref ea, .int (nI z_3)]) := (hB1.2.2.2 h0 (by rw [hT_h0]; simp)).trans hF_70
              have hF_76 : F_73 ea = .inl (cs 21, 40, .inr (.inr (.inr (.inr f_28)))) := (hB1.2.2.2 ea (by rw [ht_2]; simp)).trans hF_71
              generalize H1 = H at hP hS ⊢
              refine lv_aload hx hb dX2_take_134 (lv_at hl 0 rfl) ?_
              refine pg_getN (ci := 3) (v := .ref y_33) (C := RX3) (T := TX3) (N := 4) hx hb hts it_3 hown hK hP hi_35 hF_74 rfl 1 (by decide) (hE.nest kn_4) (fun _ h9 => h9) rfl dX2_take_136 ?_
              have hFc := pg_free hD hS hA
              obtain ⟨hi_77, ht_78, hq_79⟩ := hW.bytes hi_38 ht_42
              obtain ⟨z_80, o_81, hF_82, hq_83, hq_84⟩ := hO.bytes hi_38 ht_42
              refine va_callv (va_runV (As := []) (rest := []) ⟨hx, hb, hml, hown, hts⟩ (s_X0_clear l dC dI cs ty L H.size F_73 y_33 (ρ + 1) r_41 700 hW hi_38 ht_42) ⟨callB_of 0 hts (gi kt_32) rfl rfl rfl (hts _ kt_1) (hts _ kt_118) (by decide +kernel) ⟨Nat.le_of_ble_eq_true rfl, Nat.le_of_ble_eq_true rfl⟩, (hts _ kt_34), (hts _ kt_35)⟩ ⟨fun a U g mk q => ⟨q.1, PT.calling q.2⟩, pg_recv hK hP hi_38 hF_82 (q := (RX0, TX0, 3)) rfl, fun U hU hWm => ⟨rfl, PT.mk hU hWm hP hK hD hE hO⟩⟩ rfl rfl hl.1 rfl (lv_room (Nat.le_of_ble_eq_true rfl)) dX2_take_139 ⟨by show _ + 0 ≤ 0; omega, by show _ + 0 ≤ 0; omega⟩) hS (fun q _ h => hFc q h) hFc (fun u t H1 locs ht hvm hw hB hz1 hk1 hS => ?_)
              obtain ⟨F_86, hB1, hq_87⟩ := hB
              obtain ⟨hP, hD, hO, hR⟩ := QT.back hB1 ht hFc hR (fun q h => by simp only [List.mem_cons, List.not_mem_nil, or_false] at h ⊢; omega)
              have hF_88 : F_86 b_31 = .inr (3, [.ref x_32, .ref y_33, .int x1, .int x2]) := (hB1.2.2.2 b_31 (by rw [ht_36]; simp)).trans hF_74
              have hF_89 : F_86 h0 = .inr (2, [.ref ea, .int (nI z_3)]) := (hB1.2.2.2 h0 (by rw [hT_h0]; simp)).trans hF_75
              have hF_90 : F_86 ea = .inl (cs 21, 40, .inr (.inr (.inr (.inr f_28)))) := (hB1.2.2.2 ea (by rw [ht_2]; simp)).trans hF_76
              generalize H1 = H at hP hS ⊢
              refine lv_aload hx hb dX2_take_142 (lv_at hl 0 rfl) ?_
              refine pg_getN (ci := 3) (v := .ref y_33) (C := RX3) (T := TX3) (N := 4) hx hb hts it_3 hown hK hP hi_35 hF_88 rfl 1 (by decide) (hE.nest kn_4) (fun _ h9 => h9) rfl dX2_take_144 ?_
              refine lv_aload_n hx hb dX2_take_147 rfl (lv_at hl 6 rfl) ?_
              refine lv_iload hx hb dX2_take_148 (lv_at hl 2 rfl) ?_
              refine lv_iconst (v := 1) hx hb dX2_take_150 (by decide) ?_
              refine lv_iadd hx hb dX2_take_151 ?_
              refine lv_topi (fun x_91 _ => ?_)
              refine lv_aload_n hx hb dX2_take_152 rfl (lv_at hl 6 rfl) ?_
              obtain ⟨z_92, o_93, hF_94, hq_95, hq_96⟩ := hO.bytes hL_g1 hT_g1
              refine pg_getN (ci := 0) (v := .int (nI z_92)) (C := RX0) (T := TX0) (N := 3) hx hb hts it_0 hown hK hP hL_g1 hF_94 rfl 1 (by decide) (hE.nest kn_3) (fun _ h9 => h9) rfl dX2_take_153 ?_
              have hFc := pg_free hD hS hA
              refine va_callv (va_runV (As := [.ref g1, .int x_91, .int (nI z_92)]) (rest := []) ⟨hx, hb, hml, hown, hts⟩ (s_X0_addRange l dC dI cs ty L H.size F_86 y_33 (ρ + 1) r_41 700 g1 σ r1 n1 x_91 (nI z_92) hW hi_38 ht_42 hL_g1 hT_g1 (nI_pos (by omega))) ⟨callB_of 3 hts (gi kt_36) rfl rfl rfl (hts _ kt_1) (hts _ kt_119) (by decide +kernel) ⟨Nat.le_of_ble_eq_true rfl, Nat.le_of_ble_eq_true rfl⟩, (hts _ kt_38), (hts _ kt_39)⟩ ⟨fun a U g mk q => ⟨q.1, PT.calling q.2⟩, pg_recv hK hP hi_38 hq_87 (q := (RX0, TX0, 3)) rfl, fun U hU hWm => ⟨rfl, PT.mk hU hWm hP hK hD hE hO⟩⟩ rfl rfl hl.1 rfl (lv_room (Nat.le_of_ble_eq_true rfl)) dX2_take_156 ⟨by show _ + 0 ≤ 0; omega, by show _ + 0 ≤ 0; omega⟩) hS (fun q _ h => hFc q h) hFc (fun u t H1 locs ht hvm hw hB hz1 hk1 hS => ?_)
              obtain ⟨F_98, hB1⟩ := hB
              obtain ⟨hP, hD, hO, hR⟩ := QT.back hB1 ht hFc hR (fun q h => by simp only [List.mem_cons, List.not_mem_nil, or_false] at h ⊢; omega)
              have hF_99 : F_98 b_31 = .inr (3, [.ref x_32, .ref y_33, .int x1, .int x2]) := (hB1.2.2.2 b_31 (by rw [ht_36]; simp)).trans hF_88
              have hF_100 : F_98 h0 = .inr (2, [.ref ea, .int (nI z_3)]) := (hB1.2.2.2 h0 (by rw [hT_h0]; simp)).trans hF_89
              have hF_101 : F_98 ea = .inl (cs 21, 40, .inr (.inr (.inr (.inr f_28)))) := (hB1.2.2.2 ea (by rw [ht_2]; simp)).trans hF_90
              generalize H1 = H at hP hS ⊢
              refine lv_aload_n hx hb dX2_take_159 rfl (lv_at hl 3 rfl) ?_
              refine lv_dup hx hb dX2_take_160 rfl ?_
              refine pg_get (ci := 2) (v := .int (nI z_3)) (C := RX2) (T := TX2) (N := 2) hx hb hts it_2 hown hK hP hL_h0 hF_100 rfl 1 (by decide) (hts _ kt_83) (fun _ h9 => h9) rfl dX2_take_161 ?_
              refine lv_iconst (v := 1) hx hb dX2_take_164 (by decide) ?_
              refine lv_iadd hx hb dX2_take_165 ?_
              refine lv_topi (fun x_102 ex_102 => ?_)
              obtain rfl : x_102 = (nI (z_3 + 1)) := ex_102.trans (nI_1 _)
              refine pg_put (ci := 2) (v := .int (nI (z_3 + 1))) (ty := .int) (C := RX2) (T := TX2) (N := 2) hx hb hts it_2 tyX2 tyX2_ok nmX2 hown hK hP hD hS hL_h0 hF_100 rfl 1 (by decide) (hts _ kt_83) (fun _ h9 => h9) rfl (by decide +kernel) (rfl) (rfl) (Nat.le_of_ble_eq_true rfl) dX2_take_166 (fun H locs hP hD hS => ?_)
              obtain ⟨F_103, he_104, hP, hD, hO, hR⟩ : ∃ G, G = va_up F_98 h0 (.inr (2, [.ref ea, .int (nI (z_3 + 1))])) ∧ va_P (dC, dI) vwCl (va_pl L G) H ∧ va_D A (va_pl L G) ∧ OK cs ty L G ∧ FR ty [ρ, ρ + 1] F G := ⟨_, rfl, hP, hD, hO.up (sh.dir hT_h0 ⟨(z_3 + 1), rfl, (by first | omega | assumption | exact Or.inl rfl | exact Or.inr rfl)⟩), hR.up hT_h0 (by simp)⟩
              have hF_105 : F_103 h0 = .inr (2, [.ref ea, .int (nI (z_3 + 1))]) := by rw [he_104]; exact up_self
              have hF_106 : F_103 b_31 = .inr (3, [.ref x_32, .ref y_33, .int x1, .int x2]) := by rw [he_104, up_ne (ne_ty ht_36 hT_h0 (by simp))]; exact hF_99
              have hF_107 : F_103 ea = .inl (cs 21, 40, .inr (.inr (.inr (.inr f_28)))) := by rw [he_104, up_ne (ne_ty ht_2 hT_h0 (by simp))]; exact hF_101
              refine lv_aload_n hx hb dX2_take_169 rfl (lv_at hl 3 rfl) ?_
              refine pg_get (ci := 2) (v := .int (nI (z_3 + 1))) (C := RX2) (T := TX2) (N := 2) hx hb hts it_2 hown hK hP hL_h0 hF_105 rfl 1 (by decide) (hts _ kt_83) (fun _ h9 => h9) rfl dX2_take_170 ?_
              refine W.widen (k := 0) (n := 0) (by omega) (by omega) ?_
              exact W.iret (v := (nI (z_3 + 1))) hx hb hr (fun t ht hWm => ⟨⟨(nI (z_3 + 1)), (), rfl, trivial, ⟨F_103, QT.mk ht hP hD hO hR⟩⟩, hS.F ht⟩) hS.2.2 dX2_take_173
            ·
              refine lv_iload_n hx hb dX2_take_79 rfl (lv_at hl 3 rfl) ?_
              refine lv_aload_n hx hb dX2_take_80 rfl (lv_at hl 5 rfl) ?_
              refine lv_iload hx hb dX2_take_81 (lv_at hl 1 rfl) ?_
              have hFc := pg_free hD hS hA
              refine va_calli (va_runS (As := [.int x1, .ref g1, .int s5]) (rest := []) ⟨hx, hb, hml, hown, hts⟩ (s_X2_isValue l dC dI cs ty L H.size F_22 g1 σ r1 n1 x1 s5 hW hL_g1 hT_g1) ⟨callB_of 3 hts (gi kt_120) rfl rfl rfl (hts _ kt_103) (hts _ kt_121) (by decide +kernel) ⟨Nat.le_of_ble_eq_true rfl, Nat.le_of_ble_eq_true rfl⟩, (hts _ kt_122)⟩ ⟨fun a U g mk q => ⟨q.1, PT.calling q.2⟩, fun U hU hWm => ⟨rfl, PT.mk hU hWm hP hK hD hE hO⟩⟩ rfl rfl hl.1 rfl (lv_room (Nat.le_of_ble_eq_true rfl)) dX2_take_83 ⟨by show _ + 0 ≤ 0; omega, by show _ + 0 ≤ 0; omega⟩) hS (fun q _ h => hFc q h) hFc (fun r_108 u t H1 locs ht hvm hw hB hz1 hk1 hS => ?_)
              obtain ⟨F_109, hB1⟩ := hB
              obtain ⟨hP, hD, hO, hR⟩ := QT.back hB1 ht hFc hR (fun q h => absurd h List.not_mem_nil)
              have hF_110 : F_109 h0 = .inr (2, [.ref ea, .int (nI z_3)]) := (hB1.2.2.2 h0 List.not_mem_nil).trans hF_23
              have hF_111 : F_109 g1 = .inr (0, [.ref r1, .int (nI z_16), .int o_17]) := (hB1.2.2.2 g1 List.not_mem_nil).trans hF_24
              generalize H1 = H at hP hS ⊢
              have hw : (r_108 = 0 ∨ r_108 = 1) := hw
              have hw_112 := hw
              refine lv_if_ne (tgt := 91) hx hb dX2_take_86 (by decide) (fun c_113 => ?_) (fun c_113 => ?_)
              ·
                refine lv_aload_n hx hb dX2_take_91 rfl (lv_at hl 2 rfl) ?_
                refine pg_get (ci := 2) (v := .ref ea) (C := RX2) (T := TX2) (N := 2) hx hb hts it_2 hown hK hP hL_h0 hF_110 rfl 0 (by decide) (hts _ kt_84) (fun _ h9 => h9) rfl dX2_take_92 ?_
                refine lv_aload_n hx hb dX2_take_95 rfl (lv_at hl 2 rfl) ?_
                refine pg_get (ci := 2) (v := .int (nI z_3)) (C := RX2) (T := TX2) (N := 2) hx hb hts it_2 hown hK hP hL_h0 hF_110 rfl 1 (by decide) (hts _ kt_83) (fun _ h9 => h9) rfl dX2_take_96 ?_
                obtain ⟨f_114, hF_115, hq_116⟩ := hO.rentry hi_1 ht_2
                obtain ⟨b_117, x_118, y_119, hbf_120, hi_121, ht_122⟩ := hq_116 z_3 (by omega)
                refine pg_aald (r := b_117) hx hb hK hP hi_1 5 hF_115 rfl (vp_in_nI (by omega) (by omega)) (show f_114 ((nI z_3) : Int32).toNatClampNeg = _ from by rw [show ((nI z_3) : Int32) = nI z_3 from rfl, nI_clamp (by omega)]; exact hbf_120) dX2_take_99 ?_
                refine lv_astore (lv' := [(6, .ref b_117), (4, .int s4), (5, .int s5), (0, .ref h0), (1, .int x1), (2, .int x2), (3, .ref g1)]) hx hb dX2_take_100 hl (by decide) rfl (fun ls hl => ?_)
                refine lv_aload hx hb dX2_take_102 (lv_at hl 0 rfl) ?_
                refine lv_iload_n hx hb dX2_take_104 rfl (lv_at hl 4 rfl) ?_
                obtain ⟨hi_123, hi_124, ⟨r_125, ht_126⟩, ⟨r_127, ht_128⟩⟩ := hW.entry hi_121 ht_122
                obtain ⟨v0_129, v1_130, hF_131⟩ := hO.entry hi_121 ht_122
                refine pg_putN (ci := 3) (v := .int x1) (ty := .int) (C := RX3) (T := TX3) (N := 4) hx hb hts it_3 tyX3 tyX3_ok nmX3 hown hK hP hD hS hi_121 hF_131 rfl 2 (by decide) (hE.nest kn_0) (fun _ h9 => h9) rfl (by decide +kernel) (rfl) (rfl) (Nat.le_of_ble_eq_true rfl) dX2_take_105 (fun H locs hP hD hS => ?_)
                obtain ⟨F_132, he_133, hP, hD, hO, hR⟩ : ∃ G, G = va_up F_109 b_117 (.inr (3, [.ref x_118, .ref y_119, .int x1, .int v1_130])) ∧ va_P (dC, dI) vwCl (va_pl L G) H ∧ va_D A (va_pl L G) ∧ OK cs ty L G ∧ FR ty [ρ, ρ + 1] F G := ⟨_, rfl, hP, hD, hO.up (sh.entry ht_122 ⟨x1, v1_130, rfl⟩), hR.up ht_122 (by simp)⟩
                have hF_134 : F_132 b_117 = .inr (3, [.ref x_118, .ref y_119, .int x1, .int v1_130]) := by rw [he_133]; exact up_self
                have hF_135 : F_132 h0 = .inr (2, [.ref ea, .int (nI z_3)]) := by rw [he_133, up_ne (ne_ty hT_h0 ht_122 (by simp))]; exact hF_110
                have hF_136 : F_132 g1 = .inr (0, [.ref r1, .int (nI z_16), .int o_17]) := by rw [he_133, up_ne (ne_ty hT_g1 ht_122 (by simp))]; exact hF_111
                have hF_137 : F_132 ea = .inl (cs 21, 40, .inr (.inr (.inr (.inr f_114)))) := by rw [he_133, up_ne (ne_ty ht_2 ht_122 (by simp))]; exact hF_115
                refine lv_aload hx hb dX2_take_108 (lv_at hl 0 rfl) ?_
                refine lv_iload_n hx hb dX2_take_110 rfl (lv_at hl 5 rfl) ?_
                refine pg_putN (ci := 3) (v := .int x2) (ty := .int) (C := RX3) (T := TX3) (N := 4) hx hb hts it_3 tyX3 tyX3_ok nmX3 hown hK hP hD hS hi_121 hF_134 rfl 3 (by decide) (hE.nest kn_2) (fun _ h9 => h9) rfl (by decide +kernel) (rfl) (rfl) (Nat.le_of_ble_eq_true rfl) dX2_take_111 (fun H locs hP hD hS => ?_)
                obtain ⟨F_138, he_139, hP, hD, hO, hR⟩ : ∃ G, G = va_up F_132 b_117 (.inr (3, [.ref x_118, .ref y_119, .int x1, .int x2])) ∧ va_P (dC, dI) vwCl (va_pl L G) H ∧ va_D A (va_pl L G) ∧ OK cs ty L G ∧ FR ty [ρ, ρ + 1] F G := ⟨_, rfl, hP, hD, hO.up (sh.entry ht_122 ⟨x1, x2, rfl⟩), hR.up ht_122 (by simp)⟩
                have hF_140 : F_138 b_117 = .inr (3, [.ref x_118, .ref y_119, .int x1, .int x2]) := by rw [he_139]; exact up_self
                have hF_141 : F_138 h0 = .inr (2, [.ref ea, .int (nI z_3)]) := by rw [he_139, up_ne (ne_ty hT_h0 ht_122 (by simp))]; exact hF_135
                have hF_142 : F_138 g1 = .inr (0, [.ref r1, .int (nI z_16), .int o_17]) := by rw [he_139, up_ne (ne_ty hT_g1 ht_122 (by simp))]; exact hF_136
                have hF_143 : F_138 ea = .inl (cs 21, 40, .inr (.inr (.inr (.inr f_114)))) := by rw [he_139, up_ne (ne_ty ht_2 ht_122 (by simp))]; exact hF_137
                refine lv_aload hx hb dX2_take_114 (lv_at hl 0 rfl) ?_
                refine pg_getN (ci := 3) (v := .ref x_118) (C := RX3) (T := TX3) (N := 4) hx hb hts it_3 hown hK hP hi_121 hF_140 rfl 0 (by decide) (hE.nest kn_1) (fun _ h9 => h9) rfl dX2_take_116 ?_
                have hFc := pg_free hD hS hA
                obtain ⟨hi_144, ht_145, hq_146⟩ := hW.bytes hi_123 ht_126
                obtain ⟨z_147, o_148, hF_149, hq_150, hq_151⟩ := hO.bytes hi_123 ht_126
                refine va_callv (va_runV (As := []) (rest := []) ⟨hx, hb, hml, hown, hts⟩ (s_X0_clear l dC dI cs ty L H.size F_138 x_118 (ρ + 1) r_125 60 hW hi_123 ht_126) ⟨callB_of 0 hts (gi kt_32) rfl rfl rfl (hts _ kt_1) (hts _ kt_118) (by decide +kernel) ⟨Nat.le_of_ble_eq_true rfl, Nat.le_of_ble_eq_true rfl⟩, (hts _ kt_34), (hts _ kt_35)⟩ ⟨fun a U g mk q => ⟨q.1, PT.calling q.2⟩, pg_recv hK hP hi_123 hF_149 (q := (RX0, TX0, 3)) rfl, fun U hU hWm => ⟨rfl, PT.mk hU hWm hP hK hD hE hO⟩⟩ rfl rfl hl.1 rfl (lv_room (Nat.le_of_ble_eq_true rfl)) dX2_take_119 ⟨by show _ + 0 ≤ 0; omega, by show _ + 0 ≤ 0; omega⟩) hS (fun q _ h => hFc q h) hFc (fun u t H1 locs ht hvm hw hB hz1 hk1 hS => ?_)
                obtain ⟨F_153, hB1, hq_154⟩ := hB
                obtain ⟨hP, hD, hO, hR⟩ := QT.back hB1 ht hFc hR (fun q h => by simp only [List.mem_cons, List.not_mem_nil, or_false] at h ⊢; omega)
                have hF_155 : F_153 b_117 = .inr (3, [.ref x_118, .ref y_119, .int x1, .int x2]) := (hB1.2.2.2 b_117 (by rw [ht_122]; simp)).trans hF_140
                have hF_156 : F_153 h0 = .inr (2, [.ref ea, .int (nI z_3)]) := (hB1.2.2.2 h0 (by rw [hT_h0]; simp)).trans hF_141
                have hF_157 : F_153 ea = .inl (cs 21, 40, .inr (.inr (.inr (.inr f_114)))) := (hB1.2.2.2 ea (by rw [ht_2]; simp)).trans hF_143
                generalize H1 = H at hP hS ⊢
                refine lv_aload hx hb dX2_take_122 (lv_at hl 0 rfl) ?_
                refine pg_getN (ci := 3) (v := .ref x_118) (C := RX3) (T := TX3) (N := 4) hx hb hts it_3 hown hK hP hi_121 hF_155 rfl 0 (by decide) (hE.nest kn_1) (fun _ h9 => h9) rfl dX2_take_124 ?_
                refine lv_aload_n hx hb dX2_take_127 rfl (lv_at hl 6 rfl) ?_
                refine lv_iconst (v := 0) hx hb dX2_take_128 (by decide) ?_
                refine lv_iload hx hb dX2_take_129 (lv_at hl 2 rfl) ?_
                have hFc := pg_free hD hS hA
                refine va_callv (va_runV (As := [.ref g1, .int 0, .int s5]) (rest := []) ⟨hx, hb, hml, hown, hts⟩ (s_X0_addRange l dC dI cs ty L H.size F_153 x_118 (ρ + 1) r_125 60 g1 σ r1 n1 0 s5 hW hi_123 ht_126 hL_g1 hT_g1 (hv1)) ⟨callB_of 3 hts (gi kt_36) rfl rfl rfl (hts _ kt_1) (hts _ kt_119) (by decide +kernel) ⟨Nat.le_of_ble_eq_true rfl, Nat.le_of_ble_eq_true rfl⟩, (hts _ kt_38), (hts _ kt_39)⟩ ⟨fun a U g mk q => ⟨q.1, PT.calling q.2⟩, pg_recv hK hP hi_123 hq_154 (q := (RX0, TX0, 3)) rfl, fun U hU hWm => ⟨rfl, PT.mk hU hWm hP hK hD hE hO⟩⟩ rfl rfl hl.1 rfl (lv_room (Nat.le_of_ble_eq_true rfl)) dX2_take_131 ⟨by show _ + 0 ≤ 0; omega, by show _ + 0 ≤ 0; omega⟩) hS (fun q _ h => hFc q h) hFc (fun u t H1 locs ht hvm hw hB hz1 hk1 hS => ?_)
                obtain ⟨F_159, hB1⟩ := hB
                obtain ⟨hP, hD, hO, hR⟩ := QT.back hB1 ht hFc hR (fun q h => by simp only [List.mem_cons, List.not_mem_nil, or_false] at h ⊢; omega)
                have hF_160 : F_159 b_117 = .inr (3, [.ref x_118, .ref y_119, .int x1, .int x2]) := (hB1.2.2.2 b_117 (by rw [ht_122]; simp)).trans hF_155
                have hF_161 : F_159 h0 = .inr (2, [.ref ea, .int (nI z_3)]) := (hB1.2.2.2 h0 (by rw [hT_h0]; simp)).trans hF_156
                have hF_162 : F_159 ea = .inl (cs 21, 40, .inr (.inr (.inr (.inr f_114)))) := (hB1.2.2.2 ea (by rw [ht_2]; simp)).trans hF_157
                generalize H1 = H at hP hS ⊢
                refine lv_aload hx hb dX2_take_134 (lv_at hl 0 rfl) ?_
                refine pg_getN (ci := 3) (v := .ref y_119) (C := RX3) (T := TX3) (N := 4) hx hb hts it_3 hown hK hP hi_121 hF_160 rfl 1 (by decide) (hE.nest kn_4) (fun _ h9 => h9) rfl dX2_take_136 ?_
                have hFc := pg_free hD hS hA
                obtain ⟨hi_163, ht_164, hq_165⟩ := hW.bytes hi_124 ht_128
                obtain ⟨z_166, o_167, hF_168, hq_169, hq_170⟩ := hO.bytes hi_124 ht_128
                refine va_callv (va_runV (As := []) (rest := []) ⟨hx, hb, hml, hown, hts⟩ (s_X0_clear l dC dI cs ty L H.size F_159 y_119 (ρ + 1) r_127 700 hW hi_124 ht_128) ⟨callB_of 0 hts (gi kt_32) rfl rfl rfl (hts _ kt_1) (hts _ kt_118) (by decide +kernel) ⟨Nat.le_of_ble_eq_true rfl, Nat.le_of_ble_eq_true rfl⟩, (hts _ kt_34), (hts _ kt_35)⟩ ⟨fun a U g mk q => ⟨q.1, PT.calling q.2⟩, pg_recv hK hP hi_124 hF_168 (q := (RX0, TX0, 3)) rfl, fun U hU hWm => ⟨rfl, PT.mk hU hWm hP hK hD hE hO⟩⟩ rfl rfl hl.1 rfl (lv_room (Nat.le_of_ble_eq_true rfl)) dX2_take_139 ⟨by show _ + 0 ≤ 0; omega, by show _ + 0 ≤ 0; omega⟩) hS (fun q _ h => hFc q h) hFc (fun u t H1 locs ht hvm hw hB hz1 hk1 hS => ?_)
                obtain ⟨F_172, hB1, hq_173⟩ := hB
                obtain ⟨hP, hD, hO, hR⟩ := QT.back hB1 ht hFc hR (fun q h => by simp only [List.mem_cons, List.not_mem_nil, or_false] at h ⊢; omega)
                have hF_174 : F_172 b_117 = .inr (3, [.ref x_118, .ref y_119, .int x1, .int x2]) := (hB1.2.2.2 b_117 (by rw [ht_122]; simp)).trans hF_160
                have hF_175 : F_172 h0 = .inr (2, [.ref ea, .int (nI z_3)]) := (hB1.2.2.2 h0 (by rw [hT_h0]; simp)).trans hF_161
                have hF_176 : F_172 ea = .inl (cs 21, 40, .inr (.inr (.inr (.inr f_114)))) := (hB1.2.2.2 ea (by rw [ht_2]; simp)).trans hF_162
                generalize H1 = H at hP hS ⊢
                refine lv_aload hx hb dX2_take_142 (lv_at hl 0 rfl) ?_
                refine pg_getN (ci := 3) (v := .ref y_119) (C := RX3) (T := TX3) (N := 4) hx hb hts it_3 hown hK hP hi_121 hF_174 rfl 1 (by decide) (hE.nest kn_4) (fun _ h9 => h9) rfl dX2_take_144 ?_
                refine lv_aload_n hx hb dX2_take_147 rfl (lv_at hl 6 rfl) ?_
                refine lv_iload hx hb dX2_take_148 (lv_at hl 2 rfl) ?_
                refine lv_iconst (v := 1) hx hb dX2_take_150 (by decide) ?_
                refine lv_iadd hx hb dX2_take_151 ?_
                refine lv_topi (fun x_177 _ => ?_)
                refine lv_aload_n hx hb dX2_take_152 rfl (lv_at hl 6 rfl) ?_
                obtain ⟨z_178, o_179, hF_180, hq_181, hq_182⟩ := hO.bytes hL_g1 hT_g1
                refine pg_getN (ci := 0) (v := .int (nI z_178)) (C := RX0) (T := TX0) (N := 3) hx hb hts it_0 hown hK hP hL_g1 hF_180 rfl 1 (by decide) (hE.nest kn_3) (fun _ h9 => h9) rfl dX2_take_153 ?_
                have hFc := pg_free hD hS hA
                refine va_callv (va_runV (As := [.ref g1, .int x_177, .int (nI z_178)]) (rest := []) ⟨hx, hb, hml, hown, hts⟩ (s_X0_addRange l dC dI cs ty L H.size F_172 y_119 (ρ + 1) r_127 700 g1 σ r1 n1 x_177 (nI z_178) hW hi_124 ht_128 hL_g1 hT_g1 (nI_pos (by omega))) ⟨callB_of 3 hts (gi kt_36) rfl rfl rfl (hts _ kt_1) (hts _ kt_119) (by decide +kernel) ⟨Nat.le_of_ble_eq_true rfl, Nat.le_of_ble_eq_true rfl⟩, (hts _ kt_38), (hts _ kt_39)⟩ ⟨fun a U g mk q => ⟨q.1, PT.calling q.2⟩, pg_recv hK hP hi_124 hq_173 (q := (RX0, TX0, 3)) rfl, fun U hU hWm => ⟨rfl, PT.mk hU hWm hP hK hD hE hO⟩⟩ rfl rfl hl.1 rfl (lv_room (Nat.le_of_ble_eq_true rfl)) dX2_take_156 ⟨by show _ + 0 ≤ 0; omega, by show _ + 0 ≤ 0; omega⟩) hS (fun q _ h => hFc q h) hFc (fun u t H1 locs ht hvm hw hB hz1 hk1 hS => ?_)
                obtain ⟨F_184, hB1⟩ := hB
                obtain ⟨hP, hD, hO, hR⟩ := QT.back hB1 ht hFc hR (fun q h => by simp only [List.mem_cons, List.not_mem_nil, or_false] at h ⊢; omega)
                have hF_185 : F_184 b_117 = .inr (3, [.ref x_118, .ref y_119, .int x1, .int x2]) := (hB1.2.2.2 b_117 (by rw [ht_122]; simp)).trans hF_174
                have hF_186 : F_184 h0 = .inr (2, [.ref ea, .int (nI z_3)]) := (hB1.2.2.2 h0 (by rw [hT_h0]; simp)).trans hF_175
                have hF_187 : F_184 ea = .inl (cs 21, 40, .inr (.inr (.inr (.inr f_114)))) := (hB1.2.2.2 ea (by rw [ht_2]; simp)).trans hF_176
                generalize H1 = H at hP hS ⊢
                refine lv_aload_n hx hb dX2_take_159 rfl (lv_at hl 3 rfl) ?_
                refine lv_dup hx hb dX2_take_160 rfl ?_
                refine pg_get (ci := 2) (v := .int (nI z_3)) (C := RX2) (T := TX2) (N := 2) hx hb hts it_2 hown hK hP hL_h0 hF_186 rfl 1 (by decide) (hts _ kt_83) (fun _ h9 => h9) rfl dX2_take_161 ?_
                refine lv_iconst (v := 1) hx hb dX2_take_164 (by decide) ?_
                refine lv_iadd hx hb dX2_take_165 ?_
                refine lv_topi (fun x_188 ex_188 => ?_)
                obtain rfl : x_188 = (nI (z_3 + 1)) := ex_188.trans (nI_1 _)
                refine pg_put (ci := 2) (v := .int (nI (z_3 + 1))) (ty := .int) (C := RX2) (T := TX2) (N := 2) hx hb hts it_2 tyX2 tyX2_ok nmX2 hown hK hP hD hS hL_h0 hF_186 rfl 1 (by decide) (hts _ kt_83) (fun _ h9 => h9) rfl (by decide +kernel) (rfl) (rfl) (Nat.le_of_ble_eq_true rfl) dX2_take_166 (fun H locs hP hD hS => ?_)
                obtain ⟨F_189, he_190, hP, hD, hO, hR⟩ : ∃ G, G = va_up F_184 h0 (.inr (2, [.ref ea, .int (nI (z_3 + 1))])) ∧ va_P (dC, dI) vwCl (va_pl L G) H ∧ va_D A (va_pl L G) ∧ OK cs ty L G ∧ FR ty [ρ, ρ + 1] F G := ⟨_, rfl, hP, hD, hO.up (sh.dir hT_h0 ⟨(z_3 + 1), rfl, (by first | omega | assumption | exact Or.inl rfl | exact Or.inr rfl)⟩), hR.up hT_h0 (by simp)⟩
                have hF_191 : F_189 h0 = .inr (2, [.ref ea, .int (nI (z_3 + 1))]) := by rw [he_190]; exact up_self
                have hF_192 : F_189 b_117 = .inr (3, [.ref x_118, .ref y_119, .int x1, .int x2]) := by rw [he_190, up_ne (ne_ty ht_122 hT_h0 (by simp))]; exact hF_185
                have hF_193 : F_189 ea = .inl (cs 21, 40, .inr (.inr (.inr (.inr f_114)))) := by rw [he_190, up_ne (ne_ty ht_2 hT_h0 (by simp))]; exact hF_187
                refine lv_aload_n hx hb dX2_take_169 rfl (lv_at hl 3 rfl) ?_
                refine pg_get (ci := 2) (v := .int (nI (z_3 + 1))) (C := RX2) (T := TX2) (N := 2) hx hb hts it_2 hown hK hP hL_h0 hF_191 rfl 1 (by decide) (hts _ kt_83) (fun _ h9 => h9) rfl dX2_take_170 ?_
                refine W.widen (k := 0) (n := 0) (by omega) (by omega) ?_
                exact W.iret (v := (nI (z_3 + 1))) hx hb hr (fun t ht hWm => ⟨⟨(nI (z_3 + 1)), (), rfl, trivial, ⟨F_189, QT.mk ht hP hD hO hR⟩⟩, hS.F ht⟩) hS.2.2 dX2_take_173
              ·
                refine lv_iconst (v := (-1)) hx hb dX2_take_89 (by decide) ?_
                refine W.widen (k := 0) (n := 0) (by omega) (by omega) ?_
                exact W.iret (v := (-1)) hx hb hr (fun t ht hWm => ⟨⟨(-1), (), rfl, trivial, ⟨F_109, QT.mk ht hP hD hO hR⟩⟩, hS.F ht⟩) hS.2.2 dX2_take_90
          ·
            refine lv_iconst (v := (-1)) hx hb dX2_take_72 (by decide) ?_
            refine W.widen (k := 0) (n := 0) (by omega) (by omega) ?_
            exact W.iret (v := (-1)) hx hb hr (fun t ht hWm => ⟨⟨(-1), (), rfl, trivial, ⟨F_22, QT.mk ht hP hD hO hR⟩⟩, hS.F ht⟩) hS.2.2 dX2_take_73
    ·
      refine lv_iload_n hx hb dX2_take_12 rfl (lv_at hl 1 rfl) ?_
      refine lv_if_eq (tgt := 21) hx hb dX2_take_13 (by decide) (fun c_194 => ?_) (fun c_194 => ?_)
      ·
        refine lv_iconst (v := 1) hx hb dX2_take_21 (by decide) ?_
        refine lv_goto (tgt := 26) hx hb dX2_take_22 (by decide) ?_
        refine lv_istore (lv' := [(4, .int 1), (0, .ref h0), (1, .int x1), (2, .int x2), (3, .ref g1)]) hx hb dX2_take_26 hl (by decide) rfl (fun ls hl => ?_)
        refine lv_iload hx hb dX2_take_28 (lv_at hl 0 rfl) ?_
        refine lv_if_eq (tgt := 47) hx hb dX2_take_30 (by decide) (fun c_195 => absurd c_195 (by decide)) (fun c_195 => ?_)
        refine lv_aload_n hx hb dX2_take_33 rfl (lv_at hl 4 rfl) ?_
        refine lv_bipush (v := 32) hx hb dX2_take_34 (by decide) ?_
        refine lv_iconst (v := 0) hx hb dX2_take_36 (by decide) ?_
        refine lv_aload_n hx hb dX2_take_37 rfl (lv_at hl 4 rfl) ?_
        obtain ⟨hi_196, ht_197, hq_198⟩ := hW.bytes hL_g1 hT_g1
        obtain ⟨z_199, o_200, hF_201, hq_202, hq_203⟩ := hO.bytes hL_g1 hT_g1
        refine pg_getN (ci := 0) (v := .int (nI z_199)) (C := RX0) (T := TX0) (N := 3) hx hb hts it_0 hown hK hP hL_g1 hF_201 rfl 1 (by decide) (hE.nest kn_3) (fun _ h9 => h9) rfl dX2_take_38 ?_
        have hFc := pg_free hD hS hA
        refine va_calli (va_runV (As := [.int 32, .int 0, .int (nI z_199)]) (rest := []) ⟨hx, hb, hml, hown, hts⟩ (s_X0_find l dC dI cs ty L s.heap.size F g1 σ r1 n1 32 0 (nI z_199) hW hL_g1 hT_g1) ⟨callB_of 3 hts (gi kt_123) rfl rfl rfl (hts _ kt_1) (hts _ kt_124) (by decide +kernel) ⟨Nat.le_of_ble_eq_true rfl, Nat.le_of_ble_eq_true rfl⟩, (hts _ kt_125), (hts _ kt_126)⟩ ⟨fun a U g mk q => ⟨q.1, PT.calling q.2⟩, pg_recv hK hP hL_g1 hF_201 (q := (RX0, TX0, 3)) rfl, fun U hU hWm => ⟨rfl, PT.mk hU hWm hP hK hD hE hO⟩⟩ rfl rfl hl.1 rfl (lv_room (Nat.le_of_ble_eq_true rfl)) dX2_take_41 ⟨by show _ + 0 ≤ 0; omega, by show _ + 0 ≤ 0; omega⟩) hS (fun q _ h => hFc q h) hFc (fun r_204 u t H1 locs ht hvm hw hB hz1 hk1 hS => ?_)
        obtain ⟨F_205, hB1⟩ := hB
        obtain ⟨hP, hD, hO, hR⟩ := QT.back hB1 ht hFc hR (fun q h => absurd h List.not_mem_nil)
        have hF_206 : F_205 h0 = .inr (2, [.ref ea, .int (nI z_3)]) := (hB1.2.2.2 h0 List.not_mem_nil).trans hF_4
        have hF_207 : F_205 g1 = .inr (0, [.ref r1, .int (nI z_199), .int o_200]) := (hB1.2.2.2 g1 List.not_mem_nil).trans hF_201
        generalize H1 = H at hP hS ⊢
        have hw : (r_204 = (nI z_199) ∨ ∃ j : Nat, j < n1 ∧ r_204 = nI j) := hw
        have hw_208 := hw
        refine lv_goto (tgt := 51) hx hb dX2_take_44 (by decide) ?_
        refine lv_istore (lv' := [(5, .int r_204), (4, .int 1), (0, .ref h0), (1, .int x1), (2, .int x2), (3, .ref g1)]) hx hb dX2_take_51 hl (by decide) rfl (fun ls hl => ?_)
        refine W.widen (k := 0) (n := 0) (by omega) (by omega) ?_
        exact jn_8 (r_204, 1) F_205 (⟨fndp hw_208 (nI_pos (by omega)) (by omega), hF_206⟩) hO hR _ _ hP hD hS ls (lv_sub hl [1, 0, 2, 3, 4, 5] rfl)
      ·
        refine lv_iload_n hx hb dX2_take_16 rfl (lv_at hl 1 rfl) ?_
        refine lv_iconst (v := 2) hx hb dX2_take_17 (by decide) ?_
        refine lv_icmp_ne (tgt := 25) hx hb dX2_take_18 (by decide) (fun c_209 => ?_) (fun c_209 => ?_)
        ·
          refine lv_iconst (v := 0) hx hb dX2_take_25 (by decide) ?_
          refine lv_istore (lv' := [(4, .int 0), (0, .ref h0), (1, .int x1), (2, .int x2), (3, .ref g1)]) hx hb dX2_take_26 hl (by decide) rfl (fun ls hl => ?_)
          refine lv_iload hx hb dX2_take_28 (lv_at hl 0 rfl) ?_
          refine lv_if_eq (tgt := 47) hx hb dX2_take_30 (by decide) (fun c_210 => ?_) (fun c_210 => absurd (by decide) c_210)
          refine lv_aload_n hx hb dX2_take_47 rfl (lv_at hl 4 rfl) ?_
          obtain ⟨hi_211, ht_212, hq_213⟩ := hW.bytes hL_g1 hT_g1
          obtain ⟨z_214, o_215, hF_216, hq_217, hq_218⟩ := hO.bytes hL_g1 hT_g1
          refine pg_getN (ci := 0) (v := .int (nI z_214)) (C := RX0) (T := TX0) (N := 3) hx hb hts it_0 hown hK hP hL_g1 hF_216 rfl 1 (by decide) (hE.nest kn_3) (fun _ h9 => h9) rfl dX2_take_48 ?_
          refine lv_istore (lv' := [(5, .int (nI z_214)), (4, .int 0), (0, .ref h0), (1, .int x1), (2, .int x2), (3, .ref g1)]) hx hb dX2_take_51 hl (by decide) rfl (fun ls hl => ?_)
          refine W.widen (k := 0) (n := 0) (by omega) (by omega) ?_
          exact jn_8 ((nI z_214), 0) F (⟨nI_pos (by omega), hF_4⟩) hO hR _ _ hP hD hS ls (lv_sub hl [1, 0, 2, 3, 4, 5] rfl)
        ·
          refine lv_iconst (v := 1) hx hb dX2_take_21 (by decide) ?_
          refine lv_goto (tgt := 26) hx hb dX2_take_22 (by decide) ?_
          refine lv_istore (lv' := [(4, .int 1), (0, .ref h0), (1, .int x1), (2, .int x2), (3, .ref g1)]) hx hb dX2_take_26 hl (by decide) rfl (fun ls hl => ?_)
          refine lv_iload hx hb dX2_take_28 (lv_at hl 0 rfl) ?_
          refine lv_if_eq (tgt := 47) hx hb dX2_take_30 (by decide) (fun c_219 => absurd c_219 (by decide)) (fun c_219 => ?_)
          refine lv_aload_n hx hb dX2_take_33 rfl (lv_at hl 4 rfl) ?_
          refine lv_bipush (v := 32) hx hb dX2_take_34 (by decide) ?_
          refine lv_iconst (v := 0) hx hb dX2_take_36 (by decide) ?_
          refine lv_aload_n hx hb dX2_take_37 rfl (lv_at hl 4 rfl) ?_
          obtain ⟨hi_220, ht_221, hq_222⟩ := hW.bytes hL_g1 hT_g1
          obtain ⟨z_223, o_224, hF_225, hq_226, hq_227⟩ := hO.bytes hL_g1 hT_g1
          refine pg_getN (ci := 0) (v := .int (nI z_223)) (C := RX0) (T := TX0) (N := 3) hx hb hts it_0 hown hK hP hL_g1 hF_225 rfl 1 (by decide) (hE.nest kn_3) (fun _ h9 => h9) rfl dX2_take_38 ?_
          have hFc := pg_free hD hS hA
          refine va_calli (va_runV (As := [.int 32, .int 0, .int (nI z_223)]) (rest := []) ⟨hx, hb, hml, hown, hts⟩ (s_X0_find l dC dI cs ty L s.heap.size F g1 σ r1 n1 32 0 (nI z_223) hW hL_g1 hT_g1) ⟨callB_of 3 hts (gi kt_123) rfl rfl rfl (hts _ kt_1) (hts _ kt_124) (by decide +kernel) ⟨Nat.le_of_ble_eq_true rfl, Nat.le_of_ble_eq_true rfl⟩, (hts _ kt_125), (hts _ kt_126)⟩ ⟨fun a U g mk q => ⟨q.1, PT.calling q.2⟩, pg_recv hK hP hL_g1 hF_225 (q := (RX0, TX0, 3)) rfl, fun U hU hWm => ⟨rfl, PT.mk hU hWm hP hK hD hE hO⟩⟩ rfl rfl hl.1 rfl (lv_room (Nat.le_of_ble_eq_true rfl)) dX2_take_41 ⟨by show _ + 0 ≤ 0; omega, by show _ + 0 ≤ 0; omega⟩) hS (fun q _ h => hFc q h) hFc (fun r_228 u t H1 locs ht hvm hw hB hz1 hk1 hS => ?_)
          obtain ⟨F_229, hB1⟩ := hB
          obtain ⟨hP, hD, hO, hR⟩ := QT.back hB1 ht hFc hR (fun q h => absurd h List.not_mem_nil)
          have hF_230 : F_229 h0 = .inr (2, [.ref ea, .int (nI z_3)]) := (hB1.2.2.2 h0 List.not_mem_nil).trans hF_4
          have hF_231 : F_229 g1 = .inr (0, [.ref r1, .int (nI z_223), .int o_224]) := (hB1.2.2.2 g1 List.not_mem_nil).trans hF_225
          generalize H1 = H at hP hS ⊢
          have hw : (r_228 = (nI z_223) ∨ ∃ j : Nat, j < n1 ∧ r_228 = nI j) := hw
          have hw_232 := hw
          refine lv_goto (tgt := 51) hx hb dX2_take_44 (by decide) ?_
          refine lv_istore (lv' := [(5, .int r_228), (4, .int 1), (0, .ref h0), (1, .int x1), (2, .int x2), (3, .ref g1)]) hx hb dX2_take_51 hl (by decide) rfl (fun ls hl => ?_)
          refine W.widen (k := 0) (n := 0) (by omega) (by omega) ?_
          exact jn_8 (r_228, 1) F_229 (⟨fndp hw_232 (nI_pos (by omega)) (by omega), hF_230⟩) hO hR _ _ hP hD hS ls (lv_sub hl [1, 0, 2, 3, 4, 5] rfl)
  ·
    refine lv_bipush (v := (-3)) hx hb dX2_take_9 (by decide) ?_
    refine W.widen (k := 0) (n := 0) (by omega) (by omega) ?_
    exact W.iret (v := (-3)) hx hb hr (fun t ht hWm => ⟨⟨(-3), (), rfl, trivial, ⟨F, QT.mk ht hP hD hO hR⟩⟩, hS.F ht⟩) hS.2.2 dX2_take_11
