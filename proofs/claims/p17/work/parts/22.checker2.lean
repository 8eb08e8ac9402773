theorem dX1_addParts_0 : decode cX1_addParts 0 = .ok (.iconst 1, 1) := by decide +kernel
theorem dX1_addParts_1 : decode cX1_addParts 1 = .ok (.istore 4, 2) := by decide +kernel
theorem dX1_addParts_3 : decode cX1_addParts 3 = .ok (.iconst 0, 1) := by decide +kernel
theorem dX1_addParts_4 : decode cX1_addParts 4 = .ok (.istore 5, 2) := by decide +kernel
theorem dX1_addParts_6 : decode cX1_addParts 6 = .ok (.iload 5, 2) := by decide +kernel
theorem dX1_addParts_8 : decode cX1_addParts 8 = .ok (.aload_n 0, 1) := by decide +kernel
theorem dX1_addParts_9 : decode cX1_addParts 9 = .ok (.getfield 58, 3) := by decide +kernel
theorem dX1_addParts_12 : decode cX1_addParts 12 = .ok (.if_icmp .ge 30, 3) := by decide +kernel
theorem dX1_addParts_15 : decode cX1_addParts 15 = .ok (.iload 4, 2) := by decide +kernel
theorem dX1_addParts_17 : decode cX1_addParts 17 = .ok (.aload_n 0, 1) := by decide +kernel
theorem dX1_addParts_18 : decode cX1_addParts 18 = .ok (.iload 5, 2) := by decide +kernel
theorem dX1_addParts_20 : decode cX1_addParts 20 = .ok (.invokevirtual 87, 3) := by decide +kernel
theorem dX1_addParts_23 : decode cX1_addParts 23 = .ok (.bipush 46, 2) := by decide +kernel
theorem dX1_addParts_25 : decode cX1_addParts 25 = .ok (.if_icmp .ne 7, 3) := by decide +kernel
theorem dX1_addParts_28 : decode cX1_addParts 28 = .ok (.iconst 1, 1) := by decide +kernel
theorem dX1_addParts_29 : decode cX1_addParts 29 = .ok (.goto 4, 3) := by decide +kernel
theorem dX1_addParts_32 : decode cX1_addParts 32 = .ok (.iconst 0, 1) := by decide +kernel
theorem dX1_addParts_33 : decode cX1_addParts 33 = .ok (.iadd, 1) := by decide +kernel
theorem dX1_addParts_34 : decode cX1_addParts 34 = .ok (.istore 4, 2) := by decide +kernel
theorem dX1_addParts_36 : decode cX1_addParts 36 = .ok (.iinc 5 1, 3) := by decide +kernel
theorem dX1_addParts_39 : decode cX1_addParts 39 = .ok (.goto (-33), 3) := by decide +kernel
theorem dX1_addParts_42 : decode cX1_addParts 42 = .ok (.iload_n 1, 1) := by decide +kernel
theorem dX1_addParts_43 : decode cX1_addParts 43 = .ok (.ifCond .ne 8, 3) := by decide +kernel
theorem dX1_addParts_46 : decode cX1_addParts 46 = .ok (.iload 4, 2) := by decide +kernel
theorem dX1_addParts_48 : decode cX1_addParts 48 = .ok (.goto 9, 3) := by decide +kernel
theorem dX1_addParts_51 : decode cX1_addParts 51 = .ok (.iload_n 1, 1) := by decide +kernel
theorem dX1_addParts_52 : decode cX1_addParts 52 = .ok (.iload 4, 2) := by decide +kernel
theorem dX1_addParts_54 : decode cX1_addParts 54 = .ok (.invokestatic 232, 3) := by decide +kernel
theorem dX1_addParts_57 : decode cX1_addParts 57 = .ok (.istore 5, 2) := by decide +kernel
theorem dX1_addParts_59 : decode cX1_addParts 59 = .ok (.iconst 0, 1) := by decide +kernel
theorem dX1_addParts_60 : decode cX1_addParts 60 = .ok (.istore 6, 2) := by decide +kernel
theorem dX1_addParts_62 : decode cX1_addParts 62 = .ok (.iload 6, 2) := by decide +kernel
theorem dX1_addParts_64 : decode cX1_addParts 64 = .ok (.iload 5, 2) := by decide +kernel
theorem dX1_addParts_66 : decode cX1_addParts 66 = .ok (.if_icmp .ge 67, 3) := by decide +kernel
theorem dX1_addParts_69 : decode cX1_addParts 69 = .ok (.iload 6, 2) := by decide +kernel
theorem dX1_addParts_71 : decode cX1_addParts 71 = .ok (.ifCond .le 9, 3) := by decide +kernel
theorem dX1_addParts_74 : decode cX1_addParts 74 = .ok (.aload_n 3, 1) := by decide +kernel
theorem dX1_addParts_75 : decode cX1_addParts 75 = .ok (.bipush 46, 2) := by decide +kernel
theorem dX1_addParts_77 : decode cX1_addParts 77 = .ok (.invokevirtual 98, 3) := by decide +kernel
theorem dX1_addParts_80 : decode cX1_addParts 80 = .ok (.aload_n 0, 1) := by decide +kernel
theorem dX1_addParts_81 : decode cX1_addParts 81 = .ok (.iload_n 2, 1) := by decide +kernel
theorem dX1_addParts_82 : decode cX1_addParts 82 = .ok (.ifCond .eq 13, 3) := by decide +kernel
theorem dX1_addParts_85 : decode cX1_addParts 85 = .ok (.iload 5, 2) := by decide +kernel
theorem dX1_addParts_87 : decode cX1_addParts 87 = .ok (.iconst 1, 1) := by decide +kernel
theorem dX1_addParts_88 : decode cX1_addParts 88 = .ok (.isub, 1) := by decide +kernel
theorem dX1_addParts_89 : decode cX1_addParts 89 = .ok (.iload 6, 2) := by decide +kernel
theorem dX1_addParts_91 : decode cX1_addParts 91 = .ok (.isub, 1) := by decide +kernel
theorem dX1_addParts_92 : decode cX1_addParts 92 = .ok (.goto 11, 3) := by decide +kernel
theorem dX1_addParts_95 : decode cX1_addParts 95 = .ok (.iload 4, 2) := by decide +kernel
theorem dX1_addParts_97 : decode cX1_addParts 97 = .ok (.iload 5, 2) := by decide +kernel
theorem dX1_addParts_99 : decode cX1_addParts 99 = .ok (.isub, 1) := by decide +kernel
theorem dX1_addParts_100 : decode cX1_addParts 100 = .ok (.iload 6, 2) := by decide +kernel
theorem dX1_addParts_102 : decode cX1_addParts 102 = .ok (.iadd, 1) := by decide +kernel
theorem dX1_addParts_103 : decode cX1_addParts 103 = .ok (.invokevirtual 235, 3) := by decide +kernel
theorem dX1_addParts_106 : decode cX1_addParts 106 = .ok (.istore 7, 2) := by decide +kernel
theorem dX1_addParts_108 : decode cX1_addParts 108 = .ok (.aload_n 3, 1) := by decide +kernel
theorem dX1_addParts_109 : decode cX1_addParts 109 = .ok (.aload_n 0, 1) := by decide +kernel
theorem dX1_addParts_110 : decode cX1_addParts 110 = .ok (.iload 7, 2) := by decide +kernel
theorem dX1_addParts_112 : decode cX1_addParts 112 = .ok (.aload_n 0, 1) := by decide +kernel
theorem dX1_addParts_113 : decode cX1_addParts 113 = .ok (.bipush 46, 2) := by decide +kernel
theorem dX1_addParts_115 : decode cX1_addParts 115 = .ok (.iload 7, 2) := by decide +kernel
theorem dX1_addParts_117 : decode cX1_addParts 117 = .ok (.aload_n 0, 1) := by decide +kernel
theorem dX1_addParts_118 : decode cX1_addParts 118 = .ok (.getfield 58, 3) := by decide +kernel
theorem dX1_addParts_121 : decode cX1_addParts 121 = .ok (.invokevirtual 61, 3) := by decide +kernel
theorem dX1_addParts_124 : decode cX1_addParts 124 = .ok (.invokevirtual 80, 3) := by decide +kernel
theorem dX1_addParts_127 : decode cX1_addParts 127 = .ok (.iinc 6 1, 3) := by decide +kernel
theorem dX1_addParts_130 : decode cX1_addParts 130 = .ok (.goto (-68), 3) := by decide +kernel
theorem dX1_addParts_133 : decode cX1_addParts 133 = .ok (.return_, 1) := by decide +kernel
theorem dX1_answerOf_0 : decode cX1_answerOf 0 = .ok (.iload_n 0, 1) := by decide +kernel
theorem dX1_answerOf_1 : decode cX1_answerOf 1 = .ok (.lookupswitch 41 #[(45, 39), (63, 35), (126, 37)], 35) := by decide +kernel
theorem dX1_answerOf_36 : decode cX1_answerOf 36 = .ok (.iconst 1, 1) := by decide +kernel
theorem dX1_answerOf_37 : decode cX1_answerOf 37 = .ok (.ireturn, 1) := by decide +kernel
theorem dX1_answerOf_38 : decode cX1_answerOf 38 = .ok (.iconst 4, 1) := by decide +kernel
theorem dX1_answerOf_39 : decode cX1_answerOf 39 = .ok (.ireturn, 1) := by decide +kernel
theorem dX1_answerOf_40 : decode cX1_answerOf 40 = .ok (.iconst 3, 1) := by decide +kernel
theorem dX1_answerOf_41 : decode cX1_answerOf 41 = .ok (.ireturn, 1) := by decide +kernel
theorem dX1_answerOf_42 : decode cX1_answerOf 42 = .ok (.iconst 2, 1) := by decide +kernel
theorem dX1_answerOf_43 : decode cX1_answerOf 43 = .ok (.ireturn, 1) := by decide +kernel
theorem dX1_pieceOf_0 : decode cX1_pieceOf 0 = .ok (.iload_n 1, 1) := by decide +kernel
theorem dX1_pieceOf_1 : decode cX1_pieceOf 1 = .ok (.lookupswitch 63 #[(105, 58), (108, 48), (111, 53), (115, 43)], 43) := by decide +kernel
theorem dX1_pieceOf_44 : decode cX1_pieceOf 44 = .ok (.aload_n 0, 1) := by decide +kernel
theorem dX1_pieceOf_45 : decode cX1_pieceOf 45 = .ok (.getfield 16, 3) := by decide +kernel
theorem dX1_pieceOf_48 : decode cX1_pieceOf 48 = .ok (.areturn, 1) := by decide +kernel
theorem dX1_pieceOf_49 : decode cX1_pieceOf 49 = .ok (.aload_n 0, 1) := by decide +kernel
theorem dX1_pieceOf_50 : decode cX1_pieceOf 50 = .ok (.getfield 20, 3) := by decide +kernel
theorem dX1_pieceOf_53 : decode cX1_pieceOf 53 = .ok (.areturn, 1) := by decide +kernel
theorem dX1_pieceOf_54 : decode cX1_pieceOf 54 = .ok (.aload_n 0, 1) := by decide +kernel
theorem dX1_pieceOf_55 : decode cX1_pieceOf 55 = .ok (.getfield 23, 3) := by decide +kernel
theorem dX1_pieceOf_58 : decode cX1_pieceOf 58 = .ok (.areturn, 1) := by decide +kernel
theorem dX1_pieceOf_59 : decode cX1_pieceOf 59 = .ok (.aload_n 0, 1) := by decide +kernel
theorem dX1_pieceOf_60 : decode cX1_pieceOf 60 = .ok (.getfield 26, 3) := by decide +kernel
theorem dX1_pieceOf_63 : decode cX1_pieceOf 63 = .ok (.areturn, 1) := by decide +kernel
theorem dX1_pieceOf_64 : decode cX1_pieceOf 64 = .ok (.aload_n 0, 1) := by decide +kernel
theorem dX1_pieceOf_65 : decode cX1_pieceOf 65 = .ok (.getfield 29, 3) := by decide +kernel
theorem dX1_pieceOf_68 : decode cX1_pieceOf 68 = .ok (.iload_n 2, 1) := by decide +kernel
theorem dX1_pieceOf_69 : decode cX1_pieceOf 69 = .ok (.aaload, 1) := by decide +kernel
theorem dX1_pieceOf_70 : decode cX1_pieceOf 70 = .ok (.areturn, 1) := by decide +kernel
theorem dX1_readTerms_0 : decode cX1_readTerms 0 = .ok (.iconst 0, 1) := by decide +kernel
theorem dX1_readTerms_1 : decode cX1_readTerms 1 = .ok (.istore_n 2, 1) := by decide +kernel
theorem dX1_readTerms_2 : decode cX1_readTerms 2 = .ok (.ldc 110, 2) := by decide +kernel
theorem dX1_readTerms_4 : decode cX1_readTerms 4 = .ok (.invokevirtual 124, 3) := by decide +kernel
theorem dX1_readTerms_7 : decode cX1_readTerms 7 = .ok (.iconst 1, 1) := by decide +kernel
theorem dX1_readTerms_8 : decode cX1_readTerms 8 = .ok (.iadd, 1) := by decide +kernel
theorem dX1_readTerms_9 : decode cX1_readTerms 9 = .ok (.istore_n 3, 1) := by decide +kernel
theorem dX1_readTerms_10 : decode cX1_readTerms 10 = .ok (.iload_n 3, 1) := by decide +kernel
theorem dX1_readTerms_11 : decode cX1_readTerms 11 = .ok (.aload_n 0, 1) := by decide +kernel
theorem dX1_readTerms_12 : decode cX1_readTerms 12 = .ok (.getfield 58, 3) := by decide +kernel
theorem dX1_readTerms_15 : decode cX1_readTerms 15 = .ok (.if_icmp .ge 82, 3) := by decide +kernel
theorem dX1_readTerms_18 : decode cX1_readTerms 18 = .ok (.aload_n 0, 1) := by decide +kernel
theorem dX1_readTerms_19 : decode cX1_readTerms 19 = .ok (.iload_n 3, 1) := by decide +kernel
theorem dX1_readTerms_20 : decode cX1_readTerms 20 = .ok (.invokestatic 130, 3) := by decide +kernel
theorem dX1_readTerms_23 : decode cX1_readTerms 23 = .ok (.ifCond .ne 6, 3) := by decide +kernel
theorem dX1_readTerms_26 : decode cX1_readTerms 26 = .ok (.goto 65, 3) := by decide +kernel
theorem dX1_readTerms_29 : decode cX1_readTerms 29 = .ok (.aload_n 1, 1) := by decide +kernel
theorem dX1_readTerms_30 : decode cX1_readTerms 30 = .ok (.aload_n 0, 1) := by decide +kernel
theorem dX1_readTerms_31 : decode cX1_readTerms 31 = .ok (.iload_n 3, 1) := by decide +kernel
theorem dX1_readTerms_32 : decode cX1_readTerms 32 = .ok (.aload_n 0, 1) := by decide +kernel
theorem dX1_readTerms_33 : decode cX1_readTerms 33 = .ok (.bipush 32, 2) := by decide +kernel
theorem dX1_readTerms_35 : decode cX1_readTerms 35 = .ok (.iload_n 3, 1) := by decide +kernel
theorem dX1_readTerms_36 : decode cX1_readTerms 36 = .ok (.aload_n 0, 1) := by decide +kernel
theorem dX1_readTerms_37 : decode cX1_readTerms 37 = .ok (.getfield 58, 3) := by decide +kernel
theorem dX1_readTerms_40 : decode cX1_readTerms 40 = .ok (.invokevirtual 61, 3) := by decide +kernel
theorem dX1_readTerms_43 : decode cX1_readTerms 43 = .ok (.invokevirtual 133, 3) := by decide +kernel
theorem dX1_readTerms_46 : decode cX1_readTerms 46 = .ok (.aload_n 1, 1) := by decide +kernel
theorem dX1_readTerms_47 : decode cX1_readTerms 47 = .ok (.getfield 149, 3) := by decide +kernel
theorem dX1_readTerms_50 : decode cX1_readTerms 50 = .ok (.bipush 7, 2) := by decide +kernel
theorem dX1_readTerms_52 : decode cX1_readTerms 52 = .ok (.if_icmp .ne 7, 3) := by decide +kernel
theorem dX1_readTerms_55 : decode cX1_readTerms 55 = .ok (.iconst 1, 1) := by decide +kernel
theorem dX1_readTerms_56 : decode cX1_readTerms 56 = .ok (.goto 4, 3) := by decide +kernel
theorem dX1_readTerms_59 : decode cX1_readTerms 59 = .ok (.iconst 0, 1) := by decide +kernel
theorem dX1_readTerms_60 : decode cX1_readTerms 60 = .ok (.istore 4, 2) := by decide +kernel
theorem dX1_readTerms_62 : decode cX1_readTerms 62 = .ok (.aload_n 1, 1) := by decide +kernel
theorem dX1_readTerms_63 : decode cX1_readTerms 63 = .ok (.getfield 149, 3) := by decide +kernel
theorem dX1_readTerms_66 : decode cX1_readTerms 66 = .ok (.ifCond .eq 12, 3) := by decide +kernel
theorem dX1_readTerms_69 : decode cX1_readTerms 69 = .ok (.iload 4, 2) := by decide +kernel
theorem dX1_readTerms_71 : decode cX1_readTerms 71 = .ok (.ifCond .eq 9, 3) := by decide +kernel
theorem dX1_readTerms_74 : decode cX1_readTerms 74 = .ok (.iload_n 2, 1) := by decide +kernel
theorem dX1_readTerms_75 : decode cX1_readTerms 75 = .ok (.ifCond .eq 5, 3) := by decide +kernel
theorem dX1_readTerms_78 : decode cX1_readTerms 78 = .ok (.iconst (-1), 1) := by decide +kernel
theorem dX1_readTerms_79 : decode cX1_readTerms 79 = .ok (.ireturn, 1) := by decide +kernel
theorem dX1_readTerms_80 : decode cX1_readTerms 80 = .ok (.iload 4, 2) := by decide +kernel
theorem dX1_readTerms_82 : decode cX1_readTerms 82 = .ok (.ifCond .eq 7, 3) := by decide +kernel
theorem dX1_readTerms_85 : decode cX1_readTerms 85 = .ok (.iload_n 3, 1) := by decide +kernel
theorem dX1_readTerms_86 : decode cX1_readTerms 86 = .ok (.goto 4, 3) := by decide +kernel
theorem dX1_readTerms_89 : decode cX1_readTerms 89 = .ok (.iload_n 2, 1) := by decide +kernel
theorem dX1_readTerms_90 : decode cX1_readTerms 90 = .ok (.istore_n 2, 1) := by decide +kernel
theorem dX1_readTerms_91 : decode cX1_readTerms 91 = .ok (.iinc 3 1, 3) := by decide +kernel
theorem dX1_readTerms_94 : decode cX1_readTerms 94 = .ok (.goto (-84), 3) := by decide +kernel
theorem dX1_readTerms_97 : decode cX1_readTerms 97 = .ok (.iload_n 2, 1) := by decide +kernel
theorem dX1_readTerms_98 : decode cX1_readTerms 98 = .ok (.ireturn, 1) := by decide +kernel
theorem kt_325 : Cond.methodLink RX1 124 yJ0_length_8abf5 ∈ tb := tb_at (i := 679) (by decide +kernel) (by decide +kernel)
theorem kt_326 : Cond.code yX1_startsTerm cX1_startsTerm 2 (some .boolean) ∈ tb := tb_at (i := 682) (by decide +kernel) (by decide +kernel)
theorem kt_327 : Cond.methodLink RX1 130 yX1_startsTerm ∈ tb := tb_at (i := 680) (by decide +kernel) (by decide +kernel)
theorem kt_328 : Cond.static yX1_startsTerm ∈ tb := tb_at (i := 681) (by decide +kernel) (by decide +kernel)
theorem kt_329 : Cond.code yX10_read cX10_read 6 none ∈ tb := tb_at (i := 686) (by decide +kernel) (by decide +kernel)
theorem kt_330 : Cond.methodLink RX1 133 yX10_read ∈ tb := tb_at (i := 683) (by decide +kernel) (by decide +kernel)
theorem kt_331 : Cond.instanceMethod yX10_read ∈ tb := tb_at (i := 684) (by decide +kernel) (by decide +kernel)
theorem kt_332 : Cond.selects RX10 yX10_read yX10_read ∈ tb := tb_at (i := 685) (by decide +kernel) (by decide +kernel)
theorem kt_333 : Cond.code yX0_partStart cX0_partStart 4 (some .int) ∈ tb := tb_at (i := 763) (by decide +kernel) (by decide +kernel)
theorem kt_334 : Cond.methodLink RX1 235 yX0_partStart ∈ tb := tb_at (i := 760) (by decide +kernel) (by decide +kernel)
theorem kt_335 : Cond.instanceMethod yX0_partStart ∈ tb := tb_at (i := 761) (by decide +kernel) (by decide +kernel)
theorem kt_336 : Cond.selects RX0 yX0_partStart yX0_partStart ∈ tb := tb_at (i := 762) (by decide +kernel) (by decide +kernel)
theorem kt_337 : Cond.methodLink RX1 232 Lib.Math.min.name ∈ tb := tb_at (i := 759) (by decide +kernel) (by decide +kernel)
theorem kt_338 : Cond.fieldLink RX1 29 "PostGate$Checker" "names" "[LPostGate$Bytes;" ∈ tb := tb_at (i := 227) (by decide +kernel) (by decide +kernel)
theorem kn_8 : Cond.fieldLinkNest RX1 149 "PostGate$Term" "kind" "I" "PostGate" ∈ nw := nw_at (i := 117) (by decide +kernel) rfl
theorem lk3 {x : Int32} (a b c df k1 k2 k3 : Int) (h1 : ¬ x.toInt = k1) (h2 : ¬ x.toInt = k2) (h3 : ¬ x.toInt = k3) : Op.lookupswitch.offset [(k1, a), (k2, b), (k3, c)] df x.toInt = df := by
  simp [Op.lookupswitch.offset, h1, h2, h3, Ne.symm, eq_comm]
  <;> omega
theorem lk4 {x : Int32} (a b c d df k1 k2 k3 k4 : Int) (h1 : ¬ x.toInt = k1) (h2 : ¬ x.toInt = k2) (h3 : ¬ x.toInt = k3) (h4 : ¬ x.toInt = k4) : Op.lookupswitch.offset [(k1, a), (k2, b), (k3, c), (k4, d)] df x.toInt = df := by
  simp [Op.lookupswitch.offset, h1, h2, h3, h4, Ne.symm, eq_comm]
  <;> omega
set_option maxHeartbeats 4000000 in
set_option maxRecDepth 100000 in
theorem s_X1_answerOf (l : Launch) (dC : Nat → ClassId) (dI : Nat → Nat → Nat) (cs : Nat → ClassId) (ty : TyM) (L : List Nat) (sz : Nat) (F : Nat → va_E) (x1 : Int32) (hW : WT ty L) : Met l yX1_answerOf (.code yX1_answerOf cX1_answerOf 1 (some .int) :: tb) ({ frames := 0, cells := 0, slots := 0, locals := 0 }) (va_Pc [.int x1] (PT (dC, dI) cs ty L F sz)) (va_Qi (fun (r : Int32) (_ : Unit) => True) (fun _ T9 => ∃ F2 : Nat → va_E, QT (dC, dI) cs ty L [] F F2 (va_A (va_pl L F) sz) T9) (va_A (va_pl L F) sz)) 0 0 (va_A (va_pl L F) sz) := by
  refine Met.ofW (cc := cX1_answerOf) (maxL := 1) (ret := (some .int)) (by decide) rfl ?_
  intro p e s m args below meth c s₁ B hml hv
  obtain ⟨rfl, hsz, hP, hK, hD0, hE, hO⟩ := hv
  have hx := B.exec
  have hb := B.bytes
  have hr := B.returns
  have hts : ∀ w ∈ tb, w.before _ s = true := fun w h => atoms_spec (ws := .code yX1_answerOf cX1_answerOf 1 (some .int) :: tb) B.pre w (List.mem_cons_of_mem _ h)
  have hown : s.vm.findClass RX1 = some m.cls := findClass_of_methodNamed B.named
  have hlocks := B.notSynchronized
  subst hsz
  have hD := hD0.self (sz := s.heap.size)
  generalize hAe : va_A (va_pl L F) s.heap.size = A at hD ⊢
  have hA : ∀ q : Nat, s.heap.size ≤ q → A q := fun q h => by rw [← hAe]; exact Or.inr h
  have hS : va_S A s.heap s.heap [] := va_S.rf
  have hR : FR ty [] F F := FR.refl
  have hl := lv_entry ([.int x1]) (n := 1) (Nat.le_of_ble_eq_true rfl)
  rw [lg_entry_eq]
  generalize (lg_sl ([.int x1]) ++ List.replicate (1 - (lg_sl ([.int x1])).length) Slot.unset).toArray = ls at hl ⊢
  have hl : lv_has ls 1 [(0, .int x1)] := hl
  refine lv_iload_n hx hb dX1_answerOf_0 rfl (lv_at hl 0 rfl) ?_
  by_cases c_1 : x1 = 45
  ·
    refine lv_lookup (off := 39) (tgt := 40) hx hb dX1_answerOf_1 (by decide) (by rw [c_1]; decide) (by decide) ?_
    refine lv_iconst (v := 3) hx hb dX1_answerOf_40 (by decide) ?_
    refine W.widen (k := 0) (n := 0) (by omega) (by omega) ?_
    exact W.iret (v := 3) hx hb hr (fun t ht hWm => ⟨⟨3, (), rfl, trivial, ⟨F, QT.mk ht hP hD hO hR⟩⟩, hS.F ht⟩) hS.2.2 dX1_answerOf_41
  ·
    by_cases c_2 : x1 = 63
    ·
      refine lv_lookup (off := 35) (tgt := 36) hx hb dX1_answerOf_1 (by decide) (by rw [c_2]; decide) (by decide) ?_
      refine lv_iconst (v := 1) hx hb dX1_answerOf_36 (by decide) ?_
      refine W.widen (k := 0) (n := 0) (by omega) (by omega) ?_
      exact W.iret (v := 1) hx hb hr (fun t ht hWm => ⟨⟨1, (), rfl, trivial, ⟨F, QT.mk ht hP hD hO hR⟩⟩, hS.F ht⟩) hS.2.2 dX1_answerOf_37
    ·
      by_cases c_3 : x1 = 126
      ·
        refine lv_lookup (off := 37) (tgt := 38) hx hb dX1_answerOf_1 (by decide) (by rw [c_3]; decide) (by decide) ?_
        refine lv_iconst (v := 4) hx hb dX1_answerOf_38 (by decide) ?_
        refine W.widen (k := 0) (n := 0) (by omega) (by omega) ?_
        exact W.iret (v := 4) hx hb hr (fun t ht hWm => ⟨⟨4, (), rfl, trivial, ⟨F, QT.mk ht hP hD hO hR⟩⟩, hS.F ht⟩) hS.2.2 dX1_answerOf_39
      ·
        refine lv_lookup (off := 41) (tgt := 42) hx hb dX1_answerOf_1 (by decide) (lk3 _ _ _ _ _ _ _ (fun h => c_1 (Int32.toInt_inj.mp h)) (fun h => c_2 (Int32.toInt_inj.mp h)) (fun h => c_3 (Int32.toInt_inj.mp h))) (by decide) ?_
        refine lv_iconst (v := 2) hx hb dX1_answerOf_42 (by decide) ?_
        refine W.widen (k := 0) (n := 0) (by omega) (by omega) ?_
        exact W.iret (v := 2) hx hb hr (fun t ht hWm => ⟨⟨2, (), rfl, trivial, ⟨F, QT.mk ht hP hD hO hR⟩⟩, hS.F ht⟩) hS.2.2 dX1_answerOf_43
set_option maxHeartbeats 4000000 in
set_option maxRecDepth 100000 in
theorem s_X1_readTerms (l : Launch) (dC : Nat → ClassId) (dI : Nat → Nat → Nat) (cs : Nat → ClassId) (ty : TyM) (L : List Nat) (sz : Nat) (F : Nat → va_E) (g1 : Nat) (σ : Nat) (r1 : Nat) (n1 : Nat) (tm : Nat) (τ : Nat) (hW : WT ty L) (hL_g1 : g1 ∈ L) (hT_g1 : ty g1 = (0, σ, [r1, n1])) (hL_tm : tm ∈ L) (hT_tm : ty tm = (10, τ, [])) : Met l yX1_readTerms (.code yX1_readTerms cX1_readTerms 5 (some .int) :: tb) ({ frames := 8, cells := 0, slots := 0, locals := 183 }) (va_Pc [.ref g1, .ref tm] (PTE (dC, dI) cs ty L F sz [])) (va_Qi (fun (r : Int32) (_ : Unit) => True) (fun _ T9 => ∃ F2 : Nat → va_E, QT (dC, dI) cs ty L [τ] F F2 (va_A (va_pl L F) sz) T9) (va_A (va_pl L F) sz)) 0 0 (va_A (va_pl L F) sz) := by
  refine Met.ofW (cc := cX1_readTerms) (maxL := 5) (ret := (some .int)) (by decide) rfl ?_
  intro p e s m args below meth c s₁ B hml hv
  obtain ⟨rfl, ⟨hsz, hP, hK, hD0, hE, hO⟩, hG, hX⟩ := hv
  have hx := B.exec
  have hb := B.bytes
  have hr := B.returns
  have hts : ∀ w ∈ tb, w.before _ s = true := fun w h => atoms_spec (ws := .code yX1_readTerms cX1_readTerms 5 (some .int) :: tb) B.pre w (List.mem_cons_of_mem _ h)
  have hown : s.vm.findClass RX1 = some m.cls := findClass_of_methodNamed B.named
  have hlocks := B.notSynchronized
  subst hsz
  have hD := hD0.self (sz := s.heap.size)
  generalize hAe : va_A (va_pl L F) s.heap.size = A at hD hG hX ⊢
  have hA : ∀ q : Nat, s.heap.size ≤ q → A q := fun q h => by rw [← hAe]; exact Or.inr h
  have hS : va_S A s.heap s.heap [] := va_S.rf
  have hR : FR ty [τ] F F := FR.refl
  have hl := lv_entry ([.ref g1, .ref tm]) (n := 5) (Nat.le_of_ble_eq_true rfl)
  rw [lg_entry_eq]
  generalize (lg_sl ([.ref g1, .ref tm]) ++ List.replicate (5 - (lg_sl ([.ref g1, .ref tm])).length) Slot.unset).toArray = ls at hl ⊢
  have hl : lv_has ls 5 [(0, .ref g1), (1, .ref tm)] := hl
  refine lv_iconst (v := 0) hx hb dX1_readTerms_0 (by decide) ?_
  refine lv_istore_n (lv' := [(2, .int 0), (0, .ref g1), (1, .ref tm)]) hx hb dX1_readTerms_1 rfl hl (by decide) rfl (fun ls hl => ?_)
  obtain ⟨q_1, v_2, hr_q_1, hXc_q_1⟩ := hG.2.2.2.2 ("PostGate$Checker", 110, "v=spf1", [118, 61, 115, 112, 102, 49]) (by decide +kernel)
  have hXc_q_1 : SXc q_1 v_2 6 (cct [118, 61, 115, 112, 102, 49]) A s s.heap := hXc_q_1
  have hX_q_1 : SX q_1 v_2 6 A s s.heap := hXc_q_1.sx
  obtain ⟨xo_q_1, xc_q_1, xv_q_1, xt_q_1, xn_q_1⟩ := id hXc_q_1
  have hr_q_1 : vk_R "PostGate$Checker" 110 "v=spf1" q_1 s := hr_q_1
  refine va_ldcS hx hb hown hr_q_1 dX1_readTerms_2 ?_
  have hFc := pg_free hD hS hA
  refine va_calli (va_runV (As := []) (rest := []) ⟨hx, hb, hml, hown, hts⟩ (s_J0_length_8abf5 l dC dI cs ty L s.heap.size F q_1 v_2 6 hW ) ⟨callB_of 0 hts (gi kt_71) rfl rfl rfl (hts _ kt_51) (hts _ kt_325) (by decide +kernel) ⟨Nat.le_of_ble_eq_true rfl, Nat.le_of_ble_eq_true rfl⟩, (hts _ kt_73), (hts _ kt_74)⟩ ⟨fun a U g mk q => ⟨q.1, PTE.calling q.2⟩, sx_recv hX_q_1 hS, fun U hU hWm => ⟨rfl, PTE.mk hU hWm hP hK hD hE hO hG (fun x hx => by rw [List.mem_singleton] at hx; subst hx; exact hX_q_1) hS hFc⟩⟩ rfl rfl hl.1 rfl (lv_room (Nat.le_of_ble_eq_true rfl)) dX1_readTerms_4 ⟨by show _ + 0 ≤ 0; omega, by show _ + 0 ≤ 0; omega⟩) hS (fun q _ h => hFc q h) hFc (fun r_3 u t H1 locs ht hvm hw hB hz1 hk1 hS => ?_)
  obtain ⟨F_4, hB1⟩ := hB
  obtain ⟨hP, hD, hO, hR⟩ := QT.back hB1 ht hFc hR (fun q h => absurd h List.not_mem_nil)
  generalize H1 = H at hP hS ⊢
  have hw : r_3 = nI 6 := hw
  have hw_5 := hw
  refine lv_iconst (v := 1) hx hb dX1_readTerms_7 (by decide) ?_
  refine lv_iadd hx hb dX1_readTerms_8 ?_
  refine lv_topi (fun x_6 ex_6 => ?_)
  obtain rfl : x_6 = (nI 7) := ex_6.trans (by rw [hw_5]; decide)
  refine lv_istore_n (lv' := [(3, .int (nI 7)), (2, .int 0), (0, .ref g1), (1, .ref tm)]) hx hb dX1_readTerms_9 rfl hl (by decide) rfl (fun ls hl => ?_)
  refine W.widen (k := 0) (n := 0) (by omega) (by omega) ?_
  refine pl_loop (σ := Nat × Int32) A (dC, dI) cs ty L [τ] F 10 5 (fun (j, w2) => [(3, .int (nI j)), (2, .int w2), (0, .ref g1), (1, .ref tm)]) (fun (j, w2) => []) (fun (j, w2) _ => j ≤ 10000) (fun (j, w2) => 10000 - j) ?_ (7, 0) F_4 (by omega) hO hR _ _ hP hD hS ls (lv_sub hl [0, 1, 2, 3] rfl)
  rintro ⟨j, w2⟩ F_7 hv_8 hO hR ih_9 H locs hP hD hS ls hl
  have hl : lv_has ls 5 [(3, .int (nI j)), (2, .int w2), (0, .ref g1), (1, .ref tm)] := hl
  have hv_8 : j ≤ 10000 := hv_8
  refine W.eq (g2 := F0 m 10 ls []) rfl ?_
  refine lv_iload_n hx hb dX1_readTerms_10 rfl (lv_at hl 0 rfl) ?_
  refine lv_aload_n hx hb dX1_readTerms_11 rfl (lv_at hl 2 rfl) ?_
  obtain ⟨hi_10, ht_11, hq_12⟩ := hW.bytes hL_g1 hT_g1
  obtain ⟨z_13, o_14, hF_15, hq_16, hq_17⟩ := hO.bytes hL_g1 hT_g1
  refine pg_getN (ci := 0) (v := .int (nI z_13)) (C := RX0) (T := TX0) (N := 3) hx hb hts it_0 hown hK hP hL_g1 hF_15 rfl 1 (by decide) (hE.nest kn_7) (fun _ h9 => h9) rfl dX1_readTerms_12 ?_
  refine lv_icmp_ge (tgt := 97) hx hb dX1_readTerms_15 (by decide) (fun c_18 => ?_) (fun c_18 => ?_)
  ·
    have hi_19 : z_13 ≤ j := leN (N := z_13) c_18
    refine lv_iload_n hx hb dX1_readTerms_97 rfl (lv_at hl 1 rfl) ?_
    refine W.widen (k := 0) (n := 0) (by omega) (by omega) ?_
    exact W.iret (v := w2) hx hb hr (fun t ht hWm => ⟨⟨w2, (), rfl, trivial, ⟨F_7, QT.mk ht hP hD hO hR⟩⟩, hS.F ht⟩) hS.2.2 dX1_readTerms_98
  ·
    have hi_20 : j < z_13 := ltN (N := z_13) c_18
    refine lv_aload_n hx hb dX1_readTerms_18 rfl (lv_at hl 2 rfl) ?_
    refine lv_iload_n hx hb dX1_readTerms_19 rfl (lv_at hl 0 rfl) ?_
    have hFc := pg_free hD hS hA
    refine va_calli (va_runS (As := [.ref g1, .int (nI j)]) (rest := []) ⟨hx, hb, hml, hown, hts⟩ (s_X1_startsTerm l dC dI cs ty L H.size F_7 g1 σ r1 n1 (nI j) hW hL_g1 hT_g1) ⟨callB_of 2 hts (gi kt_326) rfl rfl rfl (hts _ kt_310) (hts _ kt_327) (by decide +kernel) ⟨Nat.le_of_ble_eq_true rfl, Nat.le_of_ble_eq_true rfl⟩, (hts _ kt_328)⟩ ⟨fun a U g mk q => ⟨q.1, PT.calling q.2⟩, fun U hU hWm => ⟨rfl, PT.mk hU hWm hP hK hD hE hO⟩⟩ rfl rfl hl.1 rfl (lv_room (Nat.le_of_ble_eq_true rfl)) dX1_readTerms_20 ⟨by show _ + 0 ≤ 0; omega, by show _ + 0 ≤ 0; omega⟩) hS (fun q _ h => hFc q h) hFc (fun r_21 u t H1 locs ht hvm hw hB hz1 hk1 hS => ?_)
    obtain ⟨F_22, hB1⟩ := hB
    obtain ⟨hP, hD, hO, hR⟩ := QT.back hB1 ht hFc hR (fun q h => absurd h List.not_mem_nil)
    have hF_23 : F_22 g1 = .inr (0, [.ref r1, .int (nI z_13), .int o_14]) := (hB1.2.2.2 g1 List.not_mem_nil).trans hF_15
    generalize H1 = H at hP hS ⊢
    have hw : (r_21 = 0 ∨ r_21 = 1) := hw
    have hw_24 := hw
    refine lv_if_ne (tgt := 29) hx hb dX1_readTerms_23 (by decide) (fun c_25 => ?_) (fun c_25 => ?_)
    ·
      refine lv_aload_n hx hb dX1_readTerms_29 rfl (lv_at hl 3 rfl) ?_
      refine lv_aload_n hx hb dX1_readTerms_30 rfl (lv_at hl 2 rfl) ?_
      refine lv_iload_n hx hb dX1_readTerms_31 rfl (lv_at hl 0 rfl) ?_
      refine lv_aload_n hx hb dX1_readTerms_32 rfl (lv_at hl 2 rfl) ?_
      refine lv_bipush (v := 32) hx hb dX1_readTerms_33 (by decide) ?_
      refine lv_iload_n hx hb dX1_readTerms_35 rfl (lv_at hl 0 rfl) ?_
      refine lv_aload_n hx hb dX1_readTerms_36 rfl (lv_at hl 2 rfl) ?_
      refine pg_getN (ci := 0) (v := .int (nI z_13)) (C := RX0) (T := TX0) (N := 3) hx hb hts it_0 hown hK hP hL_g1 hF_23 rfl 1 (by decide) (hE.nest kn_7) (fun _ h9 => h9) rfl dX1_readTerms_37 ?_
      have hFc := pg_free hD hS hA
      refine va_calli (va_runV (As := [.int 32, .int (nI j), .int (nI z_13)]) (rest := [.int (nI j), .ref g1, .ref tm]) ⟨hx, hb, hml, hown, hts⟩ (s_X0_find l dC dI cs ty L H.size F_22 g1 σ r1 n1 32 (nI j) (nI z_13) hW hL_g1 hT_g1) ⟨callB_of 3 hts (gi kt_122) rfl rfl rfl (hts _ kt_1) (hts _ kt_308) (by decide +kernel) ⟨Nat.le_of_ble_eq_true rfl, Nat.le_of_ble_eq_true rfl⟩, (hts _ kt_124), (hts _ kt_125)⟩ ⟨fun a U g mk q => ⟨q.1, PT.calling q.2⟩, pg_recv hK hP hL_g1 hF_23 (q := (RX0, TX0, 3)) rfl, fun U hU hWm => ⟨rfl, PT.mk hU hWm hP hK hD hE hO⟩⟩ rfl rfl hl.1 rfl (lv_room (Nat.le_of_ble_eq_true rfl)) dX1_readTerms_40 ⟨by show _ + 0 ≤ 0; omega, by show _ + 0 ≤ 0; omega⟩) hS (fun q _ h => hFc q h) hFc (fun r_26 u t H1 locs ht hvm hw hB hz1 hk1 hS => ?_)
      obtain ⟨F_27, hB1⟩ := hB
      obtain ⟨hP, hD, hO, hR⟩ := QT.back hB1 ht hFc hR (fun q h => absurd h List.not_mem_nil)
      have hF_28 : F_27 g1 = .inr (0, [.ref r1, .int (nI z_13), .int o_14]) := (hB1.2.2.2 g1 List.not_mem_nil).trans hF_23
      generalize H1 = H at hP hS ⊢
      have hw : (r_26 = (nI z_13) ∨ ∃ j : Nat, j < n1 ∧ r_26 = nI j) := hw
      have hw_29 := hw
      obtain ⟨t_30, ht_30, et_30⟩ := fnd hw_29 (by omega) (by omega)
      subst et_30
      have hFc := pg_free hD hS hA
      obtain ⟨v0_31, v1_32, v2_33, z_34, v4_35, v5_36, hF_37, hq_38⟩ := hO.term hL_tm hT_tm
      refine va_callv (va_runV (As := [.ref g1, .int (nI j), .int (nI t_30)]) (rest := []) ⟨hx, hb, hml, hown, hts⟩ (s_X10_read l dC dI cs ty L H.size F_27 tm τ g1 σ r1 n1 t_30 (nI j) hW hL_tm hT_tm hL_g1 hT_g1 (by omega)) ⟨callB_of 3 hts (gi kt_329) rfl rfl rfl (hts _ kt_90) (hts _ kt_330) (by decide +kernel) ⟨Nat.le_of_ble_eq_true rfl, Nat.le_of_ble_eq_true rfl⟩, (hts _ kt_331), (hts _ kt_332)⟩ ⟨fun a U g mk q => ⟨q.1, PTE.calling q.2⟩, pg_recv hK hP hL_tm hF_37 (q := (RX10, TX10, 6)) rfl, fun U hU hWm => ⟨rfl, PTE.mk hU hWm hP hK hD hE hO hG (fun x hx => absurd hx List.not_mem_nil) hS hFc⟩⟩ rfl rfl hl.1 rfl (lv_room (Nat.le_of_ble_eq_true rfl)) dX1_readTerms_43 ⟨by show _ + 0 ≤ 0; omega, by show _ + 0 ≤ 0; omega⟩) hS (fun q _ h => hFc q h) hFc (fun u t H1 locs ht hvm hw hB hz1 hk1 hS => ?_)
      obtain ⟨F_40, hB1⟩ := hB
      obtain ⟨hP, hD, hO, hR⟩ := QT.back hB1 ht hFc hR (fun q h => by simp only [List.mem_cons, List.not_mem_nil, or_false] at h ⊢; omega)
      generalize H1 = H at hP hS ⊢
      refine lv_aload_n hx hb dX1_readTerms_46 rfl (lv_at hl 3 rfl) ?_
      obtain ⟨v0_41, v1_42, v2_43, z_44, v4_45, v5_46, hF_47, hq_48⟩ := hO.term hL_tm hT_tm
      refine pg_getN (ci := 10) (v := .int v0_41) (C := RX10) (T := TX10) (N := 6) hx hb hts it_10 hown hK hP hL_tm hF_47 rfl 0 (by decide) (hE.nest kn_8) (fun _ h9 => h9) rfl dX1_readTerms_47 ?_
      refine lv_bipush (v := 7) hx hb dX1_readTerms_50 (by decide) ?_
      refine lv_icmp_ne (tgt := 59) hx hb dX1_readTerms_52 (by decide) (fun c_49 => ?_) (fun c_49 => ?_)
      ·
        refine lv_iconst (v := 0) hx hb dX1_readTerms_59 (by decide) ?_
        refine lv_istore (lv' := [(4, .int 0), (3, .int (nI j)), (2, .int w2), (0, .ref g1), (1, .ref tm)]) hx hb dX1_readTerms_60 hl (by decide) rfl (fun ls hl => ?_)
        refine lv_aload_n hx hb dX1_readTerms_62 rfl (lv_at hl 4 rfl) ?_
        refine pg_getN (ci := 10) (v := .int v0_41) (C := RX10) (T := TX10) (N := 6) hx hb hts it_10 hown hK hP hL_tm hF_47 rfl 0 (by decide) (hE.nest kn_8) (fun _ h9 => h9) rfl dX1_readTerms_63 ?_
        refine lv_if_eq (tgt := 78) hx hb dX1_readTerms_66 (by decide) (fun c_50 => ?_) (fun c_50 => ?_)
        ·
          refine lv_iconst (v := (-1)) hx hb dX1_readTerms_78 (by decide) ?_
          refine W.widen (k := 0) (n := 0) (by omega) (by omega) ?_
          exact W.iret (v := (-1)) hx hb hr (fun t ht hWm => ⟨⟨(-1), (), rfl, trivial, ⟨F_40, QT.mk ht hP hD hO hR⟩⟩, hS.F ht⟩) hS.2.2 dX1_readTerms_79
        ·
          refine lv_iload hx hb dX1_readTerms_69 (lv_at hl 0 rfl) ?_
          refine lv_if_eq (tgt := 80) hx hb dX1_readTerms_71 (by decide) (fun c_51 => ?_) (fun c_51 => absurd (by decide) c_51)
          refine lv_iload hx hb dX1_readTerms_80 (lv_at hl 0 rfl) ?_
          refine lv_if_eq (tgt := 89) hx hb dX1_readTerms_82 (by decide) (fun c_52 => ?_) (fun c_52 => absurd (by decide) c_52)
          refine lv_iload_n hx hb dX1_readTerms_89 rfl (lv_at hl 2 rfl) ?_
          refine lv_istore_n (lv' := [(2, .int w2), (4, .int 0), (3, .int (nI j)), (0, .ref g1), (1, .ref tm)]) hx hb dX1_readTerms_90 rfl hl (by decide) rfl (fun ls hl => ?_)
          refine lv_iinc (v := (nI (j + 1))) (lv' := [(3, .int (nI (j + 1))), (2, .int w2), (4, .int 0), (0, .ref g1), (1, .ref tm)]) hx hb dX1_readTerms_91 hl (k := 2) rfl (nI_1 _) (by decide) rfl (fun ls hl => ?_)
          refine lv_goto (tgt := 10) hx hb dX1_readTerms_94 (by decide) ?_
          refine W.widen (k := 0) (n := 0) (by omega) (by omega) ?_
          exact ih_9 ((j + 1), w2) F_40 (by first | omega | exact ⟨by omega, by omega⟩ | trivial) (by show 10000 - (j + 1) < 10000 - j; omega) hO hR _ _ hP hD hS ls (lv_sub hl [0, 1, 3, 4] rfl)
      ·
        refine lv_iconst (v := 1) hx hb dX1_readTerms_55 (by decide) ?_
        refine lv_goto (tgt := 60) hx hb dX1_readTerms_56 (by decide) ?_
        refine lv_istore (lv' := [(4, .int 1), (3, .int (nI j)), (2, .int w2), (0, .ref g1), (1, .ref tm)]) hx hb dX1_readTerms_60 hl (by decide) rfl (fun ls hl => ?_)
        refine lv_aload_n hx hb dX1_readTerms_62 rfl (lv_at hl 4 rfl) ?_
        refine pg_getN (ci := 10) (v := .int v0_41) (C := RX10) (T := TX10) (N := 6) hx hb hts it_10 hown hK hP hL_tm hF_47 rfl 0 (by decide) (hE.nest kn_8) (fun _ h9 => h9) rfl dX1_readTerms_63 ?_
        refine lv_if_eq (tgt := 78) hx hb dX1_readTerms_66 (by decide) (fun c_53 => ?_) (fun c_53 => ?_)
        ·
          refine lv_iconst (v := (-1)) hx hb dX1_readTerms_78 (by decide) ?_
          refine W.widen (k := 0) (n := 0) (by omega) (by omega) ?_
          exact W.iret (v := (-1)) hx hb hr (fun t ht hWm => ⟨⟨(-1), (), rfl, trivial, ⟨F_40, QT.mk ht hP hD hO hR⟩⟩, hS.F ht⟩) hS.2.2 dX1_readTerms_79
        ·
          refine lv_iload hx hb dX1_readTerms_69 (lv_at hl 0 rfl) ?_
          refine lv_if_eq (tgt := 80) hx hb dX1_readTerms_71 (by decide) (fun c_54 => absurd c_54 (by decide)) (fun c_54 => ?_)
          refine lv_iload_n hx hb dX1_readTerms_74 rfl (lv_at hl 2 rfl) ?_
          refine lv_if_eq (tgt := 80) hx hb dX1_readTerms_75 (by decide) (fun c_55 => ?_) (fun c_55 => ?_)
          ·
            refine lv_iload hx hb dX1_readTerms_80 (lv_at hl 0 rfl) ?_
            refine lv_if_eq (tgt := 89) hx hb dX1_readTerms_82 (by decide) (fun c_56 => absurd c_56 (by decide)) (fun c_56 => ?_)
            refine lv_iload_n hx hb dX1_readTerms_85 rfl (lv_at hl 1 rfl) ?_
            refine lv_goto (tgt := 90) hx hb dX1_readTerms_86 (by decide) ?_
            refine lv_istore_n (lv' := [(2, .int (nI j)), (4, .int 1), (3, .int (nI j)), (0, .ref g1), (1, .ref tm)]) hx hb dX1_readTerms_90 rfl hl (by decide) rfl (fun ls hl => ?_)
            refine lv_iinc (v := (nI (j + 1))) (lv' := [(3, .int (nI (j + 1))), (2, .int (nI j)), (4, .int 1), (0, .ref g1), (1, .ref tm)]) hx hb dX1_readTerms_91 hl (k := 2) rfl (nI_1 _) (by decide) rfl (fun ls hl => ?_)
            refine lv_goto (tgt := 10) hx hb dX1_readTerms_94 (by decide) ?_
            refine W.widen (k := 0) (n := 0) (by omega) (by omega) ?_
            exact ih_9 ((j + 1), (nI j)) F_40 (by first | omega | exact ⟨by omega, by omega⟩ | trivial) (by show 10000 - (j + 1) < 10000 - j; omega) hO hR _ _ hP hD hS ls (lv_sub hl [0, 1, 3, 4] rfl)
          ·
            refine lv_iconst (v := (-1)) hx hb dX1_readTerms_78 (by decide) ?_
            refine W.widen (k := 0) (n := 0) (by omega) (by omega) ?_
            exact W.iret (v := (-1)) hx hb hr (fun t ht hWm => ⟨⟨(-1), (), rfl, trivial, ⟨F_40, QT.mk ht hP hD hO hR⟩⟩, hS.F ht⟩) hS.2.2 dX1_readTerms_79
    ·
      refine lv_goto (tgt := 91) hx hb dX1_readTerms_26 (by decide) ?_
      refine lv_iinc (v := (nI (j + 1))) (lv' := [(3, .int (nI (j + 1))), (2, .int w2), (0, .ref g1), (1, .ref tm)]) hx hb dX1_readTerms_91 hl (k := 0) rfl (nI_1 _) (by decide) rfl (fun ls hl => ?_)
      refine lv_goto (tgt := 10) hx hb dX1_readTerms_94 (by decide) ?_
      refine W.widen (k := 0) (n := 0) (by omega) (by omega) ?_
      exact ih_9 ((j + 1), w2) F_22 (by first | omega | exact ⟨by omega, by omega⟩ | trivial) (by show 10000 - (j + 1) < 10000 - j; omega) hO hR _ _ hP hD hS ls (lv_sub hl [0, 1, 2, 3] rfl)
set_option maxHeartbeats 4000000 in
set_option maxRecDepth 100000 in
theorem s_X1_addParts (l : Launch) (dC : Nat → ClassId) (dI : Nat → Nat → Nat) (cs : Nat → ClassId) (ty : TyM) (L : List Nat) (sz : Nat) (F : Nat → va_E) (g1 : Nat) (σ : Nat) (r1 : Nat) (n1 : Nat) (g2 : Nat) (τ : Nat) (r2 : Nat) (n2 : Nat) (x1 : Int32) (x2 : Int32) (hW : WT ty L) (hL_g1 : g1 ∈ L) (hT_g1 : ty g1 = (0, σ, [r1, n1])) (hL_g2 : g2 ∈ L) (hT_g2 : ty g2 = (0, τ, [r2, n2])) : Met l yX1_addParts (.code yX1_addParts cX1_addParts 8 none :: tb) ({ frames := 2, cells := 0, slots := 0, locals := 74 }) (va_Pc [.ref g1, .int x1, .int x2, .ref g2] (PT (dC, dI) cs ty L F sz)) (va_Qv (fun _ : Unit => True) (fun _ T9 => ∃ F2 : Nat → va_E, QT (dC, dI) cs ty L [τ] F F2 (va_A (va_pl L F) sz) T9) (va_A (va_pl L F) sz)) 0 0 (va_A (va_pl L F) sz) := by
  refine Met.ofW (cc := cX1_addParts) (maxL := 8) (ret := none) (by decide) rfl ?_
  intro p e s m args below meth c s₁ B hml hv
  obtain ⟨rfl, hsz, hP, hK, hD0, hE, hO⟩ := hv
  have hx := B.exec
  have hb := B.bytes
  have hr := B.returns
  have hts : ∀ w ∈ tb, w.before _ s = true := fun w h => atoms_spec (ws := .code yX1_addParts cX1_addParts 8 none :: tb) B.pre w (List.mem_cons_of_mem _ h)
  have hown : s.vm.findClass RX1 = some m.cls := findClass_of_methodNamed B.named
  have hlocks := B.notSynchronized
  subst hsz
  have hD := hD0.self (sz := s.heap.size)
  generalize hAe : va_A (va_pl L F) s.heap.size = A at hD ⊢
  have hA : ∀ q : Nat, s.heap.size ≤ q → A q := fun q h => by rw [← hAe]; exact Or.inr h
  have hS : va_S A s.heap s.heap [] := va_S.rf
  have hR : FR ty [τ] F F := FR.refl
  have hl := lv_entry ([.ref g1, .int x1, .int x2, .ref g2]) (n := 8) (Nat.le_of_ble_eq_true rfl)
  rw [lg_entry_eq]
  generalize (lg_sl ([.ref g1, .int x1, .int x2, .ref g2]) ++ List.replicate (8 - (lg_sl ([.ref g1, .int x1, .int x2, .ref g2])).length) Slot.unset).toArray = ls at hl ⊢
  have hl : lv_has ls 8 [(0, .ref g1), (1, .int x1), (2, .int x2), (3, .ref g2)] := hl
  refine lv_iconst (v := 1) hx hb dX1_addParts_0 (by decide) ?_
  refine lv_istore (lv' := [(4, .int 1), (0, .ref g1), (1, .int x1), (2, .int x2), (3, .ref g2)]) hx hb dX1_addParts_1 hl (by decide) rfl (fun ls hl => ?_)
  refine lv_iconst (v := 0) hx hb dX1_addParts_3 (by decide) ?_
  refine lv_istore (lv' := [(5, .int 0), (4, .int 1), (0, .ref g1), (1, .int x1), (2, .int x2), (3, .ref g2)]) hx hb dX1_addParts_4 hl (by decide) rfl (fun ls hl => ?_)
  refine W.widen (k := 0) (n := 0) (by omega) (by omega) ?_
  refine pl_loop (σ := Nat × Int32) A (dC, dI) cs ty L [τ] F 6 8 (fun (j, w4) => [(5, .int (nI j)), (4, .int w4), (0, .ref g1), (1, .int x1), (2, .int x2), (3, .ref g2)]) (fun (j, w4) => []) (fun (j, w4) _ => j ≤ 10000) (fun (j, w4) => 10000 - j) ?_ (0, 1) F (by omega) hO hR _ _ hP hD hS ls (lv_sub hl [0, 1, 2, 3, 4, 5] rfl)
  rintro ⟨j, w4⟩ F_1 hv_2 hO hR ih_3 H locs hP hD hS ls hl
  have hl : lv_has ls 8 [(5, .int (nI j)), (4, .int w4), (0, .ref g1), (1, .int x1), (2, .int x2), (3, .ref g2)] := hl
  have hv_2 : j ≤ 10000 := hv_2
  refine W.eq (g2 := F0 m 6 ls []) rfl ?_
  refine lv_iload hx hb dX1_addParts_6 (lv_at hl 0 rfl) ?_
  refine lv_aload_n hx hb dX1_addParts_8 rfl (lv_at hl 2 rfl) ?_
  obtain ⟨hi_4, ht_5, hq_6⟩ := hW.bytes hL_g1 hT_g1
  obtain ⟨z_7, o_8, hF_9, hq_10, hq_11⟩ := hO.bytes hL_g1 hT_g1
  refine pg_getN (ci := 0) (v := .int (nI z_7)) (C := RX0) (T := TX0) (N := 3) hx hb hts it_0 hown hK hP hL_g1 hF_9 rfl 1 (by decide) (hE.nest kn_7) (fun _ h9 => h9) rfl dX1_addParts_9 ?_
  refine lv_icmp_ge (tgt := 42) hx hb dX1_addParts_12 (by decide) (fun c_12 => ?_) (fun c_12 => ?_)
  ·
    have hi_13 : z_7 ≤ j := leN (N := z_7) c_12
    refine W.widen (k := 0) (n := 0) (by omega) (by omega) ?_
    refine pl_cut (σ := Int32) A (dC, dI) cs ty L [τ] F 57 8 (fun s0 => [(4, .int w4), (0, .ref g1), (1, .int x1), (2, .int x2), (3, .ref g2)]) (fun s0 => [.int s0]) (fun s0 _ => True) ?_ (fun jn_14 => ?_)
    ·
      rintro s0 F_15 hv_16 hO hR H locs hP hD hS ls hl
      have hl : lv_has ls 8 [(4, .int w4), (0, .ref g1), (1, .int x1), (2, .int x2), (3, .ref g2)] := hl
      have hv_16 : True := hv_16
      refine W.eq (g2 := F0 m 57 ls [.int s0]) rfl ?_
      refine lv_istore (lv' := [(5, .int s0), (4, .int w4), (0, .ref g1), (1, .int x1), (2, .int x2), (3, .ref g2)]) hx hb dX1_addParts_57 hl (by decide) rfl (fun ls hl => ?_)
      refine lv_iconst (v := 0) hx hb dX1_addParts_59 (by decide) ?_
      refine lv_istore (lv' := [(6, .int 0), (5, .int s0), (4, .int w4), (0, .ref g1), (1, .int x1), (2, .int x2), (3, .ref g2)]) hx hb dX1_addParts_60 hl (by decide) rfl (fun ls hl => ?_)
      refine W.widen (k := 0) (n := 0) (by omega) (by omega) ?_
      refine pl_loop (σ := Int32) A (dC, dI) cs ty L [τ] F 62 8 (fun i2 => [(6, .int i2), (5, .int s0), (4, .int w4), (0, .ref g1), (1, .int x1), (2, .int x2), (3, .ref g2)]) (fun i2 => []) (fun i2 _ => True) (fun i2 => ((s0).toInt - i2.toInt).toNat) ?_ 0 F_15 (trivial) hO hR _ _ hP hD hS ls (lv_sub hl [0, 1, 2, 3, 4, 5, 6] rfl)
      rintro i2 F_17 hv_18 hO hR ih_19 H locs hP hD hS ls hl
      have hl : lv_has ls 8 [(6, .int i2), (5, .int s0), (4, .int w4), (0, .ref g1), (1, .int x1), (2, .int x2), (3, .ref g2)] := hl
      have hv_18 : True := hv_18
      refine W.eq (g2 := F0 m 62 ls []) rfl ?_
      refine lv_iload hx hb dX1_addParts_62 (lv_at hl 0 rfl) ?_
      refine lv_iload hx hb dX1_addParts_64 (lv_at hl 1 rfl) ?_
      refine lv_icmp_ge (tgt := 133) hx hb dX1_addParts_66 (by decide) (fun c_20 => ?_) (fun c_20 => ?_)
      ·
        refine W.widen (k := 0) (n := 0) (by omega) (by omega) ?_
        exact W.vret hx hb hr (fun t ht hWm => ⟨⟨(), rfl, trivial, ⟨F_17, QT.mk ht hP hD hO hR⟩⟩, hS.F ht⟩) hS.2.2 dX1_addParts_133
      ·
        have hc66 := c_20
        refine W.widen (k := 0) (n := 0) (by omega) (by omega) ?_
        refine pl_cut (σ := Unit) A (dC, dI) cs ty L [τ] F 80 8 (fun u0 => [(6, .int i2), (5, .int s0), (4, .int w4), (0, .ref g1), (1, .int x1), (2, .int x2), (3, .ref g2)]) (fun u0 => []) (fun u0 _ => True) ?_ (fun jn_21 => ?_)
        ·
          rintro u0 F_22 hv_23 hO hR H locs hP hD hS ls hl
          have hl : lv_has ls 8 [(6, .int i2), (5, .int s0), (4, .int w4), (0, .ref g1), (1, .int x1), (2, .int x2), (3, .ref g2)] := hl
          have hv_23 : True := hv_23
          refine W.eq (g2 := F0 m 80 ls []) rfl ?_
          refine lv_aload_n hx hb dX1_addParts_80 rfl (lv_at hl 3 rfl) ?_
          refine W.widen (k := 0) (n := 0) (by omega) (by omega) ?_
          refine pl_cut (σ := Int32) A (dC, dI) cs ty L [τ] F 103 8 (fun s1 => [(6, .int i2), (5, .int s0), (4, .int w4), (0, .ref g1), (1, .int x1), (2, .int x2), (3, .ref g2)]) (fun s1 => [.int s1, .ref g1]) (fun s1 _ => True) ?_ (fun jn_24 => ?_)
          ·
            rintro s1 F_25 hv_26 hO hR H locs hP hD hS ls hl
            have hl : lv_has ls 8 [(6, .int i2), (5, .int s0), (4, .int w4), (0, .ref g1), (1, .int x1), (2, .int x2), (3, .ref g2)] := hl
            have hv_26 : True := hv_26
            refine W.eq (g2 := F0 m 103 ls [.int s1, .ref g1]) rfl ?_
            have hFc := pg_free hD hS hA
            obtain ⟨z_27, o_28, hF_29, hq_30, hq_31⟩ := hO.bytes hL_g1 hT_g1
            refine va_calli (va_runV (As := [.int s1]) (rest := []) ⟨hx, hb, hml, hown, hts⟩ (s_X0_partStart l dC dI cs ty L H.size F_25 g1 σ r1 n1 s1 hW hL_g1 hT_g1) ⟨callB_of 1 hts (gi kt_333) rfl rfl rfl (hts _ kt_1) (hts _ kt_334) (by decide +kernel) ⟨Nat.le_of_ble_eq_true rfl, Nat.le_of_ble_eq_true rfl⟩, (hts _ kt_335), (hts _ kt_336)⟩ ⟨fun a U g mk q => ⟨q.1, PT.calling q.2⟩, pg_recv hK hP hL_g1 hF_29 (q := (RX0, TX0, 3)) rfl, fun U hU hWm => ⟨rfl, PT.mk hU hWm hP hK hD hE hO⟩⟩ rfl rfl hl.1 rfl (lv_room (Nat.le_of_ble_eq_true rfl)) dX1_addParts_103 ⟨by show _ + 0 ≤ 0; omega, by show _ + 0 ≤ 0; omega⟩) hS (fun q _ h => hFc q h) hFc (fun r_32 u t H1 locs ht hvm hw hB hz1 hk1 hS => ?_)
            obtain ⟨F_33, hB1⟩ := hB
            obtain ⟨hP, hD, hO, hR⟩ := QT.back hB1 ht hFc hR (fun q h => absurd h List.not_mem_nil)
            have hF_34 : F_33 g1 = .inr (0, [.ref r1, .int (nI z_27), .int o_28]) := (hB1.2.2.2 g1 List.not_mem_nil).trans hF_29
            generalize H1 = H at hP hS ⊢
            have hw : True := hw
            have hw_35 := hw
            refine lv_istore (lv' := [(7, .int r_32), (6, .int i2), (5, .int s0), (4, .int w4), (0, .ref g1), (1, .int x1), (2, .int x2), (3, .ref g2)]) hx hb dX1_addParts_106 hl (by decide) rfl (fun ls hl => ?_)
            refine lv_aload_n hx hb dX1_addParts_108 rfl (lv_at hl 7 rfl) ?_
            refine lv_aload_n hx hb dX1_addParts_109 rfl (lv_at hl 4 rfl) ?_
            refine lv_iload hx hb dX1_addParts_110 (lv_at hl 0 rfl) ?_
            refine lv_aload_n hx hb dX1_addParts_112 rfl (lv_at hl 4 rfl) ?_
            refine lv_bipush (v := 46) hx hb dX1_addParts_113 (by decide) ?_
            refine lv_iload hx hb dX1_addParts_115 (lv_at hl 0 rfl) ?_
            refine lv_aload_n hx hb dX1_addParts_117 rfl (lv_at hl 4 rfl) ?_
            refine pg_getN (ci := 0) (v := .int (nI z_27)) (C := RX0) (T := TX0) (N := 3) hx hb hts it_0 hown hK hP hL_g1 hF_34 rfl 1 (by decide) (hE.nest kn_7) (fun _ h9 => h9) rfl dX1_addParts_118 ?_
            have hFc := pg_free hD hS hA
            refine va_calli (va_runV (As := [.int 46, .int r_32, .int (nI z_27)]) (rest := [.int r_32, .ref g1, .ref g2]) ⟨hx, hb, hml, hown, hts⟩ (s_X0_find l dC dI cs ty L H.size F_33 g1 σ r1 n1 46 r_32 (nI z_27) hW hL_g1 hT_g1) ⟨callB_of 3 hts (gi kt_122) rfl rfl rfl (hts _ kt_1) (hts _ kt_308) (by decide +kernel) ⟨Nat.le_of_ble_eq_true rfl, Nat.le_of_ble_eq_true rfl⟩, (hts _ kt_124), (hts _ kt_125)⟩ ⟨fun a U g mk q => ⟨q.1, PT.calling q.2⟩, pg_recv hK hP hL_g1 hF_34 (q := (RX0, TX0, 3)) rfl, fun U hU hWm => ⟨rfl, PT.mk hU hWm hP hK hD hE hO⟩⟩ rfl rfl hl.1 rfl (lv_room (Nat.le_of_ble_eq_true rfl)) dX1_addParts_121 ⟨by show _ + 0 ≤ 0; omega, by show _ + 0 ≤ 0; omega⟩) hS (fun q _ h => hFc q h) hFc (fun r_36 u t H1 locs ht hvm hw hB hz1 hk1 hS => ?_)
            obtain ⟨F_37, hB1⟩ := hB
            obtain ⟨hP, hD, hO, hR⟩ := QT.back hB1 ht hFc hR (fun q h => absurd h List.not_mem_nil)
            have hF_38 : F_37 g1 = .inr (0, [.ref r1, .int (nI z_27), .int o_28]) := (hB1.2.2.2 g1 List.not_mem_nil).trans hF_34
            generalize H1 = H at hP hS ⊢
            have hw : (r_36 = (nI z_27) ∨ ∃ j : Nat, j < n1 ∧ r_36 = nI j) := hw
            have hw_39 := hw
            have hFc := pg_free hD hS hA
            obtain ⟨hi_40, ht_41, hq_42⟩ := hW.bytes hL_g2 hT_g2
            obtain ⟨z_43, o_44, hF_45, hq_46, hq_47⟩ := hO.bytes hL_g2 hT_g2
            refine va_callv (va_runV (As := [.ref g1, .int r_32, .int r_36]) (rest := []) ⟨hx, hb, hml, hown, hts⟩ (s_X0_addRange l dC dI cs ty L H.size F_37 g2 τ r2 n2 g1 σ r1 n1 r_32 r_36 hW hL_g2 hT_g2 hL_g1 hT_g1 (fndp hw_39 (nI_pos (by omega)) (by omega))) ⟨callB_of 3 hts (gi kt_36) rfl rfl rfl (hts _ kt_1) (hts _ kt_318) (by decide +kernel) ⟨Nat.le_of_ble_eq_true rfl, Nat.le_of_ble_eq_true rfl⟩, (hts _ kt_38), (hts _ kt_39)⟩ ⟨fun a U g mk q => ⟨q.1, PT.calling q.2⟩, pg_recv hK hP hL_g2 hF_45 (q := (RX0, TX0, 3)) rfl, fun U hU hWm => ⟨rfl, PT.mk hU hWm hP hK hD hE hO⟩⟩ rfl rfl hl.1 rfl (lv_room (Nat.le_of_ble_eq_true rfl)) dX1_addParts_124 ⟨by show _ + 0 ≤ 0; omega, by show _ + 0 ≤ 0; omega⟩) hS (fun q _ h => hFc q h) hFc (fun u t H1 locs ht hvm hw hB hz1 hk1 hS => ?_)
            obtain ⟨F_49, hB1⟩ := hB
            obtain ⟨hP, hD, hO, hR⟩ := QT.back hB1 ht hFc hR (fun q h => by simp only [List.mem_cons, List.not_mem_nil, or_false] at h ⊢; omega)
            generalize H1 = H at hP hS ⊢
            obtain ⟨x_50, ex_50⟩ : ∃ y : Int32, y = i2 + Int32.ofInt 1 := ⟨_, rfl⟩
            refine lv_iinc (v := x_50) (lv' := [(6, .int x_50), (7, .int r_32), (5, .int s0), (4, .int w4), (0, .ref g1), (1, .int x1), (2, .int x2), (3, .ref g2)]) hx hb dX1_addParts_127 hl (k := 1) rfl (ex_50.symm) (by decide) rfl (fun ls hl => ?_)
            refine lv_goto (tgt := 62) hx hb dX1_addParts_130 (by decide) ?_
            refine W.widen (k := 0) (n := 0) (by omega) (by omega) ?_
            exact ih_19 x_50 F_49 (trivial) (by show ((s0).toInt - x_50.toInt).toNat < ((s0).toInt - i2.toInt).toNat; exact incN ex_50 hc66) hO hR _ _ hP hD hS ls (lv_sub hl [0, 2, 3, 4, 5, 6, 7] rfl)
          ·
            refine lv_iload_n hx hb dX1_addParts_81 rfl (lv_at hl 5 rfl) ?_
            refine lv_if_eq (tgt := 95) hx hb dX1_addParts_82 (by decide) (fun c_51 => ?_) (fun c_51 => ?_)
            ·
              refine lv_iload hx hb dX1_addParts_95 (lv_at hl 2 rfl) ?_
              refine lv_iload hx hb dX1_addParts_97 (lv_at hl 1 rfl) ?_
              refine lv_isub hx hb dX1_addParts_99 ?_
              refine lv_topi (fun x_52 _ => ?_)
              refine lv_iload hx hb dX1_addParts_100 (lv_at hl 0 rfl) ?_
              refine lv_iadd hx hb dX1_addParts_102 ?_
              refine lv_topi (fun x_53 _ => ?_)
              refine W.widen (k := 0) (n := 0) (by omega) (by omega) ?_
              exact jn_24 x_53 F_22 (trivial) hO hR _ _ hP hD hS ls (lv_sub hl [0, 1, 2, 3, 4, 5, 6] rfl)
            ·
              refine lv_iload hx hb dX1_addParts_85 (lv_at hl 1 rfl) ?_
              refine lv_iconst (v := 1) hx hb dX1_addParts_87 (by decide) ?_
              refine lv_isub hx hb dX1_addParts_88 ?_
              refine lv_topi (fun x_54 _ => ?_)
              refine lv_iload hx hb dX1_addParts_89 (lv_at hl 0 rfl) ?_
              refine lv_isub hx hb dX1_addParts_91 ?_
              refine lv_topi (fun x_55 _ => ?_)
              refine lv_goto (tgt := 103) hx hb dX1_addParts_92 (by decide) ?_
              refine W.widen (k := 0) (n := 0) (by omega) (by omega) ?_
              exact jn_24 x_55 F_22 (trivial) hO hR _ _ hP hD hS ls (lv_sub hl [0, 1, 2, 3, 4, 5, 6] rfl)
        ·
          refine lv_iload hx hb dX1_addParts_69 (lv_at hl 0 rfl) ?_
          refine lv_if_le (tgt := 80) hx hb dX1_addParts_71 (by decide) (fun c_56 => ?_) (fun c_56 => ?_)
          ·
            refine W.widen (k := 0) (n := 0) (by omega) (by omega) ?_
            exact jn_21 () F_17 (trivial) hO hR _ _ hP hD hS ls (lv_sub hl [0, 1, 2, 3, 4, 5, 6] rfl)
          ·
            refine lv_aload_n hx hb dX1_addParts_74 rfl (lv_at hl 6 rfl) ?_
            refine lv_bipush (v := 46) hx hb dX1_addParts_75 (by decide) ?_
            have hFc := pg_free hD hS hA
            obtain ⟨hi_57, ht_58, hq_59⟩ := hW.bytes hL_g2 hT_g2
            obtain ⟨z_60, o_61, hF_62, hq_63, hq_64⟩ := hO.bytes hL_g2 hT_g2
            refine va_callv (va_runV (As := [.int 46]) (rest := []) ⟨hx, hb, hml, hown, hts⟩ (s_X0_add l dC dI cs ty L H.size F_17 g2 τ r2 n2 46 hW hL_g2 hT_g2) ⟨callB_of 1 hts (gi kt_13) rfl rfl rfl (hts _ kt_1) (hts _ kt_307) (by decide +kernel) ⟨Nat.le_of_ble_eq_true rfl, Nat.le_of_ble_eq_true rfl⟩, (hts _ kt_15), (hts _ kt_16)⟩ ⟨fun a U g mk q => ⟨q.1, PT.calling q.2⟩, pg_recv hK hP hL_g2 hF_62 (q := (RX0, TX0, 3)) rfl, fun U hU hWm => ⟨rfl, PT.mk hU hWm hP hK hD hE hO⟩⟩ rfl rfl hl.1 rfl (lv_room (Nat.le_of_ble_eq_true rfl)) dX1_addParts_77 ⟨by show _ + 0 ≤ 0; omega, by show _ + 0 ≤ 0; omega⟩) hS (fun q _ h => hFc q h) hFc (fun u t H1 locs ht hvm hw hB hz1 hk1 hS => ?_)
            obtain ⟨F_66, hB1⟩ := hB
            obtain ⟨hP, hD, hO, hR⟩ := QT.back hB1 ht hFc hR (fun q h => by simp only [List.mem_cons, List.not_mem_nil, or_false] at h ⊢; omega)
            generalize H1 = H at hP hS ⊢
            refine W.widen (k := 0) (n := 0) (by omega) (by omega) ?_
            exact jn_21 () F_66 (trivial) hO hR _ _ hP hD hS ls (lv_sub hl [0, 1, 2, 3, 4, 5, 6] rfl)
    ·
      refine lv_iload_n hx hb dX1_addParts_42 rfl (lv_at hl 3 rfl) ?_
      refine lv_if_ne (tgt := 51) hx hb dX1_addParts_43 (by decide) (fun c_67 => ?_) (fun c_67 => ?_)
      ·
        refine lv_iload_n hx hb dX1_addParts_51 rfl (lv_at hl 3 rfl) ?_
        refine lv_iload hx hb dX1_addParts_52 (lv_at hl 1 rfl) ?_
        refine va_mmin hx hb (by rw [hml]; exact hl.1.symm) hown (hts _ kt_337) (hts _ kt_26) (hts _ kt_19) (hts _ kt_27) (Nat.le_of_ble_eq_true rfl) (Nat.le_of_ble_eq_true rfl) (by show _ ≤ 0; omega) (by show _ ≤ 0; omega) dX1_addParts_54 ?_
        refine lv_topi (fun x_68 _ => ?_)
        refine W.widen (k := 0) (n := 0) (by omega) (by omega) ?_
        exact jn_14 x_68 F_1 (trivial) hO hR _ _ hP hD hS ls (lv_sub hl [1, 2, 3, 4, 5] rfl)
      ·
        refine lv_iload hx hb dX1_addParts_46 (lv_at hl 1 rfl) ?_
        refine lv_goto (tgt := 57) hx hb dX1_addParts_48 (by decide) ?_
        refine W.widen (k := 0) (n := 0) (by omega) (by omega) ?_
        exact jn_14 w4 F_1 (trivial) hO hR _ _ hP hD hS ls (lv_sub hl [1, 2, 3, 4, 5] rfl)
  ·
    have hi_69 : j < z_7 := ltN (N := z_7) c_12
    refine lv_iload hx hb dX1_addParts_15 (lv_at hl 1 rfl) ?_
    refine lv_aload_n hx hb dX1_addParts_17 rfl (lv_at hl 2 rfl) ?_
    refine lv_iload hx hb dX1_addParts_18 (lv_at hl 0 rfl) ?_
    have hFc := pg_free hD hS hA
    refine va_calli (va_runV (As := [.int (nI j)]) (rest := [.int w4]) ⟨hx, hb, hml, hown, hts⟩ (s_X0_at l dC dI cs ty L H.size F_1 g1 σ r1 n1 (nI j) hW hL_g1 hT_g1) ⟨callB_of 1 hts (gi kt_21) rfl rfl rfl (hts _ kt_1) (hts _ kt_301) (by decide +kernel) ⟨Nat.le_of_ble_eq_true rfl, Nat.le_of_ble_eq_true rfl⟩, (hts _ kt_23), (hts _ kt_24)⟩ ⟨fun a U g mk q => ⟨q.1, PT.calling q.2⟩, pg_recv hK hP hL_g1 hF_9 (q := (RX0, TX0, 3)) rfl, fun U hU hWm => ⟨rfl, PT.mk hU hWm hP hK hD hE hO⟩⟩ rfl rfl hl.1 rfl (lv_room (Nat.le_of_ble_eq_true rfl)) dX1_addParts_20 ⟨by show _ + 0 ≤ 0; omega, by show _ + 0 ≤ 0; omega⟩) hS (fun q _ h => hFc q h) hFc (fun r_70 u t H1 locs ht hvm hw hB hz1 hk1 hS => ?_)
    obtain ⟨F_71, hB1⟩ := hB
    obtain ⟨hP, hD, hO, hR⟩ := QT.back hB1 ht hFc hR (fun q h => absurd h List.not_mem_nil)
    have hF_72 : F_71 g1 = .inr (0, [.ref r1, .int (nI z_7), .int o_8]) := (hB1.2.2.2 g1 List.not_mem_nil).trans hF_9
    generalize H1 = H at hP hS ⊢
    have hw : True := hw
    have hw_73 := hw
    refine lv_bipush (v := 46) hx hb dX1_addParts_23 (by decide) ?_
    refine lv_icmp_ne (tgt := 32) hx hb dX1_addParts_25 (by decide) (fun c_74 => ?_) (fun c_74 => ?_)
    ·
      refine lv_iconst (v := 0) hx hb dX1_addParts_32 (by decide) ?_
      refine lv_iadd hx hb dX1_addParts_33 ?_
      refine lv_topi (fun x_75 _ => ?_)
      refine lv_istore (lv' := [(4, .int x_75), (5, .int (nI j)), (0, .ref g1), (1, .int x1), (2, .int x2), (3, .ref g2)]) hx hb dX1_addParts_34 hl (by decide) rfl (fun ls hl => ?_)
      refine lv_iinc (v := (nI (j + 1))) (lv' := [(5, .int (nI (j + 1))), (4, .int x_75), (0, .ref g1), (1, .int x1), (2, .int x2), (3, .ref g2)]) hx hb dX1_addParts_36 hl (k := 1) rfl (nI_1 _) (by decide) rfl (fun ls hl => ?_)
      refine lv_goto (tgt := 6) hx hb dX1_addParts_39 (by decide) ?_
      refine W.widen (k := 0) (n := 0) (by omega) (by omega) ?_
      exact ih_3 ((j + 1), x_75) F_71 (by first | omega | exact ⟨by omega, by omega⟩ | trivial) (by show 10000 - (j + 1) < 10000 - j; omega) hO hR _ _ hP hD hS ls (lv_sub hl [0, 1, 2, 3, 4, 5] rfl)
    ·
      refine lv_iconst (v := 1) hx hb dX1_addParts_28 (by decide) ?_
      refine lv_goto (tgt := 33) hx hb dX1_addParts_29 (by decide) ?_
      refine lv_iadd hx hb dX1_addParts_33 ?_
      refine lv_topi (fun x_76 _ => ?_)
      refine lv_istore (lv' := [(4, .int x_76), (5, .int (nI j)), (0, .ref g1), (1, .int x1), (2, .int x2), (3, .ref g2)]) hx hb dX1_addParts_34 hl (by decide) rfl (fun ls hl => ?_)
      refine lv_iinc (v := (nI (j + 1))) (lv' := [(5, .int (nI (j + 1))), (4, .int x_76), (0, .ref g1), (1, .int x1), (2, .int x2), (3, .ref g2)]) hx hb dX1_addParts_36 hl (k := 1) rfl (nI_1 _) (by decide) rfl (fun ls hl => ?_)
      refine lv_goto (tgt := 6) hx hb dX1_addParts_39 (by decide) ?_
      refine W.widen (k := 0) (n := 0) (by omega) (by omega) ?_
      exact ih_3 ((j + 1), x_76) F_71 (by first | omega | exact ⟨by omega, by omega⟩ | trivial) (by show 10000 - (j + 1) < 10000 - j; omega) hO hR _ _ hP hD hS ls (lv_sub hl [0, 1, 2, 3, 4, 5] rfl)
set_option maxHeartbeats 4000000 in
set_option maxRecDepth 100000 in
theorem s_X1_pieceOf (l : Launch) (dC : Nat → ClassId) (dI : Nat → Nat → Nat) (cs : Nat → ClassId) (ty : TyM) (L : List Nat) (sz : Nat) (F : Nat → va_E) (h0 : Nat) (ρ : Nat) (d : Nat) (δ : Nat) (ea : Nat) (w0 : Nat) (w1 : Nat) (w2 : Nat) (w3 : Nat) (nm : Nat) (te : Nat) (lv : Nat) (x1 : Int32) (hW : WT ty L) (hL_h0 : h0 ∈ L) (hT_h0 : ty h0 = (1, ρ, [d, δ, ea, w0, w1, w2, w3, nm, te])) (hlv : lv ≤ 10) : Met l yX1_pieceOf (.code yX1_pieceOf cX1_pieceOf 3 (some (.object "PostGate$Bytes")) :: tb) ({ frames := 0, cells := 0, slots := 0, locals := 0 }) (va_Pc [.ref h0, .int x1, .int (nI lv)] (PT (dC, dI) cs ty L F sz)) (va_Qr (fun _ : Unit => True) (fun _ ra T9 => ∃ F2 : Nat → va_E, ∃ vr : Nat, ∃ vn : Nat, QT (dC, dI) cs ty L [] F F2 (va_A (va_pl L F) sz) T9 ∧ ra ∈ L ∧ ty ra = (0, ρ + 1, [vr, vn])) (va_A (va_pl L F) sz)) 0 0 (va_A (va_pl L F) sz) := by
  refine Met.ofW (cc := cX1_pieceOf) (maxL := 3) (ret := (some (.object "PostGate$Bytes"))) (by decide) rfl ?_
  intro p e s m args below meth c s₁ B hml hv
  obtain ⟨rfl, hsz, hP, hK, hD0, hE, hO⟩ := hv
  have hx := B.exec
  have hb := B.bytes
  have hr := B.returns
  have hts : ∀ w ∈ tb, w.before _ s = true := fun w h => atoms_spec (ws := .code yX1_pieceOf cX1_pieceOf 3 (some (.object "PostGate$Bytes")) :: tb) B.pre w (List.mem_cons_of_mem _ h)
  have hown : s.vm.findClass RX1 = some m.cls := findClass_of_methodNamed B.named
  have hlocks := B.notSynchronized
  subst hsz
  have hD := hD0.self (sz := s.heap.size)
  generalize hAe : va_A (va_pl L F) s.heap.size = A at hD ⊢
  have hA : ∀ q : Nat, s.heap.size ≤ q → A q := fun q h => by rw [← hAe]; exact Or.inr h
  have hS : va_S A s.heap s.heap [] := va_S.rf
  have hR : FR ty [] F F := FR.refl
  have hl := lv_entry ([.ref h0, .int x1, .int (nI lv)]) (n := 3) (Nat.le_of_ble_eq_true rfl)
  rw [lg_entry_eq]
  generalize (lg_sl ([.ref h0, .int x1, .int (nI lv)]) ++ List.replicate (3 - (lg_sl ([.ref h0, .int x1, .int (nI lv)])).length) Slot.unset).toArray = ls at hl ⊢
  have hl : lv_has ls 3 [(0, .ref h0), (1, .int x1), (2, .int (nI lv))] := hl
  refine lv_iload_n hx hb dX1_pieceOf_0 rfl (lv_at hl 1 rfl) ?_
  by_cases c_1 : x1 = 105
  ·
    refine lv_lookup (off := 58) (tgt := 59) hx hb dX1_pieceOf_1 (by decide) (by rw [c_1]; decide) (by decide) ?_
    refine lv_aload_n hx hb dX1_pieceOf_59 rfl (lv_at hl 0 rfl) ?_
    obtain ⟨hi_2, ht_3, hi_4, ⟨r_5, ht_6⟩, hi_7, ⟨r_8, ht_9⟩, hi_10, ⟨r_11, ht_12⟩, hi_13, ⟨r_14, ht_15⟩, hi_16, ht_17, hi_18, ht_19⟩ := hW.chk hL_h0 hT_h0
    obtain ⟨v0_20, v1_21, v2_22, v3_23, hF_24⟩ := hO.chk hL_h0 hT_h0
    refine pg_get (ci := 1) (v := .ref w3) (C := RX1) (T := TX1) (N := 11) hx hb hts it_1 hown hK hP hL_h0 hF_24 rfl 4 (by decide) (hts _ kt_306) (fun _ h9 => h9) rfl dX1_pieceOf_60 ?_
    refine W.widen (k := 0) (n := 0) (by omega) (by omega) ?_
    exact W.aret hx hb hr (Or.inl ⟨_, rfl⟩) (Or.inr ⟨_, rfl⟩) (fun t ht hWm => ⟨⟨(), w3, rfl, trivial, ⟨F, r_14, 15, QT.mk ht hP hD hO hR, hi_13, ht_15⟩⟩, hS.F ht⟩) hS.2.2 dX1_pieceOf_63
  ·
    by_cases c_25 : x1 = 108
    ·
      refine lv_lookup (off := 48) (tgt := 49) hx hb dX1_pieceOf_1 (by decide) (by rw [c_25]; decide) (by decide) ?_
      refine lv_aload_n hx hb dX1_pieceOf_49 rfl (lv_at hl 0 rfl) ?_
      obtain ⟨hi_26, ht_27, hi_28, ⟨r_29, ht_30⟩, hi_31, ⟨r_32, ht_33⟩, hi_34, ⟨r_35, ht_36⟩, hi_37, ⟨r_38, ht_39⟩, hi_40, ht_41, hi_42, ht_43⟩ := hW.chk hL_h0 hT_h0
      obtain ⟨v0_44, v1_45, v2_46, v3_47, hF_48⟩ := hO.chk hL_h0 hT_h0
      refine pg_get (ci := 1) (v := .ref w1) (C := RX1) (T := TX1) (N := 11) hx hb hts it_1 hown hK hP hL_h0 hF_48 rfl 2 (by decide) (hts _ kt_316) (fun _ h9 => h9) rfl dX1_pieceOf_50 ?_
      refine W.widen (k := 0) (n := 0) (by omega) (by omega) ?_
      exact W.aret hx hb hr (Or.inl ⟨_, rfl⟩) (Or.inr ⟨_, rfl⟩) (fun t ht hWm => ⟨⟨(), w1, rfl, trivial, ⟨F, r_32, 30, QT.mk ht hP hD hO hR, hi_31, ht_33⟩⟩, hS.F ht⟩) hS.2.2 dX1_pieceOf_53
    ·
      by_cases c_49 : x1 = 111
      ·
        refine lv_lookup (off := 53) (tgt := 54) hx hb dX1_pieceOf_1 (by decide) (by rw [c_49]; decide) (by decide) ?_
        refine lv_aload_n hx hb dX1_pieceOf_54 rfl (lv_at hl 0 rfl) ?_
        obtain ⟨hi_50, ht_51, hi_52, ⟨r_53, ht_54⟩, hi_55, ⟨r_56, ht_57⟩, hi_58, ⟨r_59, ht_60⟩, hi_61, ⟨r_62, ht_63⟩, hi_64, ht_65, hi_66, ht_67⟩ := hW.chk hL_h0 hT_h0
        obtain ⟨v0_68, v1_69, v2_70, v3_71, hF_72⟩ := hO.chk hL_h0 hT_h0
        refine pg_get (ci := 1) (v := .ref w2) (C := RX1) (T := TX1) (N := 11) hx hb hts it_1 hown hK hP hL_h0 hF_72 rfl 3 (by decide) (hts _ kt_319) (fun _ h9 => h9) rfl dX1_pieceOf_55 ?_
        refine W.widen (k := 0) (n := 0) (by omega) (by omega) ?_
        exact W.aret hx hb hr (Or.inl ⟨_, rfl⟩) (Or.inr ⟨_, rfl⟩) (fun t ht hWm => ⟨⟨(), w2, rfl, trivial, ⟨F, r_59, 60, QT.mk ht hP hD hO hR, hi_58, ht_60⟩⟩, hS.F ht⟩) hS.2.2 dX1_pieceOf_58
      ·
        by_cases c_73 : x1 = 115
        ·
          refine lv_lookup (off := 43) (tgt := 44) hx hb dX1_pieceOf_1 (by decide) (by rw [c_73]; decide) (by decide) ?_
          refine lv_aload_n hx hb dX1_pieceOf_44 rfl (lv_at hl 0 rfl) ?_
          obtain ⟨hi_74, ht_75, hi_76, ⟨r_77, ht_78⟩, hi_79, ⟨r_80, ht_81⟩, hi_82, ⟨r_83, ht_84⟩, hi_85, ⟨r_86, ht_87⟩, hi_88, ht_89, hi_90, ht_91⟩ := hW.chk hL_h0 hT_h0
          obtain ⟨v0_92, v1_93, v2_94, v3_95, hF_96⟩ := hO.chk hL_h0 hT_h0
          refine pg_get (ci := 1) (v := .ref w0) (C := RX1) (T := TX1) (N := 11) hx hb hts it_1 hown hK hP hL_h0 hF_96 rfl 1 (by decide) (hts _ kt_314) (fun _ h9 => h9) rfl dX1_pieceOf_45 ?_
          refine W.widen (k := 0) (n := 0) (by omega) (by omega) ?_
          exact W.aret hx hb hr (Or.inl ⟨_, rfl⟩) (Or.inr ⟨_, rfl⟩) (fun t ht hWm => ⟨⟨(), w0, rfl, trivial, ⟨F, r_77, 91, QT.mk ht hP hD hO hR, hi_76, ht_78⟩⟩, hS.F ht⟩) hS.2.2 dX1_pieceOf_48
        ·
          refine lv_lookup (off := 63) (tgt := 64) hx hb dX1_pieceOf_1 (by decide) (lk4 _ _ _ _ _ _ _ _ _ (fun h => c_1 (Int32.toInt_inj.mp h)) (fun h => c_25 (Int32.toInt_inj.mp h)) (fun h => c_49 (Int32.toInt_inj.mp h)) (fun h => c_73 (Int32.toInt_inj.mp h))) (by decide) ?_
          refine lv_aload_n hx hb dX1_pieceOf_64 rfl (lv_at hl 0 rfl) ?_
          obtain ⟨hi_97, ht_98, hi_99, ⟨r_100, ht_101⟩, hi_102, ⟨r_103, ht_104⟩, hi_105, ⟨r_106, ht_107⟩, hi_108, ⟨r_109, ht_110⟩, hi_111, ht_112, hi_113, ht_114⟩ := hW.chk hL_h0 hT_h0
          obtain ⟨v0_115, v1_116, v2_117, v3_118, hF_119⟩ := hO.chk hL_h0 hT_h0
          refine pg_get (ci := 1) (v := .ref nm) (C := RX1) (T := TX1) (N := 11) hx hb hts it_1 hown hK hP hL_h0 hF_119 rfl 5 (by decide) (hts _ kt_338) (fun _ h9 => h9) rfl dX1_pieceOf_65 ?_
          refine lv_iload_n hx hb dX1_pieceOf_68 rfl (lv_at hl 2 rfl) ?_
          obtain ⟨f_120, hF_121, hq_122⟩ := hO.rbytes hi_111 ht_112
          obtain ⟨b_123, r_124, hbf_125, hi_126, ht_127⟩ := hq_122 lv (by omega)
          refine pg_aald (r := b_123) hx hb hK hP hi_111 4 hF_121 rfl (vp_in_nI (by omega) (by omega)) (show f_120 ((nI lv) : Int32).toNatClampNeg = _ from by rw [show ((nI lv) : Int32) = nI lv from rfl, nI_clamp (by omega)]; exact hbf_125) dX1_pieceOf_69 ?_
          refine W.widen (k := 0) (n := 0) (by omega) (by omega) ?_
          exact W.aret hx hb hr (Or.inl ⟨_, rfl⟩) (Or.inr ⟨_, rfl⟩) (fun t ht hWm => ⟨⟨(), b_123, rfl, trivial, ⟨F, r_124, 60, QT.mk ht hP hD hO hR, hi_126, ht_127⟩⟩, hS.F ht⟩) hS.2.2 dX1_pieceOf_70
