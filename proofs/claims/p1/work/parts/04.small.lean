theorem dX10_init_0 : decode cX10_init 0 = .ok (.aload_n 0, 1) := by decide +kernel
theorem dX10_init_1 : decode cX10_init 1 = .ok (.invokespecial 1, 3) := by decide +kernel
theorem dX10_init_4 : decode cX10_init 4 = .ok (.aload_n 0, 1) := by decide +kernel
theorem dX10_init_5 : decode cX10_init 5 = .ok (.iconst 0, 1) := by decide +kernel
theorem dX10_init_6 : decode cX10_init 6 = .ok (.putfield 9, 3) := by decide +kernel
theorem dX10_init_9 : decode cX10_init 9 = .ok (.aload_n 0, 1) := by decide +kernel
theorem dX10_init_10 : decode cX10_init 10 = .ok (.bipush 43, 2) := by decide +kernel
theorem dX10_init_12 : decode cX10_init 12 = .ok (.putfield 13, 3) := by decide +kernel
theorem dX10_init_15 : decode cX10_init 15 = .ok (.aload_n 0, 1) := by decide +kernel
theorem dX10_init_16 : decode cX10_init 16 = .ok (.iconst 0, 1) := by decide +kernel
theorem dX10_init_17 : decode cX10_init 17 = .ok (.putfield 16, 3) := by decide +kernel
theorem dX10_init_20 : decode cX10_init 20 = .ok (.aload_n 0, 1) := by decide +kernel
theorem dX10_init_21 : decode cX10_init 21 = .ok (.iconst 0, 1) := by decide +kernel
theorem dX10_init_22 : decode cX10_init 22 = .ok (.putfield 19, 3) := by decide +kernel
theorem dX10_init_25 : decode cX10_init 25 = .ok (.aload_n 0, 1) := by decide +kernel
theorem dX10_init_26 : decode cX10_init 26 = .ok (.bipush 32, 2) := by decide +kernel
theorem dX10_init_28 : decode cX10_init 28 = .ok (.putfield 22, 3) := by decide +kernel
theorem dX10_init_31 : decode cX10_init 31 = .ok (.aload_n 0, 1) := by decide +kernel
theorem dX10_init_32 : decode cX10_init 32 = .ok (.iconst 0, 1) := by decide +kernel
theorem dX10_init_33 : decode cX10_init 33 = .ok (.putfield 25, 3) := by decide +kernel
theorem dX10_init_36 : decode cX10_init 36 = .ok (.return_, 1) := by decide +kernel
theorem dX3_init_0 : decode cX3_init 0 = .ok (.aload_n 0, 1) := by decide +kernel
theorem dX3_init_1 : decode cX3_init 1 = .ok (.invokespecial 3, 3) := by decide +kernel
theorem dX3_init_4 : decode cX3_init 4 = .ok (.aload_n 0, 1) := by decide +kernel
theorem dX3_init_5 : decode cX3_init 5 = .ok (.new 9, 3) := by decide +kernel
theorem dX3_init_8 : decode cX3_init 8 = .ok (.dup, 1) := by decide +kernel
theorem dX3_init_9 : decode cX3_init 9 = .ok (.bipush 60, 2) := by decide +kernel
theorem dX3_init_11 : decode cX3_init 11 = .ok (.invokespecial 11, 3) := by decide +kernel
theorem dX3_init_14 : decode cX3_init 14 = .ok (.putfield 14, 3) := by decide +kernel
theorem dX3_init_17 : decode cX3_init 17 = .ok (.aload_n 0, 1) := by decide +kernel
theorem dX3_init_18 : decode cX3_init 18 = .ok (.new 9, 3) := by decide +kernel
theorem dX3_init_21 : decode cX3_init 21 = .ok (.dup, 1) := by decide +kernel
theorem dX3_init_22 : decode cX3_init 22 = .ok (.sipush 700, 3) := by decide +kernel
theorem dX3_init_25 : decode cX3_init 25 = .ok (.invokespecial 11, 3) := by decide +kernel
theorem dX3_init_28 : decode cX3_init 28 = .ok (.putfield 20, 3) := by decide +kernel
theorem dX3_init_31 : decode cX3_init 31 = .ok (.aload_n 0, 1) := by decide +kernel
theorem dX3_init_32 : decode cX3_init 32 = .ok (.iconst 0, 1) := by decide +kernel
theorem dX3_init_33 : decode cX3_init 33 = .ok (.putfield 23, 3) := by decide +kernel
theorem dX3_init_36 : decode cX3_init 36 = .ok (.aload_n 0, 1) := by decide +kernel
theorem dX3_init_37 : decode cX3_init 37 = .ok (.iconst 0, 1) := by decide +kernel
theorem dX3_init_38 : decode cX3_init 38 = .ok (.putfield 27, 3) := by decide +kernel
theorem dX3_init_41 : decode cX3_init 41 = .ok (.return_, 1) := by decide +kernel
theorem dX4_init_0 : decode cX4_init 0 = .ok (.aload_n 0, 1) := by decide +kernel
theorem dX4_init_1 : decode cX4_init 1 = .ok (.invokespecial 3, 3) := by decide +kernel
theorem dX4_init_4 : decode cX4_init 4 = .ok (.aload_n 0, 1) := by decide +kernel
theorem dX4_init_5 : decode cX4_init 5 = .ok (.new 9, 3) := by decide +kernel
theorem dX4_init_8 : decode cX4_init 8 = .ok (.dup, 1) := by decide +kernel
theorem dX4_init_9 : decode cX4_init 9 = .ok (.sipush 3000, 3) := by decide +kernel
theorem dX4_init_12 : decode cX4_init 12 = .ok (.invokespecial 11, 3) := by decide +kernel
theorem dX4_init_15 : decode cX4_init 15 = .ok (.putfield 14, 3) := by decide +kernel
theorem dX4_init_18 : decode cX4_init 18 = .ok (.aload_n 0, 1) := by decide +kernel
theorem dX4_init_19 : decode cX4_init 19 = .ok (.bipush 20, 2) := by decide +kernel
theorem dX4_init_21 : decode cX4_init 21 = .ok (.newarray .int, 2) := by decide +kernel
theorem dX4_init_23 : decode cX4_init 23 = .ok (.putfield 20, 3) := by decide +kernel
theorem dX4_init_26 : decode cX4_init 26 = .ok (.aload_n 0, 1) := by decide +kernel
theorem dX4_init_27 : decode cX4_init 27 = .ok (.bipush 20, 2) := by decide +kernel
theorem dX4_init_29 : decode cX4_init 29 = .ok (.newarray .int, 2) := by decide +kernel
theorem dX4_init_31 : decode cX4_init 31 = .ok (.putfield 24, 3) := by decide +kernel
theorem dX4_init_34 : decode cX4_init 34 = .ok (.aload_n 0, 1) := by decide +kernel
theorem dX4_init_35 : decode cX4_init 35 = .ok (.bipush 20, 2) := by decide +kernel
theorem dX4_init_37 : decode cX4_init 37 = .ok (.newarray .int, 2) := by decide +kernel
theorem dX4_init_39 : decode cX4_init 39 = .ok (.putfield 27, 3) := by decide +kernel
theorem dX4_init_42 : decode cX4_init 42 = .ok (.aload_n 0, 1) := by decide +kernel
theorem dX4_init_43 : decode cX4_init 43 = .ok (.iconst 0, 1) := by decide +kernel
theorem dX4_init_44 : decode cX4_init 44 = .ok (.putfield 30, 3) := by decide +kernel
theorem dX4_init_47 : decode cX4_init 47 = .ok (.aload_n 0, 1) := by decide +kernel
theorem dX4_init_48 : decode cX4_init 48 = .ok (.iconst 0, 1) := by decide +kernel
theorem dX4_init_49 : decode cX4_init 49 = .ok (.putfield 34, 3) := by decide +kernel
theorem dX4_init_52 : decode cX4_init 52 = .ok (.return_, 1) := by decide +kernel
theorem dX6_init_0 : decode cX6_init 0 = .ok (.aload_n 0, 1) := by decide +kernel
theorem dX6_init_1 : decode cX6_init 1 = .ok (.invokespecial 1, 3) := by decide +kernel
theorem dX6_init_4 : decode cX6_init 4 = .ok (.aload_n 0, 1) := by decide +kernel
theorem dX6_init_5 : decode cX6_init 5 = .ok (.bipush 16, 2) := by decide +kernel
theorem dX6_init_7 : decode cX6_init 7 = .ok (.newarray .long, 2) := by decide +kernel
theorem dX6_init_9 : decode cX6_init 9 = .ok (.putfield 9, 3) := by decide +kernel
theorem dX6_init_12 : decode cX6_init 12 = .ok (.aload_n 0, 1) := by decide +kernel
theorem dX6_init_13 : decode cX6_init 13 = .ok (.bipush 16, 2) := by decide +kernel
theorem dX6_init_15 : decode cX6_init 15 = .ok (.newarray .long, 2) := by decide +kernel
theorem dX6_init_17 : decode cX6_init 17 = .ok (.putfield 13, 3) := by decide +kernel
theorem dX6_init_20 : decode cX6_init 20 = .ok (.aload_n 0, 1) := by decide +kernel
theorem dX6_init_21 : decode cX6_init 21 = .ok (.bipush 16, 2) := by decide +kernel
theorem dX6_init_23 : decode cX6_init 23 = .ok (.newarray .long, 2) := by decide +kernel
theorem dX6_init_25 : decode cX6_init 25 = .ok (.putfield 16, 3) := by decide +kernel
theorem dX6_init_28 : decode cX6_init 28 = .ok (.aload_n 0, 1) := by decide +kernel
theorem dX6_init_29 : decode cX6_init 29 = .ok (.bipush 18, 2) := by decide +kernel
theorem dX6_init_31 : decode cX6_init 31 = .ok (.newarray .long, 2) := by decide +kernel
theorem dX6_init_33 : decode cX6_init 33 = .ok (.putfield 19, 3) := by decide +kernel
theorem dX6_init_36 : decode cX6_init 36 = .ok (.aload_n 0, 1) := by decide +kernel
theorem dX6_init_37 : decode cX6_init 37 = .ok (.lconst 0, 1) := by decide +kernel
theorem dX6_init_38 : decode cX6_init 38 = .ok (.putfield 22, 3) := by decide +kernel
theorem dX6_init_41 : decode cX6_init 41 = .ok (.return_, 1) := by decide +kernel
theorem dX8_init_0 : decode cX8_init 0 = .ok (.aload_n 0, 1) := by decide +kernel
theorem dX8_init_1 : decode cX8_init 1 = .ok (.invokespecial 1, 3) := by decide +kernel
theorem dX8_init_4 : decode cX8_init 4 = .ok (.aload_n 0, 1) := by decide +kernel
theorem dX8_init_5 : decode cX8_init 5 = .ok (.bipush 64, 2) := by decide +kernel
theorem dX8_init_7 : decode cX8_init 7 = .ok (.newarray .int, 2) := by decide +kernel
theorem dX8_init_9 : decode cX8_init 9 = .ok (.putfield 7, 3) := by decide +kernel
theorem dX8_init_12 : decode cX8_init 12 = .ok (.aload_n 0, 1) := by decide +kernel
theorem dX8_init_13 : decode cX8_init 13 = .ok (.bipush 8, 2) := by decide +kernel
theorem dX8_init_15 : decode cX8_init 15 = .ok (.newarray .int, 2) := by decide +kernel
theorem dX8_init_17 : decode cX8_init 17 = .ok (.putfield 13, 3) := by decide +kernel
theorem dX8_init_20 : decode cX8_init 20 = .ok (.aload_n 0, 1) := by decide +kernel
theorem dX8_init_21 : decode cX8_init 21 = .ok (.bipush 8, 2) := by decide +kernel
theorem dX8_init_23 : decode cX8_init 23 = .ok (.newarray .int, 2) := by decide +kernel
theorem dX8_init_25 : decode cX8_init 25 = .ok (.putfield 16, 3) := by decide +kernel
theorem dX8_init_28 : decode cX8_init 28 = .ok (.return_, 1) := by decide +kernel
theorem dX9_init_0 : decode cX9_init 0 = .ok (.aload_n 0, 1) := by decide +kernel
theorem dX9_init_1 : decode cX9_init 1 = .ok (.invokespecial 1, 3) := by decide +kernel
theorem dX9_init_4 : decode cX9_init 4 = .ok (.aload_n 0, 1) := by decide +kernel
theorem dX9_init_5 : decode cX9_init 5 = .ok (.bipush 40, 2) := by decide +kernel
theorem dX9_init_7 : decode cX9_init 7 = .ok (.newarray .int, 2) := by decide +kernel
theorem dX9_init_9 : decode cX9_init 9 = .ok (.putfield 9, 3) := by decide +kernel
theorem dX9_init_12 : decode cX9_init 12 = .ok (.aload_n 0, 1) := by decide +kernel
theorem dX9_init_13 : decode cX9_init 13 = .ok (.bipush 40, 2) := by decide +kernel
theorem dX9_init_15 : decode cX9_init 15 = .ok (.newarray .int, 2) := by decide +kernel
theorem dX9_init_17 : decode cX9_init 17 = .ok (.putfield 13, 3) := by decide +kernel
theorem dX9_init_20 : decode cX9_init 20 = .ok (.aload_n 0, 1) := by decide +kernel
theorem dX9_init_21 : decode cX9_init 21 = .ok (.bipush 40, 2) := by decide +kernel
theorem dX9_init_23 : decode cX9_init 23 = .ok (.newarray .int, 2) := by decide +kernel
theorem dX9_init_25 : decode cX9_init 25 = .ok (.putfield 16, 3) := by decide +kernel
theorem dX9_init_28 : decode cX9_init 28 = .ok (.aload_n 0, 1) := by decide +kernel
theorem dX9_init_29 : decode cX9_init 29 = .ok (.iconst 0, 1) := by decide +kernel
theorem dX9_init_30 : decode cX9_init 30 = .ok (.putfield 19, 3) := by decide +kernel
theorem dX9_init_33 : decode cX9_init 33 = .ok (.aload_n 0, 1) := by decide +kernel
theorem dX9_init_34 : decode cX9_init 34 = .ok (.new 23, 3) := by decide +kernel
theorem dX9_init_37 : decode cX9_init 37 = .ok (.dup, 1) := by decide +kernel
theorem dX9_init_38 : decode cX9_init 38 = .ok (.iload_n 1, 1) := by decide +kernel
theorem dX9_init_39 : decode cX9_init 39 = .ok (.invokespecial 25, 3) := by decide +kernel
theorem dX9_init_42 : decode cX9_init 42 = .ok (.putfield 28, 3) := by decide +kernel
theorem dX9_init_45 : decode cX9_init 45 = .ok (.return_, 1) := by decide +kernel
theorem kt_7 : Cond.methodLink RX3 3 objectInit ∈ tb := tb_at (i := 149) (by decide +kernel) (by decide +kernel)
theorem kt_8 : Cond.classLink RX3 9 RX0 ∈ tb := tb_at (i := 150) (by decide +kernel) (by decide +kernel)
theorem kt_9 : Cond.instantiable RX0 3 ∈ tb := tb_at (i := 114) (by decide +kernel) (by decide +kernel)
theorem kt_10 : Cond.initialized RX0 ∈ tb := tb_at (i := 82) (by decide +kernel) (by decide +kernel)
theorem kt_11 : Cond.code yX0_init cX0_init 2 none ∈ tb := tb_at (i := 117) (by decide +kernel) (by decide +kernel)
theorem kt_12 : Cond.methodLink RX3 11 yX0_init ∈ tb := tb_at (i := 151) (by decide +kernel) (by decide +kernel)
theorem kt_13 : Cond.instanceMethod yX0_init ∈ tb := tb_at (i := 116) (by decide +kernel) (by decide +kernel)
theorem kt_14 : Cond.fieldLink RX3 14 "PostGate$Entry" "name" "LPostGate$Bytes;" ∈ tb := tb_at (i := 152) (by decide +kernel) (by decide +kernel)
theorem kt_15 : Cond.fieldLink RX3 20 "PostGate$Entry" "value" "LPostGate$Bytes;" ∈ tb := tb_at (i := 155) (by decide +kernel) (by decide +kernel)
theorem kt_16 : Cond.fieldLink RX3 23 "PostGate$Entry" "sort" "I" ∈ tb := tb_at (i := 157) (by decide +kernel) (by decide +kernel)
theorem kt_17 : Cond.fieldLink RX3 27 "PostGate$Entry" "address" "I" ∈ tb := tb_at (i := 160) (by decide +kernel) (by decide +kernel)
theorem kt_18 : Cond.methodLink RX10 1 objectInit ∈ tb := tb_at (i := 195) (by decide +kernel) (by decide +kernel)
theorem kt_19 : Cond.fieldLink RX10 9 "PostGate$Term" "kind" "I" ∈ tb := tb_at (i := 196) (by decide +kernel) (by decide +kernel)
theorem kt_20 : Cond.fieldLink RX10 13 "PostGate$Term" "sign" "I" ∈ tb := tb_at (i := 198) (by decide +kernel) (by decide +kernel)
theorem kt_21 : Cond.fieldLink RX10 16 "PostGate$Term" "start" "I" ∈ tb := tb_at (i := 200) (by decide +kernel) (by decide +kernel)
theorem kt_22 : Cond.fieldLink RX10 19 "PostGate$Term" "stop" "I" ∈ tb := tb_at (i := 202) (by decide +kernel) (by decide +kernel)
theorem kt_23 : Cond.fieldLink RX10 22 "PostGate$Term" "bits" "I" ∈ tb := tb_at (i := 204) (by decide +kernel) (by decide +kernel)
theorem kt_24 : Cond.fieldLink RX10 25 "PostGate$Term" "address" "I" ∈ tb := tb_at (i := 206) (by decide +kernel) (by decide +kernel)
theorem kt_25 : Cond.methodLink RX9 1 objectInit ∈ tb := tb_at (i := 270) (by decide +kernel) (by decide +kernel)
theorem kt_26 : Cond.fieldLink RX9 9 "PostGate$Tags" "starts" "[I" ∈ tb := tb_at (i := 275) (by decide +kernel) (by decide +kernel)
theorem kt_27 : Cond.fieldLink RX9 13 "PostGate$Tags" "signs" "[I" ∈ tb := tb_at (i := 276) (by decide +kernel) (by decide +kernel)
theorem kt_28 : Cond.fieldLink RX9 16 "PostGate$Tags" "ends" "[I" ∈ tb := tb_at (i := 277) (by decide +kernel) (by decide +kernel)
theorem kt_29 : Cond.fieldLink RX9 19 "PostGate$Tags" "count" "I" ∈ tb := tb_at (i := 278) (by decide +kernel) (by decide +kernel)
theorem kt_30 : Cond.classLink RX9 23 RX0 ∈ tb := tb_at (i := 271) (by decide +kernel) (by decide +kernel)
theorem kt_31 : Cond.methodLink RX9 25 yX0_init ∈ tb := tb_at (i := 272) (by decide +kernel) (by decide +kernel)
theorem kt_32 : Cond.fieldLink RX9 28 "PostGate$Tags" "text" "LPostGate$Bytes;" ∈ tb := tb_at (i := 273) (by decide +kernel) (by decide +kernel)
theorem kt_33 : Cond.methodLink RX8 1 objectInit ∈ tb := tb_at (i := 297) (by decide +kernel) (by decide +kernel)
theorem kt_34 : Cond.fieldLink RX8 7 "PostGate$Sha" "words" "[I" ∈ tb := tb_at (i := 298) (by decide +kernel) (by decide +kernel)
theorem kt_35 : Cond.fieldLink RX8 13 "PostGate$Sha" "state" "[I" ∈ tb := tb_at (i := 299) (by decide +kernel) (by decide +kernel)
theorem kt_36 : Cond.fieldLink RX8 16 "PostGate$Sha" "turn" "[I" ∈ tb := tb_at (i := 300) (by decide +kernel) (by decide +kernel)
theorem kt_37 : Cond.methodLink RX6 1 objectInit ∈ tb := tb_at (i := 314) (by decide +kernel) (by decide +kernel)
theorem kt_38 : Cond.arrayClass .long ∈ tb := tb_at (i := 331) (by decide +kernel) (by decide +kernel)
theorem kt_39 : Cond.fieldLink RX6 9 "PostGate$Power" "modulus" "[J" ∈ tb := tb_at (i := 315) (by decide +kernel) (by decide +kernel)
theorem kt_40 : Cond.fieldLink RX6 13 "PostGate$Power" "base" "[J" ∈ tb := tb_at (i := 316) (by decide +kernel) (by decide +kernel)
theorem kt_41 : Cond.fieldLink RX6 16 "PostGate$Power" "value" "[J" ∈ tb := tb_at (i := 317) (by decide +kernel) (by decide +kernel)
theorem kt_42 : Cond.fieldLink RX6 19 "PostGate$Power" "sum" "[J" ∈ tb := tb_at (i := 318) (by decide +kernel) (by decide +kernel)
theorem kt_43 : Cond.fieldLink RX6 22 "PostGate$Power" "factor" "J" ∈ tb := tb_at (i := 319) (by decide +kernel) (by decide +kernel)
theorem kt_44 : Cond.methodLink RX4 3 objectInit ∈ tb := tb_at (i := 427) (by decide +kernel) (by decide +kernel)
theorem kt_45 : Cond.classLink RX4 9 RX0 ∈ tb := tb_at (i := 428) (by decide +kernel) (by decide +kernel)
theorem kt_46 : Cond.methodLink RX4 11 yX0_init ∈ tb := tb_at (i := 429) (by decide +kernel) (by decide +kernel)
theorem kt_47 : Cond.fieldLink RX4 14 "PostGate$Message" "text" "LPostGate$Bytes;" ∈ tb := tb_at (i := 430) (by decide +kernel) (by decide +kernel)
theorem kt_48 : Cond.fieldLink RX4 20 "PostGate$Message" "starts" "[I" ∈ tb := tb_at (i := 433) (by decide +kernel) (by decide +kernel)
theorem kt_49 : Cond.fieldLink RX4 24 "PostGate$Message" "colons" "[I" ∈ tb := tb_at (i := 434) (by decide +kernel) (by decide +kernel)
theorem kt_50 : Cond.fieldLink RX4 27 "PostGate$Message" "ends" "[I" ∈ tb := tb_at (i := 437) (by decide +kernel) (by decide +kernel)
theorem kt_51 : Cond.fieldLink RX4 30 "PostGate$Message" "count" "I" ∈ tb := tb_at (i := 440) (by decide +kernel) (by decide +kernel)
theorem kt_52 : Cond.fieldLink RX4 34 "PostGate$Message" "bodyStart" "I" ∈ tb := tb_at (i := 443) (by decide +kernel) (by decide +kernel)
set_option maxHeartbeats 4000000 in
set_option maxRecDepth 100000 in
theorem c_X3_init (l : Launch) (dC : Nat → ClassId) (dI : Nat → Nat → Nat) (sz : Nat) (h0 : Nat) : Met l yX3_init (.code yX3_init cX3_init 1 none :: tb) ({ frames := 2, cells := 4, slots := 766, locals := 33 }) (va_Pc [.ref h0] (PW (dC, dI) sz [(h0, .inr (3, [.null, .null, .int 0, .int 0]))] [])) (va_Qv (fun _ : Unit => True) (fun _ T9 => ∃ (q1 : Nat) (q2 : Nat), QW (dC, dI) (va_A [(h0, .inr (3, [.null, .null, .int 0, .int 0]))] sz) [(h0, .inr (3, [.ref q1, .ref q2, .int 0, .int 0]))] [] T9) (va_A [(h0, .inr (3, [.null, .null, .int 0, .int 0]))] sz)) 4 766 (va_A [(h0, .inr (3, [.null, .null, .int 0, .int 0]))] sz) := by
  refine Met.ofW (cc := cX3_init) (maxL := 1) (ret := none) (by decide) rfl ?_
  intro p e s m args below meth c s₁ B hml hv
  obtain ⟨rfl, hsz, hP, hK, hD0, hE⟩ := hv
  have hx := B.exec
  have hb := B.bytes
  have hr := B.returns
  have hts : ∀ w ∈ tb, w.before _ s = true := fun w h => atoms_spec (ws := .code yX3_init cX3_init 1 none :: tb) B.pre w (List.mem_cons_of_mem _ h)
  have hown : s.vm.findClass RX3 = some m.cls := findClass_of_methodNamed B.named
  have hlocks := B.notSynchronized
  have hin : meth.name = "<init>" := (name_of_methodNamed B.named B.method).1
  subst hsz
  have hD := hD0.self (sz := s.heap.size)
  generalize hAe : va_A [(h0, .inr (3, [.null, .null, .int 0, .int 0]))] s.heap.size = A at hD ⊢
  have hA : ∀ q : Nat, s.heap.size ≤ q → A q := fun q h => by rw [← hAe]; exact Or.inr h
  have hS : va_S A s.heap s.heap [] := va_S.rf
  have hP : va_P (dC, dI) vwCl [(h0, .inr (3, [.null, .null, .int 0, .int 0]))] s.heap := hP
  have hl := lv_entry ([.ref h0]) (n := 1) (Nat.le_of_ble_eq_true rfl)
  rw [lg_entry_eq]
  generalize (lg_sl ([.ref h0]) ++ List.replicate (1 - (lg_sl ([.ref h0])).length) Slot.unset).toArray = ls at hl ⊢
  have hl : lv_has ls 1 [(0, .ref h0)] := hl
  refine lv_aload_n hx hb dX3_init_0 rfl (lv_at hl 0 rfl) ?_
  refine W.objInit hx hb hown (hts _ kt_7) (hts _ kt_1) (hts _ kt_2) rfl (by rw [hml]; exact hl.1) rfl dX3_init_1 (Nat.le_of_ble_eq_true rfl) (Nat.le_of_ble_eq_true rfl) ?_
  refine W.eq (g2 := F0 m 4 ls []) rfl ?_
  refine lv_aload_n hx hb dX3_init_4 rfl (lv_at hl 0 rfl) ?_
  refine va_new (ci := 0) (fs := [.null, .int 0, .int 0]) (C := RX0) (T := TX0) (N := 3) hx hb hts it_0 tyX0 tyX0_ok hown (hts _ kt_8) (hts _ kt_9) (hts _ kt_10) hK hP hD hS hA rfl df_0 (by show _ + 1 ≤ 4; omega) (by show _ + 3 ≤ 766; omega) dX3_init_5 (fun q_1 H hP hD hS => ?_)
  have hP : va_P (dC, dI) vwCl [(h0, .inr (3, [.null, .null, .int 0, .int 0])), (q_1, .inr (0, [.null, .int 0, .int 0]))] H := hP
  have hD : va_D A [(h0, .inr (3, [.null, .null, .int 0, .int 0])), (q_1, .inr (0, [.null, .int 0, .int 0]))] := hD
  refine lv_dup hx hb dX3_init_8 rfl ?_
  refine lv_bipush (v := 60) hx hb dX3_init_9 (by decide) ?_
  refine lv_topi (fun x ex => ?_)
  obtain rfl : x = nI 60 := ex.trans (by decide)
  have hPc := hP.sub (ws' := [(q_1, .inr (0, [.null, .int 0, .int 0]))]) [1] rfl
  have hDc := hD.sub (ws' := [(q_1, .inr (0, [.null, .int 0, .int 0]))]) [1] (by decide) rfl
  have hKc := hK.sub (tys' := []) [] rfl
  have hFc := va_free (wc := [(q_1, .inr (0, [.null, .int 0, .int 0]))]) hD hS hA [1] rfl
  refine va_callv (va_runI (As := [.int (nI 60)]) (rest := [.ref q_1, .ref h0]) ⟨hx, hb, hml, hown, hts⟩ (c_X0_init l dC dI H.size q_1 60 (by omega)) ⟨callB_of 1 hts (gi kt_11) rfl rfl rfl (hts _ kt_10) (hts _ kt_12) (by decide +kernel) ⟨Nat.le_of_ble_eq_true rfl, Nat.le_of_ble_eq_true rfl⟩, rfl, (hts _ kt_13)⟩ ⟨fun a U g mk q => ⟨q.1, PW.calling q.2⟩, fun U hU hW => ⟨rfl, PW.mk hU hW hPc hKc hDc hE⟩⟩ rfl rfl hl.1 rfl (lv_room (Nat.le_of_ble_eq_true rfl)) dX3_init_11 ⟨by show _ + 1 ≤ 4; omega, by show _ + 60 ≤ 766; omega⟩) hS (fun q _ h => hFc q h) hFc (fun u t H1 locs ht hvm hw hB hz1 hk1 hS => ?_)
  obtain ⟨q_3, cA_4, hB1⟩ := hB
  obtain ⟨hP, hD, hK⟩ := QW.join (wr := [(h0, .inr (3, [.null, .null, .int 0, .int 0]))]) hP hD hK [1] [0] rfl rfl (by decide) (by decide) hk1 hFc ht hvm hB1
  generalize H1 = H at hP hS ⊢
  have hK : va_K (dC, dI) vwCl [(cA_4, .int)] s := hK.sub [0] rfl
  have hP : va_P (dC, dI) vwCl [(h0, .inr (3, [.null, .null, .int 0, .int 0])), (q_1, .inr (0, [.ref q_3, .int 0, .int 0])), (q_3, .inl (cA_4, 60, .inl (fun _ => 0)))] H := hP
  have hD : va_D A [(h0, .inr (3, [.null, .null, .int 0, .int 0])), (q_1, .inr (0, [.ref q_3, .int 0, .int 0])), (q_3, .inl (cA_4, 60, .inl (fun _ => 0)))] := hD
  refine va_putF (D := (dC, dI)) (ci := 3) (v := .ref q_1) (ty := .object "PostGate$Bytes") (C := RX3) (T := TX3) (N := 4) hx hb hts it_3 tyX3 tyX3_ok nmX3 hown hK hP hD hS 0 rfl rfl 0 (by decide) (hts _ kt_14) (fun _ h9 => h9) rfl hin rfl (by decide +kernel) rfl rfl (Nat.le_of_ble_eq_true rfl) dX3_init_14 (fun H locs hP hD hS => ?_)
  have hP : va_P (dC, dI) vwCl [(h0, .inr (3, [.ref q_1, .null, .int 0, .int 0])), (q_1, .inr (0, [.ref q_3, .int 0, .int 0])), (q_3, .inl (cA_4, 60, .inl (fun _ => 0)))] H := hP
  have hD : va_D A [(h0, .inr (3, [.ref q_1, .null, .int 0, .int 0])), (q_1, .inr (0, [.ref q_3, .int 0, .int 0])), (q_3, .inl (cA_4, 60, .inl (fun _ => 0)))] := hD
  refine lv_aload_n hx hb dX3_init_17 rfl (lv_at hl 0 rfl) ?_
  refine va_new (ci := 0) (fs := [.null, .int 0, .int 0]) (C := RX0) (T := TX0) (N := 3) hx hb hts it_0 tyX0 tyX0_ok hown (hts _ kt_8) (hts _ kt_9) (hts _ kt_10) hK hP hD hS hA rfl df_0 (by show _ + 1 ≤ 4; omega) (by show _ + 3 ≤ 766; omega) dX3_init_18 (fun q_5 H hP hD hS => ?_)
  have hP : va_P (dC, dI) vwCl [(h0, .inr (3, [.ref q_1, .null, .int 0, .int 0])), (q_1, .inr (0, [.ref q_3, .int 0, .int 0])), (q_3, .inl (cA_4, 60, .inl (fun _ => 0))), (q_5, .inr (0, [.null, .int 0, .int 0]))] H := hP
  have hD : va_D A [(h0, .inr (3, [.ref q_1, .null, .int 0, .int 0])), (q_1, .inr (0, [.ref q_3, .int 0, .int 0])), (q_3, .inl (cA_4, 60, .inl (fun _ => 0))), (q_5, .inr (0, [.null, .int 0, .int 0]))] := hD
  refine lv_dup hx hb dX3_init_21 rfl ?_
  refine lv_sipush (v := 700) hx hb dX3_init_22 (by decide) ?_
  refine lv_topi (fun x ex => ?_)
  obtain rfl : x = nI 700 := ex.trans (by decide)
  have hPc := hP.sub (ws' := [(q_5, .inr (0, [.null, .int 0, .int 0]))]) [3] rfl
  have hDc := hD.sub (ws' := [(q_5, .inr (0, [.null, .int 0, .int 0]))]) [3] (by decide) rfl
  have hKc := hK.sub (tys' := []) [] rfl
  have hFc := va_free (wc := [(q_5, .inr (0, [.null, .int 0, .int 0]))]) hD hS hA [3] rfl
  refine va_callv (va_runI (As := [.int (nI 700)]) (rest := [.ref q_5, .ref h0]) ⟨hx, hb, hml, hown, hts⟩ (c_X0_init l dC dI H.size q_5 700 (by omega)) ⟨callB_of 1 hts (gi kt_11) rfl rfl rfl (hts _ kt_10) (hts _ kt_12) (by decide +kernel) ⟨Nat.le_of_ble_eq_true rfl, Nat.le_of_ble_eq_true rfl⟩, rfl, (hts _ kt_13)⟩ ⟨fun a U g mk q => ⟨q.1, PW.calling q.2⟩, fun U hU hW => ⟨rfl, PW.mk hU hW hPc hKc hDc hE⟩⟩ rfl rfl hl.1 rfl (lv_room (Nat.le_of_ble_eq_true rfl)) dX3_init_25 ⟨by show _ + 1 ≤ 4; omega, by show _ + 700 ≤ 766; omega⟩) hS (fun q _ h => hFc q h) hFc (fun u t H1 locs ht hvm hw hB hz1 hk1 hS => ?_)
  obtain ⟨q_7, cA_8, hB1⟩ := hB
  obtain ⟨hP, hD, hK⟩ := QW.join (wr := [(h0, .inr (3, [.ref q_1, .null, .int 0, .int 0])), (q_1, .inr (0, [.ref q_3, .int 0, .int 0])), (q_3, .inl (cA_4, 60, .inl (fun _ => 0)))]) hP hD hK [3] [0, 1, 2] rfl rfl (by decide) (by decide) hk1 hFc ht hvm hB1
  generalize H1 = H at hP hS ⊢
  have hK : va_K (dC, dI) vwCl [(cA_4, .int), (cA_8, .int)] s := hK.sub [0, 1] rfl
  have hP : va_P (dC, dI) vwCl [(h0, .inr (3, [.ref q_1, .null, .int 0, .int 0])), (q_1, .inr (0, [.ref q_3, .int 0, .int 0])), (q_3, .inl (cA_4, 60, .inl (fun _ => 0))), (q_5, .inr (0, [.ref q_7, .int 0, .int 0])), (q_7, .inl (cA_8, 700, .inl (fun _ => 0)))] H := hP
  have hD : va_D A [(h0, .inr (3, [.ref q_1, .null, .int 0, .int 0])), (q_1, .inr (0, [.ref q_3, .int 0, .int 0])), (q_3, .inl (cA_4, 60, .inl (fun _ => 0))), (q_5, .inr (0, [.ref q_7, .int 0, .int 0])), (q_7, .inl (cA_8, 700, .inl (fun _ => 0)))] := hD
  refine va_putF (D := (dC, dI)) (ci := 3) (v := .ref q_5) (ty := .object "PostGate$Bytes") (C := RX3) (T := TX3) (N := 4) hx hb hts it_3 tyX3 tyX3_ok nmX3 hown hK hP hD hS 0 rfl rfl 1 (by decide) (hts _ kt_15) (fun _ h9 => h9) rfl hin rfl (by decide +kernel) rfl rfl (Nat.le_of_ble_eq_true rfl) dX3_init_28 (fun H locs hP hD hS => ?_)
  have hP : va_P (dC, dI) vwCl [(h0, .inr (3, [.ref q_1, .ref q_5, .int 0, .int 0])), (q_1, .inr (0, [.ref q_3, .int 0, .int 0])), (q_3, .inl (cA_4, 60, .inl (fun _ => 0))), (q_5, .inr (0, [.ref q_7, .int 0, .int 0])), (q_7, .inl (cA_8, 700, .inl (fun _ => 0)))] H := hP
  have hD : va_D A [(h0, .inr (3, [.ref q_1, .ref q_5, .int 0, .int 0])), (q_1, .inr (0, [.ref q_3, .int 0, .int 0])), (q_3, .inl (cA_4, 60, .inl (fun _ => 0))), (q_5, .inr (0, [.ref q_7, .int 0, .int 0])), (q_7, .inl (cA_8, 700, .inl (fun _ => 0)))] := hD
  refine lv_aload_n hx hb dX3_init_31 rfl (lv_at hl 0 rfl) ?_
  refine lv_iconst (v := 0) hx hb dX3_init_32 (by decide) ?_
  refine va_put (D := (dC, dI)) (ci := 3) (v := .int 0) (ty := .int) (C := RX3) (T := TX3) (N := 4) hx hb hts it_3 tyX3 tyX3_ok nmX3 hown hK hP hD hS 0 rfl rfl 2 (by decide) (hts _ kt_16) (fun _ h9 => h9) rfl (by decide +kernel) rfl rfl (Nat.le_of_ble_eq_true rfl) dX3_init_33 (fun H locs hP hD hS => ?_)
  have hP : va_P (dC, dI) vwCl [(h0, .inr (3, [.ref q_1, .ref q_5, .int 0, .int 0])), (q_1, .inr (0, [.ref q_3, .int 0, .int 0])), (q_3, .inl (cA_4, 60, .inl (fun _ => 0))), (q_5, .inr (0, [.ref q_7, .int 0, .int 0])), (q_7, .inl (cA_8, 700, .inl (fun _ => 0)))] H := hP
  have hD : va_D A [(h0, .inr (3, [.ref q_1, .ref q_5, .int 0, .int 0])), (q_1, .inr (0, [.ref q_3, .int 0, .int 0])), (q_3, .inl (cA_4, 60, .inl (fun _ => 0))), (q_5, .inr (0, [.ref q_7, .int 0, .int 0])), (q_7, .inl (cA_8, 700, .inl (fun _ => 0)))] := hD
  refine lv_aload_n hx hb dX3_init_36 rfl (lv_at hl 0 rfl) ?_
  refine lv_iconst (v := 0) hx hb dX3_init_37 (by decide) ?_
  refine va_put (D := (dC, dI)) (ci := 3) (v := .int 0) (ty := .int) (C := RX3) (T := TX3) (N := 4) hx hb hts it_3 tyX3 tyX3_ok nmX3 hown hK hP hD hS 0 rfl rfl 3 (by decide) (hts _ kt_17) (fun _ h9 => h9) rfl (by decide +kernel) rfl rfl (Nat.le_of_ble_eq_true rfl) dX3_init_38 (fun H locs hP hD hS => ?_)
  have hP : va_P (dC, dI) vwCl [(h0, .inr (3, [.ref q_1, .ref q_5, .int 0, .int 0])), (q_1, .inr (0, [.ref q_3, .int 0, .int 0])), (q_3, .inl (cA_4, 60, .inl (fun _ => 0))), (q_5, .inr (0, [.ref q_7, .int 0, .int 0])), (q_7, .inl (cA_8, 700, .inl (fun _ => 0)))] H := hP
  have hD : va_D A [(h0, .inr (3, [.ref q_1, .ref q_5, .int 0, .int 0])), (q_1, .inr (0, [.ref q_3, .int 0, .int 0])), (q_3, .inl (cA_4, 60, .inl (fun _ => 0))), (q_5, .inr (0, [.ref q_7, .int 0, .int 0])), (q_7, .inl (cA_8, 700, .inl (fun _ => 0)))] := hD
  have hP9 := hP.sub (ws' := [(h0, .inr (3, [.ref q_1, .ref q_5, .int 0, .int 0]))]) [0] rfl
  have hD9 := hD.sub (ws' := [(h0, .inr (3, [.ref q_1, .ref q_5, .int 0, .int 0]))]) [0] (by decide) rfl
  have hK9 := hK.sub (tys' := []) [] rfl
  refine W.widen (k := 4) (n := 766) (by omega) (by omega) ?_
  exact W.vret hx hb hr (fun t ht hW => ⟨⟨(), rfl, trivial, ⟨q_1, q_5, QW.mk ht hW hP9 hK9 hD9⟩⟩, hS.F ht⟩) hS.2.2 dX3_init_41
set_option maxHeartbeats 4000000 in
set_option maxRecDepth 100000 in
theorem c_X10_init (l : Launch) (dC : Nat → ClassId) (dI : Nat → Nat → Nat) (sz : Nat) (h0 : Nat) : Met l yX10_init (.code yX10_init cX10_init 1 none :: tb) ({ frames := 1, cells := 0, slots := 0, locals := 12 }) (va_Pc [.ref h0] (PW (dC, dI) sz [(h0, .inr (10, [.int 0, .int 0, .int 0, .int 0, .int 0, .int 0]))] [])) (va_Qv (fun _ : Unit => True) (fun _ T9 => QW (dC, dI) (va_A [(h0, .inr (10, [.int 0, .int 0, .int 0, .int 0, .int 0, .int 0]))] sz) [(h0, .inr (10, [.int 0, .int 43, .int 0, .int 0, .int 32, .int 0]))] [] T9) (va_A [(h0, .inr (10, [.int 0, .int 0, .int 0, .int 0, .int 0, .int 0]))] sz)) 0 0 (va_A [(h0, .inr (10, [.int 0, .int 0, .int 0, .int 0, .int 0, .int 0]))] sz) := by
  refine Met.ofW (cc := cX10_init) (maxL := 1) (ret := none) (by decide) rfl ?_
  intro p e s m args below meth c s₁ B hml hv
  obtain ⟨rfl, hsz, hP, hK, hD0, hE⟩ := hv
  have hx := B.exec
  have hb := B.bytes
  have hr := B.returns
  have hts : ∀ w ∈ tb, w.before _ s = true := fun w h => atoms_spec (ws := .code yX10_init cX10_init 1 none :: tb) B.pre w (List.mem_cons_of_mem _ h)
  have hown : s.vm.findClass RX10 = some m.cls := findClass_of_methodNamed B.named
  have hlocks := B.notSynchronized
  have hin : meth.name = "<init>" := (name_of_methodNamed B.named B.method).1
  subst hsz
  have hD := hD0.self (sz := s.heap.size)
  generalize hAe : va_A [(h0, .inr (10, [.int 0, .int 0, .int 0, .int 0, .int 0, .int 0]))] s.heap.size = A at hD ⊢
  have hA : ∀ q : Nat, s.heap.size ≤ q → A q := fun q h => by rw [← hAe]; exact Or.inr h
  have hS : va_S A s.heap s.heap [] := va_S.rf
  have hP : va_P (dC, dI) vwCl [(h0, .inr (10, [.int 0, .int 0, .int 0, .int 0, .int 0, .int 0]))] s.heap := hP
  have hl := lv_entry ([.ref h0]) (n := 1) (Nat.le_of_ble_eq_true rfl)
  rw [lg_entry_eq]
  generalize (lg_sl ([.ref h0]) ++ List.replicate (1 - (lg_sl ([.ref h0])).length) Slot.unset).toArray = ls at hl ⊢
  have hl : lv_has ls 1 [(0, .ref h0)] := hl
  refine lv_aload_n hx hb dX10_init_0 rfl (lv_at hl 0 rfl) ?_
  refine W.objInit hx hb hown (hts _ kt_18) (hts _ kt_1) (hts _ kt_2) rfl (by rw [hml]; exact hl.1) rfl dX10_init_1 (Nat.le_of_ble_eq_true rfl) (Nat.le_of_ble_eq_true rfl) ?_
  refine W.eq (g2 := F0 m 4 ls []) rfl ?_
  refine lv_aload_n hx hb dX10_init_4 rfl (lv_at hl 0 rfl) ?_
  refine lv_iconst (v := 0) hx hb dX10_init_5 (by decide) ?_
  refine va_put (D := (dC, dI)) (ci := 10) (v := .int 0) (ty := .int) (C := RX10) (T := TX10) (N := 6) hx hb hts it_10 tyX10 tyX10_ok nmX10 hown hK hP hD hS 0 rfl rfl 0 (by decide) (hts _ kt_19) (fun _ h9 => h9) rfl (by decide +kernel) rfl rfl (Nat.le_of_ble_eq_true rfl) dX10_init_6 (fun H locs hP hD hS => ?_)
  have hP : va_P (dC, dI) vwCl [(h0, .inr (10, [.int 0, .int 0, .int 0, .int 0, .int 0, .int 0]))] H := hP
  have hD : va_D A [(h0, .inr (10, [.int 0, .int 0, .int 0, .int 0, .int 0, .int 0]))] := hD
  refine lv_aload_n hx hb dX10_init_9 rfl (lv_at hl 0 rfl) ?_
  refine lv_bipush (v := 43) hx hb dX10_init_10 (by decide) ?_
  refine va_put (D := (dC, dI)) (ci := 10) (v := .int 43) (ty := .int) (C := RX10) (T := TX10) (N := 6) hx hb hts it_10 tyX10 tyX10_ok nmX10 hown hK hP hD hS 0 rfl rfl 1 (by decide) (hts _ kt_20) (fun _ h9 => h9) rfl (by decide +kernel) rfl rfl (Nat.le_of_ble_eq_true rfl) dX10_init_12 (fun H locs hP hD hS => ?_)
  have hP : va_P (dC, dI) vwCl [(h0, .inr (10, [.int 0, .int 43, .int 0, .int 0, .int 0, .int 0]))] H := hP
  have hD : va_D A [(h0, .inr (10, [.int 0, .int 43, .int 0, .int 0, .int 0, .int 0]))] := hD
  refine lv_aload_n hx hb dX10_init_15 rfl (lv_at hl 0 rfl) ?_
  refine lv_iconst (v := 0) hx hb dX10_init_16 (by decide) ?_
  refine va_put (D := (dC, dI)) (ci := 10) (v := .int 0) (ty := .int) (C := RX10) (T := TX10) (N := 6) hx hb hts it_10 tyX10 tyX10_ok nmX10 hown hK hP hD hS 0 rfl rfl 2 (by decide) (hts _ kt_21) (fun _ h9 => h9) rfl (by decide +kernel) rfl rfl (Nat.le_of_ble_eq_true rfl) dX10_init_17 (fun H locs hP hD hS => ?_)
  have hP : va_P (dC, dI) vwCl [(h0, .inr (10, [.int 0, .int 43, .int 0, .int 0, .int 0, .int 0]))] H := hP
  have hD : va_D A [(h0, .inr (10, [.int 0, .int 43, .int 0, .int 0, .int 0, .int 0]))] := hD
  refine lv_aload_n hx hb dX10_init_20 rfl (lv_at hl 0 rfl) ?_
  refine lv_iconst (v := 0) hx hb dX10_init_21 (by decide) ?_
  refine va_put (D := (dC, dI)) (ci := 10) (v := .int 0) (ty := .int) (C := RX10) (T := TX10) (N := 6) hx hb hts it_10 tyX10 tyX10_ok nmX10 hown hK hP hD hS 0 rfl rfl 3 (by decide) (hts _ kt_22) (fun _ h9 => h9) rfl (by decide +kernel) rfl rfl (Nat.le_of_ble_eq_true rfl) dX10_init_22 (fun H locs hP hD hS => ?_)
  have hP : va_P (dC, dI) vwCl [(h0, .inr (10, [.int 0, .int 43, .int 0, .int 0, .int 0, .int 0]))] H := hP
  have hD : va_D A [(h0, .inr (10, [.int 0, .int 43, .int 0, .int 0, .int 0, .int 0]))] := hD
  refine lv_aload_n hx hb dX10_init_25 rfl (lv_at hl 0 rfl) ?_
  refine lv_bipush (v := 32) hx hb dX10_init_26 (by decide) ?_
  refine va_put (D := (dC, dI)) (ci := 10) (v := .int 32) (ty := .int) (C := RX10) (T := TX10) (N := 6) hx hb hts it_10 tyX10 tyX10_ok nmX10 hown hK hP hD hS 0 rfl rfl 4 (by decide) (hts _ kt_23) (fun _ h9 => h9) rfl (by decide +kernel) rfl rfl (Nat.le_of_ble_eq_true rfl) dX10_init_28 (fun H locs hP hD hS => ?_)
  have hP : va_P (dC, dI) vwCl [(h0, .inr (10, [.int 0, .int 43, .int 0, .int 0, .int 32, .int 0]))] H := hP
  have hD : va_D A [(h0, .inr (10, [.int 0, .int 43, .int 0, .int 0, .int 32, .int 0]))] := hD
  refine lv_aload_n hx hb dX10_init_31 rfl (lv_at hl 0 rfl) ?_
  refine lv_iconst (v := 0) hx hb dX10_init_32 (by decide) ?_
  refine va_put (D := (dC, dI)) (ci := 10) (v := .int 0) (ty := .int) (C := RX10) (T := TX10) (N := 6) hx hb hts it_10 tyX10 tyX10_ok nmX10 hown hK hP hD hS 0 rfl rfl 5 (by decide) (hts _ kt_24) (fun _ h9 => h9) rfl (by decide +kernel) rfl rfl (Nat.le_of_ble_eq_true rfl) dX10_init_33 (fun H locs hP hD hS => ?_)
  have hP : va_P (dC, dI) vwCl [(h0, .inr (10, [.int 0, .int 43, .int 0, .int 0, .int 32, .int 0]))] H := hP
  have hD : va_D A [(h0, .inr (10, [.int 0, .int 43, .int 0, .int 0, .int 32, .int 0]))] := hD
  have hP9 := hP.sub (ws' := [(h0, .inr (10, [.int 0, .int 43, .int 0, .int 0, .int 32, .int 0]))]) [0] rfl
  have hD9 := hD.sub (ws' := [(h0, .inr (10, [.int 0, .int 43, .int 0, .int 0, .int 32, .int 0]))]) [0] (by decide) rfl
  have hK9 := hK.sub (tys' := []) [] rfl
  refine W.widen (k := 0) (n := 0) (by omega) (by omega) ?_
  exact W.vret hx hb hr (fun t ht hW => ⟨⟨(), rfl, trivial, QW.mk ht hW hP9 hK9 hD9⟩, hS.F ht⟩) hS.2.2 dX10_init_36
set_option maxHeartbeats 4000000 in
set_option maxRecDepth 100000 in
theorem c_X9_init (l : Launch) (dC : Nat → ClassId) (dI : Nat → Nat → Nat) (sz : Nat) (h0 : Nat) (n : Nat) (hn : n < 10000) : Met l yX9_init (.code yX9_init cX9_init 2 none :: tb) ({ frames := 2, cells := 5, slots := n + 123, locals := 33 }) (va_Pc [.ref h0, .int (nI n)] (PW (dC, dI) sz [(h0, .inr (9, [.null, .null, .null, .null, .int 0]))] [])) (va_Qv (fun _ : Unit => True) (fun _ T9 => QW (dC, dI) (va_A [(h0, .inr (9, [.null, .null, .null, .null, .int 0]))] sz) [] [] T9) (va_A [(h0, .inr (9, [.null, .null, .null, .null, .int 0]))] sz)) 5 (n + 123) (va_A [(h0, .inr (9, [.null, .null, .null, .null, .int 0]))] sz) := by
  refine Met.ofW (cc := cX9_init) (maxL := 2) (ret := none) (by decide) rfl ?_
  intro p e s m args below meth c s₁ B hml hv
  obtain ⟨rfl, hsz, hP, hK, hD0, hE⟩ := hv
  have hx := B.exec
  have hb := B.bytes
  have hr := B.returns
  have hts : ∀ w ∈ tb, w.before _ s = true := fun w h => atoms_spec (ws := .code yX9_init cX9_init 2 none :: tb) B.pre w (List.mem_cons_of_mem _ h)
  have hown : s.vm.findClass RX9 = some m.cls := findClass_of_methodNamed B.named
  have hlocks := B.notSynchronized
  have hin : meth.name = "<init>" := (name_of_methodNamed B.named B.method).1
  subst hsz
  have hD := hD0.self (sz := s.heap.size)
  generalize hAe : va_A [(h0, .inr (9, [.null, .null, .null, .null, .int 0]))] s.heap.size = A at hD ⊢
  have hA : ∀ q : Nat, s.heap.size ≤ q → A q := fun q h => by rw [← hAe]; exact Or.inr h
  have hS : va_S A s.heap s.heap [] := va_S.rf
  have hP : va_P (dC, dI) vwCl [(h0, .inr (9, [.null, .null, .null, .null, .int 0]))] s.heap := hP
  have hl := lv_entry ([.ref h0, .int (nI n)]) (n := 2) (Nat.le_of_ble_eq_true rfl)
  rw [lg_entry_eq]
  generalize (lg_sl ([.ref h0, .int (nI n)]) ++ List.replicate (2 - (lg_sl ([.ref h0, .int (nI n)])).length) Slot.unset).toArray = ls at hl ⊢
  have hl : lv_has ls 2 [(0, .ref h0), (1, .int (nI n))] := hl
  refine lv_aload_n hx hb dX9_init_0 rfl (lv_at hl 0 rfl) ?_
  refine W.objInit hx hb hown (hts _ kt_25) (hts _ kt_1) (hts _ kt_2) rfl (by rw [hml]; exact hl.1) rfl dX9_init_1 (Nat.le_of_ble_eq_true rfl) (Nat.le_of_ble_eq_true rfl) ?_
  refine W.eq (g2 := F0 m 4 ls []) rfl ?_
  refine lv_aload_n hx hb dX9_init_4 rfl (lv_at hl 0 rfl) ?_
  refine lv_bipush (v := 40) hx hb dX9_init_5 (by decide) ?_
  refine va_newa (atype := .int) (ty := .int) (a0 := (40, .inl (fun _ => 0))) (N' := 40) hx hb (hts _ kt_5) rfl hK hP hD hS hA (fun _ => rfl) (by decide) (by decide) (by show _ * 4 ≤ _; omega) (by show _ + 1 ≤ 5; omega) (by show _ + 40 ≤ n + 123; omega) dX9_init_7 (fun q_1 cA_2 H hK hP hD hS => ?_)
  have hK : va_K (dC, dI) vwCl [(cA_2, .int)] s := hK
  have hP : va_P (dC, dI) vwCl [(h0, .inr (9, [.null, .null, .null, .null, .int 0])), (q_1, .inl (cA_2, 40, .inl (fun _ => 0)))] H := hP
  have hD : va_D A [(h0, .inr (9, [.null, .null, .null, .null, .int 0])), (q_1, .inl (cA_2, 40, .inl (fun _ => 0)))] := hD
  refine va_putF (D := (dC, dI)) (ci := 9) (v := .ref q_1) (ty := .array .int) (C := RX9) (T := TX9) (N := 5) hx hb hts it_9 tyX9 tyX9_ok nmX9 hown hK hP hD hS 0 rfl rfl 1 (by decide) (hts _ kt_26) (fun _ h9 => h9) rfl hin rfl (by decide +kernel) rfl rfl (Nat.le_of_ble_eq_true rfl) dX9_init_9 (fun H locs hP hD hS => ?_)
  have hP : va_P (dC, dI) vwCl [(h0, .inr (9, [.null, .ref q_1, .null, .null, .int 0])), (q_1, .inl (cA_2, 40, .inl (fun _ => 0)))] H := hP
  have hD : va_D A [(h0, .inr (9, [.null, .ref q_1, .null, .null, .int 0])), (q_1, .inl (cA_2, 40, .inl (fun _ => 0)))] := hD
  refine lv_aload_n hx hb dX9_init_12 rfl (lv_at hl 0 rfl) ?_
  refine lv_bipush (v := 40) hx hb dX9_init_13 (by decide) ?_
  refine va_newa (atype := .int) (ty := .int) (a0 := (40, .inl (fun _ => 0))) (N' := 40) hx hb (hts _ kt_5) rfl hK hP hD hS hA (fun _ => rfl) (by decide) (by decide) (by show _ * 4 ≤ _; omega) (by show _ + 1 ≤ 5; omega) (by show _ + 40 ≤ n + 123; omega) dX9_init_15 (fun q_3 cA_4 H hK hP hD hS => ?_)
  have hK : va_K (dC, dI) vwCl [(cA_2, .int), (cA_4, .int)] s := hK
  have hP : va_P (dC, dI) vwCl [(h0, .inr (9, [.null, .ref q_1, .null, .null, .int 0])), (q_1, .inl (cA_2, 40, .inl (fun _ => 0))), (q_3, .inl (cA_4, 40, .inl (fun _ => 0)))] H := hP
  have hD : va_D A [(h0, .inr (9, [.null, .ref q_1, .null, .null, .int 0])), (q_1, .inl (cA_2, 40, .inl (fun _ => 0))), (q_3, .inl (cA_4, 40, .inl (fun _ => 0)))] := hD
  refine va_putF (D := (dC, dI)) (ci := 9) (v := .ref q_3) (ty := .array .int) (C := RX9) (T := TX9) (N := 5) hx hb hts it_9 tyX9 tyX9_ok nmX9 hown hK hP hD hS 0 rfl rfl 2 (by decide) (hts _ kt_27) (fun _ h9 => h9) rfl hin rfl (by decide +kernel) rfl rfl (Nat.le_of_ble_eq_true rfl) dX9_init_17 (fun H locs hP hD hS => ?_)
  have hP : va_P (dC, dI) vwCl [(h0, .inr (9, [.null, .ref q_1, .ref q_3, .null, .int 0])), (q_1, .inl (cA_2, 40, .inl (fun _ => 0))), (q_3, .inl (cA_4, 40, .inl (fun _ => 0)))] H := hP
  have hD : va_D A [(h0, .inr (9, [.null, .ref q_1, .ref q_3, .null, .int 0])), (q_1, .inl (cA_2, 40, .inl (fun _ => 0))), (q_3, .inl (cA_4, 40, .inl (fun _ => 0)))] := hD
  refine lv_aload_n hx hb dX9_init_20 rfl (lv_at hl 0 rfl) ?_
  refine lv_bipush (v := 40) hx hb dX9_init_21 (by decide) ?_
  refine va_newa (atype := .int) (ty := .int) (a0 := (40, .inl (fun _ => 0))) (N' := 40) hx hb (hts _ kt_5) rfl hK hP hD hS hA (fun _ => rfl) (by decide) (by decide) (by show _ * 4 ≤ _; omega) (by show _ + 1 ≤ 5; omega) (by show _ + 40 ≤ n + 123; omega) dX9_init_23 (fun q_5 cA_6 H hK hP hD hS => ?_)
  have hK : va_K (dC, dI) vwCl [(cA_2, .int), (cA_4, .int), (cA_6, .int)] s := hK
  have hP : va_P (dC, dI) vwCl [(h0, .inr (9, [.null, .ref q_1, .ref q_3, .null, .int 0])), (q_1, .inl (cA_2, 40, .inl (fun _ => 0))), (q_3, .inl (cA_4, 40, .inl (fun _ => 0))), (q_5, .inl (cA_6, 40, .inl (fun _ => 0)))] H := hP
  have hD : va_D A [(h0, .inr (9, [.null, .ref q_1, .ref q_3, .null, .int 0])), (q_1, .inl (cA_2, 40, .inl (fun _ => 0))), (q_3, .inl (cA_4, 40, .inl (fun _ => 0))), (q_5, .inl (cA_6, 40, .inl (fun _ => 0)))] := hD
  refine va_putF (D := (dC, dI)) (ci := 9) (v := .ref q_5) (ty := .array .int) (C := RX9) (T := TX9) (N := 5) hx hb hts it_9 tyX9 tyX9_ok nmX9 hown hK hP hD hS 0 rfl rfl 3 (by decide) (hts _ kt_28) (fun _ h9 => h9) rfl hin rfl (by decide +kernel) rfl rfl (Nat.le_of_ble_eq_true rfl) dX9_init_25 (fun H locs hP hD hS => ?_)
  have hP : va_P (dC, dI) vwCl [(h0, .inr (9, [.null, .ref q_1, .ref q_3, .ref q_5, .int 0])), (q_1, .inl (cA_2, 40, .inl (fun _ => 0))), (q_3, .inl (cA_4, 40, .inl (fun _ => 0))), (q_5, .inl (cA_6, 40, .inl (fun _ => 0)))] H := hP
  have hD : va_D A [(h0, .inr (9, [.null, .ref q_1, .ref q_3, .ref q_5, .int 0])), (q_1, .inl (cA_2, 40, .inl (fun _ => 0))), (q_3, .inl (cA_4, 40, .inl (fun _ => 0))), (q_5, .inl (cA_6, 40, .inl (fun _ => 0)))] := hD
  refine lv_aload_n hx hb dX9_init_28 rfl (lv_at hl 0 rfl) ?_
  refine lv_iconst (v := 0) hx hb dX9_init_29 (by decide) ?_
  refine va_put (D := (dC, dI)) (ci := 9) (v := .int 0) (ty := .int) (C := RX9) (T := TX9) (N := 5) hx hb hts it_9 tyX9 tyX9_ok nmX9 hown hK hP hD hS 0 rfl rfl 4 (by decide) (hts _ kt_29) (fun _ h9 => h9) rfl (by decide +kernel) rfl rfl (Nat.le_of_ble_eq_true rfl) dX9_init_30 (fun H locs hP hD hS => ?_)
  have hP : va_P (dC, dI) vwCl [(h0, .inr (9, [.null, .ref q_1, .ref q_3, .ref q_5, .int 0])), (q_1, .inl (cA_2, 40, .inl (fun _ => 0))), (q_3, .inl (cA_4, 40, .inl (fun _ => 0))), (q_5, .inl (cA_6, 40, .inl (fun _ => 0)))] H := hP
  have hD : va_D A [(h0, .inr (9, [.null, .ref q_1, .ref q_3, .ref q_5, .int 0])), (q_1, .inl (cA_2, 40, .inl (fun _ => 0))), (q_3, .inl (cA_4, 40, .inl (fun _ => 0))), (q_5, .inl (cA_6, 40, .inl (fun _ => 0)))] := hD
  refine lv_aload_n hx hb dX9_init_33 rfl (lv_at hl 0 rfl) ?_
  refine va_new (ci := 0) (fs := [.null, .int 0, .int 0]) (C := RX0) (T := TX0) (N := 3) hx hb hts it_0 tyX0 tyX0_ok hown (hts _ kt_30) (hts _ kt_9) (hts _ kt_10) hK hP hD hS hA rfl df_0 (by show _ + 1 ≤ 5; omega) (by show _ + 3 ≤ n + 123; omega) dX9_init_34 (fun q_7 H hP hD hS => ?_)
  have hP : va_P (dC, dI) vwCl [(h0, .inr (9, [.null, .ref q_1, .ref q_3, .ref q_5, .int 0])), (q_1, .inl (cA_2, 40, .inl (fun _ => 0))), (q_3, .inl (cA_4, 40, .inl (fun _ => 0))), (q_5, .inl (cA_6, 40, .inl (fun _ => 0))), (q_7, .inr (0, [.null, .int 0, .int 0]))] H := hP
  have hD : va_D A [(h0, .inr (9, [.null, .ref q_1, .ref q_3, .ref q_5, .int 0])), (q_1, .inl (cA_2, 40, .inl (fun _ => 0))), (q_3, .inl (cA_4, 40, .inl (fun _ => 0))), (q_5, .inl (cA_6, 40, .inl (fun _ => 0))), (q_7, .inr (0, [.null, .int 0, .int 0]))] := hD
  refine lv_dup hx hb dX9_init_37 rfl ?_
  refine lv_iload_n hx hb dX9_init_38 rfl (lv_at hl 1 rfl) ?_
  have hPc := hP.sub (ws' := [(q_7, .inr (0, [.null, .int 0, .int 0]))]) [4] rfl
  have hDc := hD.sub (ws' := [(q_7, .inr (0, [.null, .int 0, .int 0]))]) [4] (by decide) rfl
  have hKc := hK.sub (tys' := []) [] rfl
  have hFc := va_free (wc := [(q_7, .inr (0, [.null, .int 0, .int 0]))]) hD hS hA [4] rfl
  refine va_callv (va_runI (As := [.int (nI n)]) (rest := [.ref q_7, .ref h0]) ⟨hx, hb, hml, hown, hts⟩ (c_X0_init l dC dI H.size q_7 n (by omega)) ⟨callB_of 1 hts (gi kt_11) rfl rfl rfl (hts _ kt_10) (hts _ kt_31) (by decide +kernel) ⟨Nat.le_of_ble_eq_true rfl, Nat.le_of_ble_eq_true rfl⟩, rfl, (hts _ kt_13)⟩ ⟨fun a U g mk q => ⟨q.1, PW.calling q.2⟩, fun U hU hW => ⟨rfl, PW.mk hU hW hPc hKc hDc hE⟩⟩ rfl rfl hl.1 rfl (lv_room (Nat.le_of_ble_eq_true rfl)) dX9_init_39 ⟨by show _ + 1 ≤ 5; omega, by show _ + n ≤ n + 123; omega⟩) hS (fun q _ h => hFc q h) hFc (fun u t H1 locs ht hvm hw hB hz1 hk1 hS => ?_)
  obtain ⟨q_9, cA_10, hB1⟩ := hB
  obtain ⟨hP, hD, hK⟩ := QW.join (wr := [(h0, .inr (9, [.null, .ref q_1, .ref q_3, .ref q_5, .int 0])), (q_1, .inl (cA_2, 40, .inl (fun _ => 0))), (q_3, .inl (cA_4, 40, .inl (fun _ => 0))), (q_5, .inl (cA_6, 40, .inl (fun _ => 0)))]) hP hD hK [4] [0, 1, 2, 3] rfl rfl (by decide) (by decide) hk1 hFc ht hvm hB1
  generalize H1 = H at hP hS ⊢
  have hK : va_K (dC, dI) vwCl [(cA_2, .int), (cA_4, .int), (cA_6, .int), (cA_10, .int)] s := hK.sub [0, 1, 2, 3] rfl
  have hP : va_P (dC, dI) vwCl [(h0, .inr (9, [.null, .ref q_1, .ref q_3, .ref q_5, .int 0])), (q_1, .inl (cA_2, 40, .inl (fun _ => 0))), (q_3, .inl (cA_4, 40, .inl (fun _ => 0))), (q_5, .inl (cA_6, 40, .inl (fun _ => 0))), (q_7, .inr (0, [.ref q_9, .int 0, .int 0])), (q_9, .inl (cA_10, n, .inl (fun _ => 0)))] H := hP
  have hD : va_D A [(h0, .inr (9, [.null, .ref q_1, .ref q_3, .ref q_5, .int 0])), (q_1, .inl (cA_2, 40, .inl (fun _ => 0))), (q_3, .inl (cA_4, 40, .inl (fun _ => 0))), (q_5, .inl (cA_6, 40, .inl (fun _ => 0))), (q_7, .inr (0, [.ref q_9, .int 0, .int 0])), (q_9, .inl (cA_10, n, .inl (fun _ => 0)))] := hD
  refine va_putF (D := (dC, dI)) (ci := 9) (v := .ref q_7) (ty := .object "PostGate$Bytes") (C := RX9) (T := TX9) (N := 5) hx hb hts it_9 tyX9 tyX9_ok nmX9 hown hK hP hD hS 0 rfl rfl 0 (by decide) (hts _ kt_32) (fun _ h9 => h9) rfl hin rfl (by decide +kernel) rfl rfl (Nat.le_of_ble_eq_true rfl) dX9_init_42 (fun H locs hP hD hS => ?_)
  have hP : va_P (dC, dI) vwCl [(h0, .inr (9, [.ref q_7, .ref q_1, .ref q_3, .ref q_5, .int 0])), (q_1, .inl (cA_2, 40, .inl (fun _ => 0))), (q_3, .inl (cA_4, 40, .inl (fun _ => 0))), (q_5, .inl (cA_6, 40, .inl (fun _ => 0))), (q_7, .inr (0, [.ref q_9, .int 0, .int 0])), (q_9, .inl (cA_10, n, .inl (fun _ => 0)))] H := hP
  have hD : va_D A [(h0, .inr (9, [.ref q_7, .ref q_1, .ref q_3, .ref q_5, .int 0])), (q_1, .inl (cA_2, 40, .inl (fun _ => 0))), (q_3, .inl (cA_4, 40, .inl (fun _ => 0))), (q_5, .inl (cA_6, 40, .inl (fun _ => 0))), (q_7, .inr (0, [.ref q_9, .int 0, .int 0])), (q_9, .inl (cA_10, n, .inl (fun _ => 0)))] := hD
  have hP9 := hP.sub (ws' := []) [] rfl
  have hD9 := hD.sub (ws' := []) [] (by decide) rfl
  have hK9 := hK.sub (tys' := []) [] rfl
  refine W.widen (k := 5) (n := n + 123) (by omega) (by omega) ?_
  exact W.vret hx hb hr (fun t ht hW => ⟨⟨(), rfl, trivial, QW.mk ht hW hP9 hK9 hD9⟩, hS.F ht⟩) hS.2.2 dX9_init_45
set_option maxHeartbeats 4000000 in
set_option maxRecDepth 100000 in
theorem c_X8_init (l : Launch) (dC : Nat → ClassId) (dI : Nat → Nat → Nat) (sz : Nat) (h0 : Nat) : Met l yX8_init (.code yX8_init cX8_init 1 none :: tb) ({ frames := 1, cells := 3, slots := 80, locals := 12 }) (va_Pc [.ref h0] (PW (dC, dI) sz [(h0, .inr (8, [.null, .null, .null]))] [])) (va_Qv (fun _ : Unit => True) (fun _ T9 => ∃ (qw : Nat) (qs : Nat) (qt : Nat) (cw : ClassId) (cs : ClassId) (ct : ClassId), QW (dC, dI) (va_A [(h0, .inr (8, [.null, .null, .null]))] sz) [(h0, .inr (8, [.ref qw, .ref qs, .ref qt])), (qw, .inl (cw, 64, .inl (fun _ => 0))), (qs, .inl (cs, 8, .inl (fun _ => 0))), (qt, .inl (ct, 8, .inl (fun _ => 0)))] [(cw, .int), (cs, .int), (ct, .int)] T9) (va_A [(h0, .inr (8, [.null, .null, .null]))] sz)) 3 80 (va_A [(h0, .inr (8, [.null, .null, .null]))] sz) := by
  refine Met.ofW (cc := cX8_init) (maxL := 1) (ret := none) (by decide) rfl ?_
  intro p e s m args below meth c s₁ B hml hv
  obtain ⟨rfl, hsz, hP, hK, hD0, hE⟩ := hv
  have hx := B.exec
  have hb := B.bytes
  have hr := B.returns
  have hts : ∀ w ∈ tb, w.before _ s = true := fun w h => atoms_spec (ws := .code yX8_init cX8_init 1 none :: tb) B.pre w (List.mem_cons_of_mem _ h)
  have hown : s.vm.findClass RX8 = some m.cls := findClass_of_methodNamed B.named
  have hlocks := B.notSynchronized
  have hin : meth.name = "<init>" := (name_of_methodNamed B.named B.method).1
  subst hsz
  have hD := hD0.self (sz := s.heap.size)
  generalize hAe : va_A [(h0, .inr (8, [.null, .null, .null]))] s.heap.size = A at hD ⊢
  have hA : ∀ q : Nat, s.heap.size ≤ q → A q := fun q h => by rw [← hAe]; exact Or.inr h
  have hS : va_S A s.heap s.heap [] := va_S.rf
  have hP : va_P (dC, dI) vwCl [(h0, .inr (8, [.null, .null, .null]))] s.heap := hP
  have hl := lv_entry ([.ref h0]) (n := 1) (Nat.le_of_ble_eq_true rfl)
  rw [lg_entry_eq]
  generalize (lg_sl ([.ref h0]) ++ List.replicate (1 - (lg_sl ([.ref h0])).length) Slot.unset).toArray = ls at hl ⊢
  have hl : lv_has ls 1 [(0, .ref h0)] := hl
  refine lv_aload_n hx hb dX8_init_0 rfl (lv_at hl 0 rfl) ?_
  refine W.objInit hx hb hown (hts _ kt_33) (hts _ kt_1) (hts _ kt_2) rfl (by rw [hml]; exact hl.1) rfl dX8_init_1 (Nat.le_of_ble_eq_true rfl) (Nat.le_of_ble_eq_true rfl) ?_
  refine W.eq (g2 := F0 m 4 ls []) rfl ?_
  refine lv_aload_n hx hb dX8_init_4 rfl (lv_at hl 0 rfl) ?_
  refine lv_bipush (v := 64) hx hb dX8_init_5 (by decide) ?_
  refine va_newa (atype := .int) (ty := .int) (a0 := (64, .inl (fun _ => 0))) (N' := 64) hx hb (hts _ kt_5) rfl hK hP hD hS hA (fun _ => rfl) (by decide) (by decide) (by show _ * 4 ≤ _; omega) (by show _ + 1 ≤ 3; omega) (by show _ + 64 ≤ 80; omega) dX8_init_7 (fun q_1 cA_2 H hK hP hD hS => ?_)
  have hK : va_K (dC, dI) vwCl [(cA_2, .int)] s := hK
  have hP : va_P (dC, dI) vwCl [(h0, .inr (8, [.null, .null, .null])), (q_1, .inl (cA_2, 64, .inl (fun _ => 0)))] H := hP
  have hD : va_D A [(h0, .inr (8, [.null, .null, .null])), (q_1, .inl (cA_2, 64, .inl (fun _ => 0)))] := hD
  refine va_putF (D := (dC, dI)) (ci := 8) (v := .ref q_1) (ty := .array .int) (C := RX8) (T := TX8) (N := 3) hx hb hts it_8 tyX8 tyX8_ok nmX8 hown hK hP hD hS 0 rfl rfl 0 (by decide) (hts _ kt_34) (fun _ h9 => h9) rfl hin rfl (by decide +kernel) rfl rfl (Nat.le_of_ble_eq_true rfl) dX8_init_9 (fun H locs hP hD hS => ?_)
  have hP : va_P (dC, dI) vwCl [(h0, .inr (8, [.ref q_1, .null, .null])), (q_1, .inl (cA_2, 64, .inl (fun _ => 0)))] H := hP
  have hD : va_D A [(h0, .inr (8, [.ref q_1, .null, .null])), (q_1, .inl (cA_2, 64, .inl (fun _ => 0)))] := hD
  refine lv_aload_n hx hb dX8_init_12 rfl (lv_at hl 0 rfl) ?_
  refine lv_bipush (v := 8) hx hb dX8_init_13 (by decide) ?_
  refine va_newa (atype := .int) (ty := .int) (a0 := (8, .inl (fun _ => 0))) (N' := 8) hx hb (hts _ kt_5) rfl hK hP hD hS hA (fun _ => rfl) (by decide) (by decide) (by show _ * 4 ≤ _; omega) (by show _ + 1 ≤ 3; omega) (by show _ + 8 ≤ 80; omega) dX8_init_15 (fun q_3 cA_4 H hK hP hD hS => ?_)
  have hK : va_K (dC, dI) vwCl [(cA_2, .int), (cA_4, .int)] s := hK
  have hP : va_P (dC, dI) vwCl [(h0, .inr (8, [.ref q_1, .null, .null])), (q_1, .inl (cA_2, 64, .inl (fun _ => 0))), (q_3, .inl (cA_4, 8, .inl (fun _ => 0)))] H := hP
  have hD : va_D A [(h0, .inr (8, [.ref q_1, .null, .null])), (q_1, .inl (cA_2, 64, .inl (fun _ => 0))), (q_3, .inl (cA_4, 8, .inl (fun _ => 0)))] := hD
  refine va_putF (D := (dC, dI)) (ci := 8) (v := .ref q_3) (ty := .array .int) (C := RX8) (T := TX8) (N := 3) hx hb hts it_8 tyX8 tyX8_ok nmX8 hown hK hP hD hS 0 rfl rfl 1 (by decide) (hts _ kt_35) (fun _ h9 => h9) rfl hin rfl (by decide +kernel) rfl rfl (Nat.le_of_ble_eq_true rfl) dX8_init_17 (fun H locs hP hD hS => ?_)
  have hP : va_P (dC, dI) vwCl [(h0, .inr (8, [.ref q_1, .ref q_3, .null])), (q_1, .inl (cA_2, 64, .inl (fun _ => 0))), (q_3, .inl (cA_4, 8, .inl (fun _ => 0)))] H := hP
  have hD : va_D A [(h0, .inr (8, [.ref q_1, .ref q_3, .null])), (q_1, .inl (cA_2, 64, .inl (fun _ => 0))), (q_3, .inl (cA_4, 8, .inl (fun _ => 0)))] := hD
  refine lv_aload_n hx hb dX8_init_20 rfl (lv_at hl 0 rfl) ?_
  refine lv_bipush (v := 8) hx hb dX8_init_21 (by decide) ?_
  refine va_newa (atype := .int) (ty := .int) (a0 := (8, .inl (fun _ => 0))) (N' := 8) hx hb (hts _ kt_5) rfl hK hP hD hS hA (fun _ => rfl) (by decide) (by decide) (by show _ * 4 ≤ _; omega) (by show _ + 1 ≤ 3; omega) (by show _ + 8 ≤ 80; omega) dX8_init_23 (fun q_5 cA_6 H hK hP hD hS => ?_)
  have hK : va_K (dC, dI) vwCl [(cA_2, .int), (cA_4, .int), (cA_6, .int)] s := hK
  have hP : va_P (dC, dI) vwCl [(h0, .inr (8, [.ref q_1, .ref q_3, .null])), (q_1, .inl (cA_2, 64, .inl (fun _ => 0))), (q_3, .inl (cA_4, 8, .inl (fun _ => 0))), (q_5, .inl (cA_6, 8, .inl (fun _ => 0)))] H := hP
  have hD : va_D A [(h0, .inr (8, [.ref q_1, .ref q_3, .null])), (q_1, .inl (cA_2, 64, .inl (fun _ => 0))), (q_3, .inl (cA_4, 8, .inl (fun _ => 0))), (q_5, .inl (cA_6, 8, .inl (fun _ => 0)))] := hD
  refine va_putF (D := (dC, dI)) (ci := 8) (v := .ref q_5) (ty := .array .int) (C := RX8) (T := TX8) (N := 3) hx hb hts it_8 tyX8 tyX8_ok nmX8 hown hK hP hD hS 0 rfl rfl 2 (by decide) (hts _ kt_36) (fun _ h9 => h9) rfl hin rfl (by decide +kernel) rfl rfl (Nat.le_of_ble_eq_true rfl) dX8_init_25 (fun H locs hP hD hS => ?_)
  have hP : va_P (dC, dI) vwCl [(h0, .inr (8, [.ref q_1, .ref q_3, .ref q_5])), (q_1, .inl (cA_2, 64, .inl (fun _ => 0))), (q_3, .inl (cA_4, 8, .inl (fun _ => 0))), (q_5, .inl (cA_6, 8, .inl (fun _ => 0)))] H := hP
  have hD : va_D A [(h0, .inr (8, [.ref q_1, .ref q_3, .ref q_5])), (q_1, .inl (cA_2, 64, .inl (fun _ => 0))), (q_3, .inl (cA_4, 8, .inl (fun _ => 0))), (q_5, .inl (cA_6, 8, .inl (fun _ => 0)))] := hD
  have hP9 := hP.sub (ws' := [(h0, .inr (8, [.ref q_1, .ref q_3, .ref q_5])), (q_1, .inl (cA_2, 64, .inl (fun _ => 0))), (q_3, .inl (cA_4, 8, .inl (fun _ => 0))), (q_5, .inl (cA_6, 8, .inl (fun _ => 0)))]) [0, 1, 2, 3] rfl
  have hD9 := hD.sub (ws' := [(h0, .inr (8, [.ref q_1, .ref q_3, .ref q_5])), (q_1, .inl (cA_2, 64, .inl (fun _ => 0))), (q_3, .inl (cA_4, 8, .inl (fun _ => 0))), (q_5, .inl (cA_6, 8, .inl (fun _ => 0)))]) [0, 1, 2, 3] (by decide) rfl
  have hK9 := hK.sub (tys' := [(cA_2, .int), (cA_4, .int), (cA_6, .int)]) [0, 1, 2] rfl
  refine W.widen (k := 3) (n := 80) (by omega) (by omega) ?_
  exact W.vret hx hb hr (fun t ht hW => ⟨⟨(), rfl, trivial, ⟨q_1, q_3, q_5, cA_2, cA_4, cA_6, QW.mk ht hW hP9 hK9 hD9⟩⟩, hS.F ht⟩) hS.2.2 dX8_init_28
set_option maxHeartbeats 4000000 in
set_option maxRecDepth 100000 in
theorem c_X6_init (l : Launch) (dC : Nat → ClassId) (dI : Nat → Nat → Nat) (sz : Nat) (h0 : Nat) : Met l yX6_init (.code yX6_init cX6_init 1 none :: tb) ({ frames := 1, cells := 4, slots := 66, locals := 12 }) (va_Pc [.ref h0] (PW (dC, dI) sz [(h0, .inr (6, [.null, .null, .null, .null, .long 0]))] [])) (va_Qv (fun _ : Unit => True) (fun _ T9 => QW (dC, dI) (va_A [(h0, .inr (6, [.null, .null, .null, .null, .long 0]))] sz) [] [] T9) (va_A [(h0, .inr (6, [.null, .null, .null, .null, .long 0]))] sz)) 4 66 (va_A [(h0, .inr (6, [.null, .null, .null, .null, .long 0]))] sz) := by
  refine Met.ofW (cc := cX6_init) (maxL := 1) (ret := none) (by decide) rfl ?_
  intro p e s m args below meth c s₁ B hml hv
  obtain ⟨rfl, hsz, hP, hK, hD0, hE⟩ := hv
  have hx := B.exec
  have hb := B.bytes
  have hr := B.returns
  have hts : ∀ w ∈ tb, w.before _ s = true := fun w h => atoms_spec (ws := .code yX6_init cX6_init 1 none :: tb) B.pre w (List.mem_cons_of_mem _ h)
  have hown : s.vm.findClass RX6 = some m.cls := findClass_of_methodNamed B.named
  have hlocks := B.notSynchronized
  have hin : meth.name = "<init>" := (name_of_methodNamed B.named B.method).1
  subst hsz
  have hD := hD0.self (sz := s.heap.size)
  generalize hAe : va_A [(h0, .inr (6, [.null, .null, .null, .null, .long 0]))] s.heap.size = A at hD ⊢
  have hA : ∀ q : Nat, s.heap.size ≤ q → A q := fun q h => by rw [← hAe]; exact Or.inr h
  have hS : va_S A s.heap s.heap [] := va_S.rf
  have hP : va_P (dC, dI) vwCl [(h0, .inr (6, [.null, .null, .null, .null, .long 0]))] s.heap := hP
  have hl := lv_entry ([.ref h0]) (n := 1) (Nat.le_of_ble_eq_true rfl)
  rw [lg_entry_eq]
  generalize (lg_sl ([.ref h0]) ++ List.replicate (1 - (lg_sl ([.ref h0])).length) Slot.unset).toArray = ls at hl ⊢
  have hl : lv_has ls 1 [(0, .ref h0)] := hl
  refine lv_aload_n hx hb dX6_init_0 rfl (lv_at hl 0 rfl) ?_
  refine W.objInit hx hb hown (hts _ kt_37) (hts _ kt_1) (hts _ kt_2) rfl (by rw [hml]; exact hl.1) rfl dX6_init_1 (Nat.le_of_ble_eq_true rfl) (Nat.le_of_ble_eq_true rfl) ?_
  refine W.eq (g2 := F0 m 4 ls []) rfl ?_
  refine lv_aload_n hx hb dX6_init_4 rfl (lv_at hl 0 rfl) ?_
  refine lv_bipush (v := 16) hx hb dX6_init_5 (by decide) ?_
  refine va_newa (atype := .long) (ty := .long) (a0 := (16, .inr (.inl (fun _ => 0)))) (N' := 16) hx hb (hts _ kt_38) rfl hK hP hD hS hA (fun _ => rfl) (by decide) (by decide) (by show _ * 8 ≤ _; omega) (by show _ + 1 ≤ 4; omega) (by show _ + 16 ≤ 66; omega) dX6_init_7 (fun q_1 cA_2 H hK hP hD hS => ?_)
  have hK : va_K (dC, dI) vwCl [(cA_2, .long)] s := hK
  have hP : va_P (dC, dI) vwCl [(h0, .inr (6, [.null, .null, .null, .null, .long 0])), (q_1, .inl (cA_2, 16, .inr (.inl (fun _ => 0))))] H := hP
  have hD : va_D A [(h0, .inr (6, [.null, .null, .null, .null, .long 0])), (q_1, .inl (cA_2, 16, .inr (.inl (fun _ => 0))))] := hD
  refine va_putF (D := (dC, dI)) (ci := 6) (v := .ref q_1) (ty := .array .long) (C := RX6) (T := TX6) (N := 5) hx hb hts it_6 tyX6 tyX6_ok nmX6 hown hK hP hD hS 0 rfl rfl 0 (by decide) (hts _ kt_39) (fun _ h9 => h9) rfl hin rfl (by decide +kernel) rfl rfl (Nat.le_of_ble_eq_true rfl) dX6_init_9 (fun H locs hP hD hS => ?_)
  have hP : va_P (dC, dI) vwCl [(h0, .inr (6, [.ref q_1, .null, .null, .null, .long 0])), (q_1, .inl (cA_2, 16, .inr (.inl (fun _ => 0))))] H := hP
  have hD : va_D A [(h0, .inr (6, [.ref q_1, .null, .null, .null, .long 0])), (q_1, .inl (cA_2, 16, .inr (.inl (fun _ => 0))))] := hD
  refine lv_aload_n hx hb dX6_init_12 rfl (lv_at hl 0 rfl) ?_
  refine lv_bipush (v := 16) hx hb dX6_init_13 (by decide) ?_
  refine va_newa (atype := .long) (ty := .long) (a0 := (16, .inr (.inl (fun _ => 0)))) (N' := 16) hx hb (hts _ kt_38) rfl hK hP hD hS hA (fun _ => rfl) (by decide) (by decide) (by show _ * 8 ≤ _; omega) (by show _ + 1 ≤ 4; omega) (by show _ + 16 ≤ 66; omega) dX6_init_15 (fun q_3 cA_4 H hK hP hD hS => ?_)
  have hK : va_K (dC, dI) vwCl [(cA_2, .long), (cA_4, .long)] s := hK
  have hP : va_P (dC, dI) vwCl [(h0, .inr (6, [.ref q_1, .null, .null, .null, .long 0])), (q_1, .inl (cA_2, 16, .inr (.inl (fun _ => 0)))), (q_3, .inl (cA_4, 16, .inr (.inl (fun _ => 0))))] H := hP
  have hD : va_D A [(h0, .inr (6, [.ref q_1, .null, .null, .null, .long 0])), (q_1, .inl (cA_2, 16, .inr (.inl (fun _ => 0)))), (q_3, .inl (cA_4, 16, .inr (.inl (fun _ => 0))))] := hD
  refine va_putF (D := (dC, dI)) (ci := 6) (v := .ref q_3) (ty := .array .long) (C := RX6) (T := TX6) (N := 5) hx hb hts it_6 tyX6 tyX6_ok nmX6 hown hK hP hD hS 0 rfl rfl 1 (by decide) (hts _ kt_40) (fun _ h9 => h9) rfl hin rfl (by decide +kernel) rfl rfl (Nat.le_of_ble_eq_true rfl) dX6_init_17 (fun H locs hP hD hS => ?_)
  have hP : va_P (dC, dI) vwCl [(h0, .inr (6, [.ref q_1, .ref q_3, .null, .null, .long 0])), (q_1, .inl (cA_2, 16, .inr (.inl (fun _ => 0)))), (q_3, .inl (cA_4, 16, .inr (.inl (fun _ => 0))))] H := hP
  have hD : va_D A [(h0, .inr (6, [.ref q_1, .ref q_3, .null, .null, .long 0])), (q_1, .inl (cA_2, 16, .inr (.inl (fun _ => 0)))), (q_3, .inl (cA_4, 16, .inr (.inl (fun _ => 0))))] := hD
  refine lv_aload_n hx hb dX6_init_20 rfl (lv_at hl 0 rfl) ?_
  refine lv_bipush (v := 16) hx hb dX6_init_21 (by decide) ?_
  refine va_newa (atype := .long) (ty := .long) (a0 := (16, .inr (.inl (fun _ => 0)))) (N' := 16) hx hb (hts _ kt_38) rfl hK hP hD hS hA (fun _ => rfl) (by decide) (by decide) (by show _ * 8 ≤ _; omega) (by show _ + 1 ≤ 4; omega) (by show _ + 16 ≤ 66; omega) dX6_init_23 (fun q_5 cA_6 H hK hP hD hS => ?_)
  have hK : va_K (dC, dI) vwCl [(cA_2, .long), (cA_4, .long), (cA_6, .long)] s := hK
  have hP : va_P (dC, dI) vwCl [(h0, .inr (6, [.ref q_1, .ref q_3, .null, .null, .long 0])), (q_1, .inl (cA_2, 16, .inr (.inl (fun _ => 0)))), (q_3, .inl (cA_4, 16, .inr (.inl (fun _ => 0)))), (q_5, .inl (cA_6, 16, .inr (.inl (fun _ => 0))))] H := hP
  have hD : va_D A [(h0, .inr (6, [.ref q_1, .ref q_3, .null, .null, .long 0])), (q_1, .inl (cA_2, 16, .inr (.inl (fun _ => 0)))), (q_3, .inl (cA_4, 16, .inr (.inl (fun _ => 0)))), (q_5, .inl (cA_6, 16, .inr (.inl (fun _ => 0))))] := hD
  refine va_putF (D := (dC, dI)) (ci := 6) (v := .ref q_5) (ty := .array .long) (C := RX6) (T := TX6) (N := 5) hx hb hts it_6 tyX6 tyX6_ok nmX6 hown hK hP hD hS 0 rfl rfl 2 (by decide) (hts _ kt_41) (fun _ h9 => h9) rfl hin rfl (by decide +kernel) rfl rfl (Nat.le_of_ble_eq_true rfl) dX6_init_25 (fun H locs hP hD hS => ?_)
  have hP : va_P (dC, dI) vwCl [(h0, .inr (6, [.ref q_1, .ref q_3, .ref q_5, .null, .long 0])), (q_1, .inl (cA_2, 16, .inr (.inl (fun _ => 0)))), (q_3, .inl (cA_4, 16, .inr (.inl (fun _ => 0)))), (q_5, .inl (cA_6, 16, .inr (.inl (fun _ => 0))))] H := hP
  have hD : va_D A [(h0, .inr (6, [.ref q_1, .ref q_3, .ref q_5, .null, .long 0])), (q_1, .inl (cA_2, 16, .inr (.inl (fun _ => 0)))), (q_3, .inl (cA_4, 16, .inr (.inl (fun _ => 0)))), (q_5, .inl (cA_6, 16, .inr (.inl (fun _ => 0))))] := hD
  refine lv_aload_n hx hb dX6_init_28 rfl (lv_at hl 0 rfl) ?_
  refine lv_bipush (v := 18) hx hb dX6_init_29 (by decide) ?_
  refine va_newa (atype := .long) (ty := .long) (a0 := (18, .inr (.inl (fun _ => 0)))) (N' := 18) hx hb (hts _ kt_38) rfl hK hP hD hS hA (fun _ => rfl) (by decide) (by decide) (by show _ * 8 ≤ _; omega) (by show _ + 1 ≤ 4; omega) (by show _ + 18 ≤ 66; omega) dX6_init_31 (fun q_7 cA_8 H hK hP hD hS => ?_)
  have hK : va_K (dC, dI) vwCl [(cA_2, .long), (cA_4, .long), (cA_6, .long), (cA_8, .long)] s := hK
  have hP : va_P (dC, dI) vwCl [(h0, .inr (6, [.ref q_1, .ref q_3, .ref q_5, .null, .long 0])), (q_1, .inl (cA_2, 16, .inr (.inl (fun _ => 0)))), (q_3, .inl (cA_4, 16, .inr (.inl (fun _ => 0)))), (q_5, .inl (cA_6, 16, .inr (.inl (fun _ => 0)))), (q_7, .inl (cA_8, 18, .inr (.inl (fun _ => 0))))] H := hP
  have hD : va_D A [(h0, .inr (6, [.ref q_1, .ref q_3, .ref q_5, .null, .long 0])), (q_1, .inl (cA_2, 16, .inr (.inl (fun _ => 0)))), (q_3, .inl (cA_4, 16, .inr (.inl (fun _ => 0)))), (q_5, .inl (cA_6, 16, .inr (.inl (fun _ => 0)))), (q_7, .inl (cA_8, 18, .inr (.inl (fun _ => 0))))] := hD
  refine va_putF (D := (dC, dI)) (ci := 6) (v := .ref q_7) (ty := .array .long) (C := RX6) (T := TX6) (N := 5) hx hb hts it_6 tyX6 tyX6_ok nmX6 hown hK hP hD hS 0 rfl rfl 3 (by decide) (hts _ kt_42) (fun _ h9 => h9) rfl hin rfl (by decide +kernel) rfl rfl (Nat.le_of_ble_eq_true rfl) dX6_init_33 (fun H locs hP hD hS => ?_)
  have hP : va_P (dC, dI) vwCl [(h0, .inr (6, [.ref q_1, .ref q_3, .ref q_5, .ref q_7, .long 0])), (q_1, .inl (cA_2, 16, .inr (.inl (fun _ => 0)))), (q_3, .inl (cA_4, 16, .inr (.inl (fun _ => 0)))), (q_5, .inl (cA_6, 16, .inr (.inl (fun _ => 0)))), (q_7, .inl (cA_8, 18, .inr (.inl (fun _ => 0))))] H := hP
  have hD : va_D A [(h0, .inr (6, [.ref q_1, .ref q_3, .ref q_5, .ref q_7, .long 0])), (q_1, .inl (cA_2, 16, .inr (.inl (fun _ => 0)))), (q_3, .inl (cA_4, 16, .inr (.inl (fun _ => 0)))), (q_5, .inl (cA_6, 16, .inr (.inl (fun _ => 0)))), (q_7, .inl (cA_8, 18, .inr (.inl (fun _ => 0))))] := hD
  refine lv_aload_n hx hb dX6_init_36 rfl (lv_at hl 0 rfl) ?_
  refine lv_lconst (v := 0) hx hb dX6_init_37 (by decide) ?_
  refine va_put (D := (dC, dI)) (ci := 6) (v := .long 0) (ty := .long) (C := RX6) (T := TX6) (N := 5) hx hb hts it_6 tyX6 tyX6_ok nmX6 hown hK hP hD hS 0 rfl rfl 4 (by decide) (hts _ kt_43) (fun _ h9 => h9) rfl (by decide +kernel) rfl rfl (Nat.le_of_ble_eq_true rfl) dX6_init_38 (fun H locs hP hD hS => ?_)
  have hP : va_P (dC, dI) vwCl [(h0, .inr (6, [.ref q_1, .ref q_3, .ref q_5, .ref q_7, .long 0])), (q_1, .inl (cA_2, 16, .inr (.inl (fun _ => 0)))), (q_3, .inl (cA_4, 16, .inr (.inl (fun _ => 0)))), (q_5, .inl (cA_6, 16, .inr (.inl (fun _ => 0)))), (q_7, .inl (cA_8, 18, .inr (.inl (fun _ => 0))))] H := hP
  have hD : va_D A [(h0, .inr (6, [.ref q_1, .ref q_3, .ref q_5, .ref q_7, .long 0])), (q_1, .inl (cA_2, 16, .inr (.inl (fun _ => 0)))), (q_3, .inl (cA_4, 16, .inr (.inl (fun _ => 0)))), (q_5, .inl (cA_6, 16, .inr (.inl (fun _ => 0)))), (q_7, .inl (cA_8, 18, .inr (.inl (fun _ => 0))))] := hD
  have hP9 := hP.sub (ws' := []) [] rfl
  have hD9 := hD.sub (ws' := []) [] (by decide) rfl
  have hK9 := hK.sub (tys' := []) [] rfl
  refine W.widen (k := 4) (n := 66) (by omega) (by omega) ?_
  exact W.vret hx hb hr (fun t ht hW => ⟨⟨(), rfl, trivial, QW.mk ht hW hP9 hK9 hD9⟩, hS.F ht⟩) hS.2.2 dX6_init_41
set_option maxHeartbeats 4000000 in
set_option maxRecDepth 100000 in
theorem c_X4_init (l : Launch) (dC : Nat → ClassId) (dI : Nat → Nat → Nat) (sz : Nat) (h0 : Nat) : Met l yX4_init (.code yX4_init cX4_init 1 none :: tb) ({ frames := 2, cells := 5, slots := 3063, locals := 33 }) (va_Pc [.ref h0] (PW (dC, dI) sz [(h0, .inr (4, [.null, .null, .null, .null, .int 0, .int 0]))] [])) (va_Qv (fun _ : Unit => True) (fun _ T9 => ∃ (qx : Nat) (q1 : Nat) (q2 : Nat) (q3 : Nat) (qr : Nat) (cr : ClassId), QW (dC, dI) (va_A [(h0, .inr (4, [.null, .null, .null, .null, .int 0, .int 0]))] sz) [(h0, .inr (4, [.ref qx, .ref q1, .ref q2, .ref q3, .int 0, .int 0])), (qx, .inr (0, [.ref qr, .int 0, .int 0])), (qr, .inl (cr, 3000, .inl (fun _ => 0)))] [(cr, .int)] T9) (va_A [(h0, .inr (4, [.null, .null, .null, .null, .int 0, .int 0]))] sz)) 5 3063 (va_A [(h0, .inr (4, [.null, .null, .null, .null, .int 0, .int 0]))] sz) := by
  refine Met.ofW (cc := cX4_init) (maxL := 1) (ret := none) (by decide) rfl ?_
  intro p e s m args below meth c s₁ B hml hv
  obtain ⟨rfl, hsz, hP, hK, hD0, hE⟩ := hv
  have hx := B.exec
  have hb := B.bytes
  have hr := B.returns
  have hts : ∀ w ∈ tb, w.before _ s = true := fun w h => atoms_spec (ws := .code yX4_init cX4_init 1 none :: tb) B.pre w (List.mem_cons_of_mem _ h)
  have hown : s.vm.findClass RX4 = some m.cls := findClass_of_methodNamed B.named
  have hlocks := B.notSynchronized
  have hin : meth.name = "<init>" := (name_of_methodNamed B.named B.method).1
  subst hsz
  have hD := hD0.self (sz := s.heap.size)
  generalize hAe : va_A [(h0, .inr (4, [.null, .null, .null, .null, .int 0, .int 0]))] s.heap.size = A at hD ⊢
  have hA : ∀ q : Nat, s.heap.size ≤ q → A q := fun q h => by rw [← hAe]; exact Or.inr h
  have hS : va_S A s.heap s.heap [] := va_S.rf
  have hP : va_P (dC, dI) vwCl [(h0, .inr (4, [.null, .null, .null, .null, .int 0, .int 0]))] s.heap := hP
  have hl := lv_entry ([.ref h0]) (n := 1) (Nat.le_of_ble_eq_true rfl)
  rw [lg_entry_eq]
  generalize (lg_sl ([.ref h0]) ++ List.replicate (1 - (lg_sl ([.ref h0])).length) Slot.unset).toArray = ls at hl ⊢
  have hl : lv_has ls 1 [(0, .ref h0)] := hl
  refine lv_aload_n hx hb dX4_init_0 rfl (lv_at hl 0 rfl) ?_
  refine W.objInit hx hb hown (hts _ kt_44) (hts _ kt_1) (hts _ kt_2) rfl (by rw [hml]; exact hl.1) rfl dX4_init_1 (Nat.le_of_ble_eq_true rfl) (Nat.le_of_ble_eq_true rfl) ?_
  refine W.eq (g2 := F0 m 4 ls []) rfl ?_
  refine lv_aload_n hx hb dX4_init_4 rfl (lv_at hl 0 rfl) ?_
  refine va_new (ci := 0) (fs := [.null, .int 0, .int 0]) (C := RX0) (T := TX0) (N := 3) hx hb hts it_0 tyX0 tyX0_ok hown (hts _ kt_45) (hts _ kt_9) (hts _ kt_10) hK hP hD hS hA rfl df_0 (by show _ + 1 ≤ 5; omega) (by show _ + 3 ≤ 3063; omega) dX4_init_5 (fun q_1 H hP hD hS => ?_)
  have hP : va_P (dC, dI) vwCl [(h0, .inr (4, [.null, .null, .null, .null, .int 0, .int 0])), (q_1, .inr (0, [.null, .int 0, .int 0]))] H := hP
  have hD : va_D A [(h0, .inr (4, [.null, .null, .null, .null, .int 0, .int 0])), (q_1, .inr (0, [.null, .int 0, .int 0]))] := hD
  refine lv_dup hx hb dX4_init_8 rfl ?_
  refine lv_sipush (v := 3000) hx hb dX4_init_9 (by decide) ?_
  refine lv_topi (fun x ex => ?_)
  obtain rfl : x = nI 3000 := ex.trans (by decide)
  have hPc := hP.sub (ws' := [(q_1, .inr (0, [.null, .int 0, .int 0]))]) [1] rfl
  have hDc := hD.sub (ws' := [(q_1, .inr (0, [.null, .int 0, .int 0]))]) [1] (by decide) rfl
  have hKc := hK.sub (tys' := []) [] rfl
  have hFc := va_free (wc := [(q_1, .inr (0, [.null, .int 0, .int 0]))]) hD hS hA [1] rfl
  refine va_callv (va_runI (As := [.int (nI 3000)]) (rest := [.ref q_1, .ref h0]) ⟨hx, hb, hml, hown, hts⟩ (c_X0_init l dC dI H.size q_1 3000 (by omega)) ⟨callB_of 1 hts (gi kt_11) rfl rfl rfl (hts _ kt_10) (hts _ kt_46) (by decide +kernel) ⟨Nat.le_of_ble_eq_true rfl, Nat.le_of_ble_eq_true rfl⟩, rfl, (hts _ kt_13)⟩ ⟨fun a U g mk q => ⟨q.1, PW.calling q.2⟩, fun U hU hW => ⟨rfl, PW.mk hU hW hPc hKc hDc hE⟩⟩ rfl rfl hl.1 rfl (lv_room (Nat.le_of_ble_eq_true rfl)) dX4_init_12 ⟨by show _ + 1 ≤ 5; omega, by show _ + 3000 ≤ 3063; omega⟩) hS (fun q _ h => hFc q h) hFc (fun u t H1 locs ht hvm hw hB hz1 hk1 hS => ?_)
  obtain ⟨q_3, cA_4, hB1⟩ := hB
  obtain ⟨hP, hD, hK⟩ := QW.join (wr := [(h0, .inr (4, [.null, .null, .null, .null, .int 0, .int 0]))]) hP hD hK [1] [0] rfl rfl (by decide) (by decide) hk1 hFc ht hvm hB1
  generalize H1 = H at hP hS ⊢
  have hK : va_K (dC, dI) vwCl [(cA_4, .int)] s := hK.sub [0] rfl
  have hP : va_P (dC, dI) vwCl [(h0, .inr (4, [.null, .null, .null, .null, .int 0, .int 0])), (q_1, .inr (0, [.ref q_3, .int 0, .int 0])), (q_3, .inl (cA_4, 3000, .inl (fun _ => 0)))] H := hP
  have hD : va_D A [(h0, .inr (4, [.null, .null, .null, .null, .int 0, .int 0])), (q_1, .inr (0, [.ref q_3, .int 0, .int 0])), (q_3, .inl (cA_4, 3000, .inl (fun _ => 0)))] := hD
  refine va_putF (D := (dC, dI)) (ci := 4) (v := .ref q_1) (ty := .object "PostGate$Bytes") (C := RX4) (T := TX4) (N := 6) hx hb hts it_4 tyX4 tyX4_ok nmX4 hown hK hP hD hS 0 rfl rfl 0 (by decide) (hts _ kt_47) (fun _ h9 => h9) rfl hin rfl (by decide +kernel) rfl rfl (Nat.le_of_ble_eq_true rfl) dX4_init_15 (fun H locs hP hD hS => ?_)
  have hP : va_P (dC, dI) vwCl [(h0, .inr (4, [.ref q_1, .null, .null, .null, .int 0, .int 0])), (q_1, .inr (0, [.ref q_3, .int 0, .int 0])), (q_3, .inl (cA_4, 3000, .inl (fun _ => 0)))] H := hP
  have hD : va_D A [(h0, .inr (4, [.ref q_1, .null, .null, .null, .int 0, .int 0])), (q_1, .inr (0, [.ref q_3, .int 0, .int 0])), (q_3, .inl (cA_4, 3000, .inl (fun _ => 0)))] := hD
  refine lv_aload_n hx hb dX4_init_18 rfl (lv_at hl 0 rfl) ?_
  refine lv_bipush (v := 20) hx hb dX4_init_19 (by decide) ?_
  refine va_newa (atype := .int) (ty := .int) (a0 := (20, .inl (fun _ => 0))) (N' := 20) hx hb (hts _ kt_5) rfl hK hP hD hS hA (fun _ => rfl) (by decide) (by decide) (by show _ * 4 ≤ _; omega) (by show _ + 1 ≤ 5; omega) (by show _ + 20 ≤ 3063; omega) dX4_init_21 (fun q_5 cA_6 H hK hP hD hS => ?_)
  have hK : va_K (dC, dI) vwCl [(cA_4, .int), (cA_6, .int)] s := hK
  have hP : va_P (dC, dI) vwCl [(h0, .inr (4, [.ref q_1, .null, .null, .null, .int 0, .int 0])), (q_1, .inr (0, [.ref q_3, .int 0, .int 0])), (q_3, .inl (cA_4, 3000, .inl (fun _ => 0))), (q_5, .inl (cA_6, 20, .inl (fun _ => 0)))] H := hP
  have hD : va_D A [(h0, .inr (4, [.ref q_1, .null, .null, .null, .int 0, .int 0])), (q_1, .inr (0, [.ref q_3, .int 0, .int 0])), (q_3, .inl (cA_4, 3000, .inl (fun _ => 0))), (q_5, .inl (cA_6, 20, .inl (fun _ => 0)))] := hD
  refine va_putF (D := (dC, dI)) (ci := 4) (v := .ref q_5) (ty := .array .int) (C := RX4) (T := TX4) (N := 6) hx hb hts it_4 tyX4 tyX4_ok nmX4 hown hK hP hD hS 0 rfl rfl 1 (by decide) (hts _ kt_48) (fun _ h9 => h9) rfl hin rfl (by decide +kernel) rfl rfl (Nat.le_of_ble_eq_true rfl) dX4_init_23 (fun H locs hP hD hS => ?_)
  have hP : va_P (dC, dI) vwCl [(h0, .inr (4, [.ref q_1, .ref q_5, .null, .null, .int 0, .int 0])), (q_1, .inr (0, [.ref q_3, .int 0, .int 0])), (q_3, .inl (cA_4, 3000, .inl (fun _ => 0))), (q_5, .inl (cA_6, 20, .inl (fun _ => 0)))] H := hP
  have hD : va_D A [(h0, .inr (4, [.ref q_1, .ref q_5, .null, .null, .int 0, .int 0])), (q_1, .inr (0, [.ref q_3, .int 0, .int 0])), (q_3, .inl (cA_4, 3000, .inl (fun _ => 0))), (q_5, .inl (cA_6, 20, .inl (fun _ => 0)))] := hD
  refine lv_aload_n hx hb dX4_init_26 rfl (lv_at hl 0 rfl) ?_
  refine lv_bipush (v := 20) hx hb dX4_init_27 (by decide) ?_
  refine va_newa (atype := .int) (ty := .int) (a0 := (20, .inl (fun _ => 0))) (N' := 20) hx hb (hts _ kt_5) rfl hK hP hD hS hA (fun _ => rfl) (by decide) (by decide) (by show _ * 4 ≤ _; omega) (by show _ + 1 ≤ 5; omega) (by show _ + 20 ≤ 3063; omega) dX4_init_29 (fun q_7 cA_8 H hK hP hD hS => ?_)
  have hK : va_K (dC, dI) vwCl [(cA_4, .int), (cA_6, .int), (cA_8, .int)] s := hK
  have hP : va_P (dC, dI) vwCl [(h0, .inr (4, [.ref q_1, .ref q_5, .null, .null, .int 0, .int 0])), (q_1, .inr (0, [.ref q_3, .int 0, .int 0])), (q_3, .inl (cA_4, 3000, .inl (fun _ => 0))), (q_5, .inl (cA_6, 20, .inl (fun _ => 0))), (q_7, .inl (cA_8, 20, .inl (fun _ => 0)))] H := hP
  have hD : va_D A [(h0, .inr (4, [.ref q_1, .ref q_5, .null, .null, .int 0, .int 0])), (q_1, .inr (0, [.ref q_3, .int 0, .int 0])), (q_3, .inl (cA_4, 3000, .inl (fun _ => 0))), (q_5, .inl (cA_6, 20, .inl (fun _ => 0))), (q_7, .inl (cA_8, 20, .inl (fun _ => 0)))] := hD
  refine va_putF (D := (dC, dI)) (ci := 4) (v := .ref q_7) (ty := .array .int) (C := RX4) (T := TX4) (N := 6) hx hb hts it_4 tyX4 tyX4_ok nmX4 hown hK hP hD hS 0 rfl rfl 2 (by decide) (hts _ kt_49) (fun _ h9 => h9) rfl hin rfl (by decide +kernel) rfl rfl (Nat.le_of_ble_eq_true rfl) dX4_init_31 (fun H locs hP hD hS => ?_)
  have hP : va_P (dC, dI) vwCl [(h0, .inr (4, [.ref q_1, .ref q_5, .ref q_7, .null, .int 0, .int 0])), (q_1, .inr (0, [.ref q_3, .int 0, .int 0])), (q_3, .inl (cA_4, 3000, .inl (fun _ => 0))), (q_5, .inl (cA_6, 20, .inl (fun _ => 0))), (q_7, .inl (cA_8, 20, .inl (fun _ => 0)))] H := hP
  have hD : va_D A [(h0, .inr (4, [.ref q_1, .ref q_5, .ref q_7, .null, .int 0, .int 0])), (q_1, .inr (0, [.ref q_3, .int 0, .int 0])), (q_3, .inl (cA_4, 3000, .inl (fun _ => 0))), (q_5, .inl (cA_6, 20, .inl (fun _ => 0))), (q_7, .inl (cA_8, 20, .inl (fun _ => 0)))] := hD
  refine lv_aload_n hx hb dX4_init_34 rfl (lv_at hl 0 rfl) ?_
  refine lv_bipush (v := 20) hx hb dX4_init_35 (by decide) ?_
  refine va_newa (atype := .int) (ty := .int) (a0 := (20, .inl (fun _ => 0))) (N' := 20) hx hb (hts _ kt_5) rfl hK hP hD hS hA (fun _ => rfl) (by decide) (by decide) (by show _ * 4 ≤ _; omega) (by show _ + 1 ≤ 5; omega) (by show _ + 20 ≤ 3063; omega) dX4_init_37 (fun q_9 cA_10 H hK hP hD hS => ?_)
  have hK : va_K (dC, dI) vwCl [(cA_4, .int), (cA_6, .int), (cA_8, .int), (cA_10, .int)] s := hK
  have hP : va_P (dC, dI) vwCl [(h0, .inr (4, [.ref q_1, .ref q_5, .ref q_7, .null, .int 0, .int 0])), (q_1, .inr (0, [.ref q_3, .int 0, .int 0])), (q_3, .inl (cA_4, 3000, .inl (fun _ => 0))), (q_5, .inl (cA_6, 20, .inl (fun _ => 0))), (q_7, .inl (cA_8, 20, .inl (fun _ => 0))), (q_9, .inl (cA_10, 20, .inl (fun _ => 0)))] H := hP
  have hD : va_D A [(h0, .inr (4, [.ref q_1, .ref q_5, .ref q_7, .null, .int 0, .int 0])), (q_1, .inr (0, [.ref q_3, .int 0, .int 0])), (q_3, .inl (cA_4, 3000, .inl (fun _ => 0))), (q_5, .inl (cA_6, 20, .inl (fun _ => 0))), (q_7, .inl (cA_8, 20, .inl (fun _ => 0))), (q_9, .inl (cA_10, 20, .inl (fun _ => 0)))] := hD
  refine va_putF (D := (dC, dI)) (ci := 4) (v := .ref q_9) (ty := .array .int) (C := RX4) (T := TX4) (N := 6) hx hb hts it_4 tyX4 tyX4_ok nmX4 hown hK hP hD hS 0 rfl rfl 3 (by decide) (hts _ kt_50) (fun _ h9 => h9) rfl hin rfl (by decide +kernel) rfl rfl (Nat.le_of_ble_eq_true rfl) dX4_init_39 (fun H locs hP hD hS => ?_)
  have hP : va_P (dC, dI) vwCl [(h0, .inr (4, [.ref q_1, .ref q_5, .ref q_7, .ref q_9, .int 0, .int 0])), (q_1, .inr (0, [.ref q_3, .int 0, .int 0])), (q_3, .inl (cA_4, 3000, .inl (fun _ => 0))), (q_5, .inl (cA_6, 20, .inl (fun _ => 0))), (q_7, .inl (cA_8, 20, .inl (fun _ => 0))), (q_9, .inl (cA_10, 20, .inl (fun _ => 0)))] H := hP
  have hD : va_D A [(h0, .inr (4, [.ref q_1, .ref q_5, .ref q_7, .ref q_9, .int 0, .int 0])), (q_1, .inr (0, [.ref q_3, .int 0, .int 0])), (q_3, .inl (cA_4, 3000, .inl (fun _ => 0))), (q_5, .inl (cA_6, 20, .inl (fun _ => 0))), (q_7, .inl (cA_8, 20, .inl (fun _ => 0))), (q_9, .inl (cA_10, 20, .inl (fun _ => 0)))] := hD
  refine lv_aload_n hx hb dX4_init_42 rfl (lv_at hl 0 rfl) ?_
  refine lv_iconst (v := 0) hx hb dX4_init_43 (by decide) ?_
  refine va_put (D := (dC, dI)) (ci := 4) (v := .int 0) (ty := .int) (C := RX4) (T := TX4) (N := 6) hx hb hts it_4 tyX4 tyX4_ok nmX4 hown hK hP hD hS 0 rfl rfl 4 (by decide) (hts _ kt_51) (fun _ h9 => h9) rfl (by decide +kernel) rfl rfl (Nat.le_of_ble_eq_true rfl) dX4_init_44 (fun H locs hP hD hS => ?_)
  have hP : va_P (dC, dI) vwCl [(h0, .inr (4, [.ref q_1, .ref q_5, .ref q_7, .ref q_9, .int 0, .int 0])), (q_1, .inr (0, [.ref q_3, .int 0, .int 0])), (q_3, .inl (cA_4, 3000, .inl (fun _ => 0))), (q_5, .inl (cA_6, 20, .inl (fun _ => 0))), (q_7, .inl (cA_8, 20, .inl (fun _ => 0))), (q_9, .inl (cA_10, 20, .inl (fun _ => 0)))] H := hP
  have hD : va_D A [(h0, .inr (4, [.ref q_1, .ref q_5, .ref q_7, .ref q_9, .int 0, .int 0])), (q_1, .inr (0, [.ref q_3, .int 0, .int 0])), (q_3, .inl (cA_4, 3000, .inl (fun _ => 0))), (q_5, .inl (cA_6, 20, .inl (fun _ => 0))), (q_7, .inl (cA_8, 20, .inl (fun _ => 0))), (q_9, .inl (cA_10, 20, .inl (fun _ => 0)))] := hD
  refine lv_aload_n hx hb dX4_init_47 rfl (lv_at hl 0 rfl) ?_
  refine lv_iconst (v := 0) hx hb dX4_init_48 (by decide) ?_
  refine va_put (D := (dC, dI)) (ci := 4) (v := .int 0) (ty := .int) (C := RX4) (T := TX4) (N := 6) hx hb hts it_4 tyX4 tyX4_ok nmX4 hown hK hP hD hS 0 rfl rfl 5 (by decide) (hts _ kt_52) (fun _ h9 => h9) rfl (by decide +kernel) rfl rfl (Nat.le_of_ble_eq_true rfl) dX4_init_49 (fun H locs hP hD hS => ?_)
  have hP : va_P (dC, dI) vwCl [(h0, .inr (4, [.ref q_1, .ref q_5, .ref q_7, .ref q_9, .int 0, .int 0])), (q_1, .inr (0, [.ref q_3, .int 0, .int 0])), (q_3, .inl (cA_4, 3000, .inl (fun _ => 0))), (q_5, .inl (cA_6, 20, .inl (fun _ => 0))), (q_7, .inl (cA_8, 20, .inl (fun _ => 0))), (q_9, .inl (cA_10, 20, .inl (fun _ => 0)))] H := hP
  have hD : va_D A [(h0, .inr (4, [.ref q_1, .ref q_5, .ref q_7, .ref q_9, .int 0, .int 0])), (q_1, .inr (0, [.ref q_3, .int 0, .int 0])), (q_3, .inl (cA_4, 3000, .inl (fun _ => 0))), (q_5, .inl (cA_6, 20, .inl (fun _ => 0))), (q_7, .inl (cA_8, 20, .inl (fun _ => 0))), (q_9, .inl (cA_10, 20, .inl (fun _ => 0)))] := hD
  have hP9 := hP.sub (ws' := [(h0, .inr (4, [.ref q_1, .ref q_5, .ref q_7, .ref q_9, .int 0, .int 0])), (q_1, .inr (0, [.ref q_3, .int 0, .int 0])), (q_3, .inl (cA_4, 3000, .inl (fun _ => 0)))]) [0, 1, 2] rfl
  have hD9 := hD.sub (ws' := [(h0, .inr (4, [.ref q_1, .ref q_5, .ref q_7, .ref q_9, .int 0, .int 0])), (q_1, .inr (0, [.ref q_3, .int 0, .int 0])), (q_3, .inl (cA_4, 3000, .inl (fun _ => 0)))]) [0, 1, 2] (by decide) rfl
  have hK9 := hK.sub (tys' := [(cA_4, .int)]) [0] rfl
  refine W.widen (k := 5) (n := 3063) (by omega) (by omega) ?_
  exact W.vret hx hb hr (fun t ht hW => ⟨⟨(), rfl, trivial, ⟨q_1, q_5, q_7, q_9, q_3, cA_4, QW.mk ht hW hP9 hK9 hD9⟩⟩, hS.F ht⟩) hS.2.2 dX4_init_52
