theorem dX10_isHost_0 : decode cX10_isHost 0 = .ok (.iconst 1, 1) := by decide +kernel
theorem dX10_isHost_1 : decode cX10_isHost 1 = .ok (.istore_n 3, 1) := by decide +kernel
theorem dX10_isHost_2 : decode cX10_isHost 2 = .ok (.iload_n 1, 1) := by decide +kernel
theorem dX10_isHost_3 : decode cX10_isHost 3 = .ok (.istore 4, 2) := by decide +kernel
theorem dX10_isHost_5 : decode cX10_isHost 5 = .ok (.iload 4, 2) := by decide +kernel
theorem dX10_isHost_7 : decode cX10_isHost 7 = .ok (.iload_n 2, 1) := by decide +kernel
theorem dX10_isHost_8 : decode cX10_isHost 8 = .ok (.if_icmp .ge 64, 3) := by decide +kernel
theorem dX10_isHost_11 : decode cX10_isHost 11 = .ok (.aload_n 0, 1) := by decide +kernel
theorem dX10_isHost_12 : decode cX10_isHost 12 = .ok (.iload 4, 2) := by decide +kernel
theorem dX10_isHost_14 : decode cX10_isHost 14 = .ok (.invokevirtual 46, 3) := by decide +kernel
theorem dX10_isHost_17 : decode cX10_isHost 17 = .ok (.istore 5, 2) := by decide +kernel
theorem dX10_isHost_19 : decode cX10_isHost 19 = .ok (.aload_n 0, 1) := by decide +kernel
theorem dX10_isHost_20 : decode cX10_isHost 20 = .ok (.iload 4, 2) := by decide +kernel
theorem dX10_isHost_22 : decode cX10_isHost 22 = .ok (.iload_n 2, 1) := by decide +kernel
theorem dX10_isHost_23 : decode cX10_isHost 23 = .ok (.invokestatic 92, 3) := by decide +kernel
theorem dX10_isHost_26 : decode cX10_isHost 26 = .ok (.istore 6, 2) := by decide +kernel
theorem dX10_isHost_28 : decode cX10_isHost 28 = .ok (.iload 5, 2) := by decide +kernel
theorem dX10_isHost_30 : decode cX10_isHost 30 = .ok (.bipush 33, 2) := by decide +kernel
theorem dX10_isHost_32 : decode cX10_isHost 32 = .ok (.if_icmp .lt 22, 3) := by decide +kernel
theorem dX10_isHost_35 : decode cX10_isHost 35 = .ok (.iload 5, 2) := by decide +kernel
theorem dX10_isHost_37 : decode cX10_isHost 37 = .ok (.bipush 126, 2) := by decide +kernel
theorem dX10_isHost_39 : decode cX10_isHost 39 = .ok (.if_icmp .gt 15, 3) := by decide +kernel
theorem dX10_isHost_42 : decode cX10_isHost 42 = .ok (.iload 5, 2) := by decide +kernel
theorem dX10_isHost_44 : decode cX10_isHost 44 = .ok (.bipush 37, 2) := by decide +kernel
theorem dX10_isHost_46 : decode cX10_isHost 46 = .ok (.if_icmp .ne 10, 3) := by decide +kernel
theorem dX10_isHost_49 : decode cX10_isHost 49 = .ok (.iload 6, 2) := by decide +kernel
theorem dX10_isHost_51 : decode cX10_isHost 51 = .ok (.ifCond .ne 5, 3) := by decide +kernel
theorem dX10_isHost_54 : decode cX10_isHost 54 = .ok (.iconst 0, 1) := by decide +kernel
theorem dX10_isHost_55 : decode cX10_isHost 55 = .ok (.ireturn, 1) := by decide +kernel
theorem dX10_isHost_56 : decode cX10_isHost 56 = .ok (.iconst 1, 1) := by decide +kernel
theorem dX10_isHost_57 : decode cX10_isHost 57 = .ok (.iload 6, 2) := by decide +kernel
theorem dX10_isHost_59 : decode cX10_isHost 59 = .ok (.invokestatic 96, 3) := by decide +kernel
theorem dX10_isHost_62 : decode cX10_isHost 62 = .ok (.istore_n 3, 1) := by decide +kernel
theorem dX10_isHost_63 : decode cX10_isHost 63 = .ok (.iload 4, 2) := by decide +kernel
theorem dX10_isHost_65 : decode cX10_isHost 65 = .ok (.iload_n 3, 1) := by decide +kernel
theorem dX10_isHost_66 : decode cX10_isHost 66 = .ok (.iadd, 1) := by decide +kernel
theorem dX10_isHost_67 : decode cX10_isHost 67 = .ok (.istore 4, 2) := by decide +kernel
theorem dX10_isHost_69 : decode cX10_isHost 69 = .ok (.goto (-64), 3) := by decide +kernel
theorem dX10_isHost_72 : decode cX10_isHost 72 = .ok (.iload_n 1, 1) := by decide +kernel
theorem dX10_isHost_73 : decode cX10_isHost 73 = .ok (.iload_n 2, 1) := by decide +kernel
theorem dX10_isHost_74 : decode cX10_isHost 74 = .ok (.if_icmp .ge 7, 3) := by decide +kernel
theorem dX10_isHost_77 : decode cX10_isHost 77 = .ok (.iconst 1, 1) := by decide +kernel
theorem dX10_isHost_78 : decode cX10_isHost 78 = .ok (.goto 4, 3) := by decide +kernel
theorem dX10_isHost_81 : decode cX10_isHost 81 = .ok (.iconst 0, 1) := by decide +kernel
theorem dX10_isHost_82 : decode cX10_isHost 82 = .ok (.ireturn, 1) := by decide +kernel
theorem dX10_readQuad_0 : decode cX10_readQuad 0 = .ok (.iconst 0, 1) := by decide +kernel
theorem dX10_readQuad_1 : decode cX10_readQuad 1 = .ok (.istore 4, 2) := by decide +kernel
theorem dX10_readQuad_3 : decode cX10_readQuad 3 = .ok (.iload_n 2, 1) := by decide +kernel
theorem dX10_readQuad_4 : decode cX10_readQuad 4 = .ok (.iconst 1, 1) := by decide +kernel
theorem dX10_readQuad_5 : decode cX10_readQuad 5 = .ok (.isub, 1) := by decide +kernel
theorem dX10_readQuad_6 : decode cX10_readQuad 6 = .ok (.istore 5, 2) := by decide +kernel
theorem dX10_readQuad_8 : decode cX10_readQuad 8 = .ok (.aload_n 0, 1) := by decide +kernel
theorem dX10_readQuad_9 : decode cX10_readQuad 9 = .ok (.iconst 0, 1) := by decide +kernel
theorem dX10_readQuad_10 : decode cX10_readQuad 10 = .ok (.putfield 25, 3) := by decide +kernel
theorem dX10_readQuad_13 : decode cX10_readQuad 13 = .ok (.iload_n 2, 1) := by decide +kernel
theorem dX10_readQuad_14 : decode cX10_readQuad 14 = .ok (.istore 6, 2) := by decide +kernel
theorem dX10_readQuad_16 : decode cX10_readQuad 16 = .ok (.iload 6, 2) := by decide +kernel
theorem dX10_readQuad_18 : decode cX10_readQuad 18 = .ok (.iload_n 3, 1) := by decide +kernel
theorem dX10_readQuad_19 : decode cX10_readQuad 19 = .ok (.if_icmp .gt 78, 3) := by decide +kernel
theorem dX10_readQuad_22 : decode cX10_readQuad 22 = .ok (.iload 6, 2) := by decide +kernel
theorem dX10_readQuad_24 : decode cX10_readQuad 24 = .ok (.iload_n 3, 1) := by decide +kernel
theorem dX10_readQuad_25 : decode cX10_readQuad 25 = .ok (.if_icmp .ge 17, 3) := by decide +kernel
theorem dX10_readQuad_28 : decode cX10_readQuad 28 = .ok (.aload_n 1, 1) := by decide +kernel
theorem dX10_readQuad_29 : decode cX10_readQuad 29 = .ok (.iload 6, 2) := by decide +kernel
theorem dX10_readQuad_31 : decode cX10_readQuad 31 = .ok (.invokevirtual 46, 3) := by decide +kernel
theorem dX10_readQuad_34 : decode cX10_readQuad 34 = .ok (.bipush 46, 2) := by decide +kernel
theorem dX10_readQuad_36 : decode cX10_readQuad 36 = .ok (.if_icmp .eq 6, 3) := by decide +kernel
theorem dX10_readQuad_39 : decode cX10_readQuad 39 = .ok (.goto 52, 3) := by decide +kernel
theorem dX10_readQuad_42 : decode cX10_readQuad 42 = .ok (.aload_n 1, 1) := by decide +kernel
theorem dX10_readQuad_43 : decode cX10_readQuad 43 = .ok (.iload 5, 2) := by decide +kernel
theorem dX10_readQuad_45 : decode cX10_readQuad 45 = .ok (.iconst 1, 1) := by decide +kernel
theorem dX10_readQuad_46 : decode cX10_readQuad 46 = .ok (.iadd, 1) := by decide +kernel
theorem dX10_readQuad_47 : decode cX10_readQuad 47 = .ok (.iload 6, 2) := by decide +kernel
theorem dX10_readQuad_49 : decode cX10_readQuad 49 = .ok (.iconst 3, 1) := by decide +kernel
theorem dX10_readQuad_50 : decode cX10_readQuad 50 = .ok (.invokestatic 38, 3) := by decide +kernel
theorem dX10_readQuad_53 : decode cX10_readQuad 53 = .ok (.istore 7, 2) := by decide +kernel
theorem dX10_readQuad_55 : decode cX10_readQuad 55 = .ok (.iload 7, 2) := by decide +kernel
theorem dX10_readQuad_57 : decode cX10_readQuad 57 = .ok (.ifCond .lt 11, 3) := by decide +kernel
theorem dX10_readQuad_60 : decode cX10_readQuad 60 = .ok (.iload 7, 2) := by decide +kernel
theorem dX10_readQuad_62 : decode cX10_readQuad 62 = .ok (.sipush 255, 3) := by decide +kernel
theorem dX10_readQuad_65 : decode cX10_readQuad 65 = .ok (.if_icmp .le 5, 3) := by decide +kernel
theorem dX10_readQuad_68 : decode cX10_readQuad 68 = .ok (.iconst 0, 1) := by decide +kernel
theorem dX10_readQuad_69 : decode cX10_readQuad 69 = .ok (.ireturn, 1) := by decide +kernel
theorem dX10_readQuad_70 : decode cX10_readQuad 70 = .ok (.aload_n 0, 1) := by decide +kernel
theorem dX10_readQuad_71 : decode cX10_readQuad 71 = .ok (.aload_n 0, 1) := by decide +kernel
theorem dX10_readQuad_72 : decode cX10_readQuad 72 = .ok (.getfield 25, 3) := by decide +kernel
theorem dX10_readQuad_75 : decode cX10_readQuad 75 = .ok (.bipush 8, 2) := by decide +kernel
theorem dX10_readQuad_77 : decode cX10_readQuad 77 = .ok (.ishl, 1) := by decide +kernel
theorem dX10_readQuad_78 : decode cX10_readQuad 78 = .ok (.iload 7, 2) := by decide +kernel
theorem dX10_readQuad_80 : decode cX10_readQuad 80 = .ok (.ior, 1) := by decide +kernel
theorem dX10_readQuad_81 : decode cX10_readQuad 81 = .ok (.putfield 25, 3) := by decide +kernel
theorem dX10_readQuad_84 : decode cX10_readQuad 84 = .ok (.iinc 4 1, 3) := by decide +kernel
theorem dX10_readQuad_87 : decode cX10_readQuad 87 = .ok (.iload 6, 2) := by decide +kernel
theorem dX10_readQuad_89 : decode cX10_readQuad 89 = .ok (.istore 5, 2) := by decide +kernel
theorem dX10_readQuad_91 : decode cX10_readQuad 91 = .ok (.iinc 6 1, 3) := by decide +kernel
theorem dX10_readQuad_94 : decode cX10_readQuad 94 = .ok (.goto (-78), 3) := by decide +kernel
theorem dX10_readQuad_97 : decode cX10_readQuad 97 = .ok (.iload 4, 2) := by decide +kernel
theorem dX10_readQuad_99 : decode cX10_readQuad 99 = .ok (.iconst 4, 1) := by decide +kernel
theorem dX10_readQuad_100 : decode cX10_readQuad 100 = .ok (.if_icmp .ne 7, 3) := by decide +kernel
theorem dX10_readQuad_103 : decode cX10_readQuad 103 = .ok (.iconst 1, 1) := by decide +kernel
theorem dX10_readQuad_104 : decode cX10_readQuad 104 = .ok (.goto 4, 3) := by decide +kernel
theorem dX10_readQuad_107 : decode cX10_readQuad 107 = .ok (.iconst 0, 1) := by decide +kernel
theorem dX10_readQuad_108 : decode cX10_readQuad 108 = .ok (.ireturn, 1) := by decide +kernel
theorem kt_127 : Cond.code yX10_macroLength cX10_macroLength 6 (some .int) ∈ tb := tb_at (i := 725) (by decide +kernel) (by decide +kernel)
theorem kt_128 : Cond.methodLink RX10 92 yX10_macroLength ∈ tb := tb_at (i := 723) (by decide +kernel) (by decide +kernel)
theorem kt_129 : Cond.static yX10_macroLength ∈ tb := tb_at (i := 724) (by decide +kernel) (by decide +kernel)
theorem kt_130 : Cond.methodLink RX10 96 Lib.Math.max.name ∈ tb := tb_at (i := 726) (by decide +kernel) (by decide +kernel)
theorem kt_131 : Cond.fieldLink RX10 25 "PostGate$Term" "address" "I" ∈ tb := tb_at (i := 206) (by decide +kernel) (by decide +kernel)
theorem kt_132 : Cond.code yX10_numberOf cX10_numberOf 6 (some .int) ∈ tb := tb_at (i := 715) (by decide +kernel) (by decide +kernel)
theorem kt_133 : Cond.methodLink RX10 38 yX10_numberOf ∈ tb := tb_at (i := 713) (by decide +kernel) (by decide +kernel)
theorem kt_134 : Cond.static yX10_numberOf ∈ tb := tb_at (i := 714) (by decide +kernel) (by decide +kernel)
theorem maxN {k : Nat} (hk : k ≤ 7) : (if (1 : Int32) < nI k then nI k else 1) = nI (max 1 k) := by
  show (if nI 1 < nI k then nI k else nI 1) = nI (max 1 k)
  rcases Nat.lt_or_ge 1 k with q | q
  · rw [if_pos (nI_lt q (by omega)), Nat.max_eq_right (by omega)]
  · rw [if_neg (nI_nlt q (by omega)), Nat.max_eq_left q]
theorem stepN {i : Int32} {k t : Nat} (c : ¬ nI t ≤ i) (ht : t ≤ 10000) (hk1 : 1 ≤ k) (hk : k ≤ 7) : ((nI t).toInt - (i + nI k).toInt).toNat < ((nI t).toInt - i.toInt).toNat := by
  have h0 := i.le_toInt
  have h1 : (nI t).toInt = t := nI_toInt (by omega)
  have h2 : i.toInt < t := by
    rw [Int32.le_iff_toInt_le, h1] at c
    omega
  have h3 : (i + nI k).toInt = i.toInt + k := by
    rw [Int32.toInt_add, nI_toInt (by omega)]
    exact Int.bmod_eq_of_le (by omega) (by omega)
  omega
theorem incN2 {i x : Int32} {t : Nat} (ex : x = i + Int32.ofInt 1) (c : ¬ nI t < i) (ht : t ≤ 10000) : ((nI t).toInt + 1 - x.toInt).toNat < ((nI t).toInt + 1 - i.toInt).toNat := by
  have h0 := i.le_toInt
  have h1 : (nI t).toInt = t := nI_toInt (by omega)
  have h2 : i.toInt ≤ t := by
    rw [Int32.lt_iff_toInt_lt, h1] at c
    omega
  have h3 : x.toInt = i.toInt + 1 := by
    rw [ex, Int32.toInt_add, show (Int32.ofInt 1).toInt = 1 from by decide]
    exact Int.bmod_eq_of_le (by omega) (by omega)
  omega
set_option maxHeartbeats 4000000 in
set_option maxRecDepth 100000 in
theorem s_X10_isHost (l : Launch) (dC : Nat → ClassId) (dI : Nat → Nat → Nat) (cs : Nat → ClassId) (ty : TyM) (L : List Nat) (sz : Nat) (F : Nat → va_E) (g1 : Nat) (σ : Nat) (r1 : Nat) (n1 : Nat) (t3 : Nat) (x2 : Int32) (hW : WT ty L) (hL_g1 : g1 ∈ L) (hT_g1 : ty g1 = (0, σ, [r1, n1])) (ht3 : t3 ≤ 10000) : Met l yX10_isHost (.code yX10_isHost cX10_isHost 7 (some .boolean) :: tb) ({ frames := 2, cells := 0, slots := 0, locals := 46 }) (va_Pc [.ref g1, .int x2, .int (nI t3)] (PT (dC, dI) cs ty L F sz)) (va_Qi (fun (r : Int32) (_ : Unit) => (r = 0 ∨ r = 1)) (fun _ T9 => ∃ F2 : Nat → va_E, QT (dC, dI) cs ty L [] F F2 (va_A (va_pl L F) sz) T9) (va_A (va_pl L F) sz)) 0 0 (va_A (va_pl L F) sz) := by
  refine Met.ofW (cc := cX10_isHost) (maxL := 7) (ret := (some .boolean)) (by decide) rfl ?_
  intro p e s m args below meth c s₁ B hml hv
  obtain ⟨rfl, hsz, hP, hK, hD0, hE, hO⟩ := hv
  have hx := B.exec
  have hb := B.bytes
  have hr := B.returns
  have hts : ∀ w ∈ tb, w.before _ s = true := fun w h => atoms_spec (ws := .code yX10_isHost cX10_isHost 7 (some .boolean) :: tb) B.pre w (List.mem_cons_of_mem _ h)
  have hown : s.vm.findClass RX10 = some m.cls := findClass_of_methodNamed B.named
  have hlocks := B.notSynchronized
  subst hsz
  have hD := hD0.self (sz := s.heap.size)
  generalize hAe : va_A (va_pl L F) s.heap.size = A at hD ⊢
  have hA : ∀ q : Nat, s.heap.size ≤ q → A q := fun q h => by rw [← hAe]; exact Or.inr h
  have hS : va_S A s.heap s.heap [] := va_S.rf
  have hR : FR ty [] F F := FR.refl
  have hl := lv_entry ([.ref g1, .int x2, .int (nI t3)]) (n := 7) (Nat.le_of_ble_eq_true rfl)
  rw [lg_entry_eq]
  generalize (lg_sl ([.ref g1, .int x2, .int (nI t3)]) ++ List.replicate (7 - (lg_sl ([.ref g1, .int x2, .int (nI t3)])).length) Slot.unset).toArray = ls at hl ⊢
  have hl : lv_has ls 7 [(0, .ref g1), (1, .int x2), (2, .int (nI t3))] := hl
  refine lv_iconst (v := 1) hx hb dX10_isHost_0 (by decide) ?_
  refine lv_istore_n (lv' := [(3, .int 1), (0, .ref g1), (1, .int x2), (2, .int (nI t3))]) hx hb dX10_isHost_1 rfl hl (by decide) rfl (fun ls hl => ?_)
  refine lv_iload_n hx hb dX10_isHost_2 rfl (lv_at hl 2 rfl) ?_
  refine lv_istore (lv' := [(4, .int x2), (3, .int 1), (0, .ref g1), (1, .int x2), (2, .int (nI t3))]) hx hb dX10_isHost_3 hl (by decide) rfl (fun ls hl => ?_)
  refine W.widen (k := 0) (n := 0) (by omega) (by omega) ?_
  refine pl_loop (σ := Int32 × Int32) A (dC, dI) cs ty L [] F 5 7 (fun (i1, w3) => [(4, .int i1), (3, .int w3), (0, .ref g1), (1, .int x2), (2, .int (nI t3))]) (fun (i1, w3) => []) (fun (i1, w3) _ => True) (fun (i1, w3) => ((nI t3).toInt - i1.toInt).toNat) ?_ (x2, 1) F (trivial) hO hR _ _ hP hD hS ls (lv_sub hl [0, 1, 2, 3, 4] rfl)
  rintro ⟨i1, w3⟩ F_1 hv_2 hO hR ih_3 H locs hP hD hS ls hl
  have hl : lv_has ls 7 [(4, .int i1), (3, .int w3), (0, .ref g1), (1, .int x2), (2, .int (nI t3))] := hl
  have hv_2 : True := hv_2
  refine W.eq (g2 := F0 m 5 ls []) rfl ?_
  refine lv_iload hx hb dX10_isHost_5 (lv_at hl 0 rfl) ?_
  refine lv_iload_n hx hb dX10_isHost_7 rfl (lv_at hl 4 rfl) ?_
  refine lv_icmp_ge (tgt := 72) hx hb dX10_isHost_8 (by decide) (fun c_4 => ?_) (fun c_4 => ?_)
  ·
    refine lv_iload_n hx hb dX10_isHost_72 rfl (lv_at hl 3 rfl) ?_
    refine lv_iload_n hx hb dX10_isHost_73 rfl (lv_at hl 4 rfl) ?_
    refine lv_icmp_ge (tgt := 81) hx hb dX10_isHost_74 (by decide) (fun c_5 => ?_) (fun c_5 => ?_)
    ·
      refine lv_iconst (v := 0) hx hb dX10_isHost_81 (by decide) ?_
      refine W.widen (k := 0) (n := 0) (by omega) (by omega) ?_
      exact W.zret (v := 0) (ty := .boolean) hx hb hr (by decide) (fun t ht hWm => ⟨⟨0, (), rfl, (by first | exact Or.inl rfl | exact Or.inr rfl), ⟨F_1, QT.mk ht hP hD hO hR⟩⟩, hS.F ht⟩) hS.2.2 dX10_isHost_82
    ·
      refine lv_iconst (v := 1) hx hb dX10_isHost_77 (by decide) ?_
      refine lv_goto (tgt := 82) hx hb dX10_isHost_78 (by decide) ?_
      refine W.widen (k := 0) (n := 0) (by omega) (by omega) ?_
      exact W.zret (v := 1) (ty := .boolean) hx hb hr (by decide) (fun t ht hWm => ⟨⟨1, (), rfl, (by first | exact Or.inl rfl | exact Or.inr rfl), ⟨F_1, QT.mk ht hP hD hO hR⟩⟩, hS.F ht⟩) hS.2.2 dX10_isHost_82
  ·
    refine lv_aload_n hx hb dX10_isHost_11 rfl (lv_at hl 2 rfl) ?_
    refine lv_iload hx hb dX10_isHost_12 (lv_at hl 0 rfl) ?_
    have hFc := pg_free hD hS hA
    obtain ⟨hi_6, ht_7, hq_8⟩ := hW.bytes hL_g1 hT_g1
    obtain ⟨z_9, o_10, hF_11, hq_12, hq_13⟩ := hO.bytes hL_g1 hT_g1
    refine va_calli (va_runV (As := [.int i1]) (rest := []) ⟨hx, hb, hml, hown, hts⟩ (s_X0_at l dC dI cs ty L H.size F_1 g1 σ r1 n1 i1 hW hL_g1 hT_g1) ⟨callB_of 1 hts (gi kt_21) rfl rfl rfl (hts _ kt_1) (hts _ kt_120) (by decide +kernel) ⟨Nat.le_of_ble_eq_true rfl, Nat.le_of_ble_eq_true rfl⟩, (hts _ kt_23), (hts _ kt_24)⟩ ⟨fun a U g mk q => ⟨q.1, PT.calling q.2⟩, pg_recv hK hP hL_g1 hF_11 (q := (RX0, TX0, 3)) rfl, fun U hU hWm => ⟨rfl, PT.mk hU hWm hP hK hD hE hO⟩⟩ rfl rfl hl.1 rfl (lv_room (Nat.le_of_ble_eq_true rfl)) dX10_isHost_14 ⟨by show _ + 0 ≤ 0; omega, by show _ + 0 ≤ 0; omega⟩) hS (fun q _ h => hFc q h) hFc (fun r_14 u t H1 locs ht hvm hw hB hz1 hk1 hS => ?_)
    obtain ⟨F_15, hB1⟩ := hB
    obtain ⟨hP, hD, hO, hR⟩ := QT.back hB1 ht hFc hR (fun q h => absurd h List.not_mem_nil)
    have hF_16 : F_15 g1 = .inr (0, [.ref r1, .int (nI z_9), .int o_10]) := (hB1.2.2.2 g1 List.not_mem_nil).trans hF_11
    generalize H1 = H at hP hS ⊢
    have hw : True := hw
    have hw_17 := hw
    refine lv_istore (lv' := [(5, .int r_14), (4, .int i1), (3, .int w3), (0, .ref g1), (1, .int x2), (2, .int (nI t3))]) hx hb dX10_isHost_17 hl (by decide) rfl (fun ls hl => ?_)
    refine lv_aload_n hx hb dX10_isHost_19 rfl (lv_at hl 3 rfl) ?_
    refine lv_iload hx hb dX10_isHost_20 (lv_at hl 1 rfl) ?_
    refine lv_iload_n hx hb dX10_isHost_22 rfl (lv_at hl 5 rfl) ?_
    have hFc := pg_free hD hS hA
    refine va_calli (va_runS (As := [.ref g1, .int i1, .int (nI t3)]) (rest := []) ⟨hx, hb, hml, hown, hts⟩ (s_X10_macroLength l dC dI cs ty L H.size F_15 g1 σ r1 n1 i1 (nI t3) hW hL_g1 hT_g1) ⟨callB_of 3 hts (gi kt_127) rfl rfl rfl (hts _ kt_90) (hts _ kt_128) (by decide +kernel) ⟨Nat.le_of_ble_eq_true rfl, Nat.le_of_ble_eq_true rfl⟩, (hts _ kt_129)⟩ ⟨fun a U g mk q => ⟨q.1, PT.calling q.2⟩, fun U hU hWm => ⟨rfl, PT.mk hU hWm hP hK hD hE hO⟩⟩ rfl rfl hl.1 rfl (lv_room (Nat.le_of_ble_eq_true rfl)) dX10_isHost_23 ⟨by show _ + 0 ≤ 0; omega, by show _ + 0 ≤ 0; omega⟩) hS (fun q _ h => hFc q h) hFc (fun r_18 u t H1 locs ht hvm hw hB hz1 hk1 hS => ?_)
    obtain ⟨F_19, hB1⟩ := hB
    obtain ⟨hP, hD, hO, hR⟩ := QT.back hB1 ht hFc hR (fun q h => absurd h List.not_mem_nil)
    have hF_20 : F_19 g1 = .inr (0, [.ref r1, .int (nI z_9), .int o_10]) := (hB1.2.2.2 g1 List.not_mem_nil).trans hF_16
    generalize H1 = H at hP hS ⊢
    have hw : (∃ k : Nat, k ≤ 7 ∧ r_18 = nI k) := hw
    have hw_21 := hw
    obtain ⟨k1, hk1, hk2⟩ := hw_21
    subst hk2
    refine lv_istore (lv' := [(6, .int (nI k1)), (5, .int r_14), (4, .int i1), (3, .int w3), (0, .ref g1), (1, .int x2), (2, .int (nI t3))]) hx hb dX10_isHost_26 hl (by decide) rfl (fun ls hl => ?_)
    refine lv_iload hx hb dX10_isHost_28 (lv_at hl 1 rfl) ?_
    refine lv_bipush (v := 33) hx hb dX10_isHost_30 (by decide) ?_
    refine lv_icmp_lt (tgt := 54) hx hb dX10_isHost_32 (by decide) (fun c_22 => ?_) (fun c_22 => ?_)
    ·
      refine lv_iconst (v := 0) hx hb dX10_isHost_54 (by decide) ?_
      refine W.widen (k := 0) (n := 0) (by omega) (by omega) ?_
      exact W.zret (v := 0) (ty := .boolean) hx hb hr (by decide) (fun t ht hWm => ⟨⟨0, (), rfl, (by first | exact Or.inl rfl | exact Or.inr rfl), ⟨F_19, QT.mk ht hP hD hO hR⟩⟩, hS.F ht⟩) hS.2.2 dX10_isHost_55
    ·
      refine lv_iload hx hb dX10_isHost_35 (lv_at hl 1 rfl) ?_
      refine lv_bipush (v := 126) hx hb dX10_isHost_37 (by decide) ?_
      refine lv_icmp_gt (tgt := 54) hx hb dX10_isHost_39 (by decide) (fun c_23 => ?_) (fun c_23 => ?_)
      ·
        refine lv_iconst (v := 0) hx hb dX10_isHost_54 (by decide) ?_
        refine W.widen (k := 0) (n := 0) (by omega) (by omega) ?_
        exact W.zret (v := 0) (ty := .boolean) hx hb hr (by decide) (fun t ht hWm => ⟨⟨0, (), rfl, (by first | exact Or.inl rfl | exact Or.inr rfl), ⟨F_19, QT.mk ht hP hD hO hR⟩⟩, hS.F ht⟩) hS.2.2 dX10_isHost_55
      ·
        refine lv_iload hx hb dX10_isHost_42 (lv_at hl 1 rfl) ?_
        refine lv_bipush (v := 37) hx hb dX10_isHost_44 (by decide) ?_
        refine lv_icmp_ne (tgt := 56) hx hb dX10_isHost_46 (by decide) (fun c_24 => ?_) (fun c_24 => ?_)
        ·
          refine lv_iconst (v := 1) hx hb dX10_isHost_56 (by decide) ?_
          refine lv_iload hx hb dX10_isHost_57 (lv_at hl 0 rfl) ?_
          refine va_mmax hx hb (by rw [hml]; exact hl.1.symm) hown (hts _ kt_130) (hts _ kt_18) (hts _ kt_19) (hts _ kt_20) (Nat.le_of_ble_eq_true rfl) (Nat.le_of_ble_eq_true rfl) (by show _ ≤ 0; omega) (by show _ ≤ 0; omega) dX10_isHost_59 ?_
          refine lv_topi (fun x_25 ex_25 => ?_)
          obtain rfl : x_25 = (nI (max 1 k1)) := ex_25.trans (maxN hk1)
          refine lv_istore_n (lv' := [(3, .int (nI (max 1 k1))), (6, .int (nI k1)), (5, .int r_14), (4, .int i1), (0, .ref g1), (1, .int x2), (2, .int (nI t3))]) hx hb dX10_isHost_62 rfl hl (by decide) rfl (fun ls hl => ?_)
          refine lv_iload hx hb dX10_isHost_63 (lv_at hl 3 rfl) ?_
          refine lv_iload_n hx hb dX10_isHost_65 rfl (lv_at hl 0 rfl) ?_
          refine lv_iadd hx hb dX10_isHost_66 ?_
          refine lv_topi (fun x_26 ex_26 => ?_)
          obtain rfl : x_26 = (i1 + nI (max 1 k1)) := ex_26.trans (rfl)
          refine lv_istore (lv' := [(4, .int (i1 + nI (max 1 k1))), (3, .int (nI (max 1 k1))), (6, .int (nI k1)), (5, .int r_14), (0, .ref g1), (1, .int x2), (2, .int (nI t3))]) hx hb dX10_isHost_67 hl (by decide) rfl (fun ls hl => ?_)
          refine lv_goto (tgt := 5) hx hb dX10_isHost_69 (by decide) ?_
          refine W.widen (k := 0) (n := 0) (by omega) (by omega) ?_
          exact ih_3 ((i1 + nI (max 1 k1)), (nI (max 1 k1))) F_19 (trivial) (by show ((nI t3).toInt - (i1 + nI (max 1 k1)).toInt).toNat < ((nI t3).toInt - i1.toInt).toNat; exact stepN c_4 ht3 (Nat.le_max_left _ _) (Nat.max_le.mpr ⟨by omega, hk1⟩)) hO hR _ _ hP hD hS ls (lv_sub hl [0, 1, 4, 5, 6] rfl)
        ·
          refine lv_iload hx hb dX10_isHost_49 (lv_at hl 0 rfl) ?_
          refine lv_if_ne (tgt := 56) hx hb dX10_isHost_51 (by decide) (fun c_27 => ?_) (fun c_27 => ?_)
          ·
            refine lv_iconst (v := 1) hx hb dX10_isHost_56 (by decide) ?_
            refine lv_iload hx hb dX10_isHost_57 (lv_at hl 0 rfl) ?_
            refine va_mmax hx hb (by rw [hml]; exact hl.1.symm) hown (hts _ kt_130) (hts _ kt_18) (hts _ kt_19) (hts _ kt_20) (Nat.le_of_ble_eq_true rfl) (Nat.le_of_ble_eq_true rfl) (by show _ ≤ 0; omega) (by show _ ≤ 0; omega) dX10_isHost_59 ?_
            refine lv_topi (fun x_29 ex_29 => ?_)
            obtain rfl : x_29 = (nI (max 1 k1)) := ex_29.trans (maxN hk1)
            refine lv_istore_n (lv' := [(3, .int (nI (max 1 k1))), (6, .int (nI k1)), (5, .int r_14), (4, .int i1), (0, .ref g1), (1, .int x2), (2, .int (nI t3))]) hx hb dX10_isHost_62 rfl hl (by decide) rfl (fun ls hl => ?_)
            refine lv_iload hx hb dX10_isHost_63 (lv_at hl 3 rfl) ?_
            refine lv_iload_n hx hb dX10_isHost_65 rfl (lv_at hl 0 rfl) ?_
            refine lv_iadd hx hb dX10_isHost_66 ?_
            refine lv_topi (fun x_30 ex_30 => ?_)
            obtain rfl : x_30 = (i1 + nI (max 1 k1)) := ex_30.trans (rfl)
            refine lv_istore (lv' := [(4, .int (i1 + nI (max 1 k1))), (3, .int (nI (max 1 k1))), (6, .int (nI k1)), (5, .int r_14), (0, .ref g1), (1, .int x2), (2, .int (nI t3))]) hx hb dX10_isHost_67 hl (by decide) rfl (fun ls hl => ?_)
            refine lv_goto (tgt := 5) hx hb dX10_isHost_69 (by decide) ?_
            refine W.widen (k := 0) (n := 0) (by omega) (by omega) ?_
            exact ih_3 ((i1 + nI (max 1 k1)), (nI (max 1 k1))) F_19 (trivial) (by show ((nI t3).toInt - (i1 + nI (max 1 k1)).toInt).toNat < ((nI t3).toInt - i1.toInt).toNat; exact stepN c_4 ht3 (Nat.le_max_left _ _) (Nat.max_le.mpr ⟨by omega, hk1⟩)) hO hR _ _ hP hD hS ls (lv_sub hl [0, 1, 4, 5, 6] rfl)
          ·
            refine lv_iconst (v := 0) hx hb dX10_isHost_54 (by decide) ?_
            refine W.widen (k := 0) (n := 0) (by omega) (by omega) ?_
            exact W.zret (v := 0) (ty := .boolean) hx hb hr (by decide) (fun t ht hWm => ⟨⟨0, (), rfl, (by first | exact Or.inl rfl | exact Or.inr rfl), ⟨F_19, QT.mk ht hP hD hO hR⟩⟩, hS.F ht⟩) hS.2.2 dX10_isHost_55
set_option maxHeartbeats 4000000 in
set_option maxRecDepth 100000 in
theorem s_X10_readQuad (l : Launch) (dC : Nat → ClassId) (dI : Nat → Nat → Nat) (cs : Nat → ClassId) (ty : TyM) (L : List Nat) (sz : Nat) (F : Nat → va_E) (h0 : Nat) (ρ : Nat) (g1 : Nat) (σ : Nat) (r1 : Nat) (n1 : Nat) (t3 : Nat) (x2 : Int32) (hW : WT ty L) (hL_h0 : h0 ∈ L) (hT_h0 : ty h0 = (10, ρ, [])) (hL_g1 : g1 ∈ L) (hT_g1 : ty g1 = (0, σ, [r1, n1])) (ht3 : t3 ≤ 10000) : Met l yX10_readQuad (.code yX10_readQuad cX10_readQuad 8 (some .boolean) :: tb) ({ frames := 2, cells := 0, slots := 0, locals := 46 }) (va_Pc [.ref h0, .ref g1, .int x2, .int (nI t3)] (PT (dC, dI) cs ty L F sz)) (va_Qi (fun (r : Int32) (_ : Unit) => (r = 0 ∨ r = 1)) (fun _ T9 => ∃ F2 : Nat → va_E, QT (dC, dI) cs ty L [ρ] F F2 (va_A (va_pl L F) sz) T9) (va_A (va_pl L F) sz)) 0 0 (va_A (va_pl L F) sz) := by
  refine Met.ofW (cc := cX10_readQuad) (maxL := 8) (ret := (some .boolean)) (by decide) rfl ?_
  intro p e s m args below meth c s₁ B hml hv
  obtain ⟨rfl, hsz, hP, hK, hD0, hE, hO⟩ := hv
  have hx := B.exec
  have hb := B.bytes
  have hr := B.returns
  have hts : ∀ w ∈ tb, w.before _ s = true := fun w h => atoms_spec (ws := .code yX10_readQuad cX10_readQuad 8 (some .boolean) :: tb) B.pre w (List.mem_cons_of_mem _ h)
  have hown : s.vm.findClass RX10 = some m.cls := findClass_of_methodNamed B.named
  have hlocks := B.notSynchronized
  subst hsz
  have hD := hD0.self (sz := s.heap.size)
  generalize hAe : va_A (va_pl L F) s.heap.size = A at hD ⊢
  have hA : ∀ q : Nat, s.heap.size ≤ q → A q := fun q h => by rw [← hAe]; exact Or.inr h
  have hS : va_S A s.heap s.heap [] := va_S.rf
  have hR : FR ty [ρ] F F := FR.refl
  have hl := lv_entry ([.ref h0, .ref g1, .int x2, .int (nI t3)]) (n := 8) (Nat.le_of_ble_eq_true rfl)
  rw [lg_entry_eq]
  generalize (lg_sl ([.ref h0, .ref g1, .int x2, .int (nI t3)]) ++ List.replicate (8 - (lg_sl ([.ref h0, .ref g1, .int x2, .int (nI t3)])).length) Slot.unset).toArray = ls at hl ⊢
  have hl : lv_has ls 8 [(0, .ref h0), (1, .ref g1), (2, .int x2), (3, .int (nI t3))] := hl
  refine lv_iconst (v := 0) hx hb dX10_readQuad_0 (by decide) ?_
  refine lv_istore (lv' := [(4, .int 0), (0, .ref h0), (1, .ref g1), (2, .int x2), (3, .int (nI t3))]) hx hb dX10_readQuad_1 hl (by decide) rfl (fun ls hl => ?_)
  refine lv_iload_n hx hb dX10_readQuad_3 rfl (lv_at hl 3 rfl) ?_
  refine lv_iconst (v := 1) hx hb dX10_readQuad_4 (by decide) ?_
  refine lv_isub hx hb dX10_readQuad_5 ?_
  refine lv_topi (fun x_1 _ => ?_)
  refine lv_istore (lv' := [(5, .int x_1), (4, .int 0), (0, .ref h0), (1, .ref g1), (2, .int x2), (3, .int (nI t3))]) hx hb dX10_readQuad_6 hl (by decide) rfl (fun ls hl => ?_)
  refine lv_aload_n hx hb dX10_readQuad_8 rfl (lv_at hl 2 rfl) ?_
  refine lv_iconst (v := 0) hx hb dX10_readQuad_9 (by decide) ?_
  obtain ⟨v0_2, v1_3, v2_4, z_5, v4_6, v5_7, hF_8, hq_9⟩ := hO.term hL_h0 hT_h0
  refine pg_put (ci := 10) (v := .int 0) (ty := .int) (C := RX10) (T := TX10) (N := 6) hx hb hts it_10 tyX10 tyX10_ok nmX10 hown hK hP hD hS hL_h0 hF_8 rfl 5 (by decide) (hts _ kt_131) (fun _ h9 => h9) rfl (by decide +kernel) (rfl) (rfl) (Nat.le_of_ble_eq_true rfl) dX10_readQuad_10 (fun H locs hP hD hS => ?_)
  obtain ⟨F_10, he_11, hP, hD, hO, hR⟩ : ∃ G, G = va_up F h0 (.inr (10, [.int v0_2, .int v1_3, .int v2_4, .int (nI z_5), .int v4_6, .int 0])) ∧ va_P (dC, dI) vwCl (va_pl L G) H ∧ va_D A (va_pl L G) ∧ OK cs ty L G ∧ FR ty [ρ] F G := ⟨_, rfl, hP, hD, hO.up (sh.term hT_h0 ⟨v0_2, v1_3, v2_4, z_5, v4_6, 0, rfl, (by first | omega | assumption | exact Or.inl rfl | exact Or.inr rfl)⟩), hR.up hT_h0 (by simp)⟩
  have hF_12 : F_10 h0 = .inr (10, [.int v0_2, .int v1_3, .int v2_4, .int (nI z_5), .int v4_6, .int 0]) := by rw [he_11]; exact up_self
  refine lv_iload_n hx hb dX10_readQuad_13 rfl (lv_at hl 4 rfl) ?_
  refine lv_istore (lv' := [(6, .int x2), (5, .int x_1), (4, .int 0), (0, .ref h0), (1, .ref g1), (2, .int x2), (3, .int (nI t3))]) hx hb dX10_readQuad_14 hl (by decide) rfl (fun ls hl => ?_)
  refine W.widen (k := 0) (n := 0) (by omega) (by omega) ?_
  refine pl_loop (σ := Int32 × Int32 × Int32) A (dC, dI) cs ty L [ρ] F 16 8 (fun (i1, w4, w5) => [(6, .int i1), (5, .int w5), (4, .int w4), (0, .ref h0), (1, .ref g1), (2, .int x2), (3, .int (nI t3))]) (fun (i1, w4, w5) => []) (fun (i1, w4, w5) _ => True) (fun (i1, w4, w5) => ((nI t3).toInt + 1 - i1.toInt).toNat) ?_ (x2, 0, x_1) F_10 (trivial) hO hR _ _ hP hD hS ls (lv_sub hl [0, 1, 2, 3, 4, 5, 6] rfl)
  rintro ⟨i1, w4, w5⟩ F_13 hv_14 hO hR ih_15 H locs hP hD hS ls hl
  have hl : lv_has ls 8 [(6, .int i1), (5, .int w5), (4, .int w4), (0, .ref h0), (1, .ref g1), (2, .int x2), (3, .int (nI t3))] := hl
  have hv_14 : True := hv_14
  refine W.eq (g2 := F0 m 16 ls []) rfl ?_
  refine lv_iload hx hb dX10_readQuad_16 (lv_at hl 0 rfl) ?_
  refine lv_iload_n hx hb dX10_readQuad_18 rfl (lv_at hl 6 rfl) ?_
  refine lv_icmp_gt (tgt := 97) hx hb dX10_readQuad_19 (by decide) (fun c_16 => ?_) (fun c_16 => ?_)
  ·
    refine lv_iload hx hb dX10_readQuad_97 (lv_at hl 2 rfl) ?_
    refine lv_iconst (v := 4) hx hb dX10_readQuad_99 (by decide) ?_
    refine lv_icmp_ne (tgt := 107) hx hb dX10_readQuad_100 (by decide) (fun c_17 => ?_) (fun c_17 => ?_)
    ·
      refine lv_iconst (v := 0) hx hb dX10_readQuad_107 (by decide) ?_
      refine W.widen (k := 0) (n := 0) (by omega) (by omega) ?_
      exact W.zret (v := 0) (ty := .boolean) hx hb hr (by decide) (fun t ht hWm => ⟨⟨0, (), rfl, (by first | exact Or.inl rfl | exact Or.inr rfl), ⟨F_13, QT.mk ht hP hD hO hR⟩⟩, hS.F ht⟩) hS.2.2 dX10_readQuad_108
    ·
      refine lv_iconst (v := 1) hx hb dX10_readQuad_103 (by decide) ?_
      refine lv_goto (tgt := 108) hx hb dX10_readQuad_104 (by decide) ?_
      refine W.widen (k := 0) (n := 0) (by omega) (by omega) ?_
      exact W.zret (v := 1) (ty := .boolean) hx hb hr (by decide) (fun t ht hWm => ⟨⟨1, (), rfl, (by first | exact Or.inl rfl | exact Or.inr rfl), ⟨F_13, QT.mk ht hP hD hO hR⟩⟩, hS.F ht⟩) hS.2.2 dX10_readQuad_108
  ·
    refine lv_iload hx hb dX10_readQuad_22 (lv_at hl 0 rfl) ?_
    refine lv_iload_n hx hb dX10_readQuad_24 rfl (lv_at hl 6 rfl) ?_
    refine lv_icmp_ge (tgt := 42) hx hb dX10_readQuad_25 (by decide) (fun c_18 => ?_) (fun c_18 => ?_)
    ·
      refine lv_aload_n hx hb dX10_readQuad_42 rfl (lv_at hl 4 rfl) ?_
      refine lv_iload hx hb dX10_readQuad_43 (lv_at hl 1 rfl) ?_
      refine lv_iconst (v := 1) hx hb dX10_readQuad_45 (by decide) ?_
      refine lv_iadd hx hb dX10_readQuad_46 ?_
      refine lv_topi (fun x_19 _ => ?_)
      refine lv_iload hx hb dX10_readQuad_47 (lv_at hl 0 rfl) ?_
      refine lv_iconst (v := 3) hx hb dX10_readQuad_49 (by decide) ?_
      have hFc := pg_free hD hS hA
      refine va_calli (va_runS (As := [.ref g1, .int x_19, .int i1, .int 3]) (rest := []) ⟨hx, hb, hml, hown, hts⟩ (s_X10_numberOf l dC dI cs ty L H.size F_13 g1 σ r1 n1 x_19 i1 3 hW hL_g1 hT_g1) ⟨callB_of 4 hts (gi kt_132) rfl rfl rfl (hts _ kt_90) (hts _ kt_133) (by decide +kernel) ⟨Nat.le_of_ble_eq_true rfl, Nat.le_of_ble_eq_true rfl⟩, (hts _ kt_134)⟩ ⟨fun a U g mk q => ⟨q.1, PT.calling q.2⟩, fun U hU hWm => ⟨rfl, PT.mk hU hWm hP hK hD hE hO⟩⟩ rfl rfl hl.1 rfl (lv_room (Nat.le_of_ble_eq_true rfl)) dX10_readQuad_50 ⟨by show _ + 0 ≤ 0; omega, by show _ + 0 ≤ 0; omega⟩) hS (fun q _ h => hFc q h) hFc (fun r_20 u t H1 locs ht hvm hw hB hz1 hk1 hS => ?_)
      obtain ⟨F_21, hB1⟩ := hB
      obtain ⟨hP, hD, hO, hR⟩ := QT.back hB1 ht hFc hR (fun q h => absurd h List.not_mem_nil)
      generalize H1 = H at hP hS ⊢
      have hw : True := hw
      have hw_22 := hw
      refine lv_istore (lv' := [(7, .int r_20), (6, .int i1), (5, .int w5), (4, .int w4), (0, .ref h0), (1, .ref g1), (2, .int x2), (3, .int (nI t3))]) hx hb dX10_readQuad_53 hl (by decide) rfl (fun ls hl => ?_)
      refine lv_iload hx hb dX10_readQuad_55 (lv_at hl 0 rfl) ?_
      refine lv_if_lt (tgt := 68) hx hb dX10_readQuad_57 (by decide) (fun c_23 => ?_) (fun c_23 => ?_)
      ·
        refine lv_iconst (v := 0) hx hb dX10_readQuad_68 (by decide) ?_
        refine W.widen (k := 0) (n := 0) (by omega) (by omega) ?_
        exact W.zret (v := 0) (ty := .boolean) hx hb hr (by decide) (fun t ht hWm => ⟨⟨0, (), rfl, (by first | exact Or.inl rfl | exact Or.inr rfl), ⟨F_21, QT.mk ht hP hD hO hR⟩⟩, hS.F ht⟩) hS.2.2 dX10_readQuad_69
      ·
        refine lv_iload hx hb dX10_readQuad_60 (lv_at hl 0 rfl) ?_
        refine lv_sipush (v := 255) hx hb dX10_readQuad_62 (by decide) ?_
        refine lv_icmp_le (tgt := 70) hx hb dX10_readQuad_65 (by decide) (fun c_24 => ?_) (fun c_24 => ?_)
        ·
          refine lv_aload_n hx hb dX10_readQuad_70 rfl (lv_at hl 4 rfl) ?_
          refine lv_aload_n hx hb dX10_readQuad_71 rfl (lv_at hl 4 rfl) ?_
          obtain ⟨v0_25, v1_26, v2_27, z_28, v4_29, v5_30, hF_31, hq_32⟩ := hO.term hL_h0 hT_h0
          refine pg_get (ci := 10) (v := .int v5_30) (C := RX10) (T := TX10) (N := 6) hx hb hts it_10 hown hK hP hL_h0 hF_31 rfl 5 (by decide) (hts _ kt_131) (fun _ h9 => h9) rfl dX10_readQuad_72 ?_
          refine lv_bipush (v := 8) hx hb dX10_readQuad_75 (by decide) ?_
          refine lv_ishl hx hb dX10_readQuad_77 ?_
          refine lv_topi (fun x_33 _ => ?_)
          refine lv_iload hx hb dX10_readQuad_78 (lv_at hl 0 rfl) ?_
          refine lv_ior hx hb dX10_readQuad_80 ?_
          refine lv_topi (fun x_34 _ => ?_)
          refine pg_put (ci := 10) (v := .int x_34) (ty := .int) (C := RX10) (T := TX10) (N := 6) hx hb hts it_10 tyX10 tyX10_ok nmX10 hown hK hP hD hS hL_h0 hF_31 rfl 5 (by decide) (hts _ kt_131) (fun _ h9 => h9) rfl (by decide +kernel) (rfl) (rfl) (Nat.le_of_ble_eq_true rfl) dX10_readQuad_81 (fun H locs hP hD hS => ?_)
          obtain ⟨F_35, he_36, hP, hD, hO, hR⟩ : ∃ G, G = va_up F_21 h0 (.inr (10, [.int v0_25, .int v1_26, .int v2_27, .int (nI z_28), .int v4_29, .int x_34])) ∧ va_P (dC, dI) vwCl (va_pl L G) H ∧ va_D A (va_pl L G) ∧ OK cs ty L G ∧ FR ty [ρ] F G := ⟨_, rfl, hP, hD, hO.up (sh.term hT_h0 ⟨v0_25, v1_26, v2_27, z_28, v4_29, x_34, rfl, (by first | omega | assumption | exact Or.inl rfl | exact Or.inr rfl)⟩), hR.up hT_h0 (by simp)⟩
          have hF_37 : F_35 h0 = .inr (10, [.int v0_25, .int v1_26, .int v2_27, .int (nI z_28), .int v4_29, .int x_34]) := by rw [he_36]; exact up_self
          obtain ⟨x_38, ex_38⟩ : ∃ y : Int32, y = w4 + Int32.ofInt 1 := ⟨_, rfl⟩
          refine lv_iinc (v := x_38) (lv' := [(4, .int x_38), (7, .int r_20), (6, .int i1), (5, .int w5), (0, .ref h0), (1, .ref g1), (2, .int x2), (3, .int (nI t3))]) hx hb dX10_readQuad_84 hl (k := 3) rfl (ex_38.symm) (by decide) rfl (fun ls hl => ?_)
          refine lv_iload hx hb dX10_readQuad_87 (lv_at hl 2 rfl) ?_
          refine lv_istore (lv' := [(5, .int i1), (4, .int x_38), (7, .int r_20), (6, .int i1), (0, .ref h0), (1, .ref g1), (2, .int x2), (3, .int (nI t3))]) hx hb dX10_readQuad_89 hl (by decide) rfl (fun ls hl => ?_)
          obtain ⟨x_39, ex_39⟩ : ∃ y : Int32, y = i1 + Int32.ofInt 1 := ⟨_, rfl⟩
          refine lv_iinc (v := x_39) (lv' := [(6, .int x_39), (5, .int i1), (4, .int x_38), (7, .int r_20), (0, .ref h0), (1, .ref g1), (2, .int x2), (3, .int (nI t3))]) hx hb dX10_readQuad_91 hl (k := 3) rfl (ex_39.symm) (by decide) rfl (fun ls hl => ?_)
          refine lv_goto (tgt := 16) hx hb dX10_readQuad_94 (by decide) ?_
          refine W.widen (k := 0) (n := 0) (by omega) (by omega) ?_
          exact ih_15 (x_39, x_38, i1) F_35 (trivial) (by show ((nI t3).toInt + 1 - x_39.toInt).toNat < ((nI t3).toInt + 1 - i1.toInt).toNat; exact incN2 ex_39 c_16 ht3) hO hR _ _ hP hD hS ls (lv_sub hl [0, 1, 2, 4, 5, 6, 7] rfl)
        ·
          refine lv_iconst (v := 0) hx hb dX10_readQuad_68 (by decide) ?_
          refine W.widen (k := 0) (n := 0) (by omega) (by omega) ?_
          exact W.zret (v := 0) (ty := .boolean) hx hb hr (by decide) (fun t ht hWm => ⟨⟨0, (), rfl, (by first | exact Or.inl rfl | exact Or.inr rfl), ⟨F_21, QT.mk ht hP hD hO hR⟩⟩, hS.F ht⟩) hS.2.2 dX10_readQuad_69
    ·
      refine lv_aload_n hx hb dX10_readQuad_28 rfl (lv_at hl 4 rfl) ?_
      refine lv_iload hx hb dX10_readQuad_29 (lv_at hl 0 rfl) ?_
      have hFc := pg_free hD hS hA
      obtain ⟨hi_40, ht_41, hq_42⟩ := hW.bytes hL_g1 hT_g1
      obtain ⟨z_43, o_44, hF_45, hq_46, hq_47⟩ := hO.bytes hL_g1 hT_g1
      refine va_calli (va_runV (As := [.int i1]) (rest := []) ⟨hx, hb, hml, hown, hts⟩ (s_X0_at l dC dI cs ty L H.size F_13 g1 σ r1 n1 i1 hW hL_g1 hT_g1) ⟨callB_of 1 hts (gi kt_21) rfl rfl rfl (hts _ kt_1) (hts _ kt_120) (by decide +kernel) ⟨Nat.le_of_ble_eq_true rfl, Nat.le_of_ble_eq_true rfl⟩, (hts _ kt_23), (hts _ kt_24)⟩ ⟨fun a U g mk q => ⟨q.1, PT.calling q.2⟩, pg_recv hK hP hL_g1 hF_45 (q := (RX0, TX0, 3)) rfl, fun U hU hWm => ⟨rfl, PT.mk hU hWm hP hK hD hE hO⟩⟩ rfl rfl hl.1 rfl (lv_room (Nat.le_of_ble_eq_true rfl)) dX10_readQuad_31 ⟨by show _ + 0 ≤ 0; omega, by show _ + 0 ≤ 0; omega⟩) hS (fun q _ h => hFc q h) hFc (fun r_48 u t H1 locs ht hvm hw hB hz1 hk1 hS => ?_)
      obtain ⟨F_49, hB1⟩ := hB
      obtain ⟨hP, hD, hO, hR⟩ := QT.back hB1 ht hFc hR (fun q h => absurd h List.not_mem_nil)
      have hF_50 : F_49 g1 = .inr (0, [.ref r1, .int (nI z_43), .int o_44]) := (hB1.2.2.2 g1 List.not_mem_nil).trans hF_45
      generalize H1 = H at hP hS ⊢
      have hw : True := hw
      have hw_51 := hw
      refine lv_bipush (v := 46) hx hb dX10_readQuad_34 (by decide) ?_
      refine lv_icmp_eq (tgt := 42) hx hb dX10_readQuad_36 (by decide) (fun c_52 => ?_) (fun c_52 => ?_)
      ·
        refine lv_aload_n hx hb dX10_readQuad_42 rfl (lv_at hl 4 rfl) ?_
        refine lv_iload hx hb dX10_readQuad_43 (lv_at hl 1 rfl) ?_
        refine lv_iconst (v := 1) hx hb dX10_readQuad_45 (by decide) ?_
        refine lv_iadd hx hb dX10_readQuad_46 ?_
        refine lv_topi (fun x_53 _ => ?_)
        refine lv_iload hx hb dX10_readQuad_47 (lv_at hl 0 rfl) ?_
        refine lv_iconst (v := 3) hx hb dX10_readQuad_49 (by decide) ?_
        have hFc := pg_free hD hS hA
        refine va_calli (va_runS (As := [.ref g1, .int x_53, .int i1, .int 3]) (rest := []) ⟨hx, hb, hml, hown, hts⟩ (s_X10_numberOf l dC dI cs ty L H.size F_49 g1 σ r1 n1 x_53 i1 3 hW hL_g1 hT_g1) ⟨callB_of 4 hts (gi kt_132) rfl rfl rfl (hts _ kt_90) (hts _ kt_133) (by decide +kernel) ⟨Nat.le_of_ble_eq_true rfl, Nat.le_of_ble_eq_true rfl⟩, (hts _ kt_134)⟩ ⟨fun a U g mk q => ⟨q.1, PT.calling q.2⟩, fun U hU hWm => ⟨rfl, PT.mk hU hWm hP hK hD hE hO⟩⟩ rfl rfl hl.1 rfl (lv_room (Nat.le_of_ble_eq_true rfl)) dX10_readQuad_50 ⟨by show _ + 0 ≤ 0; omega, by show _ + 0 ≤ 0; omega⟩) hS (fun q _ h => hFc q h) hFc (fun r_54 u t H1 locs ht hvm hw hB hz1 hk1 hS => ?_)
        obtain ⟨F_55, hB1⟩ := hB
        obtain ⟨hP, hD, hO, hR⟩ := QT.back hB1 ht hFc hR (fun q h => absurd h List.not_mem_nil)
        have hF_56 : F_55 g1 = .inr (0, [.ref r1, .int (nI z_43), .int o_44]) := (hB1.2.2.2 g1 List.not_mem_nil).trans hF_50
        generalize H1 = H at hP hS ⊢
        have hw : True := hw
        have hw_57 := hw
        refine lv_istore (lv' := [(7, .int r_54), (6, .int i1), (5, .int w5), (4, .int w4), (0, .ref h0), (1, .ref g1), (2, .int x2), (3, .int (nI t3))]) hx hb dX10_readQuad_53 hl (by decide) rfl (fun ls hl => ?_)
        refine lv_iload hx hb dX10_readQuad_55 (lv_at hl 0 rfl) ?_
        refine lv_if_lt (tgt := 68) hx hb dX10_readQuad_57 (by decide) (fun c_58 => ?_) (fun c_58 => ?_)
        ·
          refine lv_iconst (v := 0) hx hb dX10_readQuad_68 (by decide) ?_
          refine W.widen (k := 0) (n := 0) (by omega) (by omega) ?_
          exact W.zret (v := 0) (ty := .boolean) hx hb hr (by decide) (fun t ht hWm => ⟨⟨0, (), rfl, (by first | exact Or.inl rfl | exact Or.inr rfl), ⟨F_55, QT.mk ht hP hD hO hR⟩⟩, hS.F ht⟩) hS.2.2 dX10_readQuad_69
        ·
          refine lv_iload hx hb dX10_readQuad_60 (lv_at hl 0 rfl) ?_
          refine lv_sipush (v := 255) hx hb dX10_readQuad_62 (by decide) ?_
          refine lv_icmp_le (tgt := 70) hx hb dX10_readQuad_65 (by decide) (fun c_59 => ?_) (fun c_59 => ?_)
          ·
            refine lv_aload_n hx hb dX10_readQuad_70 rfl (lv_at hl 4 rfl) ?_
            refine lv_aload_n hx hb dX10_readQuad_71 rfl (lv_at hl 4 rfl) ?_
            obtain ⟨v0_60, v1_61, v2_62, z_63, v4_64, v5_65, hF_66, hq_67⟩ := hO.term hL_h0 hT_h0
            refine pg_get (ci := 10) (v := .int v5_65) (C := RX10) (T := TX10) (N := 6) hx hb hts it_10 hown hK hP hL_h0 hF_66 rfl 5 (by decide) (hts _ kt_131) (fun _ h9 => h9) rfl dX10_readQuad_72 ?_
            refine lv_bipush (v := 8) hx hb dX10_readQuad_75 (by decide) ?_
            refine lv_ishl hx hb dX10_readQuad_77 ?_
            refine lv_topi (fun x_68 _ => ?_)
            refine lv_iload hx hb dX10_readQuad_78 (lv_at hl 0 rfl) ?_
            refine lv_ior hx hb dX10_readQuad_80 ?_
            refine lv_topi (fun x_69 _ => ?_)
            refine pg_put (ci := 10) (v := .int x_69) (ty := .int) (C := RX10) (T := TX10) (N := 6) hx hb hts it_10 tyX10 tyX10_ok nmX10 hown hK hP hD hS hL_h0 hF_66 rfl 5 (by decide) (hts _ kt_131) (fun _ h9 => h9) rfl (by decide +kernel) (rfl) (rfl) (Nat.le_of_ble_eq_true rfl) dX10_readQuad_81 (fun H locs hP hD hS => ?_)
            obtain ⟨F_70, he_71, hP, hD, hO, hR⟩ : ∃ G, G = va_up F_55 h0 (.inr (10, [.int v0_60, .int v1_61, .int v2_62, .int (nI z_63), .int v4_64, .int x_69])) ∧ va_P (dC, dI) vwCl (va_pl L G) H ∧ va_D A (va_pl L G) ∧ OK cs ty L G ∧ FR ty [ρ] F G := ⟨_, rfl, hP, hD, hO.up (sh.term hT_h0 ⟨v0_60, v1_61, v2_62, z_63, v4_64, x_69, rfl, (by first | omega | assumption | exact Or.inl rfl | exact Or.inr rfl)⟩), hR.up hT_h0 (by simp)⟩
            have hF_72 : F_70 h0 = .inr (10, [.int v0_60, .int v1_61, .int v2_62, .int (nI z_63), .int v4_64, .int x_69]) := by rw [he_71]; exact up_self
            have hF_73 : F_70 g1 = .inr (0, [.ref r1, .int (nI z_43), .int o_44]) := by rw [he_71, up_ne (ne_ty hT_g1 hT_h0 (by simp))]; exact hF_56
            obtain ⟨x_74, ex_74⟩ : ∃ y : Int32, y = w4 + Int32.ofInt 1 := ⟨_, rfl⟩
            refine lv_iinc (v := x_74) (lv' := [(4, .int x_74), (7, .int r_54), (6, .int i1), (5, .int w5), (0, .ref h0), (1, .ref g1), (2, .int x2), (3, .int (nI t3))]) hx hb dX10_readQuad_84 hl (k := 3) rfl (ex_74.symm) (by decide) rfl (fun ls hl => ?_)
            refine lv_iload hx hb dX10_readQuad_87 (lv_at hl 2 rfl) ?_
            refine lv_istore (lv' := [(5, .int i1), (4, .int x_74), (7, .int r_54), (6, .int i1), (0, .ref h0), (1, .ref g1), (2, .int x2), (3, .int (nI t3))]) hx hb dX10_readQuad_89 hl (by decide) rfl (fun ls hl => ?_)
            obtain ⟨x_75, ex_75⟩ : ∃ y : Int32, y = i1 + Int32.ofInt 1 := ⟨_, rfl⟩
            refine lv_iinc (v := x_75) (lv' := [(6, .int x_75), (5, .int i1), (4, .int x_74), (7, .int r_54), (0, .ref h0), (1, .ref g1), (2, .int x2), (3, .int (nI t3))]) hx hb dX10_readQuad_91 hl (k := 3) rfl (ex_75.symm) (by decide) rfl (fun ls hl => ?_)
            refine lv_goto (tgt := 16) hx hb dX10_readQuad_94 (by decide) ?_
            refine W.widen (k := 0) (n := 0) (by omega) (by omega) ?_
            exact ih_15 (x_75, x_74, i1) F_70 (trivial) (by show ((nI t3).toInt + 1 - x_75.toInt).toNat < ((nI t3).toInt + 1 - i1.toInt).toNat; exact incN2 ex_75 c_16 ht3) hO hR _ _ hP hD hS ls (lv_sub hl [0, 1, 2, 4, 5, 6, 7] rfl)
          ·
            refine lv_iconst (v := 0) hx hb dX10_readQuad_68 (by decide) ?_
            refine W.widen (k := 0) (n := 0) (by omega) (by omega) ?_
            exact W.zret (v := 0) (ty := .boolean) hx hb hr (by decide) (fun t ht hWm => ⟨⟨0, (), rfl, (by first | exact Or.inl rfl | exact Or.inr rfl), ⟨F_55, QT.mk ht hP hD hO hR⟩⟩, hS.F ht⟩) hS.2.2 dX10_readQuad_69
      ·
        refine lv_goto (tgt := 91) hx hb dX10_readQuad_39 (by decide) ?_
        obtain ⟨x_76, ex_76⟩ : ∃ y : Int32, y = i1 + Int32.ofInt 1 := ⟨_, rfl⟩
        refine lv_iinc (v := x_76) (lv' := [(6, .int x_76), (5, .int w5), (4, .int w4), (0, .ref h0), (1, .ref g1), (2, .int x2), (3, .int (nI t3))]) hx hb dX10_readQuad_91 hl (k := 0) rfl (ex_76.symm) (by decide) rfl (fun ls hl => ?_)
        refine lv_goto (tgt := 16) hx hb dX10_readQuad_94 (by decide) ?_
        refine W.widen (k := 0) (n := 0) (by omega) (by omega) ?_
        exact ih_15 (x_76, w4, w5) F_49 (trivial) (by show ((nI t3).toInt + 1 - x_76.toInt).toNat < ((nI t3).toInt + 1 - i1.toInt).toNat; exact incN2 ex_76 c_16 ht3) hO hR _ _ hP hD hS ls (lv_sub hl [0, 1, 2, 3, 4, 5, 6] rfl)
