theorem dX1_isCountedOut_0 : decode cX1_isCountedOut 0 = .ok (.aload_n 0, 1) := by decide +kernel
theorem dX1_isCountedOut_1 : decode cX1_isCountedOut 1 = .ok (.dup, 1) := by decide +kernel
theorem dX1_isCountedOut_2 : decode cX1_isCountedOut 2 = .ok (.getfield 47, 3) := by decide +kernel
theorem dX1_isCountedOut_5 : decode cX1_isCountedOut 5 = .ok (.iconst 1, 1) := by decide +kernel
theorem dX1_isCountedOut_6 : decode cX1_isCountedOut 6 = .ok (.iadd, 1) := by decide +kernel
theorem dX1_isCountedOut_7 : decode cX1_isCountedOut 7 = .ok (.putfield 47, 3) := by decide +kernel
theorem dX1_isCountedOut_10 : decode cX1_isCountedOut 10 = .ok (.aload_n 0, 1) := by decide +kernel
theorem dX1_isCountedOut_11 : decode cX1_isCountedOut 11 = .ok (.getfield 47, 3) := by decide +kernel
theorem dX1_isCountedOut_14 : decode cX1_isCountedOut 14 = .ok (.bipush 10, 2) := by decide +kernel
theorem dX1_isCountedOut_16 : decode cX1_isCountedOut 16 = .ok (.if_icmp .le 7, 3) := by decide +kernel
theorem dX1_isCountedOut_19 : decode cX1_isCountedOut 19 = .ok (.iconst 1, 1) := by decide +kernel
theorem dX1_isCountedOut_20 : decode cX1_isCountedOut 20 = .ok (.goto 4, 3) := by decide +kernel
theorem dX1_isCountedOut_23 : decode cX1_isCountedOut 23 = .ok (.iconst 0, 1) := by decide +kernel
theorem dX1_isCountedOut_24 : decode cX1_isCountedOut 24 = .ok (.ireturn, 1) := by decide +kernel
theorem dX1_isLocal_0 : decode cX1_isLocal 0 = .ok (.iconst 0, 1) := by decide +kernel
theorem dX1_isLocal_1 : decode cX1_isLocal 1 = .ok (.istore_n 2, 1) := by decide +kernel
theorem dX1_isLocal_2 : decode cX1_isLocal 2 = .ok (.iload_n 2, 1) := by decide +kernel
theorem dX1_isLocal_3 : decode cX1_isLocal 3 = .ok (.iload_n 1, 1) := by decide +kernel
theorem dX1_isLocal_4 : decode cX1_isLocal 4 = .ok (.if_icmp .ge 67, 3) := by decide +kernel
theorem dX1_isLocal_7 : decode cX1_isLocal 7 = .ok (.aload_n 0, 1) := by decide +kernel
theorem dX1_isLocal_8 : decode cX1_isLocal 8 = .ok (.iload_n 2, 1) := by decide +kernel
theorem dX1_isLocal_9 : decode cX1_isLocal 9 = .ok (.invokevirtual 87, 3) := by decide +kernel
theorem dX1_isLocal_12 : decode cX1_isLocal 12 = .ok (.istore_n 3, 1) := by decide +kernel
theorem dX1_isLocal_13 : decode cX1_isLocal 13 = .ok (.iload_n 3, 1) := by decide +kernel
theorem dX1_isLocal_14 : decode cX1_isLocal 14 = .ok (.bipush 46, 2) := by decide +kernel
theorem dX1_isLocal_16 : decode cX1_isLocal 16 = .ok (.if_icmp .eq 21, 3) := by decide +kernel
theorem dX1_isLocal_19 : decode cX1_isLocal 19 = .ok (.iload_n 3, 1) := by decide +kernel
theorem dX1_isLocal_20 : decode cX1_isLocal 20 = .ok (.bipush 45, 2) := by decide +kernel
theorem dX1_isLocal_22 : decode cX1_isLocal 22 = .ok (.if_icmp .eq 15, 3) := by decide +kernel
theorem dX1_isLocal_25 : decode cX1_isLocal 25 = .ok (.iload_n 3, 1) := by decide +kernel
theorem dX1_isLocal_26 : decode cX1_isLocal 26 = .ok (.bipush 95, 2) := by decide +kernel
theorem dX1_isLocal_28 : decode cX1_isLocal 28 = .ok (.if_icmp .eq 9, 3) := by decide +kernel
theorem dX1_isLocal_31 : decode cX1_isLocal 31 = .ok (.iload_n 3, 1) := by decide +kernel
theorem dX1_isLocal_32 : decode cX1_isLocal 32 = .ok (.bipush 43, 2) := by decide +kernel
theorem dX1_isLocal_34 : decode cX1_isLocal 34 = .ok (.if_icmp .ne 7, 3) := by decide +kernel
theorem dX1_isLocal_37 : decode cX1_isLocal 37 = .ok (.iconst 1, 1) := by decide +kernel
theorem dX1_isLocal_38 : decode cX1_isLocal 38 = .ok (.goto 4, 3) := by decide +kernel
theorem dX1_isLocal_41 : decode cX1_isLocal 41 = .ok (.iconst 0, 1) := by decide +kernel
theorem dX1_isLocal_42 : decode cX1_isLocal 42 = .ok (.istore 4, 2) := by decide +kernel
theorem dX1_isLocal_44 : decode cX1_isLocal 44 = .ok (.iload 4, 2) := by decide +kernel
theorem dX1_isLocal_46 : decode cX1_isLocal 46 = .ok (.ifCond .ne 19, 3) := by decide +kernel
theorem dX1_isLocal_49 : decode cX1_isLocal 49 = .ok (.iload_n 3, 1) := by decide +kernel
theorem dX1_isLocal_50 : decode cX1_isLocal 50 = .ok (.invokestatic 91, 3) := by decide +kernel
theorem dX1_isLocal_53 : decode cX1_isLocal 53 = .ok (.ifCond .ne 12, 3) := by decide +kernel
theorem dX1_isLocal_56 : decode cX1_isLocal 56 = .ok (.iload_n 3, 1) := by decide +kernel
theorem dX1_isLocal_57 : decode cX1_isLocal 57 = .ok (.invokestatic 95, 3) := by decide +kernel
theorem dX1_isLocal_60 : decode cX1_isLocal 60 = .ok (.ifCond .ne 5, 3) := by decide +kernel
theorem dX1_isLocal_63 : decode cX1_isLocal 63 = .ok (.iconst 0, 1) := by decide +kernel
theorem dX1_isLocal_64 : decode cX1_isLocal 64 = .ok (.ireturn, 1) := by decide +kernel
theorem dX1_isLocal_65 : decode cX1_isLocal 65 = .ok (.iinc 2 1, 3) := by decide +kernel
theorem dX1_isLocal_68 : decode cX1_isLocal 68 = .ok (.goto (-66), 3) := by decide +kernel
theorem dX1_isLocal_71 : decode cX1_isLocal 71 = .ok (.iload_n 1, 1) := by decide +kernel
theorem dX1_isLocal_72 : decode cX1_isLocal 72 = .ok (.iconst 1, 1) := by decide +kernel
theorem dX1_isLocal_73 : decode cX1_isLocal 73 = .ok (.if_icmp .lt 13, 3) := by decide +kernel
theorem dX1_isLocal_76 : decode cX1_isLocal 76 = .ok (.iload_n 1, 1) := by decide +kernel
theorem dX1_isLocal_77 : decode cX1_isLocal 77 = .ok (.bipush 30, 2) := by decide +kernel
theorem dX1_isLocal_79 : decode cX1_isLocal 79 = .ok (.if_icmp .gt 7, 3) := by decide +kernel
theorem dX1_isLocal_82 : decode cX1_isLocal 82 = .ok (.iconst 1, 1) := by decide +kernel
theorem dX1_isLocal_83 : decode cX1_isLocal 83 = .ok (.goto 4, 3) := by decide +kernel
theorem dX1_isLocal_86 : decode cX1_isLocal 86 = .ok (.iconst 0, 1) := by decide +kernel
theorem dX1_isLocal_87 : decode cX1_isLocal 87 = .ok (.ireturn, 1) := by decide +kernel
theorem dX1_startsTerm_0 : decode cX1_startsTerm 0 = .ok (.aload_n 0, 1) := by decide +kernel
theorem dX1_startsTerm_1 : decode cX1_startsTerm 1 = .ok (.iload_n 1, 1) := by decide +kernel
theorem dX1_startsTerm_2 : decode cX1_startsTerm 2 = .ok (.iconst 1, 1) := by decide +kernel
theorem dX1_startsTerm_3 : decode cX1_startsTerm 3 = .ok (.isub, 1) := by decide +kernel
theorem dX1_startsTerm_4 : decode cX1_startsTerm 4 = .ok (.invokevirtual 87, 3) := by decide +kernel
theorem dX1_startsTerm_7 : decode cX1_startsTerm 7 = .ok (.bipush 32, 2) := by decide +kernel
theorem dX1_startsTerm_9 : decode cX1_startsTerm 9 = .ok (.if_icmp .ne 17, 3) := by decide +kernel
theorem dX1_startsTerm_12 : decode cX1_startsTerm 12 = .ok (.aload_n 0, 1) := by decide +kernel
theorem dX1_startsTerm_13 : decode cX1_startsTerm 13 = .ok (.iload_n 1, 1) := by decide +kernel
theorem dX1_startsTerm_14 : decode cX1_startsTerm 14 = .ok (.invokevirtual 87, 3) := by decide +kernel
theorem dX1_startsTerm_17 : decode cX1_startsTerm 17 = .ok (.bipush 32, 2) := by decide +kernel
theorem dX1_startsTerm_19 : decode cX1_startsTerm 19 = .ok (.if_icmp .eq 7, 3) := by decide +kernel
theorem dX1_startsTerm_22 : decode cX1_startsTerm 22 = .ok (.iconst 1, 1) := by decide +kernel
theorem dX1_startsTerm_23 : decode cX1_startsTerm 23 = .ok (.goto 4, 3) := by decide +kernel
theorem dX1_startsTerm_26 : decode cX1_startsTerm 26 = .ok (.iconst 0, 1) := by decide +kernel
theorem dX1_startsTerm_27 : decode cX1_startsTerm 27 = .ok (.ireturn, 1) := by decide +kernel
theorem kt_301 : Cond.methodLink RX1 87 yX0_at ∈ tb := tb_at (i := 572) (by decide +kernel) (by decide +kernel)
theorem kt_302 : Cond.methodLink RX1 91 yX0_isSmall ∈ tb := tb_at (i := 573) (by decide +kernel) (by decide +kernel)
theorem kt_303 : Cond.methodLink RX1 95 yX0_isDigit ∈ tb := tb_at (i := 574) (by decide +kernel) (by decide +kernel)
theorem kt_304 : Cond.fieldLink RX1 47 "PostGate$Checker" "counted" "I" ∈ tb := tb_at (i := 232) (by decide +kernel) (by decide +kernel)
set_option maxHeartbeats 4000000 in
set_option maxRecDepth 100000 in
theorem s_X1_isLocal (l : Launch) (dC : Nat → ClassId) (dI : Nat → Nat → Nat) (cs : Nat → ClassId) (ty : TyM) (L : List Nat) (sz : Nat) (F : Nat → va_E) (g1 : Nat) (σ : Nat) (r1 : Nat) (n1 : Nat) (x2 : Int32) (hW : WT ty L) (hL_g1 : g1 ∈ L) (hT_g1 : ty g1 = (0, σ, [r1, n1])) : Met l yX1_isLocal (.code yX1_isLocal cX1_isLocal 5 (some .boolean) :: tb) ({ frames := 1, cells := 0, slots := 0, locals := 21 }) (va_Pc [.ref g1, .int x2] (PT (dC, dI) cs ty L F sz)) (va_Qi (fun (r : Int32) (_ : Unit) => (r = 0 ∨ r = 1)) (fun _ T9 => ∃ F2 : Nat → va_E, QT (dC, dI) cs ty L [] F F2 (va_A (va_pl L F) sz) T9) (va_A (va_pl L F) sz)) 0 0 (va_A (va_pl L F) sz) := by
  refine Met.ofW (cc := cX1_isLocal) (maxL := 5) (ret := (some .boolean)) (by decide) rfl ?_
  intro p e s m args below meth c s₁ B hml hv
  obtain ⟨rfl, hsz, hP, hK, hD0, hE, hO⟩ := hv
  have hx := B.exec
  have hb := B.bytes
  have hr := B.returns
  have hts : ∀ w ∈ tb, w.before _ s = true := fun w h => atoms_spec (ws := .code yX1_isLocal cX1_isLocal 5 (some .boolean) :: tb) B.pre w (List.mem_cons_of_mem _ h)
  have hown : s.vm.findClass RX1 = some m.cls := findClass_of_methodNamed B.named
  have hlocks := B.notSynchronized
  subst hsz
  have hD := hD0.self (sz := s.heap.size)
  generalize hAe : va_A (va_pl L F) s.heap.size = A at hD ⊢
  have hA : ∀ q : Nat, s.heap.size ≤ q → A q := fun q h => by rw [← hAe]; exact Or.inr h
  have hS : va_S A s.heap s.heap [] := va_S.rf
  have hR : FR ty [] F F := FR.refl
  have hl := lv_entry ([.ref g1, .int x2]) (n := 5) (Nat.le_of_ble_eq_true rfl)
  rw [lg_entry_eq]
  generalize (lg_sl ([.ref g1, .int x2]) ++ List.replicate (5 - (lg_sl ([.ref g1, .int x2])).length) Slot.unset).toArray = ls at hl ⊢
  have hl : lv_has ls 5 [(0, .ref g1), (1, .int x2)] := hl
  refine lv_iconst (v := 0) hx hb dX1_isLocal_0 (by decide) ?_
  refine lv_istore_n (lv' := [(2, .int 0), (0, .ref g1), (1, .int x2)]) hx hb dX1_isLocal_1 rfl hl (by decide) rfl (fun ls hl => ?_)
  refine W.widen (k := 0) (n := 0) (by omega) (by omega) ?_
  refine pl_loop (σ := Int32) A (dC, dI) cs ty L [] F 2 5 (fun i1 => [(2, .int i1), (0, .ref g1), (1, .int x2)]) (fun i1 => []) (fun i1 _ => True) (fun i1 => ((x2).toInt - i1.toInt).toNat) ?_ 0 F (trivial) hO hR _ _ hP hD hS ls (lv_sub hl [0, 1, 2] rfl)
  rintro i1 F_1 hv_2 hO hR ih_3 H locs hP hD hS ls hl
  have hl : lv_has ls 5 [(2, .int i1), (0, .ref g1), (1, .int x2)] := hl
  have hv_2 : True := hv_2
  refine W.eq (g2 := F0 m 2 ls []) rfl ?_
  refine lv_iload_n hx hb dX1_isLocal_2 rfl (lv_at hl 0 rfl) ?_
  refine lv_iload_n hx hb dX1_isLocal_3 rfl (lv_at hl 2 rfl) ?_
  refine lv_icmp_ge (tgt := 71) hx hb dX1_isLocal_4 (by decide) (fun c_4 => ?_) (fun c_4 => ?_)
  ·
    refine lv_iload_n hx hb dX1_isLocal_71 rfl (lv_at hl 2 rfl) ?_
    refine lv_iconst (v := 1) hx hb dX1_isLocal_72 (by decide) ?_
    refine lv_icmp_lt (tgt := 86) hx hb dX1_isLocal_73 (by decide) (fun c_5 => ?_) (fun c_5 => ?_)
    ·
      refine lv_iconst (v := 0) hx hb dX1_isLocal_86 (by decide) ?_
      refine W.widen (k := 0) (n := 0) (by omega) (by omega) ?_
      exact W.zret (v := 0) (ty := .boolean) hx hb hr (by decide) (fun t ht hWm => ⟨⟨0, (), rfl, (by first | exact Or.inl rfl | exact Or.inr rfl), ⟨F_1, QT.mk ht hP hD hO hR⟩⟩, hS.F ht⟩) hS.2.2 dX1_isLocal_87
    ·
      refine lv_iload_n hx hb dX1_isLocal_76 rfl (lv_at hl 2 rfl) ?_
      refine lv_bipush (v := 30) hx hb dX1_isLocal_77 (by decide) ?_
      refine lv_icmp_gt (tgt := 86) hx hb dX1_isLocal_79 (by decide) (fun c_6 => ?_) (fun c_6 => ?_)
      ·
        refine lv_iconst (v := 0) hx hb dX1_isLocal_86 (by decide) ?_
        refine W.widen (k := 0) (n := 0) (by omega) (by omega) ?_
        exact W.zret (v := 0) (ty := .boolean) hx hb hr (by decide) (fun t ht hWm => ⟨⟨0, (), rfl, (by first | exact Or.inl rfl | exact Or.inr rfl), ⟨F_1, QT.mk ht hP hD hO hR⟩⟩, hS.F ht⟩) hS.2.2 dX1_isLocal_87
      ·
        refine lv_iconst (v := 1) hx hb dX1_isLocal_82 (by decide) ?_
        refine lv_goto (tgt := 87) hx hb dX1_isLocal_83 (by decide) ?_
        refine W.widen (k := 0) (n := 0) (by omega) (by omega) ?_
        exact W.zret (v := 1) (ty := .boolean) hx hb hr (by decide) (fun t ht hWm => ⟨⟨1, (), rfl, (by first | exact Or.inl rfl | exact Or.inr rfl), ⟨F_1, QT.mk ht hP hD hO hR⟩⟩, hS.F ht⟩) hS.2.2 dX1_isLocal_87
  ·
    refine lv_aload_n hx hb dX1_isLocal_7 rfl (lv_at hl 1 rfl) ?_
    refine lv_iload_n hx hb dX1_isLocal_8 rfl (lv_at hl 0 rfl) ?_
    have hFc := pg_free hD hS hA
    obtain ⟨hi_7, ht_8, hq_9⟩ := hW.bytes hL_g1 hT_g1
    obtain ⟨z_10, o_11, hF_12, hq_13, hq_14⟩ := hO.bytes hL_g1 hT_g1
    refine va_calli (va_runV (As := [.int i1]) (rest := []) ⟨hx, hb, hml, hown, hts⟩ (s_X0_at l dC dI cs ty L H.size F_1 g1 σ r1 n1 i1 hW hL_g1 hT_g1) ⟨callB_of 1 hts (gi kt_21) rfl rfl rfl (hts _ kt_1) (hts _ kt_301) (by decide +kernel) ⟨Nat.le_of_ble_eq_true rfl, Nat.le_of_ble_eq_true rfl⟩, (hts _ kt_23), (hts _ kt_24)⟩ ⟨fun a U g mk q => ⟨q.1, PT.calling q.2⟩, pg_recv hK hP hL_g1 hF_12 (q := (RX0, TX0, 3)) rfl, fun U hU hWm => ⟨rfl, PT.mk hU hWm hP hK hD hE hO⟩⟩ rfl rfl hl.1 rfl (lv_room (Nat.le_of_ble_eq_true rfl)) dX1_isLocal_9 ⟨by show _ + 0 ≤ 0; omega, by show _ + 0 ≤ 0; omega⟩) hS (fun q _ h => hFc q h) hFc (fun r_15 u t H1 locs ht hvm hw hB hz1 hk1 hS => ?_)
    obtain ⟨F_16, hB1⟩ := hB
    obtain ⟨hP, hD, hO, hR⟩ := QT.back hB1 ht hFc hR (fun q h => absurd h List.not_mem_nil)
    have hF_17 : F_16 g1 = .inr (0, [.ref r1, .int (nI z_10), .int o_11]) := (hB1.2.2.2 g1 List.not_mem_nil).trans hF_12
    generalize H1 = H at hP hS ⊢
    have hw : True := hw
    have hw_18 := hw
    refine lv_istore_n (lv' := [(3, .int r_15), (2, .int i1), (0, .ref g1), (1, .int x2)]) hx hb dX1_isLocal_12 rfl hl (by decide) rfl (fun ls hl => ?_)
    refine W.widen (k := 0) (n := 0) (by omega) (by omega) ?_
    refine pl_cut (σ := Int32) A (dC, dI) cs ty L [] F 42 5 (fun s0 => [(3, .int r_15), (2, .int i1), (0, .ref g1), (1, .int x2)]) (fun s0 => [.int s0]) (fun s0 _ => True) ?_ (fun jn_19 => ?_)
    ·
      rintro s0 F_20 hv_21 hO hR H locs hP hD hS ls hl
      have hl : lv_has ls 5 [(3, .int r_15), (2, .int i1), (0, .ref g1), (1, .int x2)] := hl
      have hv_21 : True := hv_21
      refine W.eq (g2 := F0 m 42 ls [.int s0]) rfl ?_
      refine lv_istore (lv' := [(4, .int s0), (3, .int r_15), (2, .int i1), (0, .ref g1), (1, .int x2)]) hx hb dX1_isLocal_42 hl (by decide) rfl (fun ls hl => ?_)
      refine lv_iload hx hb dX1_isLocal_44 (lv_at hl 0 rfl) ?_
      refine lv_if_ne (tgt := 65) hx hb dX1_isLocal_46 (by decide) (fun c_22 => ?_) (fun c_22 => ?_)
      ·
        obtain ⟨x_23, ex_23⟩ : ∃ y : Int32, y = i1 + Int32.ofInt 1 := ⟨_, rfl⟩
        refine lv_iinc (v := x_23) (lv' := [(2, .int x_23), (4, .int s0), (3, .int r_15), (0, .ref g1), (1, .int x2)]) hx hb dX1_isLocal_65 hl (k := 2) rfl (ex_23.symm) (by decide) rfl (fun ls hl => ?_)
        refine lv_goto (tgt := 2) hx hb dX1_isLocal_68 (by decide) ?_
        refine W.widen (k := 0) (n := 0) (by omega) (by omega) ?_
        exact ih_3 x_23 F_20 (trivial) (by show ((x2).toInt - x_23.toInt).toNat < ((x2).toInt - i1.toInt).toNat; exact incN ex_23 c_4) hO hR _ _ hP hD hS ls (lv_sub hl [0, 3, 4] rfl)
      ·
        refine lv_iload_n hx hb dX1_isLocal_49 rfl (lv_at hl 1 rfl) ?_
        have hFc := pg_free hD hS hA
        refine va_calli (va_runS (As := [.int r_15]) (rest := []) ⟨hx, hb, hml, hown, hts⟩ (s_X0_isSmall l dC dI cs ty L H.size F_20 r_15 hW ) ⟨callB_of 1 hts (gi kt_4) rfl rfl rfl (hts _ kt_1) (hts _ kt_302) (by decide +kernel) ⟨Nat.le_of_ble_eq_true rfl, Nat.le_of_ble_eq_true rfl⟩, (hts _ kt_6)⟩ ⟨fun a U g mk q => ⟨q.1, PT.calling q.2⟩, fun U hU hWm => ⟨rfl, PT.mk hU hWm hP hK hD hE hO⟩⟩ rfl rfl hl.1 rfl (lv_room (Nat.le_of_ble_eq_true rfl)) dX1_isLocal_50 ⟨by show _ + 0 ≤ 0; omega, by show _ + 0 ≤ 0; omega⟩) hS (fun q _ h => hFc q h) hFc (fun r_24 u t H1 locs ht hvm hw hB hz1 hk1 hS => ?_)
        obtain ⟨F_25, hB1⟩ := hB
        obtain ⟨hP, hD, hO, hR⟩ := QT.back hB1 ht hFc hR (fun q h => absurd h List.not_mem_nil)
        generalize H1 = H at hP hS ⊢
        have hw : (r_24 = 0 ∨ r_24 = 1) := hw
        have hw_26 := hw
        refine lv_if_ne (tgt := 65) hx hb dX1_isLocal_53 (by decide) (fun c_27 => ?_) (fun c_27 => ?_)
        ·
          obtain ⟨x_28, ex_28⟩ : ∃ y : Int32, y = i1 + Int32.ofInt 1 := ⟨_, rfl⟩
          refine lv_iinc (v := x_28) (lv' := [(2, .int x_28), (4, .int s0), (3, .int r_15), (0, .ref g1), (1, .int x2)]) hx hb dX1_isLocal_65 hl (k := 2) rfl (ex_28.symm) (by decide) rfl (fun ls hl => ?_)
          refine lv_goto (tgt := 2) hx hb dX1_isLocal_68 (by decide) ?_
          refine W.widen (k := 0) (n := 0) (by omega) (by omega) ?_
          exact ih_3 x_28 F_25 (trivial) (by show ((x2).toInt - x_28.toInt).toNat < ((x2).toInt - i1.toInt).toNat; exact incN ex_28 c_4) hO hR _ _ hP hD hS ls (lv_sub hl [0, 3, 4] rfl)
        ·
          refine lv_iload_n hx hb dX1_isLocal_56 rfl (lv_at hl 1 rfl) ?_
          have hFc := pg_free hD hS hA
          refine va_calli (va_runS (As := [.int r_15]) (rest := []) ⟨hx, hb, hml, hown, hts⟩ (s_X0_isDigit l dC dI cs ty L H.size F_25 r_15 hW ) ⟨callB_of 1 hts (gi kt_7) rfl rfl rfl (hts _ kt_1) (hts _ kt_303) (by decide +kernel) ⟨Nat.le_of_ble_eq_true rfl, Nat.le_of_ble_eq_true rfl⟩, (hts _ kt_9)⟩ ⟨fun a U g mk q => ⟨q.1, PT.calling q.2⟩, fun U hU hWm => ⟨rfl, PT.mk hU hWm hP hK hD hE hO⟩⟩ rfl rfl hl.1 rfl (lv_room (Nat.le_of_ble_eq_true rfl)) dX1_isLocal_57 ⟨by show _ + 0 ≤ 0; omega, by show _ + 0 ≤ 0; omega⟩) hS (fun q _ h => hFc q h) hFc (fun r_29 u t H1 locs ht hvm hw hB hz1 hk1 hS => ?_)
          obtain ⟨F_30, hB1⟩ := hB
          obtain ⟨hP, hD, hO, hR⟩ := QT.back hB1 ht hFc hR (fun q h => absurd h List.not_mem_nil)
          generalize H1 = H at hP hS ⊢
          have hw : (r_29 = 0 ∨ r_29 = 1) := hw
          have hw_31 := hw
          refine lv_if_ne (tgt := 65) hx hb dX1_isLocal_60 (by decide) (fun c_32 => ?_) (fun c_32 => ?_)
          ·
            obtain ⟨x_33, ex_33⟩ : ∃ y : Int32, y = i1 + Int32.ofInt 1 := ⟨_, rfl⟩
            refine lv_iinc (v := x_33) (lv' := [(2, .int x_33), (4, .int s0), (3, .int r_15), (0, .ref g1), (1, .int x2)]) hx hb dX1_isLocal_65 hl (k := 2) rfl (ex_33.symm) (by decide) rfl (fun ls hl => ?_)
            refine lv_goto (tgt := 2) hx hb dX1_isLocal_68 (by decide) ?_
            refine W.widen (k := 0) (n := 0) (by omega) (by omega) ?_
            exact ih_3 x_33 F_30 (trivial) (by show ((x2).toInt - x_33.toInt).toNat < ((x2).toInt - i1.toInt).toNat; exact incN ex_33 c_4) hO hR _ _ hP hD hS ls (lv_sub hl [0, 3, 4] rfl)
          ·
            refine lv_iconst (v := 0) hx hb dX1_isLocal_63 (by decide) ?_
            refine W.widen (k := 0) (n := 0) (by omega) (by omega) ?_
            exact W.zret (v := 0) (ty := .boolean) hx hb hr (by decide) (fun t ht hWm => ⟨⟨0, (), rfl, (by first | exact Or.inl rfl | exact Or.inr rfl), ⟨F_30, QT.mk ht hP hD hO hR⟩⟩, hS.F ht⟩) hS.2.2 dX1_isLocal_64
    ·
      refine lv_iload_n hx hb dX1_isLocal_13 rfl (lv_at hl 0 rfl) ?_
      refine lv_bipush (v := 46) hx hb dX1_isLocal_14 (by decide) ?_
      refine lv_icmp_eq (tgt := 37) hx hb dX1_isLocal_16 (by decide) (fun c_34 => ?_) (fun c_34 => ?_)
      ·
        refine lv_iconst (v := 1) hx hb dX1_isLocal_37 (by decide) ?_
        refine lv_goto (tgt := 42) hx hb dX1_isLocal_38 (by decide) ?_
        refine W.widen (k := 0) (n := 0) (by omega) (by omega) ?_
        exact jn_19 1 F_16 (trivial) hO hR _ _ hP hD hS ls (lv_sub hl [0, 1, 2, 3] rfl)
      ·
        refine lv_iload_n hx hb dX1_isLocal_19 rfl (lv_at hl 0 rfl) ?_
        refine lv_bipush (v := 45) hx hb dX1_isLocal_20 (by decide) ?_
        refine lv_icmp_eq (tgt := 37) hx hb dX1_isLocal_22 (by decide) (fun c_35 => ?_) (fun c_35 => ?_)
        ·
          refine lv_iconst (v := 1) hx hb dX1_isLocal_37 (by decide) ?_
          refine lv_goto (tgt := 42) hx hb dX1_isLocal_38 (by decide) ?_
          refine W.widen (k := 0) (n := 0) (by omega) (by omega) ?_
          exact jn_19 1 F_16 (trivial) hO hR _ _ hP hD hS ls (lv_sub hl [0, 1, 2, 3] rfl)
        ·
          refine lv_iload_n hx hb dX1_isLocal_25 rfl (lv_at hl 0 rfl) ?_
          refine lv_bipush (v := 95) hx hb dX1_isLocal_26 (by decide) ?_
          refine lv_icmp_eq (tgt := 37) hx hb dX1_isLocal_28 (by decide) (fun c_36 => ?_) (fun c_36 => ?_)
          ·
            refine lv_iconst (v := 1) hx hb dX1_isLocal_37 (by decide) ?_
            refine lv_goto (tgt := 42) hx hb dX1_isLocal_38 (by decide) ?_
            refine W.widen (k := 0) (n := 0) (by omega) (by omega) ?_
            exact jn_19 1 F_16 (trivial) hO hR _ _ hP hD hS ls (lv_sub hl [0, 1, 2, 3] rfl)
          ·
            refine lv_iload_n hx hb dX1_isLocal_31 rfl (lv_at hl 0 rfl) ?_
            refine lv_bipush (v := 43) hx hb dX1_isLocal_32 (by decide) ?_
            refine lv_icmp_ne (tgt := 41) hx hb dX1_isLocal_34 (by decide) (fun c_37 => ?_) (fun c_37 => ?_)
            ·
              refine lv_iconst (v := 0) hx hb dX1_isLocal_41 (by decide) ?_
              refine W.widen (k := 0) (n := 0) (by omega) (by omega) ?_
              exact jn_19 0 F_16 (trivial) hO hR _ _ hP hD hS ls (lv_sub hl [0, 1, 2, 3] rfl)
            ·
              refine lv_iconst (v := 1) hx hb dX1_isLocal_37 (by decide) ?_
              refine lv_goto (tgt := 42) hx hb dX1_isLocal_38 (by decide) ?_
              refine W.widen (k := 0) (n := 0) (by omega) (by omega) ?_
              exact jn_19 1 F_16 (trivial) hO hR _ _ hP hD hS ls (lv_sub hl [0, 1, 2, 3] rfl)
set_option maxHeartbeats 4000000 in
set_option maxRecDepth 100000 in
theorem s_X1_startsTerm (l : Launch) (dC : Nat → ClassId) (dI : Nat → Nat → Nat) (cs : Nat → ClassId) (ty : TyM) (L : List Nat) (sz : Nat) (F : Nat → va_E) (g1 : Nat) (σ : Nat) (r1 : Nat) (n1 : Nat) (x2 : Int32) (hW : WT ty L) (hL_g1 : g1 ∈ L) (hT_g1 : ty g1 = (0, σ, [r1, n1])) : Met l yX1_startsTerm (.code yX1_startsTerm cX1_startsTerm 2 (some .boolean) :: tb) ({ frames := 1, cells := 0, slots := 0, locals := 21 }) (va_Pc [.ref g1, .int x2] (PT (dC, dI) cs ty L F sz)) (va_Qi (fun (r : Int32) (_ : Unit) => (r = 0 ∨ r = 1)) (fun _ T9 => ∃ F2 : Nat → va_E, QT (dC, dI) cs ty L [] F F2 (va_A (va_pl L F) sz) T9) (va_A (va_pl L F) sz)) 0 0 (va_A (va_pl L F) sz) := by
  refine Met.ofW (cc := cX1_startsTerm) (maxL := 2) (ret := (some .boolean)) (by decide) rfl ?_
  intro p e s m args below meth c s₁ B hml hv
  obtain ⟨rfl, hsz, hP, hK, hD0, hE, hO⟩ := hv
  have hx := B.exec
  have hb := B.bytes
  have hr := B.returns
  have hts : ∀ w ∈ tb, w.before _ s = true := fun w h => atoms_spec (ws := .code yX1_startsTerm cX1_startsTerm 2 (some .boolean) :: tb) B.pre w (List.mem_cons_of_mem _ h)
  have hown : s.vm.findClass RX1 = some m.cls := findClass_of_methodNamed B.named
  have hlocks := B.notSynchronized
  subst hsz
  have hD := hD0.self (sz := s.heap.size)
  generalize hAe : va_A (va_pl L F) s.heap.size = A at hD ⊢
  have hA : ∀ q : Nat, s.heap.size ≤ q → A q := fun q h => by rw [← hAe]; exact Or.inr h
  have hS : va_S A s.heap s.heap [] := va_S.rf
  have hR : FR ty [] F F := FR.refl
  have hl := lv_entry ([.ref g1, .int x2]) (n := 2) (Nat.le_of_ble_eq_true rfl)
  rw [lg_entry_eq]
  generalize (lg_sl ([.ref g1, .int x2]) ++ List.replicate (2 - (lg_sl ([.ref g1, .int x2])).length) Slot.unset).toArray = ls at hl ⊢
  have hl : lv_has ls 2 [(0, .ref g1), (1, .int x2)] := hl
  refine lv_aload_n hx hb dX1_startsTerm_0 rfl (lv_at hl 0 rfl) ?_
  refine lv_iload_n hx hb dX1_startsTerm_1 rfl (lv_at hl 1 rfl) ?_
  refine lv_iconst (v := 1) hx hb dX1_startsTerm_2 (by decide) ?_
  refine lv_isub hx hb dX1_startsTerm_3 ?_
  refine lv_topi (fun x_1 _ => ?_)
  have hFc := pg_free hD hS hA
  obtain ⟨hi_2, ht_3, hq_4⟩ := hW.bytes hL_g1 hT_g1
  obtain ⟨z_5, o_6, hF_7, hq_8, hq_9⟩ := hO.bytes hL_g1 hT_g1
  refine va_calli (va_runV (As := [.int x_1]) (rest := []) ⟨hx, hb, hml, hown, hts⟩ (s_X0_at l dC dI cs ty L s.heap.size F g1 σ r1 n1 x_1 hW hL_g1 hT_g1) ⟨callB_of 1 hts (gi kt_21) rfl rfl rfl (hts _ kt_1) (hts _ kt_301) (by decide +kernel) ⟨Nat.le_of_ble_eq_true rfl, Nat.le_of_ble_eq_true rfl⟩, (hts _ kt_23), (hts _ kt_24)⟩ ⟨fun a U g mk q => ⟨q.1, PT.calling q.2⟩, pg_recv hK hP hL_g1 hF_7 (q := (RX0, TX0, 3)) rfl, fun U hU hWm => ⟨rfl, PT.mk hU hWm hP hK hD hE hO⟩⟩ rfl rfl hl.1 rfl (lv_room (Nat.le_of_ble_eq_true rfl)) dX1_startsTerm_4 ⟨by show _ + 0 ≤ 0; omega, by show _ + 0 ≤ 0; omega⟩) hS (fun q _ h => hFc q h) hFc (fun r_10 u t H1 locs ht hvm hw hB hz1 hk1 hS => ?_)
  obtain ⟨F_11, hB1⟩ := hB
  obtain ⟨hP, hD, hO, hR⟩ := QT.back hB1 ht hFc hR (fun q h => absurd h List.not_mem_nil)
  have hF_12 : F_11 g1 = .inr (0, [.ref r1, .int (nI z_5), .int o_6]) := (hB1.2.2.2 g1 List.not_mem_nil).trans hF_7
  generalize H1 = H at hP hS ⊢
  have hw : True := hw
  have hw_13 := hw
  refine lv_bipush (v := 32) hx hb dX1_startsTerm_7 (by decide) ?_
  refine lv_icmp_ne (tgt := 26) hx hb dX1_startsTerm_9 (by decide) (fun c_14 => ?_) (fun c_14 => ?_)
  ·
    refine lv_iconst (v := 0) hx hb dX1_startsTerm_26 (by decide) ?_
    refine W.widen (k := 0) (n := 0) (by omega) (by omega) ?_
    exact W.zret (v := 0) (ty := .boolean) hx hb hr (by decide) (fun t ht hWm => ⟨⟨0, (), rfl, (by first | exact Or.inl rfl | exact Or.inr rfl), ⟨F_11, QT.mk ht hP hD hO hR⟩⟩, hS.F ht⟩) hS.2.2 dX1_startsTerm_27
  ·
    refine lv_aload_n hx hb dX1_startsTerm_12 rfl (lv_at hl 0 rfl) ?_
    refine lv_iload_n hx hb dX1_startsTerm_13 rfl (lv_at hl 1 rfl) ?_
    have hFc := pg_free hD hS hA
    refine va_calli (va_runV (As := [.int x2]) (rest := []) ⟨hx, hb, hml, hown, hts⟩ (s_X0_at l dC dI cs ty L H.size F_11 g1 σ r1 n1 x2 hW hL_g1 hT_g1) ⟨callB_of 1 hts (gi kt_21) rfl rfl rfl (hts _ kt_1) (hts _ kt_301) (by decide +kernel) ⟨Nat.le_of_ble_eq_true rfl, Nat.le_of_ble_eq_true rfl⟩, (hts _ kt_23), (hts _ kt_24)⟩ ⟨fun a U g mk q => ⟨q.1, PT.calling q.2⟩, pg_recv hK hP hL_g1 hF_12 (q := (RX0, TX0, 3)) rfl, fun U hU hWm => ⟨rfl, PT.mk hU hWm hP hK hD hE hO⟩⟩ rfl rfl hl.1 rfl (lv_room (Nat.le_of_ble_eq_true rfl)) dX1_startsTerm_14 ⟨by show _ + 0 ≤ 0; omega, by show _ + 0 ≤ 0; omega⟩) hS (fun q _ h => hFc q h) hFc (fun r_15 u t H1 locs ht hvm hw hB hz1 hk1 hS => ?_)
    obtain ⟨F_16, hB1⟩ := hB
    obtain ⟨hP, hD, hO, hR⟩ := QT.back hB1 ht hFc hR (fun q h => absurd h List.not_mem_nil)
    have hF_17 : F_16 g1 = .inr (0, [.ref r1, .int (nI z_5), .int o_6]) := (hB1.2.2.2 g1 List.not_mem_nil).trans hF_12
    generalize H1 = H at hP hS ⊢
    have hw : True := hw
    have hw_18 := hw
    refine lv_bipush (v := 32) hx hb dX1_startsTerm_17 (by decide) ?_
    refine lv_icmp_eq (tgt := 26) hx hb dX1_startsTerm_19 (by decide) (fun c_19 => ?_) (fun c_19 => ?_)
    ·
      refine lv_iconst (v := 0) hx hb dX1_startsTerm_26 (by decide) ?_
      refine W.widen (k := 0) (n := 0) (by omega) (by omega) ?_
      exact W.zret (v := 0) (ty := .boolean) hx hb hr (by decide) (fun t ht hWm => ⟨⟨0, (), rfl, (by first | exact Or.inl rfl | exact Or.inr rfl), ⟨F_16, QT.mk ht hP hD hO hR⟩⟩, hS.F ht⟩) hS.2.2 dX1_startsTerm_27
    ·
      refine lv_iconst (v := 1) hx hb dX1_startsTerm_22 (by decide) ?_
      refine lv_goto (tgt := 27) hx hb dX1_startsTerm_23 (by decide) ?_
      refine W.widen (k := 0) (n := 0) (by omega) (by omega) ?_
      exact W.zret (v := 1) (ty := .boolean) hx hb hr (by decide) (fun t ht hWm => ⟨⟨1, (), rfl, (by first | exact Or.inl rfl | exact Or.inr rfl), ⟨F_16, QT.mk ht hP hD hO hR⟩⟩, hS.F ht⟩) hS.2.2 dX1_startsTerm_27
set_option maxHeartbeats 4000000 in
set_option maxRecDepth 100000 in
theorem s_X1_isCountedOut (l : Launch) (dC : Nat → ClassId) (dI : Nat → Nat → Nat) (cs : Nat → ClassId) (ty : TyM) (L : List Nat) (sz : Nat) (F : Nat → va_E) (h0 : Nat) (ρ : Nat) (d : Nat) (δ : Nat) (ea : Nat) (w0 : Nat) (w1 : Nat) (w2 : Nat) (w3 : Nat) (nm : Nat) (te : Nat) (hW : WT ty L) (hL_h0 : h0 ∈ L) (hT_h0 : ty h0 = (1, ρ, [d, δ, ea, w0, w1, w2, w3, nm, te])) : Met l yX1_isCountedOut (.code yX1_isCountedOut cX1_isCountedOut 1 (some .boolean) :: tb) ({ frames := 0, cells := 0, slots := 0, locals := 0 }) (va_Pc [.ref h0] (PT (dC, dI) cs ty L F sz)) (va_Qi (fun (r : Int32) (_ : Unit) => (r = 0 ∨ r = 1)) (fun _ T9 => ∃ F2 : Nat → va_E, QT (dC, dI) cs ty L [ρ] F F2 (va_A (va_pl L F) sz) T9) (va_A (va_pl L F) sz)) 0 0 (va_A (va_pl L F) sz) := by
  refine Met.ofW (cc := cX1_isCountedOut) (maxL := 1) (ret := (some .boolean)) (by decide) rfl ?_
  intro p e s m args below meth c s₁ B hml hv
  obtain ⟨rfl, hsz, hP, hK, hD0, hE, hO⟩ := hv
  have hx := B.exec
  have hb := B.bytes
  have hr := B.returns
  have hts : ∀ w ∈ tb, w.before _ s = true := fun w h => atoms_spec (ws := .code yX1_isCountedOut cX1_isCountedOut 1 (some .boolean) :: tb) B.pre w (List.mem_cons_of_mem _ h)
  have hown : s.vm.findClass RX1 = some m.cls := findClass_of_methodNamed B.named
  have hlocks := B.notSynchronized
  subst hsz
  have hD := hD0.self (sz := s.heap.size)
  generalize hAe : va_A (va_pl L F) s.heap.size = A at hD ⊢
  have hA : ∀ q : Nat, s.heap.size ≤ q → A q := fun q h => by rw [← hAe]; exact Or.inr h
  have hS : va_S A s.heap s.heap [] := va_S.rf
  have hR : FR ty [ρ] F F := FR.refl
  have hl := lv_entry ([.ref h0]) (n := 1) (Nat.le_of_ble_eq_true rfl)
  rw [lg_entry_eq]
  generalize (lg_sl ([.ref h0]) ++ List.replicate (1 - (lg_sl ([.ref h0])).length) Slot.unset).toArray = ls at hl ⊢
  have hl : lv_has ls 1 [(0, .ref h0)] := hl
  refine lv_aload_n hx hb dX1_isCountedOut_0 rfl (lv_at hl 0 rfl) ?_
  refine lv_dup hx hb dX1_isCountedOut_1 rfl ?_
  obtain ⟨hi_1, ht_2, hi_3, ⟨r_4, ht_5⟩, hi_6, ⟨r_7, ht_8⟩, hi_9, ⟨r_10, ht_11⟩, hi_12, ⟨r_13, ht_14⟩, hi_15, ht_16, hi_17, ht_18⟩ := hW.chk hL_h0 hT_h0
  obtain ⟨v0_19, v1_20, v2_21, v3_22, hF_23⟩ := hO.chk hL_h0 hT_h0
  refine pg_get (ci := 1) (v := .int v2_21) (C := RX1) (T := TX1) (N := 11) hx hb hts it_1 hown hK hP hL_h0 hF_23 rfl 9 (by decide) (hts _ kt_304) (fun _ h9 => h9) rfl dX1_isCountedOut_2 ?_
  refine lv_iconst (v := 1) hx hb dX1_isCountedOut_5 (by decide) ?_
  refine lv_iadd hx hb dX1_isCountedOut_6 ?_
  refine lv_topi (fun x_24 _ => ?_)
  refine pg_put (ci := 1) (v := .int x_24) (ty := .int) (C := RX1) (T := TX1) (N := 11) hx hb hts it_1 tyX1 tyX1_ok nmX1 hown hK hP hD hS hL_h0 hF_23 rfl 9 (by decide) (hts _ kt_304) (fun _ h9 => h9) rfl (by decide +kernel) (rfl) (rfl) (Nat.le_of_ble_eq_true rfl) dX1_isCountedOut_7 (fun H locs hP hD hS => ?_)
  obtain ⟨F_25, he_26, hP, hD, hO, hR⟩ : ∃ G, G = va_up F h0 (.inr (1, [.ref d, .ref w0, .ref w1, .ref w2, .ref w3, .ref nm, .ref te, .int v0_19, .int v1_20, .int x_24, .int v3_22])) ∧ va_P (dC, dI) vwCl (va_pl L G) H ∧ va_D A (va_pl L G) ∧ OK cs ty L G ∧ FR ty [ρ] F G := ⟨_, rfl, hP, hD, hO.up (sh.chk hT_h0 ⟨v0_19, v1_20, x_24, v3_22, rfl⟩), hR.up hT_h0 (by simp)⟩
  have hF_27 : F_25 h0 = .inr (1, [.ref d, .ref w0, .ref w1, .ref w2, .ref w3, .ref nm, .ref te, .int v0_19, .int v1_20, .int x_24, .int v3_22]) := by rw [he_26]; exact up_self
  refine lv_aload_n hx hb dX1_isCountedOut_10 rfl (lv_at hl 0 rfl) ?_
  refine pg_get (ci := 1) (v := .int x_24) (C := RX1) (T := TX1) (N := 11) hx hb hts it_1 hown hK hP hL_h0 hF_27 rfl 9 (by decide) (hts _ kt_304) (fun _ h9 => h9) rfl dX1_isCountedOut_11 ?_
  refine lv_bipush (v := 10) hx hb dX1_isCountedOut_14 (by decide) ?_
  refine lv_icmp_le (tgt := 23) hx hb dX1_isCountedOut_16 (by decide) (fun c_28 => ?_) (fun c_28 => ?_)
  ·
    refine lv_iconst (v := 0) hx hb dX1_isCountedOut_23 (by decide) ?_
    refine W.widen (k := 0) (n := 0) (by omega) (by omega) ?_
    exact W.zret (v := 0) (ty := .boolean) hx hb hr (by decide) (fun t ht hWm => ⟨⟨0, (), rfl, (by first | exact Or.inl rfl | exact Or.inr rfl), ⟨F_25, QT.mk ht hP hD hO hR⟩⟩, hS.F ht⟩) hS.2.2 dX1_isCountedOut_24
  ·
    refine lv_iconst (v := 1) hx hb dX1_isCountedOut_19 (by decide) ?_
    refine lv_goto (tgt := 24) hx hb dX1_isCountedOut_20 (by decide) ?_
    refine W.widen (k := 0) (n := 0) (by omega) (by omega) ?_
    exact W.zret (v := 1) (ty := .boolean) hx hb hr (by decide) (fun t ht hWm => ⟨⟨1, (), rfl, (by first | exact Or.inl rfl | exact Or.inr rfl), ⟨F_25, QT.mk ht hP hD hO hR⟩⟩, hS.F ht⟩) hS.2.2 dX1_isCountedOut_24
theorem dec8 {i x : Int32} (ex : x = i + Int32.ofInt (-8)) (c : ¬ i < 0) : (x.toInt + 8).toNat < (i.toInt + 8).toNat := by
  have h0 : (0 : Int32).toInt = 0 := by decide
  have h1 : 0 ≤ i.toInt := by
    rw [Int32.lt_iff_toInt_lt, h0] at c
    omega
  have h2 := i.toInt_lt
  have h3 : x.toInt = i.toInt - 8 := by
    rw [ex, Int32.toInt_add, show (Int32.ofInt (-8)).toInt = -8 from by decide]
    exact Int.bmod_eq_of_le (by omega) (by omega)
  omega
