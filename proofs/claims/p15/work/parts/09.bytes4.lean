theorem dX0_addText_0 : decode cX0_addText 0 = .ok (.iconst 0, 1) := by decide +kernel
theorem dX0_addText_1 : decode cX0_addText 1 = .ok (.istore_n 2, 1) := by decide +kernel
theorem dX0_addText_2 : decode cX0_addText 2 = .ok (.iload_n 2, 1) := by decide +kernel
theorem dX0_addText_3 : decode cX0_addText 3 = .ok (.aload_n 1, 1) := by decide +kernel
theorem dX0_addText_4 : decode cX0_addText 4 = .ok (.invokevirtual 38, 3) := by decide +kernel
theorem dX0_addText_7 : decode cX0_addText 7 = .ok (.if_icmp .ge 18, 3) := by decide +kernel
theorem dX0_addText_10 : decode cX0_addText 10 = .ok (.aload_n 0, 1) := by decide +kernel
theorem dX0_addText_11 : decode cX0_addText 11 = .ok (.aload_n 1, 1) := by decide +kernel
theorem dX0_addText_12 : decode cX0_addText 12 = .ok (.iload_n 2, 1) := by decide +kernel
theorem dX0_addText_13 : decode cX0_addText 13 = .ok (.invokevirtual 44, 3) := by decide +kernel
theorem dX0_addText_16 : decode cX0_addText 16 = .ok (.invokevirtual 34, 3) := by decide +kernel
theorem dX0_addText_19 : decode cX0_addText 19 = .ok (.iinc 2 1, 3) := by decide +kernel
theorem dX0_addText_22 : decode cX0_addText 22 = .ok (.goto (-20), 3) := by decide +kernel
theorem dX0_addText_25 : decode cX0_addText 25 = .ok (.return_, 1) := by decide +kernel
theorem dX0_begins_0 : decode cX0_begins 0 = .ok (.iload_n 2, 1) := by decide +kernel
theorem dX0_begins_1 : decode cX0_begins 1 = .ok (.iload_n 1, 1) := by decide +kernel
theorem dX0_begins_2 : decode cX0_begins 2 = .ok (.isub, 1) := by decide +kernel
theorem dX0_begins_3 : decode cX0_begins 3 = .ok (.aload_n 3, 1) := by decide +kernel
theorem dX0_begins_4 : decode cX0_begins 4 = .ok (.invokevirtual 38, 3) := by decide +kernel
theorem dX0_begins_7 : decode cX0_begins 7 = .ok (.if_icmp .lt 22, 3) := by decide +kernel
theorem dX0_begins_10 : decode cX0_begins 10 = .ok (.aload_n 0, 1) := by decide +kernel
theorem dX0_begins_11 : decode cX0_begins 11 = .ok (.iload_n 1, 1) := by decide +kernel
theorem dX0_begins_12 : decode cX0_begins 12 = .ok (.iload_n 1, 1) := by decide +kernel
theorem dX0_begins_13 : decode cX0_begins 13 = .ok (.aload_n 3, 1) := by decide +kernel
theorem dX0_begins_14 : decode cX0_begins 14 = .ok (.invokevirtual 38, 3) := by decide +kernel
theorem dX0_begins_17 : decode cX0_begins 17 = .ok (.iadd, 1) := by decide +kernel
theorem dX0_begins_18 : decode cX0_begins 18 = .ok (.aload_n 3, 1) := by decide +kernel
theorem dX0_begins_19 : decode cX0_begins 19 = .ok (.invokevirtual 70, 3) := by decide +kernel
theorem dX0_begins_22 : decode cX0_begins 22 = .ok (.ifCond .eq 7, 3) := by decide +kernel
theorem dX0_begins_25 : decode cX0_begins 25 = .ok (.iconst 1, 1) := by decide +kernel
theorem dX0_begins_26 : decode cX0_begins 26 = .ok (.goto 4, 3) := by decide +kernel
theorem dX0_begins_29 : decode cX0_begins 29 = .ok (.iconst 0, 1) := by decide +kernel
theorem dX0_begins_30 : decode cX0_begins 30 = .ok (.ireturn, 1) := by decide +kernel
theorem dX0_is_0 : decode cX0_is 0 = .ok (.iload_n 1, 1) := by decide +kernel
theorem dX0_is_1 : decode cX0_is 1 = .ok (.ifCond .lt 21, 3) := by decide +kernel
theorem dX0_is_4 : decode cX0_is 4 = .ok (.iload_n 2, 1) := by decide +kernel
theorem dX0_is_5 : decode cX0_is 5 = .ok (.aload_n 0, 1) := by decide +kernel
theorem dX0_is_6 : decode cX0_is 6 = .ok (.getfield 9, 3) := by decide +kernel
theorem dX0_is_9 : decode cX0_is 9 = .ok (.if_icmp .gt 13, 3) := by decide +kernel
theorem dX0_is_12 : decode cX0_is 12 = .ok (.iload_n 2, 1) := by decide +kernel
theorem dX0_is_13 : decode cX0_is 13 = .ok (.iload_n 1, 1) := by decide +kernel
theorem dX0_is_14 : decode cX0_is 14 = .ok (.isub, 1) := by decide +kernel
theorem dX0_is_15 : decode cX0_is 15 = .ok (.aload_n 3, 1) := by decide +kernel
theorem dX0_is_16 : decode cX0_is 16 = .ok (.invokevirtual 38, 3) := by decide +kernel
theorem dX0_is_19 : decode cX0_is 19 = .ok (.if_icmp .eq 5, 3) := by decide +kernel
theorem dX0_is_22 : decode cX0_is 22 = .ok (.iconst 0, 1) := by decide +kernel
theorem dX0_is_23 : decode cX0_is 23 = .ok (.ireturn, 1) := by decide +kernel
theorem dX0_is_24 : decode cX0_is 24 = .ok (.iload_n 1, 1) := by decide +kernel
theorem dX0_is_25 : decode cX0_is 25 = .ok (.istore 4, 2) := by decide +kernel
theorem dX0_is_27 : decode cX0_is 27 = .ok (.iload 4, 2) := by decide +kernel
theorem dX0_is_29 : decode cX0_is 29 = .ok (.iload_n 2, 1) := by decide +kernel
theorem dX0_is_30 : decode cX0_is 30 = .ok (.if_icmp .ge 29, 3) := by decide +kernel
theorem dX0_is_33 : decode cX0_is 33 = .ok (.aload_n 0, 1) := by decide +kernel
theorem dX0_is_34 : decode cX0_is 34 = .ok (.getfield 19, 3) := by decide +kernel
theorem dX0_is_37 : decode cX0_is 37 = .ok (.iload 4, 2) := by decide +kernel
theorem dX0_is_39 : decode cX0_is 39 = .ok (.iaload, 1) := by decide +kernel
theorem dX0_is_40 : decode cX0_is 40 = .ok (.aload_n 3, 1) := by decide +kernel
theorem dX0_is_41 : decode cX0_is 41 = .ok (.iload 4, 2) := by decide +kernel
theorem dX0_is_43 : decode cX0_is 43 = .ok (.iload_n 1, 1) := by decide +kernel
theorem dX0_is_44 : decode cX0_is 44 = .ok (.isub, 1) := by decide +kernel
theorem dX0_is_45 : decode cX0_is 45 = .ok (.invokevirtual 44, 3) := by decide +kernel
theorem dX0_is_48 : decode cX0_is 48 = .ok (.if_icmp .eq 5, 3) := by decide +kernel
theorem dX0_is_51 : decode cX0_is 51 = .ok (.iconst 0, 1) := by decide +kernel
theorem dX0_is_52 : decode cX0_is 52 = .ok (.ireturn, 1) := by decide +kernel
theorem dX0_is_53 : decode cX0_is 53 = .ok (.iinc 4 1, 3) := by decide +kernel
theorem dX0_is_56 : decode cX0_is 56 = .ok (.goto (-29), 3) := by decide +kernel
theorem dX0_is_59 : decode cX0_is 59 = .ok (.iconst 1, 1) := by decide +kernel
theorem dX0_is_60 : decode cX0_is 60 = .ok (.ireturn, 1) := by decide +kernel
theorem kt_71 : Cond.code yJ0_length_8abf5 cJ0_length_8abf5 1 (some .int) ∈ tb := tb_at (i := 621) (by decide +kernel) (by decide +kernel)
theorem kt_72 : Cond.methodLink RX0 38 yJ0_length_8abf5 ∈ tb := tb_at (i := 618) (by decide +kernel) (by decide +kernel)
theorem kt_73 : Cond.instanceMethod yJ0_length_8abf5 ∈ tb := tb_at (i := 619) (by decide +kernel) (by decide +kernel)
theorem kt_74 : Cond.selects RJ0 yJ0_length_8abf5 yJ0_length_8abf5 ∈ tb := tb_at (i := 620) (by decide +kernel) (by decide +kernel)
theorem kt_75 : Cond.code yJ0_charAt_5068e cJ0_charAt_5068e 2 (some .char) ∈ tb := tb_at (i := 635) (by decide +kernel) (by decide +kernel)
theorem kt_76 : Cond.methodLink RX0 44 yJ0_charAt_5068e ∈ tb := tb_at (i := 632) (by decide +kernel) (by decide +kernel)
theorem kt_77 : Cond.instanceMethod yJ0_charAt_5068e ∈ tb := tb_at (i := 633) (by decide +kernel) (by decide +kernel)
theorem kt_78 : Cond.selects RJ0 yJ0_charAt_5068e yJ0_charAt_5068e ∈ tb := tb_at (i := 634) (by decide +kernel) (by decide +kernel)
theorem kt_79 : Cond.code yX0_is cX0_is 5 (some .boolean) ∈ tb := tb_at (i := 631) (by decide +kernel) (by decide +kernel)
theorem kt_80 : Cond.methodLink RX0 70 yX0_is ∈ tb := tb_at (i := 628) (by decide +kernel) (by decide +kernel)
theorem kt_81 : Cond.instanceMethod yX0_is ∈ tb := tb_at (i := 629) (by decide +kernel) (by decide +kernel)
theorem kt_82 : Cond.selects RX0 yX0_is yX0_is ∈ tb := tb_at (i := 630) (by decide +kernel) (by decide +kernel)
theorem isx {a n j : Nat} {x : Int32} (h : x - nI a = nI n) (ha : a < 2 ^ 31) (hn : n ≤ 10000) (hj : j < 2 ^ 31) (c : nI j < x) : j < n + a := by
  have h1 : (j : Int) < x.toInt := by
    rw [Int32.lt_iff_toInt_lt, nI_toInt hj] at c
    exact c
  have h2 := congrArg Int32.toInt h
  have h3 := x.toInt_lt
  rw [Int32.toInt_sub, nI_toInt ha, nI_toInt (by omega), Int.bmod_eq_of_le (by omega) (by omega)] at h2
  omega
set_option maxHeartbeats 4000000 in
set_option maxRecDepth 100000 in
theorem s_X0_is (l : Launch) (dC : Nat → ClassId) (dI : Nat → Nat → Nat) (cs : Nat → ClassId) (ty : TyM) (L : List Nat) (sz : Nat) (F : Nat → va_E) (h0 : Nat) (ρ : Nat) (r0 : Nat) (n : Nat) (q : Nat) (v : Nat) (k0 : Nat) (x1 : Int32) (x2 : Int32) (hW : WT ty L) (hL_h0 : h0 ∈ L) (hT_h0 : ty h0 = (0, ρ, [r0, n])) : Met l yX0_is (.code yX0_is cX0_is 5 (some .boolean) :: tb) ({ frames := 4, cells := 0, slots := 0, locals := 85 }) (va_Pc [.ref h0, .int x1, .int x2, .ref q] (PTE (dC, dI) cs ty L F sz [(q, v, k0)])) (va_Qi (fun (r : Int32) (_ : Unit) => (r = 0 ∨ r = 1)) (fun _ T9 => ∃ F2 : Nat → va_E, QT (dC, dI) cs ty L [] F F2 (va_A (va_pl L F) sz) T9) (va_A (va_pl L F) sz)) 0 0 (va_A (va_pl L F) sz) := by
  refine Met.ofW (cc := cX0_is) (maxL := 5) (ret := (some .boolean)) (by decide) rfl ?_
  intro p e s m args below meth c s₁ B hml hv
  obtain ⟨rfl, ⟨hsz, hP, hK, hD0, hE, hO⟩, hG, hX⟩ := hv
  have hx := B.exec
  have hb := B.bytes
  have hr := B.returns
  have hts : ∀ w ∈ tb, w.before _ s = true := fun w h => atoms_spec (ws := .code yX0_is cX0_is 5 (some .boolean) :: tb) B.pre w (List.mem_cons_of_mem _ h)
  have hown : s.vm.findClass RX0 = some m.cls := findClass_of_methodNamed B.named
  have hlocks := B.notSynchronized
  subst hsz
  have hD := hD0.self (sz := s.heap.size)
  generalize hAe : va_A (va_pl L F) s.heap.size = A at hD hG hX ⊢
  have hX_q : SX q v k0 A s s.heap := hX (q, v, k0) (by simp)
  obtain ⟨xo_q, xc_q, xv_q, xf_q, xt_q, xn_q⟩ := id hX_q
  have hA : ∀ q : Nat, s.heap.size ≤ q → A q := fun q h => by rw [← hAe]; exact Or.inr h
  have hS : va_S A s.heap s.heap [] := va_S.rf
  have hR : FR ty [] F F := FR.refl
  have hl := lv_entry ([.ref h0, .int x1, .int x2, .ref q]) (n := 5) (Nat.le_of_ble_eq_true rfl)
  rw [lg_entry_eq]
  generalize (lg_sl ([.ref h0, .int x1, .int x2, .ref q]) ++ List.replicate (5 - (lg_sl ([.ref h0, .int x1, .int x2, .ref q])).length) Slot.unset).toArray = ls at hl ⊢
  have hl : lv_has ls 5 [(0, .ref h0), (1, .int x1), (2, .int x2), (3, .ref q)] := hl
  refine lv_iload_n hx hb dX0_is_0 rfl (lv_at hl 1 rfl) ?_
  refine lv_if_lt (tgt := 22) hx hb dX0_is_1 (by decide) (fun c_1 => ?_) (fun c_1 => ?_)
  ·
    refine lv_iconst (v := 0) hx hb dX0_is_22 (by decide) ?_
    refine W.widen (k := 0) (n := 0) (by omega) (by omega) ?_
    exact W.zret (v := 0) (ty := .boolean) hx hb hr (by decide) (fun t ht hWm => ⟨⟨0, (), rfl, (by first | exact Or.inl rfl | exact Or.inr rfl), ⟨F, QT.mk ht hP hD hO hR⟩⟩, hS.F ht⟩) hS.2.2 dX0_is_23
  ·
    refine lv_iload_n hx hb dX0_is_4 rfl (lv_at hl 2 rfl) ?_
    refine lv_aload_n hx hb dX0_is_5 rfl (lv_at hl 0 rfl) ?_
    obtain ⟨hi_2, ht_3, hq_4⟩ := hW.bytes hL_h0 hT_h0
    obtain ⟨z_5, o_6, hF_7, hq_8, hq_9⟩ := hO.bytes hL_h0 hT_h0
    refine pg_get (ci := 0) (v := .int (nI z_5)) (C := RX0) (T := TX0) (N := 3) hx hb hts it_0 hown hK hP hL_h0 hF_7 rfl 1 (by decide) (hts _ kt_10) (fun _ h9 => h9) rfl dX0_is_6 ?_
    refine lv_icmp_gt (tgt := 22) hx hb dX0_is_9 (by decide) (fun c_10 => ?_) (fun c_10 => ?_)
    ·
      refine lv_iconst (v := 0) hx hb dX0_is_22 (by decide) ?_
      refine W.widen (k := 0) (n := 0) (by omega) (by omega) ?_
      exact W.zret (v := 0) (ty := .boolean) hx hb hr (by decide) (fun t ht hWm => ⟨⟨0, (), rfl, (by first | exact Or.inl rfl | exact Or.inr rfl), ⟨F, QT.mk ht hP hD hO hR⟩⟩, hS.F ht⟩) hS.2.2 dX0_is_23
    ·
      refine lv_iload_n hx hb dX0_is_12 rfl (lv_at hl 2 rfl) ?_
      refine lv_iload_n hx hb dX0_is_13 rfl (lv_at hl 1 rfl) ?_
      refine lv_isub hx hb dX0_is_14 ?_
      refine lv_topi (fun x_11 ex_11 => ?_)
      obtain rfl : x_11 = (x2 - x1) := ex_11.trans (rfl)
      refine lv_aload_n hx hb dX0_is_15 rfl (lv_at hl 3 rfl) ?_
      have hFc := pg_free hD hS hA
      refine va_calli (va_runV (As := []) (rest := [.int (x2 - x1)]) ⟨hx, hb, hml, hown, hts⟩ (s_J0_length_8abf5 l dC dI cs ty L s.heap.size F q v k0 hW ) ⟨callB_of 0 hts (gi kt_71) rfl rfl rfl (hts _ kt_51) (hts _ kt_72) (by decide +kernel) ⟨Nat.le_of_ble_eq_true rfl, Nat.le_of_ble_eq_true rfl⟩, (hts _ kt_73), (hts _ kt_74)⟩ ⟨fun a U g mk q => ⟨q.1, PTE.calling q.2⟩, sx_recv hX_q hS, fun U hU hWm => ⟨rfl, PTE.mk hU hWm hP hK hD hE hO hG (fun x hx => by rw [List.mem_singleton] at hx; subst hx; exact hX_q) hS hFc⟩⟩ rfl rfl hl.1 rfl (lv_room (Nat.le_of_ble_eq_true rfl)) dX0_is_16 ⟨by show _ + 0 ≤ 0; omega, by show _ + 0 ≤ 0; omega⟩) hS (fun q _ h => hFc q h) hFc (fun r_12 u t H1 locs ht hvm hw hB hz1 hk1 hS => ?_)
      obtain ⟨F_13, hB1⟩ := hB
      obtain ⟨hP, hD, hO, hR⟩ := QT.back hB1 ht hFc hR (fun q h => absurd h List.not_mem_nil)
      have hF_14 : F_13 h0 = .inr (0, [.ref r0, .int (nI z_5), .int o_6]) := (hB1.2.2.2 h0 List.not_mem_nil).trans hF_7
      generalize H1 = H at hP hS ⊢
      have hw : r_12 = nI k0 := hw
      have hw_15 := hw
      refine lv_icmp_eq (tgt := 24) hx hb dX0_is_19 (by decide) (fun c_16 => ?_) (fun c_16 => ?_)
      ·
        have hlen := c_16.trans hw_15
        obtain ⟨a0, ha0, rfl⟩ := nI_of c_1
        refine lv_iload_n hx hb dX0_is_24 rfl (lv_at hl 1 rfl) ?_
        refine lv_istore (lv' := [(4, .int (nI a0)), (0, .ref h0), (1, .int (nI a0)), (2, .int x2), (3, .ref q)]) hx hb dX0_is_25 hl (by decide) rfl (fun ls hl => ?_)
        refine W.widen (k := 0) (n := 0) (by omega) (by omega) ?_
        have hF_18 : F h0 = .inr (0, [.ref r0, .int (nI z_5), .int o_6]) := (hR h0 List.not_mem_nil).symm.trans hF_14
        refine pl_loop (σ := Nat) A (dC, dI) cs ty L [] F 27 5 (fun j => [(4, .int (nI j)), (0, .ref h0), (1, .int (nI a0)), (2, .int x2), (3, .ref q)]) (fun j => []) (fun j _ => a0 ≤ j ∧ j < 2 ^ 31) (fun j => 10000 - j) ?_ a0 F_13 (⟨Nat.le_refl _, ha0⟩) hO hR _ _ hP hD hS ls (lv_sub hl [0, 1, 2, 3, 4] rfl)
        rintro j F_17 hv_19 hO hR ih_20 H locs hP hD hS ls hl
        have hl : lv_has ls 5 [(4, .int (nI j)), (0, .ref h0), (1, .int (nI a0)), (2, .int x2), (3, .ref q)] := hl
        have hv_19 : a0 ≤ j ∧ j < 2 ^ 31 := hv_19
        refine W.eq (g2 := F0 m 27 ls []) rfl ?_
        have hF_21 : F_17 h0 = .inr (0, [.ref r0, .int (nI z_5), .int o_6]) := (hR h0 List.not_mem_nil).trans hF_18
        obtain ⟨hv1, hv2⟩ := hv_19
        refine lv_iload hx hb dX0_is_27 (lv_at hl 0 rfl) ?_
        refine lv_iload_n hx hb dX0_is_29 rfl (lv_at hl 3 rfl) ?_
        refine lv_icmp_ge (tgt := 59) hx hb dX0_is_30 (by decide) (fun c_22 => ?_) (fun c_22 => ?_)
        ·
          refine lv_iconst (v := 1) hx hb dX0_is_59 (by decide) ?_
          refine W.widen (k := 0) (n := 0) (by omega) (by omega) ?_
          exact W.zret (v := 1) (ty := .boolean) hx hb hr (by decide) (fun t ht hWm => ⟨⟨1, (), rfl, (by first | exact Or.inl rfl | exact Or.inr rfl), ⟨F_17, QT.mk ht hP hD hO hR⟩⟩, hS.F ht⟩) hS.2.2 dX0_is_60
        ·
          have hlt := Int32.not_le.mp c_22
          have hjz : j < z_5 := (nI_ltI (by omega) (by omega)).mp (Int32.lt_of_lt_of_le hlt (Int32.not_lt.mp c_10))
          have hjn := isx hlen ha0 xn_q hv2 hlt
          refine lv_aload_n hx hb dX0_is_33 rfl (lv_at hl 1 rfl) ?_
          refine pg_get (ci := 0) (v := .ref r0) (C := RX0) (T := TX0) (N := 3) hx hb hts it_0 hown hK hP hL_h0 hF_21 rfl 0 (by decide) (hts _ kt_12) (fun _ h9 => h9) rfl dX0_is_34 ?_
          refine lv_iload hx hb dX0_is_37 (lv_at hl 0 rfl) ?_
          obtain ⟨f_23, hF_24⟩ := hO.ints hi_2 ht_3
          refine pg_iald hx hb hK hP hi_2 0 hF_24 rfl (vp_in_nI (by omega) (by omega)) dX0_is_39 ?_
          refine lv_topi (fun x_25 _ => ?_)
          refine lv_aload_n hx hb dX0_is_40 rfl (lv_at hl 4 rfl) ?_
          refine lv_iload hx hb dX0_is_41 (lv_at hl 0 rfl) ?_
          refine lv_iload_n hx hb dX0_is_43 rfl (lv_at hl 2 rfl) ?_
          refine lv_isub hx hb dX0_is_44 ?_
          refine lv_topi (fun x_26 ex_26 => ?_)
          obtain rfl : x_26 = (nI (j - a0)) := ex_26.trans (pk_sub (by omega))
          have hFc := pg_free hD hS hA
          refine va_calli (va_runV (As := [.int (nI (j - a0))]) (rest := [.int x_25]) ⟨hx, hb, hml, hown, hts⟩ (s_J0_charAt_5068e l dC dI cs ty L H.size F_17 q v k0 (j - a0) hW (by omega)) ⟨callB_of 1 hts (gi kt_75) rfl rfl rfl (hts _ kt_51) (hts _ kt_76) (by decide +kernel) ⟨Nat.le_of_ble_eq_true rfl, Nat.le_of_ble_eq_true rfl⟩, (hts _ kt_77), (hts _ kt_78)⟩ ⟨fun a U g mk q => ⟨q.1, PTE.calling q.2⟩, sx_recv hX_q hS, fun U hU hWm => ⟨rfl, PTE.mk hU hWm hP hK hD hE hO hG (fun x hx => by rw [List.mem_singleton] at hx; subst hx; exact hX_q) hS hFc⟩⟩ rfl rfl hl.1 rfl (lv_room (Nat.le_of_ble_eq_true rfl)) dX0_is_45 ⟨by show _ + 0 ≤ 0; omega, by show _ + 0 ≤ 0; omega⟩) hS (fun q _ h => hFc q h) hFc (fun r_27 u t H1 locs ht hvm hw hB hz1 hk1 hS => ?_)
          obtain ⟨F_28, hB1⟩ := hB
          obtain ⟨hP, hD, hO, hR⟩ := QT.back hB1 ht hFc hR (fun q h => absurd h List.not_mem_nil)
          have hF_29 : F_28 h0 = .inr (0, [.ref r0, .int (nI z_5), .int o_6]) := (hB1.2.2.2 h0 List.not_mem_nil).trans hF_21
          have hF_30 : F_28 r0 = .inl (cs 16, n, .inl f_23) := (hB1.2.2.2 r0 List.not_mem_nil).trans hF_24
          generalize H1 = H at hP hS ⊢
          have hw : narrow .char (.int r_27) = .int r_27 := hw
          have hw_31 := hw
          refine lv_icmp_eq (tgt := 53) hx hb dX0_is_48 (by decide) (fun c_32 => ?_) (fun c_32 => ?_)
          ·
            refine lv_iinc (v := (nI (j + 1))) (lv' := [(4, .int (nI (j + 1))), (0, .ref h0), (1, .int (nI a0)), (2, .int x2), (3, .ref q)]) hx hb dX0_is_53 hl (k := 0) rfl (nI_1 _) (by decide) rfl (fun ls hl => ?_)
            refine lv_goto (tgt := 27) hx hb dX0_is_56 (by decide) ?_
            refine W.widen (k := 0) (n := 0) (by omega) (by omega) ?_
            exact ih_20 (j + 1) F_28 (⟨by omega, by omega⟩) (by show 10000 - (j + 1) < 10000 - j; omega) hO hR _ _ hP hD hS ls (lv_sub hl [0, 1, 2, 3, 4] rfl)
          ·
            refine lv_iconst (v := 0) hx hb dX0_is_51 (by decide) ?_
            refine W.widen (k := 0) (n := 0) (by omega) (by omega) ?_
            exact W.zret (v := 0) (ty := .boolean) hx hb hr (by decide) (fun t ht hWm => ⟨⟨0, (), rfl, (by first | exact Or.inl rfl | exact Or.inr rfl), ⟨F_28, QT.mk ht hP hD hO hR⟩⟩, hS.F ht⟩) hS.2.2 dX0_is_52
      ·
        refine lv_iconst (v := 0) hx hb dX0_is_22 (by decide) ?_
        refine W.widen (k := 0) (n := 0) (by omega) (by omega) ?_
        exact W.zret (v := 0) (ty := .boolean) hx hb hr (by decide) (fun t ht hWm => ⟨⟨0, (), rfl, (by first | exact Or.inl rfl | exact Or.inr rfl), ⟨F_13, QT.mk ht hP hD hO hR⟩⟩, hS.F ht⟩) hS.2.2 dX0_is_23
set_option maxHeartbeats 4000000 in
set_option maxRecDepth 100000 in
theorem s_X0_begins (l : Launch) (dC : Nat → ClassId) (dI : Nat → Nat → Nat) (cs : Nat → ClassId) (ty : TyM) (L : List Nat) (sz : Nat) (F : Nat → va_E) (h0 : Nat) (ρ : Nat) (r0 : Nat) (n : Nat) (q : Nat) (v : Nat) (k0 : Nat) (x1 : Int32) (x2 : Int32) (hW : WT ty L) (hL_h0 : h0 ∈ L) (hT_h0 : ty h0 = (0, ρ, [r0, n])) : Met l yX0_begins (.code yX0_begins cX0_begins 4 (some .boolean) :: tb) ({ frames := 5, cells := 0, slots := 0, locals := 109 }) (va_Pc [.ref h0, .int x1, .int x2, .ref q] (PTE (dC, dI) cs ty L F sz [(q, v, k0)])) (va_Qi (fun (r : Int32) (_ : Unit) => (r = 0 ∨ r = 1)) (fun _ T9 => ∃ F2 : Nat → va_E, QT (dC, dI) cs ty L [] F F2 (va_A (va_pl L F) sz) T9) (va_A (va_pl L F) sz)) 0 0 (va_A (va_pl L F) sz) := by
  refine Met.ofW (cc := cX0_begins) (maxL := 4) (ret := (some .boolean)) (by decide) rfl ?_
  intro p e s m args below meth c s₁ B hml hv
  obtain ⟨rfl, ⟨hsz, hP, hK, hD0, hE, hO⟩, hG, hX⟩ := hv
  have hx := B.exec
  have hb := B.bytes
  have hr := B.returns
  have hts : ∀ w ∈ tb, w.before _ s = true := fun w h => atoms_spec (ws := .code yX0_begins cX0_begins 4 (some .boolean) :: tb) B.pre w (List.mem_cons_of_mem _ h)
  have hown : s.vm.findClass RX0 = some m.cls := findClass_of_methodNamed B.named
  have hlocks := B.notSynchronized
  subst hsz
  have hD := hD0.self (sz := s.heap.size)
  generalize hAe : va_A (va_pl L F) s.heap.size = A at hD hG hX ⊢
  have hX_q : SX q v k0 A s s.heap := hX (q, v, k0) (by simp)
  obtain ⟨xo_q, xc_q, xv_q, xf_q, xt_q, xn_q⟩ := id hX_q
  have hA : ∀ q : Nat, s.heap.size ≤ q → A q := fun q h => by rw [← hAe]; exact Or.inr h
  have hS : va_S A s.heap s.heap [] := va_S.rf
  have hR : FR ty [] F F := FR.refl
  have hl := lv_entry ([.ref h0, .int x1, .int x2, .ref q]) (n := 4) (Nat.le_of_ble_eq_true rfl)
  rw [lg_entry_eq]
  generalize (lg_sl ([.ref h0, .int x1, .int x2, .ref q]) ++ List.replicate (4 - (lg_sl ([.ref h0, .int x1, .int x2, .ref q])).length) Slot.unset).toArray = ls at hl ⊢
  have hl : lv_has ls 4 [(0, .ref h0), (1, .int x1), (2, .int x2), (3, .ref q)] := hl
  refine lv_iload_n hx hb dX0_begins_0 rfl (lv_at hl 2 rfl) ?_
  refine lv_iload_n hx hb dX0_begins_1 rfl (lv_at hl 1 rfl) ?_
  refine lv_isub hx hb dX0_begins_2 ?_
  refine lv_topi (fun x_1 _ => ?_)
  refine lv_aload_n hx hb dX0_begins_3 rfl (lv_at hl 3 rfl) ?_
  have hFc := pg_free hD hS hA
  refine va_calli (va_runV (As := []) (rest := [.int x_1]) ⟨hx, hb, hml, hown, hts⟩ (s_J0_length_8abf5 l dC dI cs ty L s.heap.size F q v k0 hW ) ⟨callB_of 0 hts (gi kt_71) rfl rfl rfl (hts _ kt_51) (hts _ kt_72) (by decide +kernel) ⟨Nat.le_of_ble_eq_true rfl, Nat.le_of_ble_eq_true rfl⟩, (hts _ kt_73), (hts _ kt_74)⟩ ⟨fun a U g mk q => ⟨q.1, PTE.calling q.2⟩, sx_recv hX_q hS, fun U hU hWm => ⟨rfl, PTE.mk hU hWm hP hK hD hE hO hG (fun x hx => by rw [List.mem_singleton] at hx; subst hx; exact hX_q) hS hFc⟩⟩ rfl rfl hl.1 rfl (lv_room (Nat.le_of_ble_eq_true rfl)) dX0_begins_4 ⟨by show _ + 0 ≤ 0; omega, by show _ + 0 ≤ 0; omega⟩) hS (fun q _ h => hFc q h) hFc (fun r_2 u t H1 locs ht hvm hw hB hz1 hk1 hS => ?_)
  obtain ⟨F_3, hB1⟩ := hB
  obtain ⟨hP, hD, hO, hR⟩ := QT.back hB1 ht hFc hR (fun q h => absurd h List.not_mem_nil)
  generalize H1 = H at hP hS ⊢
  have hw : r_2 = nI k0 := hw
  have hw_4 := hw
  refine lv_icmp_lt (tgt := 29) hx hb dX0_begins_7 (by decide) (fun c_5 => ?_) (fun c_5 => ?_)
  ·
    refine lv_iconst (v := 0) hx hb dX0_begins_29 (by decide) ?_
    refine W.widen (k := 0) (n := 0) (by omega) (by omega) ?_
    exact W.zret (v := 0) (ty := .boolean) hx hb hr (by decide) (fun t ht hWm => ⟨⟨0, (), rfl, (by first | exact Or.inl rfl | exact Or.inr rfl), ⟨F_3, QT.mk ht hP hD hO hR⟩⟩, hS.F ht⟩) hS.2.2 dX0_begins_30
  ·
    refine lv_aload_n hx hb dX0_begins_10 rfl (lv_at hl 0 rfl) ?_
    refine lv_iload_n hx hb dX0_begins_11 rfl (lv_at hl 1 rfl) ?_
    refine lv_iload_n hx hb dX0_begins_12 rfl (lv_at hl 1 rfl) ?_
    refine lv_aload_n hx hb dX0_begins_13 rfl (lv_at hl 3 rfl) ?_
    have hFc := pg_free hD hS hA
    refine va_calli (va_runV (As := []) (rest := [.int x1, .int x1, .ref h0]) ⟨hx, hb, hml, hown, hts⟩ (s_J0_length_8abf5 l dC dI cs ty L H.size F_3 q v k0 hW ) ⟨callB_of 0 hts (gi kt_71) rfl rfl rfl (hts _ kt_51) (hts _ kt_72) (by decide +kernel) ⟨Nat.le_of_ble_eq_true rfl, Nat.le_of_ble_eq_true rfl⟩, (hts _ kt_73), (hts _ kt_74)⟩ ⟨fun a U g mk q => ⟨q.1, PTE.calling q.2⟩, sx_recv hX_q hS, fun U hU hWm => ⟨rfl, PTE.mk hU hWm hP hK hD hE hO hG (fun x hx => by rw [List.mem_singleton] at hx; subst hx; exact hX_q) hS hFc⟩⟩ rfl rfl hl.1 rfl (lv_room (Nat.le_of_ble_eq_true rfl)) dX0_begins_14 ⟨by show _ + 0 ≤ 0; omega, by show _ + 0 ≤ 0; omega⟩) hS (fun q _ h => hFc q h) hFc (fun r_6 u t H1 locs ht hvm hw hB hz1 hk1 hS => ?_)
    obtain ⟨F_7, hB1⟩ := hB
    obtain ⟨hP, hD, hO, hR⟩ := QT.back hB1 ht hFc hR (fun q h => absurd h List.not_mem_nil)
    generalize H1 = H at hP hS ⊢
    have hw : r_6 = nI k0 := hw
    have hw_8 := hw
    refine lv_iadd hx hb dX0_begins_17 ?_
    refine lv_topi (fun x_9 _ => ?_)
    refine lv_aload_n hx hb dX0_begins_18 rfl (lv_at hl 3 rfl) ?_
    have hFc := pg_free hD hS hA
    obtain ⟨hi_10, ht_11, hq_12⟩ := hW.bytes hL_h0 hT_h0
    obtain ⟨z_13, o_14, hF_15, hq_16, hq_17⟩ := hO.bytes hL_h0 hT_h0
    refine va_calli (va_runV (As := [.int x1, .int x_9, .ref q]) (rest := []) ⟨hx, hb, hml, hown, hts⟩ (s_X0_is l dC dI cs ty L H.size F_7 h0 ρ r0 n q v k0 x1 x_9 hW hL_h0 hT_h0) ⟨callB_of 3 hts (gi kt_79) rfl rfl rfl (hts _ kt_1) (hts _ kt_80) (by decide +kernel) ⟨Nat.le_of_ble_eq_true rfl, Nat.le_of_ble_eq_true rfl⟩, (hts _ kt_81), (hts _ kt_82)⟩ ⟨fun a U g mk q => ⟨q.1, PTE.calling q.2⟩, pg_recv hK hP hL_h0 hF_15 (q := (RX0, TX0, 3)) rfl, fun U hU hWm => ⟨rfl, PTE.mk hU hWm hP hK hD hE hO hG (fun x hx => by rw [List.mem_singleton] at hx; subst hx; exact hX_q) hS hFc⟩⟩ rfl rfl hl.1 rfl (lv_room (Nat.le_of_ble_eq_true rfl)) dX0_begins_19 ⟨by show _ + 0 ≤ 0; omega, by show _ + 0 ≤ 0; omega⟩) hS (fun q _ h => hFc q h) hFc (fun r_18 u t H1 locs ht hvm hw hB hz1 hk1 hS => ?_)
    obtain ⟨F_19, hB1⟩ := hB
    obtain ⟨hP, hD, hO, hR⟩ := QT.back hB1 ht hFc hR (fun q h => absurd h List.not_mem_nil)
    have hF_20 : F_19 h0 = .inr (0, [.ref r0, .int (nI z_13), .int o_14]) := (hB1.2.2.2 h0 List.not_mem_nil).trans hF_15
    generalize H1 = H at hP hS ⊢
    have hw : (r_18 = 0 ∨ r_18 = 1) := hw
    have hw_21 := hw
    refine lv_if_eq (tgt := 29) hx hb dX0_begins_22 (by decide) (fun c_22 => ?_) (fun c_22 => ?_)
    ·
      refine lv_iconst (v := 0) hx hb dX0_begins_29 (by decide) ?_
      refine W.widen (k := 0) (n := 0) (by omega) (by omega) ?_
      exact W.zret (v := 0) (ty := .boolean) hx hb hr (by decide) (fun t ht hWm => ⟨⟨0, (), rfl, (by first | exact Or.inl rfl | exact Or.inr rfl), ⟨F_19, QT.mk ht hP hD hO hR⟩⟩, hS.F ht⟩) hS.2.2 dX0_begins_30
    ·
      refine lv_iconst (v := 1) hx hb dX0_begins_25 (by decide) ?_
      refine lv_goto (tgt := 30) hx hb dX0_begins_26 (by decide) ?_
      refine W.widen (k := 0) (n := 0) (by omega) (by omega) ?_
      exact W.zret (v := 1) (ty := .boolean) hx hb hr (by decide) (fun t ht hWm => ⟨⟨1, (), rfl, (by first | exact Or.inl rfl | exact Or.inr rfl), ⟨F_19, QT.mk ht hP hD hO hR⟩⟩, hS.F ht⟩) hS.2.2 dX0_begins_30
set_option maxHeartbeats 4000000 in
set_option maxRecDepth 100000 in
theorem s_X0_addText (l : Launch) (dC : Nat → ClassId) (dI : Nat → Nat → Nat) (cs : Nat → ClassId) (ty : TyM) (L : List Nat) (sz : Nat) (F : Nat → va_E) (h0 : Nat) (ρ : Nat) (r0 : Nat) (n : Nat) (q : Nat) (v : Nat) (k0 : Nat) (hW : WT ty L) (hL_h0 : h0 ∈ L) (hT_h0 : ty h0 = (0, ρ, [r0, n])) : Met l yX0_addText (.code yX0_addText cX0_addText 3 none :: tb) ({ frames := 4, cells := 0, slots := 0, locals := 85 }) (va_Pc [.ref h0, .ref q] (PTE (dC, dI) cs ty L F sz [(q, v, k0)])) (va_Qv (fun _ : Unit => True) (fun _ T9 => ∃ F2 : Nat → va_E, QT (dC, dI) cs ty L [ρ] F F2 (va_A (va_pl L F) sz) T9) (va_A (va_pl L F) sz)) 0 0 (va_A (va_pl L F) sz) := by
  refine Met.ofW (cc := cX0_addText) (maxL := 3) (ret := none) (by decide) rfl ?_
  intro p e s m args below meth c s₁ B hml hv
  obtain ⟨rfl, ⟨hsz, hP, hK, hD0, hE, hO⟩, hG, hX⟩ := hv
  have hx := B.exec
  have hb := B.bytes
  have hr := B.returns
  have hts : ∀ w ∈ tb, w.before _ s = true := fun w h => atoms_spec (ws := .code yX0_addText cX0_addText 3 none :: tb) B.pre w (List.mem_cons_of_mem _ h)
  have hown : s.vm.findClass RX0 = some m.cls := findClass_of_methodNamed B.named
  have hlocks := B.notSynchronized
  subst hsz
  have hD := hD0.self (sz := s.heap.size)
  generalize hAe : va_A (va_pl L F) s.heap.size = A at hD hG hX ⊢
  have hX_q : SX q v k0 A s s.heap := hX (q, v, k0) (by simp)
  obtain ⟨xo_q, xc_q, xv_q, xf_q, xt_q, xn_q⟩ := id hX_q
  have hA : ∀ q : Nat, s.heap.size ≤ q → A q := fun q h => by rw [← hAe]; exact Or.inr h
  have hS : va_S A s.heap s.heap [] := va_S.rf
  have hR : FR ty [ρ] F F := FR.refl
  have hl := lv_entry ([.ref h0, .ref q]) (n := 3) (Nat.le_of_ble_eq_true rfl)
  rw [lg_entry_eq]
  generalize (lg_sl ([.ref h0, .ref q]) ++ List.replicate (3 - (lg_sl ([.ref h0, .ref q])).length) Slot.unset).toArray = ls at hl ⊢
  have hl : lv_has ls 3 [(0, .ref h0), (1, .ref q)] := hl
  refine lv_iconst (v := 0) hx hb dX0_addText_0 (by decide) ?_
  refine lv_istore_n (lv' := [(2, .int 0), (0, .ref h0), (1, .ref q)]) hx hb dX0_addText_1 rfl hl (by decide) rfl (fun ls hl => ?_)
  refine W.widen (k := 0) (n := 0) (by omega) (by omega) ?_
  refine pl_loop (σ := Nat) A (dC, dI) cs ty L [ρ] F 2 3 (fun j => [(2, .int (nI j)), (0, .ref h0), (1, .ref q)]) (fun j => []) (fun j _ => j ≤ 10000) (fun j => 10000 - j) ?_ 0 F (by omega) hO hR _ _ hP hD hS ls (lv_sub hl [0, 1, 2] rfl)
  rintro j F_1 hv_2 hO hR ih_3 H locs hP hD hS ls hl
  have hl : lv_has ls 3 [(2, .int (nI j)), (0, .ref h0), (1, .ref q)] := hl
  have hv_2 : j ≤ 10000 := hv_2
  refine W.eq (g2 := F0 m 2 ls []) rfl ?_
  refine lv_iload_n hx hb dX0_addText_2 rfl (lv_at hl 0 rfl) ?_
  refine lv_aload_n hx hb dX0_addText_3 rfl (lv_at hl 2 rfl) ?_
  have hFc := pg_free hD hS hA
  refine va_calli (va_runV (As := []) (rest := [.int (nI j)]) ⟨hx, hb, hml, hown, hts⟩ (s_J0_length_8abf5 l dC dI cs ty L H.size F_1 q v k0 hW ) ⟨callB_of 0 hts (gi kt_71) rfl rfl rfl (hts _ kt_51) (hts _ kt_72) (by decide +kernel) ⟨Nat.le_of_ble_eq_true rfl, Nat.le_of_ble_eq_true rfl⟩, (hts _ kt_73), (hts _ kt_74)⟩ ⟨fun a U g mk q => ⟨q.1, PTE.calling q.2⟩, sx_recv hX_q hS, fun U hU hWm => ⟨rfl, PTE.mk hU hWm hP hK hD hE hO hG (fun x hx => by rw [List.mem_singleton] at hx; subst hx; exact hX_q) hS hFc⟩⟩ rfl rfl hl.1 rfl (lv_room (Nat.le_of_ble_eq_true rfl)) dX0_addText_4 ⟨by show _ + 0 ≤ 0; omega, by show _ + 0 ≤ 0; omega⟩) hS (fun q _ h => hFc q h) hFc (fun r_4 u t H1 locs ht hvm hw hB hz1 hk1 hS => ?_)
  obtain ⟨F_5, hB1⟩ := hB
  obtain ⟨hP, hD, hO, hR⟩ := QT.back hB1 ht hFc hR (fun q h => absurd h List.not_mem_nil)
  generalize H1 = H at hP hS ⊢
  have hw : r_4 = nI k0 := hw
  have hw_6 := hw
  refine lv_icmp_ge (tgt := 25) hx hb dX0_addText_7 (by decide) (fun c_7 => ?_) (fun c_7 => ?_)
  ·
    refine W.widen (k := 0) (n := 0) (by omega) (by omega) ?_
    exact W.vret hx hb hr (fun t ht hWm => ⟨⟨(), rfl, trivial, ⟨F_5, QT.mk ht hP hD hO hR⟩⟩, hS.F ht⟩) hS.2.2 dX0_addText_25
  ·
    have hjn : j < k0 := ltI (by omega) (by rw [← hw_6]; exact c_7)
    refine lv_aload_n hx hb dX0_addText_10 rfl (lv_at hl 1 rfl) ?_
    refine lv_aload_n hx hb dX0_addText_11 rfl (lv_at hl 2 rfl) ?_
    refine lv_iload_n hx hb dX0_addText_12 rfl (lv_at hl 0 rfl) ?_
    have hFc := pg_free hD hS hA
    refine va_calli (va_runV (As := [.int (nI j)]) (rest := [.ref h0]) ⟨hx, hb, hml, hown, hts⟩ (s_J0_charAt_5068e l dC dI cs ty L H.size F_5 q v k0 j hW (by omega)) ⟨callB_of 1 hts (gi kt_75) rfl rfl rfl (hts _ kt_51) (hts _ kt_76) (by decide +kernel) ⟨Nat.le_of_ble_eq_true rfl, Nat.le_of_ble_eq_true rfl⟩, (hts _ kt_77), (hts _ kt_78)⟩ ⟨fun a U g mk q => ⟨q.1, PTE.calling q.2⟩, sx_recv hX_q hS, fun U hU hWm => ⟨rfl, PTE.mk hU hWm hP hK hD hE hO hG (fun x hx => by rw [List.mem_singleton] at hx; subst hx; exact hX_q) hS hFc⟩⟩ rfl rfl hl.1 rfl (lv_room (Nat.le_of_ble_eq_true rfl)) dX0_addText_13 ⟨by show _ + 0 ≤ 0; omega, by show _ + 0 ≤ 0; omega⟩) hS (fun q _ h => hFc q h) hFc (fun r_8 u t H1 locs ht hvm hw hB hz1 hk1 hS => ?_)
    obtain ⟨F_9, hB1⟩ := hB
    obtain ⟨hP, hD, hO, hR⟩ := QT.back hB1 ht hFc hR (fun q h => absurd h List.not_mem_nil)
    generalize H1 = H at hP hS ⊢
    have hw : narrow .char (.int r_8) = .int r_8 := hw
    have hw_10 := hw
    have hFc := pg_free hD hS hA
    obtain ⟨hi_11, ht_12, hq_13⟩ := hW.bytes hL_h0 hT_h0
    obtain ⟨z_14, o_15, hF_16, hq_17, hq_18⟩ := hO.bytes hL_h0 hT_h0
    refine va_callv (va_runV (As := [.int r_8]) (rest := []) ⟨hx, hb, hml, hown, hts⟩ (s_X0_add l dC dI cs ty L H.size F_9 h0 ρ r0 n r_8 hW hL_h0 hT_h0) ⟨callB_of 1 hts (gi kt_13) rfl rfl rfl (hts _ kt_1) (hts _ kt_14) (by decide +kernel) ⟨Nat.le_of_ble_eq_true rfl, Nat.le_of_ble_eq_true rfl⟩, (hts _ kt_15), (hts _ kt_16)⟩ ⟨fun a U g mk q => ⟨q.1, PT.calling q.2⟩, pg_recv hK hP hL_h0 hF_16 (q := (RX0, TX0, 3)) rfl, fun U hU hWm => ⟨rfl, PT.mk hU hWm hP hK hD hE hO⟩⟩ rfl rfl hl.1 rfl (lv_room (Nat.le_of_ble_eq_true rfl)) dX0_addText_16 ⟨by show _ + 0 ≤ 0; omega, by show _ + 0 ≤ 0; omega⟩) hS (fun q _ h => hFc q h) hFc (fun u t H1 locs ht hvm hw hB hz1 hk1 hS => ?_)
    obtain ⟨F_20, hB1⟩ := hB
    obtain ⟨hP, hD, hO, hR⟩ := QT.back hB1 ht hFc hR (fun q h => by simp only [List.mem_cons, List.not_mem_nil, or_false] at h ⊢; omega)
    generalize H1 = H at hP hS ⊢
    refine lv_iinc (v := (nI (j + 1))) (lv' := [(2, .int (nI (j + 1))), (0, .ref h0), (1, .ref q)]) hx hb dX0_addText_19 hl (k := 0) rfl (nI_1 _) (by decide) rfl (fun ls hl => ?_)
    refine lv_goto (tgt := 2) hx hb dX0_addText_22 (by decide) ?_
    refine W.widen (k := 0) (n := 0) (by omega) (by omega) ?_
    exact ih_3 (j + 1) F_20 (by first | omega | exact ⟨by omega, by omega⟩ | trivial) (by show 10000 - (j + 1) < 10000 - j; omega) hO hR _ _ hP hD hS ls (lv_sub hl [0, 1, 2] rfl)
