theorem dX9_endOf_0 : decode cX9_endOf 0 = .ok (.aload_n 0, 1) := by decide +kernel
theorem dX9_endOf_1 : decode cX9_endOf 1 = .ok (.aload_n 1, 1) := by decide +kernel
theorem dX9_endOf_2 : decode cX9_endOf 2 = .ok (.invokevirtual 67, 3) := by decide +kernel
theorem dX9_endOf_5 : decode cX9_endOf 5 = .ok (.istore_n 2, 1) := by decide +kernel
theorem dX9_endOf_6 : decode cX9_endOf 6 = .ok (.iload_n 2, 1) := by decide +kernel
theorem dX9_endOf_7 : decode cX9_endOf 7 = .ok (.ifCond .ge 7, 3) := by decide +kernel
theorem dX9_endOf_10 : decode cX9_endOf 10 = .ok (.iconst 0, 1) := by decide +kernel
theorem dX9_endOf_11 : decode cX9_endOf 11 = .ok (.goto 9, 3) := by decide +kernel
theorem dX9_endOf_14 : decode cX9_endOf 14 = .ok (.aload_n 0, 1) := by decide +kernel
theorem dX9_endOf_15 : decode cX9_endOf 15 = .ok (.getfield 16, 3) := by decide +kernel
theorem dX9_endOf_18 : decode cX9_endOf 18 = .ok (.iload_n 2, 1) := by decide +kernel
theorem dX9_endOf_19 : decode cX9_endOf 19 = .ok (.iaload, 1) := by decide +kernel
theorem dX9_endOf_20 : decode cX9_endOf 20 = .ok (.ireturn, 1) := by decide +kernel
theorem dX9_has_0 : decode cX9_has 0 = .ok (.aload_n 0, 1) := by decide +kernel
theorem dX9_has_1 : decode cX9_has 1 = .ok (.aload_n 1, 1) := by decide +kernel
theorem dX9_has_2 : decode cX9_has 2 = .ok (.invokevirtual 67, 3) := by decide +kernel
theorem dX9_has_5 : decode cX9_has 5 = .ok (.ifCond .lt 7, 3) := by decide +kernel
theorem dX9_has_8 : decode cX9_has 8 = .ok (.iconst 1, 1) := by decide +kernel
theorem dX9_has_9 : decode cX9_has 9 = .ok (.goto 4, 3) := by decide +kernel
theorem dX9_has_12 : decode cX9_has 12 = .ok (.iconst 0, 1) := by decide +kernel
theorem dX9_has_13 : decode cX9_has 13 = .ok (.ireturn, 1) := by decide +kernel
theorem dX9_is_0 : decode cX9_is 0 = .ok (.aload_n 0, 1) := by decide +kernel
theorem dX9_is_1 : decode cX9_is 1 = .ok (.aload_n 1, 1) := by decide +kernel
theorem dX9_is_2 : decode cX9_is 2 = .ok (.invokevirtual 67, 3) := by decide +kernel
theorem dX9_is_5 : decode cX9_is 5 = .ok (.istore_n 3, 1) := by decide +kernel
theorem dX9_is_6 : decode cX9_is 6 = .ok (.iload_n 3, 1) := by decide +kernel
theorem dX9_is_7 : decode cX9_is 7 = .ok (.ifCond .lt 32, 3) := by decide +kernel
theorem dX9_is_10 : decode cX9_is 10 = .ok (.aload_n 0, 1) := by decide +kernel
theorem dX9_is_11 : decode cX9_is 11 = .ok (.getfield 28, 3) := by decide +kernel
theorem dX9_is_14 : decode cX9_is 14 = .ok (.aload_n 0, 1) := by decide +kernel
theorem dX9_is_15 : decode cX9_is 15 = .ok (.getfield 13, 3) := by decide +kernel
theorem dX9_is_18 : decode cX9_is 18 = .ok (.iload_n 3, 1) := by decide +kernel
theorem dX9_is_19 : decode cX9_is 19 = .ok (.iaload, 1) := by decide +kernel
theorem dX9_is_20 : decode cX9_is 20 = .ok (.iconst 1, 1) := by decide +kernel
theorem dX9_is_21 : decode cX9_is 21 = .ok (.iadd, 1) := by decide +kernel
theorem dX9_is_22 : decode cX9_is 22 = .ok (.aload_n 0, 1) := by decide +kernel
theorem dX9_is_23 : decode cX9_is 23 = .ok (.getfield 16, 3) := by decide +kernel
theorem dX9_is_26 : decode cX9_is 26 = .ok (.iload_n 3, 1) := by decide +kernel
theorem dX9_is_27 : decode cX9_is 27 = .ok (.iaload, 1) := by decide +kernel
theorem dX9_is_28 : decode cX9_is 28 = .ok (.aload_n 2, 1) := by decide +kernel
theorem dX9_is_29 : decode cX9_is 29 = .ok (.invokevirtual 63, 3) := by decide +kernel
theorem dX9_is_32 : decode cX9_is 32 = .ok (.ifCond .eq 7, 3) := by decide +kernel
theorem dX9_is_35 : decode cX9_is 35 = .ok (.iconst 1, 1) := by decide +kernel
theorem dX9_is_36 : decode cX9_is 36 = .ok (.goto 4, 3) := by decide +kernel
theorem dX9_is_39 : decode cX9_is 39 = .ok (.iconst 0, 1) := by decide +kernel
theorem dX9_is_40 : decode cX9_is 40 = .ok (.ireturn, 1) := by decide +kernel
theorem dX9_isOrMisses_0 : decode cX9_isOrMisses 0 = .ok (.aload_n 0, 1) := by decide +kernel
theorem dX9_isOrMisses_1 : decode cX9_isOrMisses 1 = .ok (.aload_n 1, 1) := by decide +kernel
theorem dX9_isOrMisses_2 : decode cX9_isOrMisses 2 = .ok (.invokevirtual 67, 3) := by decide +kernel
theorem dX9_isOrMisses_5 : decode cX9_isOrMisses 5 = .ok (.istore_n 3, 1) := by decide +kernel
theorem dX9_isOrMisses_6 : decode cX9_isOrMisses 6 = .ok (.iload_n 3, 1) := by decide +kernel
theorem dX9_isOrMisses_7 : decode cX9_isOrMisses 7 = .ok (.ifCond .lt 28, 3) := by decide +kernel
theorem dX9_isOrMisses_10 : decode cX9_isOrMisses 10 = .ok (.aload_n 0, 1) := by decide +kernel
theorem dX9_isOrMisses_11 : decode cX9_isOrMisses 11 = .ok (.getfield 28, 3) := by decide +kernel
theorem dX9_isOrMisses_14 : decode cX9_isOrMisses 14 = .ok (.aload_n 0, 1) := by decide +kernel
theorem dX9_isOrMisses_15 : decode cX9_isOrMisses 15 = .ok (.getfield 13, 3) := by decide +kernel
theorem dX9_isOrMisses_18 : decode cX9_isOrMisses 18 = .ok (.iload_n 3, 1) := by decide +kernel
theorem dX9_isOrMisses_19 : decode cX9_isOrMisses 19 = .ok (.iaload, 1) := by decide +kernel
theorem dX9_isOrMisses_20 : decode cX9_isOrMisses 20 = .ok (.iconst 1, 1) := by decide +kernel
theorem dX9_isOrMisses_21 : decode cX9_isOrMisses 21 = .ok (.iadd, 1) := by decide +kernel
theorem dX9_isOrMisses_22 : decode cX9_isOrMisses 22 = .ok (.aload_n 0, 1) := by decide +kernel
theorem dX9_isOrMisses_23 : decode cX9_isOrMisses 23 = .ok (.getfield 16, 3) := by decide +kernel
theorem dX9_isOrMisses_26 : decode cX9_isOrMisses 26 = .ok (.iload_n 3, 1) := by decide +kernel
theorem dX9_isOrMisses_27 : decode cX9_isOrMisses 27 = .ok (.iaload, 1) := by decide +kernel
theorem dX9_isOrMisses_28 : decode cX9_isOrMisses 28 = .ok (.aload_n 2, 1) := by decide +kernel
theorem dX9_isOrMisses_29 : decode cX9_isOrMisses 29 = .ok (.invokevirtual 63, 3) := by decide +kernel
theorem dX9_isOrMisses_32 : decode cX9_isOrMisses 32 = .ok (.ifCond .eq 7, 3) := by decide +kernel
theorem dX9_isOrMisses_35 : decode cX9_isOrMisses 35 = .ok (.iconst 1, 1) := by decide +kernel
theorem dX9_isOrMisses_36 : decode cX9_isOrMisses 36 = .ok (.goto 4, 3) := by decide +kernel
theorem dX9_isOrMisses_39 : decode cX9_isOrMisses 39 = .ok (.iconst 0, 1) := by decide +kernel
theorem dX9_isOrMisses_40 : decode cX9_isOrMisses 40 = .ok (.ireturn, 1) := by decide +kernel
theorem dX9_numberAt_0 : decode cX9_numberAt 0 = .ok (.aload_n 0, 1) := by decide +kernel
theorem dX9_numberAt_1 : decode cX9_numberAt 1 = .ok (.aload_n 1, 1) := by decide +kernel
theorem dX9_numberAt_2 : decode cX9_numberAt 2 = .ok (.invokevirtual 67, 3) := by decide +kernel
theorem dX9_numberAt_5 : decode cX9_numberAt 5 = .ok (.istore_n 2, 1) := by decide +kernel
theorem dX9_numberAt_6 : decode cX9_numberAt 6 = .ok (.iload_n 2, 1) := by decide +kernel
theorem dX9_numberAt_7 : decode cX9_numberAt 7 = .ok (.ifCond .ge 7, 3) := by decide +kernel
theorem dX9_numberAt_10 : decode cX9_numberAt 10 = .ok (.iconst (-1), 1) := by decide +kernel
theorem dX9_numberAt_11 : decode cX9_numberAt 11 = .ok (.goto 26, 3) := by decide +kernel
theorem dX9_numberAt_14 : decode cX9_numberAt 14 = .ok (.aload_n 0, 1) := by decide +kernel
theorem dX9_numberAt_15 : decode cX9_numberAt 15 = .ok (.getfield 28, 3) := by decide +kernel
theorem dX9_numberAt_18 : decode cX9_numberAt 18 = .ok (.aload_n 0, 1) := by decide +kernel
theorem dX9_numberAt_19 : decode cX9_numberAt 19 = .ok (.getfield 13, 3) := by decide +kernel
theorem dX9_numberAt_22 : decode cX9_numberAt 22 = .ok (.iload_n 2, 1) := by decide +kernel
theorem dX9_numberAt_23 : decode cX9_numberAt 23 = .ok (.iaload, 1) := by decide +kernel
theorem dX9_numberAt_24 : decode cX9_numberAt 24 = .ok (.iconst 1, 1) := by decide +kernel
theorem dX9_numberAt_25 : decode cX9_numberAt 25 = .ok (.iadd, 1) := by decide +kernel
theorem dX9_numberAt_26 : decode cX9_numberAt 26 = .ok (.aload_n 0, 1) := by decide +kernel
theorem dX9_numberAt_27 : decode cX9_numberAt 27 = .ok (.getfield 16, 3) := by decide +kernel
theorem dX9_numberAt_30 : decode cX9_numberAt 30 = .ok (.iload_n 2, 1) := by decide +kernel
theorem dX9_numberAt_31 : decode cX9_numberAt 31 = .ok (.iaload, 1) := by decide +kernel
theorem dX9_numberAt_32 : decode cX9_numberAt 32 = .ok (.bipush 9, 2) := by decide +kernel
theorem dX9_numberAt_34 : decode cX9_numberAt 34 = .ok (.invokestatic 80, 3) := by decide +kernel
theorem dX9_numberAt_37 : decode cX9_numberAt 37 = .ok (.ireturn, 1) := by decide +kernel
theorem dX9_rowOf_0 : decode cX9_rowOf 0 = .ok (.iconst 0, 1) := by decide +kernel
theorem dX9_rowOf_1 : decode cX9_rowOf 1 = .ok (.istore_n 2, 1) := by decide +kernel
theorem dX9_rowOf_2 : decode cX9_rowOf 2 = .ok (.iload_n 2, 1) := by decide +kernel
theorem dX9_rowOf_3 : decode cX9_rowOf 3 = .ok (.aload_n 0, 1) := by decide +kernel
theorem dX9_rowOf_4 : decode cX9_rowOf 4 = .ok (.getfield 19, 3) := by decide +kernel
theorem dX9_rowOf_7 : decode cX9_rowOf 7 = .ok (.if_icmp .ge 34, 3) := by decide +kernel
theorem dX9_rowOf_10 : decode cX9_rowOf 10 = .ok (.aload_n 0, 1) := by decide +kernel
theorem dX9_rowOf_11 : decode cX9_rowOf 11 = .ok (.getfield 28, 3) := by decide +kernel
theorem dX9_rowOf_14 : decode cX9_rowOf 14 = .ok (.aload_n 0, 1) := by decide +kernel
theorem dX9_rowOf_15 : decode cX9_rowOf 15 = .ok (.getfield 9, 3) := by decide +kernel
theorem dX9_rowOf_18 : decode cX9_rowOf 18 = .ok (.iload_n 2, 1) := by decide +kernel
theorem dX9_rowOf_19 : decode cX9_rowOf 19 = .ok (.iaload, 1) := by decide +kernel
theorem dX9_rowOf_20 : decode cX9_rowOf 20 = .ok (.aload_n 0, 1) := by decide +kernel
theorem dX9_rowOf_21 : decode cX9_rowOf 21 = .ok (.getfield 13, 3) := by decide +kernel
theorem dX9_rowOf_24 : decode cX9_rowOf 24 = .ok (.iload_n 2, 1) := by decide +kernel
theorem dX9_rowOf_25 : decode cX9_rowOf 25 = .ok (.iaload, 1) := by decide +kernel
theorem dX9_rowOf_26 : decode cX9_rowOf 26 = .ok (.aload_n 1, 1) := by decide +kernel
theorem dX9_rowOf_27 : decode cX9_rowOf 27 = .ok (.invokevirtual 63, 3) := by decide +kernel
theorem dX9_rowOf_30 : decode cX9_rowOf 30 = .ok (.ifCond .eq 5, 3) := by decide +kernel
theorem dX9_rowOf_33 : decode cX9_rowOf 33 = .ok (.iload_n 2, 1) := by decide +kernel
theorem dX9_rowOf_34 : decode cX9_rowOf 34 = .ok (.ireturn, 1) := by decide +kernel
theorem dX9_rowOf_35 : decode cX9_rowOf 35 = .ok (.iinc 2 1, 3) := by decide +kernel
theorem dX9_rowOf_38 : decode cX9_rowOf 38 = .ok (.goto (-36), 3) := by decide +kernel
theorem dX9_rowOf_41 : decode cX9_rowOf 41 = .ok (.iconst (-1), 1) := by decide +kernel
theorem dX9_rowOf_42 : decode cX9_rowOf 42 = .ok (.ireturn, 1) := by decide +kernel
theorem dX9_startOf_0 : decode cX9_startOf 0 = .ok (.aload_n 0, 1) := by decide +kernel
theorem dX9_startOf_1 : decode cX9_startOf 1 = .ok (.aload_n 1, 1) := by decide +kernel
theorem dX9_startOf_2 : decode cX9_startOf 2 = .ok (.invokevirtual 67, 3) := by decide +kernel
theorem dX9_startOf_5 : decode cX9_startOf 5 = .ok (.istore_n 2, 1) := by decide +kernel
theorem dX9_startOf_6 : decode cX9_startOf 6 = .ok (.iload_n 2, 1) := by decide +kernel
theorem dX9_startOf_7 : decode cX9_startOf 7 = .ok (.ifCond .ge 7, 3) := by decide +kernel
theorem dX9_startOf_10 : decode cX9_startOf 10 = .ok (.iconst 0, 1) := by decide +kernel
theorem dX9_startOf_11 : decode cX9_startOf 11 = .ok (.goto 11, 3) := by decide +kernel
theorem dX9_startOf_14 : decode cX9_startOf 14 = .ok (.aload_n 0, 1) := by decide +kernel
theorem dX9_startOf_15 : decode cX9_startOf 15 = .ok (.getfield 13, 3) := by decide +kernel
theorem dX9_startOf_18 : decode cX9_startOf 18 = .ok (.iload_n 2, 1) := by decide +kernel
theorem dX9_startOf_19 : decode cX9_startOf 19 = .ok (.iaload, 1) := by decide +kernel
theorem dX9_startOf_20 : decode cX9_startOf 20 = .ok (.iconst 1, 1) := by decide +kernel
theorem dX9_startOf_21 : decode cX9_startOf 21 = .ok (.iadd, 1) := by decide +kernel
theorem dX9_startOf_22 : decode cX9_startOf 22 = .ok (.ireturn, 1) := by decide +kernel
theorem kt_158 : Cond.fieldLink RX9 19 "PostGate$Tags" "count" "I" ∈ tb := tb_at (i := 278) (by decide +kernel) (by decide +kernel)
theorem kt_159 : Cond.fieldLink RX9 28 "PostGate$Tags" "text" "LPostGate$Bytes;" ∈ tb := tb_at (i := 273) (by decide +kernel) (by decide +kernel)
theorem kt_160 : Cond.fieldLink RX9 9 "PostGate$Tags" "starts" "[I" ∈ tb := tb_at (i := 275) (by decide +kernel) (by decide +kernel)
theorem kt_161 : Cond.fieldLink RX9 13 "PostGate$Tags" "signs" "[I" ∈ tb := tb_at (i := 276) (by decide +kernel) (by decide +kernel)
theorem kt_162 : Cond.methodLink RX9 63 yX0_is ∈ tb := tb_at (i := 878) (by decide +kernel) (by decide +kernel)
theorem kt_163 : Cond.code yX9_rowOf cX9_rowOf 3 (some .int) ∈ tb := tb_at (i := 877) (by decide +kernel) (by decide +kernel)
theorem kt_164 : Cond.initialized RX9 ∈ tb := tb_at (i := 88) (by decide +kernel) (by decide +kernel)
theorem kt_165 : Cond.methodLink RX9 67 yX9_rowOf ∈ tb := tb_at (i := 874) (by decide +kernel) (by decide +kernel)
theorem kt_166 : Cond.instanceMethod yX9_rowOf ∈ tb := tb_at (i := 876) (by decide +kernel) (by decide +kernel)
theorem kt_167 : Cond.selects RX9 yX9_rowOf yX9_rowOf ∈ tb := tb_at (i := 17) (by decide +kernel) (by decide +kernel)
theorem kt_168 : Cond.fieldLink RX9 16 "PostGate$Tags" "ends" "[I" ∈ tb := tb_at (i := 277) (by decide +kernel) (by decide +kernel)
theorem kt_169 : Cond.methodLink RX9 80 yX10_numberOf ∈ tb := tb_at (i := 949) (by decide +kernel) (by decide +kernel)
theorem rown {r : Int32} (h : r = (-1) ∨ ∃ j : Nat, j < 40 ∧ r = nI j) (c : 0 ≤ r) : ∃ j : Nat, j < 40 ∧ r = nI j := by
  rcases h with h | h
  · rw [h] at c
    exact absurd c (by decide)
  · exact h
set_option maxHeartbeats 4000000 in
set_option maxRecDepth 100000 in
theorem s_X9_rowOf (l : Launch) (dC : Nat → ClassId) (dI : Nat → Nat → Nat) (cs : Nat → ClassId) (ty : TyM) (L : List Nat) (sz : Nat) (F : Nat → va_E) (h0 : Nat) (ρ : Nat) (tx : Nat) (n : Nat) (y0 : Nat) (y1 : Nat) (y2 : Nat) (q : Nat) (v : Nat) (k0 : Nat) (hW : WT ty L) (hL_h0 : h0 ∈ L) (hT_h0 : ty h0 = (9, ρ, [tx, n, y0, y1, y2])) : Met l yX9_rowOf (.code yX9_rowOf cX9_rowOf 3 (some .int) :: tb) ({ frames := 5, cells := 0, slots := 0, locals := 109 }) (va_Pc [.ref h0, .ref q] (PTE (dC, dI) cs ty L F sz [(q, v, k0)])) (va_Qi (fun (r : Int32) (_ : Unit) => (r = (-1) ∨ ∃ j : Nat, j < 40 ∧ r = nI j)) (fun _ T9 => ∃ F2 : Nat → va_E, QT (dC, dI) cs ty L [] F F2 (va_A (va_pl L F) sz) T9) (va_A (va_pl L F) sz)) 0 0 (va_A (va_pl L F) sz) := by
  refine Met.ofW (cc := cX9_rowOf) (maxL := 3) (ret := (some .int)) (by decide) rfl ?_
  intro p e s m args below meth c s₁ B hml hv
  obtain ⟨rfl, ⟨hsz, hP, hK, hD0, hE, hO⟩, hG, hX⟩ := hv
  have hx := B.exec
  have hb := B.bytes
  have hr := B.returns
  have hts : ∀ w ∈ tb, w.before _ s = true := fun w h => atoms_spec (ws := .code yX9_rowOf cX9_rowOf 3 (some .int) :: tb) B.pre w (List.mem_cons_of_mem _ h)
  have hown : s.vm.findClass RX9 = some m.cls := findClass_of_methodNamed B.named
  have hlocks := B.notSynchronized
  subst hsz
  have hD := hD0.self (sz := s.heap.size)
  generalize hAe : va_A (va_pl L F) s.heap.size = A at hD hG hX ⊢
  have hX_q : SX q v k0 A s s.heap := hX (q, v, k0) (by simp)
  obtain ⟨xo_q, xc_q, xv_q, xf_q, xt_q, xn_q⟩ := id hX_q
  have hA : ∀ q : Nat, s.heap.size ≤ q → A q := fun q h => by rw [← hAe]; exact Or.inr h
  have hS : va_S A s.heap s.heap [] := va_S.rf
  have hR : FR ty [] F F := FR.refl
  have hl := lv_entry ([.ref h0, .ref q]) (n := 3) (Nat.le_of_ble_eq_true rfl)
  rw [lg_entry_eq]
  generalize (lg_sl ([.ref h0, .ref q]) ++ List.replicate (3 - (lg_sl ([.ref h0, .ref q])).length) Slot.unset).toArray = ls at hl ⊢
  have hl : lv_has ls 3 [(0, .ref h0), (1, .ref q)] := hl
  refine lv_iconst (v := 0) hx hb dX9_rowOf_0 (by decide) ?_
  refine lv_istore_n (lv' := [(2, .int 0), (0, .ref h0), (1, .ref q)]) hx hb dX9_rowOf_1 rfl hl (by decide) rfl (fun ls hl => ?_)
  refine W.widen (k := 0) (n := 0) (by omega) (by omega) ?_
  refine pl_loop (σ := Nat) A (dC, dI) cs ty L [] F 2 3 (fun j => [(2, .int (nI j)), (0, .ref h0), (1, .ref q)]) (fun j => []) (fun j _ => j ≤ 40) (fun j => 40 - j) ?_ 0 F (by omega) hO hR _ _ hP hD hS ls (lv_sub hl [0, 1, 2] rfl)
  rintro j F_1 hv_2 hO hR ih_3 H locs hP hD hS ls hl
  have hl : lv_has ls 3 [(2, .int (nI j)), (0, .ref h0), (1, .ref q)] := hl
  have hv_2 : j ≤ 40 := hv_2
  refine W.eq (g2 := F0 m 2 ls []) rfl ?_
  refine lv_iload_n hx hb dX9_rowOf_2 rfl (lv_at hl 0 rfl) ?_
  refine lv_aload_n hx hb dX9_rowOf_3 rfl (lv_at hl 1 rfl) ?_
  obtain ⟨hi_4, hi_5, hi_6, hi_7, ⟨r_8, ht_9⟩, ht_10, ht_11, ht_12⟩ := hW.tags hL_h0 hT_h0
  obtain ⟨z_13, hF_14, hq_15⟩ := hO.tags hL_h0 hT_h0
  refine pg_get (ci := 9) (v := .int (nI z_13)) (C := RX9) (T := TX9) (N := 5) hx hb hts it_9 hown hK hP hL_h0 hF_14 rfl 4 (by decide) (hts _ kt_158) (fun _ h9 => h9) rfl dX9_rowOf_4 ?_
  refine lv_icmp_ge (tgt := 41) hx hb dX9_rowOf_7 (by decide) (fun c_16 => ?_) (fun c_16 => ?_)
  ·
    have hi_17 : z_13 ≤ j := leN (N := z_13) c_16
    refine lv_iconst (v := (-1)) hx hb dX9_rowOf_41 (by decide) ?_
    refine W.widen (k := 0) (n := 0) (by omega) (by omega) ?_
    exact W.iret (v := (-1)) hx hb hr (fun t ht hWm => ⟨⟨(-1), (), rfl, Or.inl rfl, ⟨F_1, QT.mk ht hP hD hO hR⟩⟩, hS.F ht⟩) hS.2.2 dX9_rowOf_42
  ·
    have hi_18 : j < z_13 := ltN (N := z_13) c_16
    have hjz : j < z_13 := ltI (by omega) c_16
    refine lv_aload_n hx hb dX9_rowOf_10 rfl (lv_at hl 1 rfl) ?_
    refine pg_get (ci := 9) (v := .ref tx) (C := RX9) (T := TX9) (N := 5) hx hb hts it_9 hown hK hP hL_h0 hF_14 rfl 0 (by decide) (hts _ kt_159) (fun _ h9 => h9) rfl dX9_rowOf_11 ?_
    refine lv_aload_n hx hb dX9_rowOf_14 rfl (lv_at hl 1 rfl) ?_
    refine pg_get (ci := 9) (v := .ref y0) (C := RX9) (T := TX9) (N := 5) hx hb hts it_9 hown hK hP hL_h0 hF_14 rfl 1 (by decide) (hts _ kt_160) (fun _ h9 => h9) rfl dX9_rowOf_15 ?_
    refine lv_iload_n hx hb dX9_rowOf_18 rfl (lv_at hl 0 rfl) ?_
    obtain ⟨f_19, hF_20, hq_21⟩ := hO.idx hi_5 ht_10
    refine pg_iald hx hb hK hP hi_5 0 hF_20 rfl (vp_in_nI (by omega) (by omega)) dX9_rowOf_19 ?_
    obtain ⟨k_22, hk_23, ek_24⟩ := hq_21 ((nI j) : Int32).toNatClampNeg
    refine lv_topi (fun x_25 ex_25 => ?_)
    obtain rfl : x_25 = nI k_22 := ex_25.trans ek_24
    refine lv_aload_n hx hb dX9_rowOf_20 rfl (lv_at hl 1 rfl) ?_
    refine pg_get (ci := 9) (v := .ref y1) (C := RX9) (T := TX9) (N := 5) hx hb hts it_9 hown hK hP hL_h0 hF_14 rfl 2 (by decide) (hts _ kt_161) (fun _ h9 => h9) rfl dX9_rowOf_21 ?_
    refine lv_iload_n hx hb dX9_rowOf_24 rfl (lv_at hl 0 rfl) ?_
    obtain ⟨f_26, hF_27, hq_28⟩ := hO.idx hi_6 ht_11
    refine pg_iald hx hb hK hP hi_6 0 hF_27 rfl (vp_in_nI (by omega) (by omega)) dX9_rowOf_25 ?_
    obtain ⟨k_29, hk_30, ek_31⟩ := hq_28 ((nI j) : Int32).toNatClampNeg
    refine lv_topi (fun x_32 ex_32 => ?_)
    obtain rfl : x_32 = nI k_29 := ex_32.trans ek_31
    refine lv_aload_n hx hb dX9_rowOf_26 rfl (lv_at hl 2 rfl) ?_
    have hFc := pg_free hD hS hA
    obtain ⟨hi_33, ht_34, hq_35⟩ := hW.bytes hi_4 ht_9
    obtain ⟨z_36, o_37, hF_38, hq_39, hq_40⟩ := hO.bytes hi_4 ht_9
    refine va_calli (va_runV (As := [.int (nI k_22), .int (nI k_29), .ref q]) (rest := []) ⟨hx, hb, hml, hown, hts⟩ (s_X0_is l dC dI cs ty L H.size F_1 tx (ρ + 1) r_8 n q v k0 (nI k_22) (nI k_29) hW hi_4 ht_9) ⟨callB_of 3 hts (gi kt_79) rfl rfl rfl (hts _ kt_1) (hts _ kt_162) (by decide +kernel) ⟨Nat.le_of_ble_eq_true rfl, Nat.le_of_ble_eq_true rfl⟩, (hts _ kt_81), (hts _ kt_82)⟩ ⟨fun a U g mk q => ⟨q.1, PTE.calling q.2⟩, pg_recv hK hP hi_4 hF_38 (q := (RX0, TX0, 3)) rfl, fun U hU hWm => ⟨rfl, PTE.mk hU hWm hP hK hD hE hO hG (fun x hx => by rw [List.mem_singleton] at hx; subst hx; exact hX_q) hS hFc⟩⟩ rfl rfl hl.1 rfl (lv_room (Nat.le_of_ble_eq_true rfl)) dX9_rowOf_27 ⟨by show _ + 0 ≤ 0; omega, by show _ + 0 ≤ 0; omega⟩) hS (fun q _ h => hFc q h) hFc (fun r_41 u t H1 locs ht hvm hw hB hz1 hk1 hS => ?_)
    obtain ⟨F_42, hB1⟩ := hB
    obtain ⟨hP, hD, hO, hR⟩ := QT.back hB1 ht hFc hR (fun q h => absurd h List.not_mem_nil)
    have hF_43 : F_42 h0 = .inr (9, [.ref tx, .ref y0, .ref y1, .ref y2, .int (nI z_13)]) := (hB1.2.2.2 h0 List.not_mem_nil).trans hF_14
    have hF_44 : F_42 y0 = .inl (cs 16, 40, .inl f_19) := (hB1.2.2.2 y0 List.not_mem_nil).trans hF_20
    have hF_45 : F_42 y1 = .inl (cs 16, 40, .inl f_26) := (hB1.2.2.2 y1 List.not_mem_nil).trans hF_27
    have hF_46 : F_42 tx = .inr (0, [.ref r_8, .int (nI z_36), .int o_37]) := (hB1.2.2.2 tx List.not_mem_nil).trans hF_38
    generalize H1 = H at hP hS ⊢
    have hw : (r_41 = 0 ∨ r_41 = 1) := hw
    have hw_47 := hw
    refine lv_if_eq (tgt := 35) hx hb dX9_rowOf_30 (by decide) (fun c_48 => ?_) (fun c_48 => ?_)
    ·
      refine lv_iinc (v := (nI (j + 1))) (lv' := [(2, .int (nI (j + 1))), (0, .ref h0), (1, .ref q)]) hx hb dX9_rowOf_35 hl (k := 0) rfl (nI_1 _) (by decide) rfl (fun ls hl => ?_)
      refine lv_goto (tgt := 2) hx hb dX9_rowOf_38 (by decide) ?_
      refine W.widen (k := 0) (n := 0) (by omega) (by omega) ?_
      exact ih_3 (j + 1) F_42 (by first | omega | exact ⟨by omega, by omega⟩ | trivial) (by show 40 - (j + 1) < 40 - j; omega) hO hR _ _ hP hD hS ls (lv_sub hl [0, 1, 2] rfl)
    ·
      refine lv_iload_n hx hb dX9_rowOf_33 rfl (lv_at hl 0 rfl) ?_
      refine W.widen (k := 0) (n := 0) (by omega) (by omega) ?_
      exact W.iret (v := (nI j)) hx hb hr (fun t ht hWm => ⟨⟨(nI j), (), rfl, (Or.inr ⟨j, by omega, rfl⟩), ⟨F_42, QT.mk ht hP hD hO hR⟩⟩, hS.F ht⟩) hS.2.2 dX9_rowOf_34
set_option maxHeartbeats 4000000 in
set_option maxRecDepth 100000 in
theorem s_X9_has (l : Launch) (dC : Nat → ClassId) (dI : Nat → Nat → Nat) (cs : Nat → ClassId) (ty : TyM) (L : List Nat) (sz : Nat) (F : Nat → va_E) (h0 : Nat) (ρ : Nat) (tx : Nat) (n : Nat) (y0 : Nat) (y1 : Nat) (y2 : Nat) (q : Nat) (v : Nat) (k0 : Nat) (hW : WT ty L) (hL_h0 : h0 ∈ L) (hT_h0 : ty h0 = (9, ρ, [tx, n, y0, y1, y2])) : Met l yX9_has (.code yX9_has cX9_has 2 (some .boolean) :: tb) ({ frames := 6, cells := 0, slots := 0, locals := 131 }) (va_Pc [.ref h0, .ref q] (PTE (dC, dI) cs ty L F sz [(q, v, k0)])) (va_Qi (fun (r : Int32) (_ : Unit) => (r = 0 ∨ r = 1)) (fun _ T9 => ∃ F2 : Nat → va_E, QT (dC, dI) cs ty L [] F F2 (va_A (va_pl L F) sz) T9) (va_A (va_pl L F) sz)) 0 0 (va_A (va_pl L F) sz) := by
  refine Met.ofW (cc := cX9_has) (maxL := 2) (ret := (some .boolean)) (by decide) rfl ?_
  intro p e s m args below meth c s₁ B hml hv
  obtain ⟨rfl, ⟨hsz, hP, hK, hD0, hE, hO⟩, hG, hX⟩ := hv
  have hx := B.exec
  have hb := B.bytes
  have hr := B.returns
  have hts : ∀ w ∈ tb, w.before _ s = true := fun w h => atoms_spec (ws := .code yX9_has cX9_has 2 (some .boolean) :: tb) B.pre w (List.mem_cons_of_mem _ h)
  have hown : s.vm.findClass RX9 = some m.cls := findClass_of_methodNamed B.named
  have hlocks := B.notSynchronized
  subst hsz
  have hD := hD0.self (sz := s.heap.size)
  generalize hAe : va_A (va_pl L F) s.heap.size = A at hD hG hX ⊢
  have hX_q : SX q v k0 A s s.heap := hX (q, v, k0) (by simp)
  obtain ⟨xo_q, xc_q, xv_q, xf_q, xt_q, xn_q⟩ := id hX_q
  have hA : ∀ q : Nat, s.heap.size ≤ q → A q := fun q h => by rw [← hAe]; exact Or.inr h
  have hS : va_S A s.heap s.heap [] := va_S.rf
  have hR : FR ty [] F F := FR.refl
  have hl := lv_entry ([.ref h0, .ref q]) (n := 2) (Nat.le_of_ble_eq_true rfl)
  rw [lg_entry_eq]
  generalize (lg_sl ([.ref h0, .ref q]) ++ List.replicate (2 - (lg_sl ([.ref h0, .ref q])).length) Slot.unset).toArray = ls at hl ⊢
  have hl : lv_has ls 2 [(0, .ref h0), (1, .ref q)] := hl
  refine lv_aload_n hx hb dX9_has_0 rfl (lv_at hl 0 rfl) ?_
  refine lv_aload_n hx hb dX9_has_1 rfl (lv_at hl 1 rfl) ?_
  have hFc := pg_free hD hS hA
  obtain ⟨hi_1, hi_2, hi_3, hi_4, ⟨r_5, ht_6⟩, ht_7, ht_8, ht_9⟩ := hW.tags hL_h0 hT_h0
  obtain ⟨z_10, hF_11, hq_12⟩ := hO.tags hL_h0 hT_h0
  refine va_calli (va_runV (As := [.ref q]) (rest := []) ⟨hx, hb, hml, hown, hts⟩ (s_X9_rowOf l dC dI cs ty L s.heap.size F h0 ρ tx n y0 y1 y2 q v k0 hW hL_h0 hT_h0) ⟨callB_of 1 hts (gi kt_163) rfl rfl rfl (hts _ kt_164) (hts _ kt_165) (by decide +kernel) ⟨Nat.le_of_ble_eq_true rfl, Nat.le_of_ble_eq_true rfl⟩, (hts _ kt_166), (hts _ kt_167)⟩ ⟨fun a U g mk q => ⟨q.1, PTE.calling q.2⟩, pg_recv hK hP hL_h0 hF_11 (q := (RX9, TX9, 5)) rfl, fun U hU hWm => ⟨rfl, PTE.mk hU hWm hP hK hD hE hO hG (fun x hx => by rw [List.mem_singleton] at hx; subst hx; exact hX_q) hS hFc⟩⟩ rfl rfl hl.1 rfl (lv_room (Nat.le_of_ble_eq_true rfl)) dX9_has_2 ⟨by show _ + 0 ≤ 0; omega, by show _ + 0 ≤ 0; omega⟩) hS (fun q _ h => hFc q h) hFc (fun r_13 u t H1 locs ht hvm hw hB hz1 hk1 hS => ?_)
  obtain ⟨F_14, hB1⟩ := hB
  obtain ⟨hP, hD, hO, hR⟩ := QT.back hB1 ht hFc hR (fun q h => absurd h List.not_mem_nil)
  have hF_15 : F_14 h0 = .inr (9, [.ref tx, .ref y0, .ref y1, .ref y2, .int (nI z_10)]) := (hB1.2.2.2 h0 List.not_mem_nil).trans hF_11
  generalize H1 = H at hP hS ⊢
  have hw : (r_13 = (-1) ∨ ∃ j : Nat, j < 40 ∧ r_13 = nI j) := hw
  have hw_16 := hw
  refine lv_if_lt (tgt := 12) hx hb dX9_has_5 (by decide) (fun c_17 => ?_) (fun c_17 => ?_)
  ·
    refine lv_iconst (v := 0) hx hb dX9_has_12 (by decide) ?_
    refine W.widen (k := 0) (n := 0) (by omega) (by omega) ?_
    exact W.zret (v := 0) (ty := .boolean) hx hb hr (by decide) (fun t ht hWm => ⟨⟨0, (), rfl, (by first | exact Or.inl rfl | exact Or.inr rfl), ⟨F_14, QT.mk ht hP hD hO hR⟩⟩, hS.F ht⟩) hS.2.2 dX9_has_13
  ·
    refine lv_iconst (v := 1) hx hb dX9_has_8 (by decide) ?_
    refine lv_goto (tgt := 13) hx hb dX9_has_9 (by decide) ?_
    refine W.widen (k := 0) (n := 0) (by omega) (by omega) ?_
    exact W.zret (v := 1) (ty := .boolean) hx hb hr (by decide) (fun t ht hWm => ⟨⟨1, (), rfl, (by first | exact Or.inl rfl | exact Or.inr rfl), ⟨F_14, QT.mk ht hP hD hO hR⟩⟩, hS.F ht⟩) hS.2.2 dX9_has_13
set_option maxHeartbeats 4000000 in
set_option maxRecDepth 100000 in
theorem s_X9_startOf (l : Launch) (dC : Nat → ClassId) (dI : Nat → Nat → Nat) (cs : Nat → ClassId) (ty : TyM) (L : List Nat) (sz : Nat) (F : Nat → va_E) (h0 : Nat) (ρ : Nat) (tx : Nat) (n : Nat) (y0 : Nat) (y1 : Nat) (y2 : Nat) (q : Nat) (v : Nat) (k0 : Nat) (hW : WT ty L) (hL_h0 : h0 ∈ L) (hT_h0 : ty h0 = (9, ρ, [tx, n, y0, y1, y2])) : Met l yX9_startOf (.code yX9_startOf cX9_startOf 3 (some .int) :: tb) ({ frames := 6, cells := 0, slots := 0, locals := 131 }) (va_Pc [.ref h0, .ref q] (PTE (dC, dI) cs ty L F sz [(q, v, k0)])) (va_Qi (fun (r : Int32) (_ : Unit) => (∃ k : Nat, k ≤ 10002 ∧ r = nI k)) (fun _ T9 => ∃ F2 : Nat → va_E, QT (dC, dI) cs ty L [] F F2 (va_A (va_pl L F) sz) T9) (va_A (va_pl L F) sz)) 0 0 (va_A (va_pl L F) sz) := by
  refine Met.ofW (cc := cX9_startOf) (maxL := 3) (ret := (some .int)) (by decide) rfl ?_
  intro p e s m args below meth c s₁ B hml hv
  obtain ⟨rfl, ⟨hsz, hP, hK, hD0, hE, hO⟩, hG, hX⟩ := hv
  have hx := B.exec
  have hb := B.bytes
  have hr := B.returns
  have hts : ∀ w ∈ tb, w.before _ s = true := fun w h => atoms_spec (ws := .code yX9_startOf cX9_startOf 3 (some .int) :: tb) B.pre w (List.mem_cons_of_mem _ h)
  have hown : s.vm.findClass RX9 = some m.cls := findClass_of_methodNamed B.named
  have hlocks := B.notSynchronized
  subst hsz
  have hD := hD0.self (sz := s.heap.size)
  generalize hAe : va_A (va_pl L F) s.heap.size = A at hD hG hX ⊢
  have hX_q : SX q v k0 A s s.heap := hX (q, v, k0) (by simp)
  obtain ⟨xo_q, xc_q, xv_q, xf_q, xt_q, xn_q⟩ := id hX_q
  have hA : ∀ q : Nat, s.heap.size ≤ q → A q := fun q h => by rw [← hAe]; exact Or.inr h
  have hS : va_S A s.heap s.heap [] := va_S.rf
  have hR : FR ty [] F F := FR.refl
  have hl := lv_entry ([.ref h0, .ref q]) (n := 3) (Nat.le_of_ble_eq_true rfl)
  rw [lg_entry_eq]
  generalize (lg_sl ([.ref h0, .ref q]) ++ List.replicate (3 - (lg_sl ([.ref h0, .ref q])).length) Slot.unset).toArray = ls at hl ⊢
  have hl : lv_has ls 3 [(0, .ref h0), (1, .ref q)] := hl
  refine lv_aload_n hx hb dX9_startOf_0 rfl (lv_at hl 0 rfl) ?_
  refine lv_aload_n hx hb dX9_startOf_1 rfl (lv_at hl 1 rfl) ?_
  have hFc := pg_free hD hS hA
  obtain ⟨hi_1, hi_2, hi_3, hi_4, ⟨r_5, ht_6⟩, ht_7, ht_8, ht_9⟩ := hW.tags hL_h0 hT_h0
  obtain ⟨z_10, hF_11, hq_12⟩ := hO.tags hL_h0 hT_h0
  refine va_calli (va_runV (As := [.ref q]) (rest := []) ⟨hx, hb, hml, hown, hts⟩ (s_X9_rowOf l dC dI cs ty L s.heap.size F h0 ρ tx n y0 y1 y2 q v k0 hW hL_h0 hT_h0) ⟨callB_of 1 hts (gi kt_163) rfl rfl rfl (hts _ kt_164) (hts _ kt_165) (by decide +kernel) ⟨Nat.le_of_ble_eq_true rfl, Nat.le_of_ble_eq_true rfl⟩, (hts _ kt_166), (hts _ kt_167)⟩ ⟨fun a U g mk q => ⟨q.1, PTE.calling q.2⟩, pg_recv hK hP hL_h0 hF_11 (q := (RX9, TX9, 5)) rfl, fun U hU hWm => ⟨rfl, PTE.mk hU hWm hP hK hD hE hO hG (fun x hx => by rw [List.mem_singleton] at hx; subst hx; exact hX_q) hS hFc⟩⟩ rfl rfl hl.1 rfl (lv_room (Nat.le_of_ble_eq_true rfl)) dX9_startOf_2 ⟨by show _ + 0 ≤ 0; omega, by show _ + 0 ≤ 0; omega⟩) hS (fun q _ h => hFc q h) hFc (fun r_13 u t H1 locs ht hvm hw hB hz1 hk1 hS => ?_)
  obtain ⟨F_14, hB1⟩ := hB
  obtain ⟨hP, hD, hO, hR⟩ := QT.back hB1 ht hFc hR (fun q h => absurd h List.not_mem_nil)
  have hF_15 : F_14 h0 = .inr (9, [.ref tx, .ref y0, .ref y1, .ref y2, .int (nI z_10)]) := (hB1.2.2.2 h0 List.not_mem_nil).trans hF_11
  generalize H1 = H at hP hS ⊢
  have hw : (r_13 = (-1) ∨ ∃ j : Nat, j < 40 ∧ r_13 = nI j) := hw
  have hw_16 := hw
  refine lv_istore_n (lv' := [(2, .int r_13), (0, .ref h0), (1, .ref q)]) hx hb dX9_startOf_5 rfl hl (by decide) rfl (fun ls hl => ?_)
  refine lv_iload_n hx hb dX9_startOf_6 rfl (lv_at hl 0 rfl) ?_
  refine lv_if_ge (tgt := 14) hx hb dX9_startOf_7 (by decide) (fun c_17 => ?_) (fun c_17 => ?_)
  ·
    obtain ⟨j, hj, ej⟩ := rown hw_16 c_17
    subst ej
    refine lv_aload_n hx hb dX9_startOf_14 rfl (lv_at hl 1 rfl) ?_
    refine pg_get (ci := 9) (v := .ref y1) (C := RX9) (T := TX9) (N := 5) hx hb hts it_9 hown hK hP hL_h0 hF_15 rfl 2 (by decide) (hts _ kt_161) (fun _ h9 => h9) rfl dX9_startOf_15 ?_
    refine lv_iload_n hx hb dX9_startOf_18 rfl (lv_at hl 0 rfl) ?_
    obtain ⟨f_18, hF_19, hq_20⟩ := hO.idx hi_3 ht_8
    refine pg_iald hx hb hK hP hi_3 0 hF_19 rfl (vp_in_nI (by omega) (by omega)) dX9_startOf_19 ?_
    obtain ⟨k_21, hk_22, ek_23⟩ := hq_20 ((nI j) : Int32).toNatClampNeg
    refine lv_topi (fun x_24 ex_24 => ?_)
    obtain rfl : x_24 = nI k_21 := ex_24.trans ek_23
    refine lv_iconst (v := 1) hx hb dX9_startOf_20 (by decide) ?_
    refine lv_iadd hx hb dX9_startOf_21 ?_
    refine lv_topi (fun x_25 ex_25 => ?_)
    obtain rfl : x_25 = (nI (k_21 + 1)) := ex_25.trans (nI_1 _)
    refine W.widen (k := 0) (n := 0) (by omega) (by omega) ?_
    exact W.iret (v := (nI (k_21 + 1))) hx hb hr (fun t ht hWm => ⟨⟨(nI (k_21 + 1)), (), rfl, ⟨(k_21 + 1), by omega, rfl⟩, ⟨F_14, QT.mk ht hP hD hO hR⟩⟩, hS.F ht⟩) hS.2.2 dX9_startOf_22
  ·
    refine lv_iconst (v := 0) hx hb dX9_startOf_10 (by decide) ?_
    refine lv_goto (tgt := 22) hx hb dX9_startOf_11 (by decide) ?_
    refine W.widen (k := 0) (n := 0) (by omega) (by omega) ?_
    exact W.iret (v := 0) hx hb hr (fun t ht hWm => ⟨⟨0, (), rfl, ⟨0, by omega, rfl⟩, ⟨F_14, QT.mk ht hP hD hO hR⟩⟩, hS.F ht⟩) hS.2.2 dX9_startOf_22
set_option maxHeartbeats 4000000 in
set_option maxRecDepth 100000 in
theorem s_X9_endOf (l : Launch) (dC : Nat → ClassId) (dI : Nat → Nat → Nat) (cs : Nat → ClassId) (ty : TyM) (L : List Nat) (sz : Nat) (F : Nat → va_E) (h0 : Nat) (ρ : Nat) (tx : Nat) (n : Nat) (y0 : Nat) (y1 : Nat) (y2 : Nat) (q : Nat) (v : Nat) (k0 : Nat) (hW : WT ty L) (hL_h0 : h0 ∈ L) (hT_h0 : ty h0 = (9, ρ, [tx, n, y0, y1, y2])) : Met l yX9_endOf (.code yX9_endOf cX9_endOf 3 (some .int) :: tb) ({ frames := 6, cells := 0, slots := 0, locals := 131 }) (va_Pc [.ref h0, .ref q] (PTE (dC, dI) cs ty L F sz [(q, v, k0)])) (va_Qi (fun (r : Int32) (_ : Unit) => (∃ k : Nat, k ≤ 10002 ∧ r = nI k)) (fun _ T9 => ∃ F2 : Nat → va_E, QT (dC, dI) cs ty L [] F F2 (va_A (va_pl L F) sz) T9) (va_A (va_pl L F) sz)) 0 0 (va_A (va_pl L F) sz) := by
  refine Met.ofW (cc := cX9_endOf) (maxL := 3) (ret := (some .int)) (by decide) rfl ?_
  intro p e s m args below meth c s₁ B hml hv
  obtain ⟨rfl, ⟨hsz, hP, hK, hD0, hE, hO⟩, hG, hX⟩ := hv
  have hx := B.exec
  have hb := B.bytes
  have hr := B.returns
  have hts : ∀ w ∈ tb, w.before _ s = true := fun w h => atoms_spec (ws := .code yX9_endOf cX9_endOf 3 (some .int) :: tb) B.pre w (List.mem_cons_of_mem _ h)
  have hown : s.vm.findClass RX9 = some m.cls := findClass_of_methodNamed B.named
  have hlocks := B.notSynchronized
  subst hsz
  have hD := hD0.self (sz := s.heap.size)
  generalize hAe : va_A (va_pl L F) s.heap.size = A at hD hG hX ⊢
  have hX_q : SX q v k0 A s s.heap := hX (q, v, k0) (by simp)
  obtain ⟨xo_q, xc_q, xv_q, xf_q, xt_q, xn_q⟩ := id hX_q
  have hA : ∀ q : Nat, s.heap.size ≤ q → A q := fun q h => by rw [← hAe]; exact Or.inr h
  have hS : va_S A s.heap s.heap [] := va_S.rf
  have hR : FR ty [] F F := FR.refl
  have hl := lv_entry ([.ref h0, .ref q]) (n := 3) (Nat.le_of_ble_eq_true rfl)
  rw [lg_entry_eq]
  generalize (lg_sl ([.ref h0, .ref q]) ++ List.replicate (3 - (lg_sl ([.ref h0, .ref q])).length) Slot.unset).toArray = ls at hl ⊢
  have hl : lv_has ls 3 [(0, .ref h0), (1, .ref q)] := hl
  refine lv_aload_n hx hb dX9_endOf_0 rfl (lv_at hl 0 rfl) ?_
  refine lv_aload_n hx hb dX9_endOf_1 rfl (lv_at hl 1 rfl) ?_
  have hFc := pg_free hD hS hA
  obtain ⟨hi_1, hi_2, hi_3, hi_4, ⟨r_5, ht_6⟩, ht_7, ht_8, ht_9⟩ := hW.tags hL_h0 hT_h0
  obtain ⟨z_10, hF_11, hq_12⟩ := hO.tags hL_h0 hT_h0
  refine va_calli (va_runV (As := [.ref q]) (rest := []) ⟨hx, hb, hml, hown, hts⟩ (s_X9_rowOf l dC dI cs ty L s.heap.size F h0 ρ tx n y0 y1 y2 q v k0 hW hL_h0 hT_h0) ⟨callB_of 1 hts (gi kt_163) rfl rfl rfl (hts _ kt_164) (hts _ kt_165) (by decide +kernel) ⟨Nat.le_of_ble_eq_true rfl, Nat.le_of_ble_eq_true rfl⟩, (hts _ kt_166), (hts _ kt_167)⟩ ⟨fun a U g mk q => ⟨q.1, PTE.calling q.2⟩, pg_recv hK hP hL_h0 hF_11 (q := (RX9, TX9, 5)) rfl, fun U hU hWm => ⟨rfl, PTE.mk hU hWm hP hK hD hE hO hG (fun x hx => by rw [List.mem_singleton] at hx; subst hx; exact hX_q) hS hFc⟩⟩ rfl rfl hl.1 rfl (lv_room (Nat.le_of_ble_eq_true rfl)) dX9_endOf_2 ⟨by show _ + 0 ≤ 0; omega, by show _ + 0 ≤ 0; omega⟩) hS (fun q _ h => hFc q h) hFc (fun r_13 u t H1 locs ht hvm hw hB hz1 hk1 hS => ?_)
  obtain ⟨F_14, hB1⟩ := hB
  obtain ⟨hP, hD, hO, hR⟩ := QT.back hB1 ht hFc hR (fun q h => absurd h List.not_mem_nil)
  have hF_15 : F_14 h0 = .inr (9, [.ref tx, .ref y0, .ref y1, .ref y2, .int (nI z_10)]) := (hB1.2.2.2 h0 List.not_mem_nil).trans hF_11
  generalize H1 = H at hP hS ⊢
  have hw : (r_13 = (-1) ∨ ∃ j : Nat, j < 40 ∧ r_13 = nI j) := hw
  have hw_16 := hw
  refine lv_istore_n (lv' := [(2, .int r_13), (0, .ref h0), (1, .ref q)]) hx hb dX9_endOf_5 rfl hl (by decide) rfl (fun ls hl => ?_)
  refine lv_iload_n hx hb dX9_endOf_6 rfl (lv_at hl 0 rfl) ?_
  refine lv_if_ge (tgt := 14) hx hb dX9_endOf_7 (by decide) (fun c_17 => ?_) (fun c_17 => ?_)
  ·
    obtain ⟨j, hj, ej⟩ := rown hw_16 c_17
    subst ej
    refine lv_aload_n hx hb dX9_endOf_14 rfl (lv_at hl 1 rfl) ?_
    refine pg_get (ci := 9) (v := .ref y2) (C := RX9) (T := TX9) (N := 5) hx hb hts it_9 hown hK hP hL_h0 hF_15 rfl 3 (by decide) (hts _ kt_168) (fun _ h9 => h9) rfl dX9_endOf_15 ?_
    refine lv_iload_n hx hb dX9_endOf_18 rfl (lv_at hl 0 rfl) ?_
    obtain ⟨f_18, hF_19, hq_20⟩ := hO.idx hi_4 ht_9
    refine pg_iald hx hb hK hP hi_4 0 hF_19 rfl (vp_in_nI (by omega) (by omega)) dX9_endOf_19 ?_
    obtain ⟨k_21, hk_22, ek_23⟩ := hq_20 ((nI j) : Int32).toNatClampNeg
    refine lv_topi (fun x_24 ex_24 => ?_)
    obtain rfl : x_24 = nI k_21 := ex_24.trans ek_23
    refine W.widen (k := 0) (n := 0) (by omega) (by omega) ?_
    exact W.iret (v := (nI k_21)) hx hb hr (fun t ht hWm => ⟨⟨(nI k_21), (), rfl, ⟨k_21, by omega, rfl⟩, ⟨F_14, QT.mk ht hP hD hO hR⟩⟩, hS.F ht⟩) hS.2.2 dX9_endOf_20
  ·
    refine lv_iconst (v := 0) hx hb dX9_endOf_10 (by decide) ?_
    refine lv_goto (tgt := 20) hx hb dX9_endOf_11 (by decide) ?_
    refine W.widen (k := 0) (n := 0) (by omega) (by omega) ?_
    exact W.iret (v := 0) hx hb hr (fun t ht hWm => ⟨⟨0, (), rfl, ⟨0, by omega, rfl⟩, ⟨F_14, QT.mk ht hP hD hO hR⟩⟩, hS.F ht⟩) hS.2.2 dX9_endOf_20
set_option maxHeartbeats 4000000 in
set_option maxRecDepth 100000 in
theorem s_X9_numberAt (l : Launch) (dC : Nat → ClassId) (dI : Nat → Nat → Nat) (cs : Nat → ClassId) (ty : TyM) (L : List Nat) (sz : Nat) (F : Nat → va_E) (h0 : Nat) (ρ : Nat) (tx : Nat) (n : Nat) (y0 : Nat) (y1 : Nat) (y2 : Nat) (q : Nat) (v : Nat) (k0 : Nat) (hW : WT ty L) (hL_h0 : h0 ∈ L) (hT_h0 : ty h0 = (9, ρ, [tx, n, y0, y1, y2])) : Met l yX9_numberAt (.code yX9_numberAt cX9_numberAt 3 (some .int) :: tb) ({ frames := 6, cells := 0, slots := 0, locals := 131 }) (va_Pc [.ref h0, .ref q] (PTE (dC, dI) cs ty L F sz [(q, v, k0)])) (va_Qi (fun (r : Int32) (_ : Unit) => True) (fun _ T9 => ∃ F2 : Nat → va_E, QT (dC, dI) cs ty L [] F F2 (va_A (va_pl L F) sz) T9) (va_A (va_pl L F) sz)) 0 0 (va_A (va_pl L F) sz) := by
  refine Met.ofW (cc := cX9_numberAt) (maxL := 3) (ret := (some .int)) (by decide) rfl ?_
  intro p e s m args below meth c s₁ B hml hv
  obtain ⟨rfl, ⟨hsz, hP, hK, hD0, hE, hO⟩, hG, hX⟩ := hv
  have hx := B.exec
  have hb := B.bytes
  have hr := B.returns
  have hts : ∀ w ∈ tb, w.before _ s = true := fun w h => atoms_spec (ws := .code yX9_numberAt cX9_numberAt 3 (some .int) :: tb) B.pre w (List.mem_cons_of_mem _ h)
  have hown : s.vm.findClass RX9 = some m.cls := findClass_of_methodNamed B.named
  have hlocks := B.notSynchronized
  subst hsz
  have hD := hD0.self (sz := s.heap.size)
  generalize hAe : va_A (va_pl L F) s.heap.size = A at hD hG hX ⊢
  have hX_q : SX q v k0 A s s.heap := hX (q, v, k0) (by simp)
  obtain ⟨xo_q, xc_q, xv_q, xf_q, xt_q, xn_q⟩ := id hX_q
  have hA : ∀ q : Nat, s.heap.size ≤ q → A q := fun q h => by rw [← hAe]; exact Or.inr h
  have hS : va_S A s.heap s.heap [] := va_S.rf
  have hR : FR ty [] F F := FR.refl
  have hl := lv_entry ([.ref h0, .ref q]) (n := 3) (Nat.le_of_ble_eq_true rfl)
  rw [lg_entry_eq]
  generalize (lg_sl ([.ref h0, .ref q]) ++ List.replicate (3 - (lg_sl ([.ref h0, .ref q])).length) Slot.unset).toArray = ls at hl ⊢
  have hl : lv_has ls 3 [(0, .ref h0), (1, .ref q)] := hl
  refine lv_aload_n hx hb dX9_numberAt_0 rfl (lv_at hl 0 rfl) ?_
  refine lv_aload_n hx hb dX9_numberAt_1 rfl (lv_at hl 1 rfl) ?_
  have hFc := pg_free hD hS hA
  obtain ⟨hi_1, hi_2, hi_3, hi_4, ⟨r_5, ht_6⟩, ht_7, ht_8, ht_9⟩ := hW.tags hL_h0 hT_h0
  obtain ⟨z_10, hF_11, hq_12⟩ := hO.tags hL_h0 hT_h0
  refine va_calli (va_runV (As := [.ref q]) (rest := []) ⟨hx, hb, hml, hown, hts⟩ (s_X9_rowOf l dC dI cs ty L s.heap.size F h0 ρ tx n y0 y1 y2 q v k0 hW hL_h0 hT_h0) ⟨callB_of 1 hts (gi kt_163) rfl rfl rfl (hts _ kt_164) (hts _ kt_165) (by decide +kernel) ⟨Nat.le_of_ble_eq_true rfl, Nat.le_of_ble_eq_true rfl⟩, (hts _ kt_166), (hts _ kt_167)⟩ ⟨fun a U g mk q => ⟨q.1, PTE.calling q.2⟩, pg_recv hK hP hL_h0 hF_11 (q := (RX9, TX9, 5)) rfl, fun U hU hWm => ⟨rfl, PTE.mk hU hWm hP hK hD hE hO hG (fun x hx => by rw [List.mem_singleton] at hx; subst hx; exact hX_q) hS hFc⟩⟩ rfl rfl hl.1 rfl (lv_room (Nat.le_of_ble_eq_true rfl)) dX9_numberAt_2 ⟨by show _ + 0 ≤ 0; omega, by show _ + 0 ≤ 0; omega⟩) hS (fun q _ h => hFc q h) hFc (fun r_13 u t H1 locs ht hvm hw hB hz1 hk1 hS => ?_)
  obtain ⟨F_14, hB1⟩ := hB
  obtain ⟨hP, hD, hO, hR⟩ := QT.back hB1 ht hFc hR (fun q h => absurd h List.not_mem_nil)
  have hF_15 : F_14 h0 = .inr (9, [.ref tx, .ref y0, .ref y1, .ref y2, .int (nI z_10)]) := (hB1.2.2.2 h0 List.not_mem_nil).trans hF_11
  generalize H1 = H at hP hS ⊢
  have hw : (r_13 = (-1) ∨ ∃ j : Nat, j < 40 ∧ r_13 = nI j) := hw
  have hw_16 := hw
  refine lv_istore_n (lv' := [(2, .int r_13), (0, .ref h0), (1, .ref q)]) hx hb dX9_numberAt_5 rfl hl (by decide) rfl (fun ls hl => ?_)
  refine lv_iload_n hx hb dX9_numberAt_6 rfl (lv_at hl 0 rfl) ?_
  refine lv_if_ge (tgt := 14) hx hb dX9_numberAt_7 (by decide) (fun c_17 => ?_) (fun c_17 => ?_)
  ·
    obtain ⟨j, hj, ej⟩ := rown hw_16 c_17
    subst ej
    refine lv_aload_n hx hb dX9_numberAt_14 rfl (lv_at hl 1 rfl) ?_
    refine pg_get (ci := 9) (v := .ref tx) (C := RX9) (T := TX9) (N := 5) hx hb hts it_9 hown hK hP hL_h0 hF_15 rfl 0 (by decide) (hts _ kt_159) (fun _ h9 => h9) rfl dX9_numberAt_15 ?_
    refine lv_aload_n hx hb dX9_numberAt_18 rfl (lv_at hl 1 rfl) ?_
    refine pg_get (ci := 9) (v := .ref y1) (C := RX9) (T := TX9) (N := 5) hx hb hts it_9 hown hK hP hL_h0 hF_15 rfl 2 (by decide) (hts _ kt_161) (fun _ h9 => h9) rfl dX9_numberAt_19 ?_
    refine lv_iload_n hx hb dX9_numberAt_22 rfl (lv_at hl 0 rfl) ?_
    obtain ⟨f_18, hF_19, hq_20⟩ := hO.idx hi_3 ht_8
    refine pg_iald hx hb hK hP hi_3 0 hF_19 rfl (vp_in_nI (by omega) (by omega)) dX9_numberAt_23 ?_
    obtain ⟨k_21, hk_22, ek_23⟩ := hq_20 ((nI j) : Int32).toNatClampNeg
    refine lv_topi (fun x_24 ex_24 => ?_)
    obtain rfl : x_24 = nI k_21 := ex_24.trans ek_23
    refine lv_iconst (v := 1) hx hb dX9_numberAt_24 (by decide) ?_
    refine lv_iadd hx hb dX9_numberAt_25 ?_
    refine lv_topi (fun x_25 _ => ?_)
    refine lv_aload_n hx hb dX9_numberAt_26 rfl (lv_at hl 1 rfl) ?_
    refine pg_get (ci := 9) (v := .ref y2) (C := RX9) (T := TX9) (N := 5) hx hb hts it_9 hown hK hP hL_h0 hF_15 rfl 3 (by decide) (hts _ kt_168) (fun _ h9 => h9) rfl dX9_numberAt_27 ?_
    refine lv_iload_n hx hb dX9_numberAt_30 rfl (lv_at hl 0 rfl) ?_
    obtain ⟨f_26, hF_27, hq_28⟩ := hO.idx hi_4 ht_9
    refine pg_iald hx hb hK hP hi_4 0 hF_27 rfl (vp_in_nI (by omega) (by omega)) dX9_numberAt_31 ?_
    obtain ⟨k_29, hk_30, ek_31⟩ := hq_28 ((nI j) : Int32).toNatClampNeg
    refine lv_topi (fun x_32 ex_32 => ?_)
    obtain rfl : x_32 = nI k_29 := ex_32.trans ek_31
    refine lv_bipush (v := 9) hx hb dX9_numberAt_32 (by decide) ?_
    have hFc := pg_free hD hS hA
    refine va_calli (va_runS (As := [.ref tx, .int x_25, .int (nI k_29), .int 9]) (rest := []) ⟨hx, hb, hml, hown, hts⟩ (s_X10_numberOf l dC dI cs ty L H.size F_14 tx (ρ + 1) r_5 n x_25 (nI k_29) 9 hW hi_1 ht_6) ⟨callB_of 4 hts (gi kt_132) rfl rfl rfl (hts _ kt_90) (hts _ kt_169) (by decide +kernel) ⟨Nat.le_of_ble_eq_true rfl, Nat.le_of_ble_eq_true rfl⟩, (hts _ kt_134)⟩ ⟨fun a U g mk q => ⟨q.1, PT.calling q.2⟩, fun U hU hWm => ⟨rfl, PT.mk hU hWm hP hK hD hE hO⟩⟩ rfl rfl hl.1 rfl (lv_room (Nat.le_of_ble_eq_true rfl)) dX9_numberAt_34 ⟨by show _ + 0 ≤ 0; omega, by show _ + 0 ≤ 0; omega⟩) hS (fun q _ h => hFc q h) hFc (fun r_33 u t H1 locs ht hvm hw hB hz1 hk1 hS => ?_)
    obtain ⟨F_34, hB1⟩ := hB
    obtain ⟨hP, hD, hO, hR⟩ := QT.back hB1 ht hFc hR (fun q h => absurd h List.not_mem_nil)
    have hF_35 : F_34 h0 = .inr (9, [.ref tx, .ref y0, .ref y1, .ref y2, .int (nI z_10)]) := (hB1.2.2.2 h0 List.not_mem_nil).trans hF_15
    have hF_36 : F_34 y1 = .inl (cs 16, 40, .inl f_18) := (hB1.2.2.2 y1 List.not_mem_nil).trans hF_19
    have hF_37 : F_34 y2 = .inl (cs 16, 40, .inl f_26) := (hB1.2.2.2 y2 List.not_mem_nil).trans hF_27
    generalize H1 = H at hP hS ⊢
    have hw : True := hw
    have hw_38 := hw
    refine W.widen (k := 0) (n := 0) (by omega) (by omega) ?_
    exact W.iret (v := r_33) hx hb hr (fun t ht hWm => ⟨⟨r_33, (), rfl, trivial, ⟨F_34, QT.mk ht hP hD hO hR⟩⟩, hS.F ht⟩) hS.2.2 dX9_numberAt_37
  ·
    refine lv_iconst (v := (-1)) hx hb dX9_numberAt_10 (by decide) ?_
    refine lv_goto (tgt := 37) hx hb dX9_numberAt_11 (by decide) ?_
    refine W.widen (k := 0) (n := 0) (by omega) (by omega) ?_
    exact W.iret (v := (-1)) hx hb hr (fun t ht hWm => ⟨⟨(-1), (), rfl, trivial, ⟨F_14, QT.mk ht hP hD hO hR⟩⟩, hS.F ht⟩) hS.2.2 dX9_numberAt_37
set_option maxHeartbeats 4000000 in
set_option maxRecDepth 100000 in
theorem s_X9_is (l : Launch) (dC : Nat → ClassId) (dI : Nat → Nat → Nat) (cs : Nat → ClassId) (ty : TyM) (L : List Nat) (sz : Nat) (F : Nat → va_E) (h0 : Nat) (ρ : Nat) (tx : Nat) (n : Nat) (y0 : Nat) (y1 : Nat) (y2 : Nat) (q : Nat) (v : Nat) (k0 : Nat) (q2 : Nat) (v2 : Nat) (k2 : Nat) (hW : WT ty L) (hL_h0 : h0 ∈ L) (hT_h0 : ty h0 = (9, ρ, [tx, n, y0, y1, y2])) : Met l yX9_is (.code yX9_is cX9_is 4 (some .boolean) :: tb) ({ frames := 6, cells := 0, slots := 0, locals := 131 }) (va_Pc [.ref h0, .ref q, .ref q2] (PTE (dC, dI) cs ty L F sz [(q, v, k0), (q2, v2, k2)])) (va_Qi (fun (r : Int32) (_ : Unit) => (r = 0 ∨ r = 1)) (fun _ T9 => ∃ F2 : Nat → va_E, QT (dC, dI) cs ty L [] F F2 (va_A (va_pl L F) sz) T9) (va_A (va_pl L F) sz)) 0 0 (va_A (va_pl L F) sz) := by
  refine Met.ofW (cc := cX9_is) (maxL := 4) (ret := (some .boolean)) (by decide) rfl ?_
  intro p e s m args below meth c s₁ B hml hv
  obtain ⟨rfl, ⟨hsz, hP, hK, hD0, hE, hO⟩, hG, hX⟩ := hv
  have hx := B.exec
  have hb := B.bytes
  have hr := B.returns
  have hts : ∀ w ∈ tb, w.before _ s = true := fun w h => atoms_spec (ws := .code yX9_is cX9_is 4 (some .boolean) :: tb) B.pre w (List.mem_cons_of_mem _ h)
  have hown : s.vm.findClass RX9 = some m.cls := findClass_of_methodNamed B.named
  have hlocks := B.notSynchronized
  subst hsz
  have hD := hD0.self (sz := s.heap.size)
  generalize hAe : va_A (va_pl L F) s.heap.size = A at hD hG hX ⊢
  have hX_q : SX q v k0 A s s.heap := hX (q, v, k0) (by simp)
  obtain ⟨xo_q, xc_q, xv_q, xf_q, xt_q, xn_q⟩ := id hX_q
  have hX_q2 : SX q2 v2 k2 A s s.heap := hX (q2, v2, k2) (by simp)
  obtain ⟨xo_q2, xc_q2, xv_q2, xf_q2, xt_q2, xn_q2⟩ := id hX_q2
  have hA : ∀ q : Nat, s.heap.size ≤ q → A q := fun q h => by rw [← hAe]; exact Or.inr h
  have hS : va_S A s.heap s.heap [] := va_S.rf
  have hR : FR ty [] F F := FR.refl
  have hl := lv_entry ([.ref h0, .ref q, .ref q2]) (n := 4) (Nat.le_of_ble_eq_true rfl)
  rw [lg_entry_eq]
  generalize (lg_sl ([.ref h0, .ref q, .ref q2]) ++ List.replicate (4 - (lg_sl ([.ref h0, .ref q, .ref q2])).length) Slot.unset).toArray = ls at hl ⊢
  have hl : lv_has ls 4 [(0, .ref h0), (1, .ref q), (2, .ref q2)] := hl
  refine lv_aload_n hx hb dX9_is_0 rfl (lv_at hl 0 rfl) ?_
  refine lv_aload_n hx hb dX9_is_1 rfl (lv_at hl 1 rfl) ?_
  have hFc := pg_free hD hS hA
  obtain ⟨hi_1, hi_2, hi_3, hi_4, ⟨r_5, ht_6⟩, ht_7, ht_8, ht_9⟩ := hW.tags hL_h0 hT_h0
  obtain ⟨z_10, hF_11, hq_12⟩ := hO.tags hL_h0 hT_h0
  refine va_calli (va_runV (As := [.ref q]) (rest := []) ⟨hx, hb, hml, hown, hts⟩ (s_X9_rowOf l dC dI cs ty L s.heap.size F h0 ρ tx n y0 y1 y2 q v k0 hW hL_h0 hT_h0) ⟨callB_of 1 hts (gi kt_163) rfl rfl rfl (hts _ kt_164) (hts _ kt_165) (by decide +kernel) ⟨Nat.le_of_ble_eq_true rfl, Nat.le_of_ble_eq_true rfl⟩, (hts _ kt_166), (hts _ kt_167)⟩ ⟨fun a U g mk q => ⟨q.1, PTE.calling q.2⟩, pg_recv hK hP hL_h0 hF_11 (q := (RX9, TX9, 5)) rfl, fun U hU hWm => ⟨rfl, PTE.mk hU hWm hP hK hD hE hO hG (fun x hx => by rw [List.mem_singleton] at hx; subst hx; exact hX_q) hS hFc⟩⟩ rfl rfl hl.1 rfl (lv_room (Nat.le_of_ble_eq_true rfl)) dX9_is_2 ⟨by show _ + 0 ≤ 0; omega, by show _ + 0 ≤ 0; omega⟩) hS (fun q _ h => hFc q h) hFc (fun r_13 u t H1 locs ht hvm hw hB hz1 hk1 hS => ?_)
  obtain ⟨F_14, hB1⟩ := hB
  obtain ⟨hP, hD, hO, hR⟩ := QT.back hB1 ht hFc hR (fun q h => absurd h List.not_mem_nil)
  have hF_15 : F_14 h0 = .inr (9, [.ref tx, .ref y0, .ref y1, .ref y2, .int (nI z_10)]) := (hB1.2.2.2 h0 List.not_mem_nil).trans hF_11
  generalize H1 = H at hP hS ⊢
  have hw : (r_13 = (-1) ∨ ∃ j : Nat, j < 40 ∧ r_13 = nI j) := hw
  have hw_16 := hw
  refine lv_istore_n (lv' := [(3, .int r_13), (0, .ref h0), (1, .ref q), (2, .ref q2)]) hx hb dX9_is_5 rfl hl (by decide) rfl (fun ls hl => ?_)
  refine lv_iload_n hx hb dX9_is_6 rfl (lv_at hl 0 rfl) ?_
  refine lv_if_lt (tgt := 39) hx hb dX9_is_7 (by decide) (fun c_17 => ?_) (fun c_17 => ?_)
  ·
    refine lv_iconst (v := 0) hx hb dX9_is_39 (by decide) ?_
    refine W.widen (k := 0) (n := 0) (by omega) (by omega) ?_
    exact W.zret (v := 0) (ty := .boolean) hx hb hr (by decide) (fun t ht hWm => ⟨⟨0, (), rfl, (by first | exact Or.inl rfl | exact Or.inr rfl), ⟨F_14, QT.mk ht hP hD hO hR⟩⟩, hS.F ht⟩) hS.2.2 dX9_is_40
  ·
    obtain ⟨j, hj, ej⟩ := rown hw_16 (Int32.not_lt.mp c_17)
    subst ej
    refine lv_aload_n hx hb dX9_is_10 rfl (lv_at hl 1 rfl) ?_
    refine pg_get (ci := 9) (v := .ref tx) (C := RX9) (T := TX9) (N := 5) hx hb hts it_9 hown hK hP hL_h0 hF_15 rfl 0 (by decide) (hts _ kt_159) (fun _ h9 => h9) rfl dX9_is_11 ?_
    refine lv_aload_n hx hb dX9_is_14 rfl (lv_at hl 1 rfl) ?_
    refine pg_get (ci := 9) (v := .ref y1) (C := RX9) (T := TX9) (N := 5) hx hb hts it_9 hown hK hP hL_h0 hF_15 rfl 2 (by decide) (hts _ kt_161) (fun _ h9 => h9) rfl dX9_is_15 ?_
    refine lv_iload_n hx hb dX9_is_18 rfl (lv_at hl 0 rfl) ?_
    obtain ⟨f_18, hF_19, hq_20⟩ := hO.idx hi_3 ht_8
    refine pg_iald hx hb hK hP hi_3 0 hF_19 rfl (vp_in_nI (by omega) (by omega)) dX9_is_19 ?_
    obtain ⟨k_21, hk_22, ek_23⟩ := hq_20 ((nI j) : Int32).toNatClampNeg
    refine lv_topi (fun x_24 ex_24 => ?_)
    obtain rfl : x_24 = nI k_21 := ex_24.trans ek_23
    refine lv_iconst (v := 1) hx hb dX9_is_20 (by decide) ?_
    refine lv_iadd hx hb dX9_is_21 ?_
    refine lv_topi (fun x_25 _ => ?_)
    refine lv_aload_n hx hb dX9_is_22 rfl (lv_at hl 1 rfl) ?_
    refine pg_get (ci := 9) (v := .ref y2) (C := RX9) (T := TX9) (N := 5) hx hb hts it_9 hown hK hP hL_h0 hF_15 rfl 3 (by decide) (hts _ kt_168) (fun _ h9 => h9) rfl dX9_is_23 ?_
    refine lv_iload_n hx hb dX9_is_26 rfl (lv_at hl 0 rfl) ?_
    obtain ⟨f_26, hF_27, hq_28⟩ := hO.idx hi_4 ht_9
    refine pg_iald hx hb hK hP hi_4 0 hF_27 rfl (vp_in_nI (by omega) (by omega)) dX9_is_27 ?_
    obtain ⟨k_29, hk_30, ek_31⟩ := hq_28 ((nI j) : Int32).toNatClampNeg
    refine lv_topi (fun x_32 ex_32 => ?_)
    obtain rfl : x_32 = nI k_29 := ex_32.trans ek_31
    refine lv_aload_n hx hb dX9_is_28 rfl (lv_at hl 3 rfl) ?_
    have hFc := pg_free hD hS hA
    obtain ⟨hi_33, ht_34, hq_35⟩ := hW.bytes hi_1 ht_6
    obtain ⟨z_36, o_37, hF_38, hq_39, hq_40⟩ := hO.bytes hi_1 ht_6
    refine va_calli (va_runV (As := [.int x_25, .int (nI k_29), .ref q2]) (rest := []) ⟨hx, hb, hml, hown, hts⟩ (s_X0_is l dC dI cs ty L H.size F_14 tx (ρ + 1) r_5 n q2 v2 k2 x_25 (nI k_29) hW hi_1 ht_6) ⟨callB_of 3 hts (gi kt_79) rfl rfl rfl (hts _ kt_1) (hts _ kt_162) (by decide +kernel) ⟨Nat.le_of_ble_eq_true rfl, Nat.le_of_ble_eq_true rfl⟩, (hts _ kt_81), (hts _ kt_82)⟩ ⟨fun a U g mk q => ⟨q.1, PTE.calling q.2⟩, pg_recv hK hP hi_1 hF_38 (q := (RX0, TX0, 3)) rfl, fun U hU hWm => ⟨rfl, PTE.mk hU hWm hP hK hD hE hO hG (fun x hx => by rw [List.mem_singleton] at hx; subst hx; exact hX_q2) hS hFc⟩⟩ rfl rfl hl.1 rfl (lv_room (Nat.le_of_ble_eq_true rfl)) dX9_is_29 ⟨by show _ + 0 ≤ 0; omega, by show _ + 0 ≤ 0; omega⟩) hS (fun q _ h => hFc q h) hFc (fun r_41 u t H1 locs ht hvm hw hB hz1 hk1 hS => ?_)
    obtain ⟨F_42, hB1⟩ := hB
    obtain ⟨hP, hD, hO, hR⟩ := QT.back hB1 ht hFc hR (fun q h => absurd h List.not_mem_nil)
    have hF_43 : F_42 h0 = .inr (9, [.ref tx, .ref y0, .ref y1, .ref y2, .int (nI z_10)]) := (hB1.2.2.2 h0 List.not_mem_nil).trans hF_15
    have hF_44 : F_42 y1 = .inl (cs 16, 40, .inl f_18) := (hB1.2.2.2 y1 List.not_mem_nil).trans hF_19
    have hF_45 : F_42 y2 = .inl (cs 16, 40, .inl f_26) := (hB1.2.2.2 y2 List.not_mem_nil).trans hF_27
    have hF_46 : F_42 tx = .inr (0, [.ref r_5, .int (nI z_36), .int o_37]) := (hB1.2.2.2 tx List.not_mem_nil).trans hF_38
    generalize H1 = H at hP hS ⊢
    have hw : (r_41 = 0 ∨ r_41 = 1) := hw
    have hw_47 := hw
    refine lv_if_eq (tgt := 39) hx hb dX9_is_32 (by decide) (fun c_48 => ?_) (fun c_48 => ?_)
    ·
      refine lv_iconst (v := 0) hx hb dX9_is_39 (by decide) ?_
      refine W.widen (k := 0) (n := 0) (by omega) (by omega) ?_
      exact W.zret (v := 0) (ty := .boolean) hx hb hr (by decide) (fun t ht hWm => ⟨⟨0, (), rfl, (by first | exact Or.inl rfl | exact Or.inr rfl), ⟨F_42, QT.mk ht hP hD hO hR⟩⟩, hS.F ht⟩) hS.2.2 dX9_is_40
    ·
      refine lv_iconst (v := 1) hx hb dX9_is_35 (by decide) ?_
      refine lv_goto (tgt := 40) hx hb dX9_is_36 (by decide) ?_
      refine W.widen (k := 0) (n := 0) (by omega) (by omega) ?_
      exact W.zret (v := 1) (ty := .boolean) hx hb hr (by decide) (fun t ht hWm => ⟨⟨1, (), rfl, (by first | exact Or.inl rfl | exact Or.inr rfl), ⟨F_42, QT.mk ht hP hD hO hR⟩⟩, hS.F ht⟩) hS.2.2 dX9_is_40
set_option maxHeartbeats 4000000 in
set_option maxRecDepth 100000 in
theorem s_X9_isOrMisses (l : Launch) (dC : Nat → ClassId) (dI : Nat → Nat → Nat) (cs : Nat → ClassId) (ty : TyM) (L : List Nat) (sz : Nat) (F : Nat → va_E) (h0 : Nat) (ρ : Nat) (tx : Nat) (n : Nat) (y0 : Nat) (y1 : Nat) (y2 : Nat) (q : Nat) (v : Nat) (k0 : Nat) (q2 : Nat) (v2 : Nat) (k2 : Nat) (hW : WT ty L) (hL_h0 : h0 ∈ L) (hT_h0 : ty h0 = (9, ρ, [tx, n, y0, y1, y2])) : Met l yX9_isOrMisses (.code yX9_isOrMisses cX9_isOrMisses 4 (some .boolean) :: tb) ({ frames := 6, cells := 0, slots := 0, locals := 131 }) (va_Pc [.ref h0, .ref q, .ref q2] (PTE (dC, dI) cs ty L F sz [(q, v, k0), (q2, v2, k2)])) (va_Qi (fun (r : Int32) (_ : Unit) => (r = 0 ∨ r = 1)) (fun _ T9 => ∃ F2 : Nat → va_E, QT (dC, dI) cs ty L [] F F2 (va_A (va_pl L F) sz) T9) (va_A (va_pl L F) sz)) 0 0 (va_A (va_pl L F) sz) := by
  refine Met.ofW (cc := cX9_isOrMisses) (maxL := 4) (ret := (some .boolean)) (by decide) rfl ?_
  intro p e s m args below meth c s₁ B hml hv
  obtain ⟨rfl, ⟨hsz, hP, hK, hD0, hE, hO⟩, hG, hX⟩ := hv
  have hx := B.exec
  have hb := B.bytes
  have hr := B.returns
  have hts : ∀ w ∈ tb, w.before _ s = true := fun w h => atoms_spec (ws := .code yX9_isOrMisses cX9_isOrMisses 4 (some .boolean) :: tb) B.pre w (List.mem_cons_of_mem _ h)
  have hown : s.vm.findClass RX9 = some m.cls := findClass_of_methodNamed B.named
  have hlocks := B.notSynchronized
  subst hsz
  have hD := hD0.self (sz := s.heap.size)
  generalize hAe : va_A (va_pl L F) s.heap.size = A at hD hG hX ⊢
  have hX_q : SX q v k0 A s s.heap := hX (q, v, k0) (by simp)
  obtain ⟨xo_q, xc_q, xv_q, xf_q, xt_q, xn_q⟩ := id hX_q
  have hX_q2 : SX q2 v2 k2 A s s.heap := hX (q2, v2, k2) (by simp)
  obtain ⟨xo_q2, xc_q2, xv_q2, xf_q2, xt_q2, xn_q2⟩ := id hX_q2
  have hA : ∀ q : Nat, s.heap.size ≤ q → A q := fun q h => by rw [← hAe]; exact Or.inr h
  have hS : va_S A s.heap s.heap [] := va_S.rf
  have hR : FR ty [] F F := FR.refl
  have hl := lv_entry ([.ref h0, .ref q, .ref q2]) (n := 4) (Nat.le_of_ble_eq_true rfl)
  rw [lg_entry_eq]
  generalize (lg_sl ([.ref h0, .ref q, .ref q2]) ++ List.replicate (4 - (lg_sl ([.ref h0, .ref q, .ref q2])).length) Slot.unset).toArray = ls at hl ⊢
  have hl : lv_has ls 4 [(0, .ref h0), (1, .ref q), (2, .ref q2)] := hl
  refine lv_aload_n hx hb dX9_isOrMisses_0 rfl (lv_at hl 0 rfl) ?_
  refine lv_aload_n hx hb dX9_isOrMisses_1 rfl (lv_at hl 1 rfl) ?_
  have hFc := pg_free hD hS hA
  obtain ⟨hi_1, hi_2, hi_3, hi_4, ⟨r_5, ht_6⟩, ht_7, ht_8, ht_9⟩ := hW.tags hL_h0 hT_h0
  obtain ⟨z_10, hF_11, hq_12⟩ := hO.tags hL_h0 hT_h0
  refine va_calli (va_runV (As := [.ref q]) (rest := []) ⟨hx, hb, hml, hown, hts⟩ (s_X9_rowOf l dC dI cs ty L s.heap.size F h0 ρ tx n y0 y1 y2 q v k0 hW hL_h0 hT_h0) ⟨callB_of 1 hts (gi kt_163) rfl rfl rfl (hts _ kt_164) (hts _ kt_165) (by decide +kernel) ⟨Nat.le_of_ble_eq_true rfl, Nat.le_of_ble_eq_true rfl⟩, (hts _ kt_166), (hts _ kt_167)⟩ ⟨fun a U g mk q => ⟨q.1, PTE.calling q.2⟩, pg_recv hK hP hL_h0 hF_11 (q := (RX9, TX9, 5)) rfl, fun U hU hWm => ⟨rfl, PTE.mk hU hWm hP hK hD hE hO hG (fun x hx => by rw [List.mem_singleton] at hx; subst hx; exact hX_q) hS hFc⟩⟩ rfl rfl hl.1 rfl (lv_room (Nat.le_of_ble_eq_true rfl)) dX9_isOrMisses_2 ⟨by show _ + 0 ≤ 0; omega, by show _ + 0 ≤ 0; omega⟩) hS (fun q _ h => hFc q h) hFc (fun r_13 u t H1 locs ht hvm hw hB hz1 hk1 hS => ?_)
  obtain ⟨F_14, hB1⟩ := hB
  obtain ⟨hP, hD, hO, hR⟩ := QT.back hB1 ht hFc hR (fun q h => absurd h List.not_mem_nil)
  have hF_15 : F_14 h0 = .inr (9, [.ref tx, .ref y0, .ref y1, .ref y2, .int (nI z_10)]) := (hB1.2.2.2 h0 List.not_mem_nil).trans hF_11
  generalize H1 = H at hP hS ⊢
  have hw : (r_13 = (-1) ∨ ∃ j : Nat, j < 40 ∧ r_13 = nI j) := hw
  have hw_16 := hw
  refine lv_istore_n (lv' := [(3, .int r_13), (0, .ref h0), (1, .ref q), (2, .ref q2)]) hx hb dX9_isOrMisses_5 rfl hl (by decide) rfl (fun ls hl => ?_)
  refine lv_iload_n hx hb dX9_isOrMisses_6 rfl (lv_at hl 0 rfl) ?_
  refine lv_if_lt (tgt := 35) hx hb dX9_isOrMisses_7 (by decide) (fun c_17 => ?_) (fun c_17 => ?_)
  ·
    refine lv_iconst (v := 1) hx hb dX9_isOrMisses_35 (by decide) ?_
    refine lv_goto (tgt := 40) hx hb dX9_isOrMisses_36 (by decide) ?_
    refine W.widen (k := 0) (n := 0) (by omega) (by omega) ?_
    exact W.zret (v := 1) (ty := .boolean) hx hb hr (by decide) (fun t ht hWm => ⟨⟨1, (), rfl, (by first | exact Or.inl rfl | exact Or.inr rfl), ⟨F_14, QT.mk ht hP hD hO hR⟩⟩, hS.F ht⟩) hS.2.2 dX9_isOrMisses_40
  ·
    obtain ⟨j, hj, ej⟩ := rown hw_16 (Int32.not_lt.mp c_17)
    subst ej
    refine lv_aload_n hx hb dX9_isOrMisses_10 rfl (lv_at hl 1 rfl) ?_
    refine pg_get (ci := 9) (v := .ref tx) (C := RX9) (T := TX9) (N := 5) hx hb hts it_9 hown hK hP hL_h0 hF_15 rfl 0 (by decide) (hts _ kt_159) (fun _ h9 => h9) rfl dX9_isOrMisses_11 ?_
    refine lv_aload_n hx hb dX9_isOrMisses_14 rfl (lv_at hl 1 rfl) ?_
    refine pg_get (ci := 9) (v := .ref y1) (C := RX9) (T := TX9) (N := 5) hx hb hts it_9 hown hK hP hL_h0 hF_15 rfl 2 (by decide) (hts _ kt_161) (fun _ h9 => h9) rfl dX9_isOrMisses_15 ?_
    refine lv_iload_n hx hb dX9_isOrMisses_18 rfl (lv_at hl 0 rfl) ?_
    obtain ⟨f_18, hF_19, hq_20⟩ := hO.idx hi_3 ht_8
    refine pg_iald hx hb hK hP hi_3 0 hF_19 rfl (vp_in_nI (by omega) (by omega)) dX9_isOrMisses_19 ?_
    obtain ⟨k_21, hk_22, ek_23⟩ := hq_20 ((nI j) : Int32).toNatClampNeg
    refine lv_topi (fun x_24 ex_24 => ?_)
    obtain rfl : x_24 = nI k_21 := ex_24.trans ek_23
    refine lv_iconst (v := 1) hx hb dX9_isOrMisses_20 (by decide) ?_
    refine lv_iadd hx hb dX9_isOrMisses_21 ?_
    refine lv_topi (fun x_25 _ => ?_)
    refine lv_aload_n hx hb dX9_isOrMisses_22 rfl (lv_at hl 1 rfl) ?_
    refine pg_get (ci := 9) (v := .ref y2) (C := RX9) (T := TX9) (N := 5) hx hb hts it_9 hown hK hP hL_h0 hF_15 rfl 3 (by decide) (hts _ kt_168) (fun _ h9 => h9) rfl dX9_isOrMisses_23 ?_
    refine lv_iload_n hx hb dX9_isOrMisses_26 rfl (lv_at hl 0 rfl) ?_
    obtain ⟨f_26, hF_27, hq_28⟩ := hO.idx hi_4 ht_9
    refine pg_iald hx hb hK hP hi_4 0 hF_27 rfl (vp_in_nI (by omega) (by omega)) dX9_isOrMisses_27 ?_
    obtain ⟨k_29, hk_30, ek_31⟩ := hq_28 ((nI j) : Int32).toNatClampNeg
    refine lv_topi (fun x_32 ex_32 => ?_)
    obtain rfl : x_32 = nI k_29 := ex_32.trans ek_31
    refine lv_aload_n hx hb dX9_isOrMisses_28 rfl (lv_at hl 3 rfl) ?_
    have hFc := pg_free hD hS hA
    obtain ⟨hi_33, ht_34, hq_35⟩ := hW.bytes hi_1 ht_6
    obtain ⟨z_36, o_37, hF_38, hq_39, hq_40⟩ := hO.bytes hi_1 ht_6
    refine va_calli (va_runV (As := [.int x_25, .int (nI k_29), .ref q2]) (rest := []) ⟨hx, hb, hml, hown, hts⟩ (s_X0_is l dC dI cs ty L H.size F_14 tx (ρ + 1) r_5 n q2 v2 k2 x_25 (nI k_29) hW hi_1 ht_6) ⟨callB_of 3 hts (gi kt_79) rfl rfl rfl (hts _ kt_1) (hts _ kt_162) (by decide +kernel) ⟨Nat.le_of_ble_eq_true rfl, Nat.le_of_ble_eq_true rfl⟩, (hts _ kt_81), (hts _ kt_82)⟩ ⟨fun a U g mk q => ⟨q.1, PTE.calling q.2⟩, pg_recv hK hP hi_1 hF_38 (q := (RX0, TX0, 3)) rfl, fun U hU hWm => ⟨rfl, PTE.mk hU hWm hP hK hD hE hO hG (fun x hx => by rw [List.mem_singleton] at hx; subst hx; exact hX_q2) hS hFc⟩⟩ rfl rfl hl.1 rfl (lv_room (Nat.le_of_ble_eq_true rfl)) dX9_isOrMisses_29 ⟨by show _ + 0 ≤ 0; omega, by show _ + 0 ≤ 0; omega⟩) hS (fun q _ h => hFc q h) hFc (fun r_41 u t H1 locs ht hvm hw hB hz1 hk1 hS => ?_)
    obtain ⟨F_42, hB1⟩ := hB
    obtain ⟨hP, hD, hO, hR⟩ := QT.back hB1 ht hFc hR (fun q h => absurd h List.not_mem_nil)
    have hF_43 : F_42 h0 = .inr (9, [.ref tx, .ref y0, .ref y1, .ref y2, .int (nI z_10)]) := (hB1.2.2.2 h0 List.not_mem_nil).trans hF_15
    have hF_44 : F_42 y1 = .inl (cs 16, 40, .inl f_18) := (hB1.2.2.2 y1 List.not_mem_nil).trans hF_19
    have hF_45 : F_42 y2 = .inl (cs 16, 40, .inl f_26) := (hB1.2.2.2 y2 List.not_mem_nil).trans hF_27
    have hF_46 : F_42 tx = .inr (0, [.ref r_5, .int (nI z_36), .int o_37]) := (hB1.2.2.2 tx List.not_mem_nil).trans hF_38
    generalize H1 = H at hP hS ⊢
    have hw : (r_41 = 0 ∨ r_41 = 1) := hw
    have hw_47 := hw
    refine lv_if_eq (tgt := 39) hx hb dX9_isOrMisses_32 (by decide) (fun c_48 => ?_) (fun c_48 => ?_)
    ·
      refine lv_iconst (v := 0) hx hb dX9_isOrMisses_39 (by decide) ?_
      refine W.widen (k := 0) (n := 0) (by omega) (by omega) ?_
      exact W.zret (v := 0) (ty := .boolean) hx hb hr (by decide) (fun t ht hWm => ⟨⟨0, (), rfl, (by first | exact Or.inl rfl | exact Or.inr rfl), ⟨F_42, QT.mk ht hP hD hO hR⟩⟩, hS.F ht⟩) hS.2.2 dX9_isOrMisses_40
    ·
      refine lv_iconst (v := 1) hx hb dX9_isOrMisses_35 (by decide) ?_
      refine lv_goto (tgt := 40) hx hb dX9_isOrMisses_36 (by decide) ?_
      refine W.widen (k := 0) (n := 0) (by omega) (by omega) ?_
      exact W.zret (v := 1) (ty := .boolean) hx hb hr (by decide) (fun t ht hWm => ⟨⟨1, (), rfl, (by first | exact Or.inl rfl | exact Or.inr rfl), ⟨F_42, QT.mk ht hP hD hO hR⟩⟩, hS.F ht⟩) hS.2.2 dX9_isOrMisses_40
