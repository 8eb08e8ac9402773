theorem kt_1120 : Cond.fieldLink RX15 35 "PostGateModel" "out" "[B" ∈ tb := tb_at (i := 1293) (by decide +kernel) (by decide +kernel)
theorem dX15_digest__0 : decode cX15_digest_ 0 = .ok (.aload_n 0, 1) := by decide +kernel
theorem dX15_digest__1 : decode cX15_digest_ 1 = .ok (.invokevirtual 174, 3) := by decide +kernel
theorem dX15_digest__4 : decode cX15_digest_ 4 = .ok (.istore_n 1, 1) := by decide +kernel
theorem dX15_digest__5 : decode cX15_digest_ 5 = .ok (.aload_n 0, 1) := by decide +kernel
theorem dX15_digest__6 : decode cX15_digest_ 6 = .ok (.aload_n 0, 1) := by decide +kernel
theorem dX15_digest__7 : decode cX15_digest_ 7 = .ok (.getfield 31, 3) := by decide +kernel
theorem dX15_digest__10 : decode cX15_digest_ 10 = .ok (.iload_n 1, 1) := by decide +kernel
theorem dX15_digest__11 : decode cX15_digest_ 11 = .ok (.aload_n 0, 1) := by decide +kernel
theorem dX15_digest__12 : decode cX15_digest_ 12 = .ok (.getfield 129, 3) := by decide +kernel
theorem dX15_digest__15 : decode cX15_digest_ 15 = .ok (.invokevirtual 519, 3) := by decide +kernel
theorem dX15_digest__18 : decode cX15_digest_ 18 = .ok (.aload_n 0, 1) := by decide +kernel
theorem dX15_digest__19 : decode cX15_digest_ 19 = .ok (.getfield 129, 3) := by decide +kernel
theorem dX15_digest__22 : decode cX15_digest_ 22 = .ok (.iconst 0, 1) := by decide +kernel
theorem dX15_digest__23 : decode cX15_digest_ 23 = .ok (.aload_n 0, 1) := by decide +kernel
theorem dX15_digest__24 : decode cX15_digest_ 24 = .ok (.getfield 35, 3) := by decide +kernel
theorem dX15_digest__27 : decode cX15_digest_ 27 = .ok (.iconst 0, 1) := by decide +kernel
theorem dX15_digest__28 : decode cX15_digest_ 28 = .ok (.bipush 32, 2) := by decide +kernel
theorem dX15_digest__30 : decode cX15_digest_ 30 = .ok (.invokestatic 358, 3) := by decide +kernel
theorem dX15_digest__33 : decode cX15_digest_ 33 = .ok (.aload_n 0, 1) := by decide +kernel
theorem dX15_digest__34 : decode cX15_digest_ 34 = .ok (.bipush 32, 2) := by decide +kernel
theorem dX15_digest__36 : decode cX15_digest_ 36 = .ok (.putfield 385, 3) := by decide +kernel
theorem dX15_digest__39 : decode cX15_digest_ 39 = .ok (.bipush 32, 2) := by decide +kernel
theorem dX15_digest__41 : decode cX15_digest_ 41 = .ok (.ireturn, 1) := by decide +kernel
theorem dX15_house_0 : decode cX15_house 0 = .ok (.aload_n 0, 1) := by decide +kernel
theorem dX15_house_1 : decode cX15_house 1 = .ok (.invokevirtual 174, 3) := by decide +kernel
theorem dX15_house_4 : decode cX15_house 4 = .ok (.istore_n 1, 1) := by decide +kernel
theorem dX15_house_5 : decode cX15_house 5 = .ok (.aload_n 0, 1) := by decide +kernel
theorem dX15_house_6 : decode cX15_house 6 = .ok (.getfield 31, 3) := by decide +kernel
theorem dX15_house_9 : decode cX15_house 9 = .ok (.iconst 0, 1) := by decide +kernel
theorem dX15_house_10 : decode cX15_house 10 = .ok (.iload_n 1, 1) := by decide +kernel
theorem dX15_house_11 : decode cX15_house 11 = .ok (.invokestatic 182, 3) := by decide +kernel
theorem dX15_house_14 : decode cX15_house 14 = .ok (.ifCond .ne 5, 3) := by decide +kernel
theorem dX15_house_17 : decode cX15_house 17 = .ok (.iconst (-1), 1) := by decide +kernel
theorem dX15_house_18 : decode cX15_house 18 = .ok (.ireturn, 1) := by decide +kernel
theorem dX15_house_19 : decode cX15_house 19 = .ok (.aload_n 0, 1) := by decide +kernel
theorem dX15_house_20 : decode cX15_house 20 = .ok (.getfield 157, 3) := by decide +kernel
theorem dX15_house_23 : decode cX15_house 23 = .ok (.aload_n 0, 1) := by decide +kernel
theorem dX15_house_24 : decode cX15_house 24 = .ok (.getfield 31, 3) := by decide +kernel
theorem dX15_house_27 : decode cX15_house 27 = .ok (.iconst 0, 1) := by decide +kernel
theorem dX15_house_28 : decode cX15_house 28 = .ok (.iload_n 1, 1) := by decide +kernel
theorem dX15_house_29 : decode cX15_house 29 = .ok (.invokevirtual 186, 3) := by decide +kernel
theorem dX15_house_32 : decode cX15_house 32 = .ok (.aload_n 0, 1) := by decide +kernel
theorem dX15_house_33 : decode cX15_house 33 = .ok (.aload_n 0, 1) := by decide +kernel
theorem dX15_house_34 : decode cX15_house 34 = .ok (.getfield 157, 3) := by decide +kernel
theorem dX15_house_37 : decode cX15_house 37 = .ok (.aload_n 0, 1) := by decide +kernel
theorem dX15_house_38 : decode cX15_house 38 = .ok (.getfield 160, 3) := by decide +kernel
theorem dX15_house_41 : decode cX15_house 41 = .ok (.invokevirtual 565, 3) := by decide +kernel
theorem dX15_house_44 : decode cX15_house 44 = .ok (.aload_n 0, 1) := by decide +kernel
theorem dX15_house_45 : decode cX15_house 45 = .ok (.aload_n 0, 1) := by decide +kernel
theorem dX15_house_46 : decode cX15_house 46 = .ok (.getfield 160, 3) := by decide +kernel
theorem dX15_house_49 : decode cX15_house 49 = .ok (.invokevirtual 392, 3) := by decide +kernel
theorem dX15_house_52 : decode cX15_house 52 = .ok (.ireturn, 1) := by decide +kernel
theorem dX15_octet_0 : decode cX15_octet 0 = .ok (.iload_n 1, 1) := by decide +kernel
theorem dX15_octet_1 : decode cX15_octet 1 = .ok (.i2l, 1) := by decide +kernel
theorem dX15_octet_2 : decode cX15_octet 2 = .ok (.ldc2_w 603, 3) := by decide +kernel
theorem dX15_octet_5 : decode cX15_octet 5 = .ok (.aload_n 0, 1) := by decide +kernel
theorem dX15_octet_6 : decode cX15_octet 6 = .ok (.getfield 385, 3) := by decide +kernel
theorem dX15_octet_9 : decode cX15_octet 9 = .ok (.iconst 1, 1) := by decide +kernel
theorem dX15_octet_10 : decode cX15_octet 10 = .ok (.isub, 1) := by decide +kernel
theorem dX15_octet_11 : decode cX15_octet 11 = .ok (.i2l, 1) := by decide +kernel
theorem dX15_octet_12 : decode cX15_octet 12 = .ok (.invokestatic 170, 3) := by decide +kernel
theorem dX15_octet_15 : decode cX15_octet 15 = .ok (.ifCond .ne 6, 3) := by decide +kernel
theorem dX15_octet_18 : decode cX15_octet 18 = .ok (.bipush (-2), 2) := by decide +kernel
theorem dX15_octet_20 : decode cX15_octet 20 = .ok (.ireturn, 1) := by decide +kernel
theorem dX15_octet_21 : decode cX15_octet 21 = .ok (.iload_n 1, 1) := by decide +kernel
theorem dX15_octet_22 : decode cX15_octet 22 = .ok (.ifCond .ge 10, 3) := by decide +kernel
theorem dX15_octet_25 : decode cX15_octet 25 = .ok (.aload_n 0, 1) := by decide +kernel
theorem dX15_octet_26 : decode cX15_octet 26 = .ok (.getfield 385, 3) := by decide +kernel
theorem dX15_octet_29 : decode cX15_octet 29 = .ok (.goto 13, 3) := by decide +kernel
theorem dX15_octet_32 : decode cX15_octet 32 = .ok (.aload_n 0, 1) := by decide +kernel
theorem dX15_octet_33 : decode cX15_octet 33 = .ok (.getfield 35, 3) := by decide +kernel
theorem dX15_octet_36 : decode cX15_octet 36 = .ok (.iload_n 1, 1) := by decide +kernel
theorem dX15_octet_37 : decode cX15_octet 37 = .ok (.baload, 1) := by decide +kernel
theorem dX15_octet_38 : decode cX15_octet 38 = .ok (.sipush 255, 3) := by decide +kernel
theorem dX15_octet_41 : decode cX15_octet 41 = .ok (.iand, 1) := by decide +kernel
theorem dX15_octet_42 : decode cX15_octet 42 = .ok (.ireturn, 1) := by decide +kernel
theorem dX15_plainBody_0 : decode cX15_plainBody 0 = .ok (.aload_n 0, 1) := by decide +kernel
theorem dX15_plainBody_1 : decode cX15_plainBody 1 = .ok (.getfield 370, 3) := by decide +kernel
theorem dX15_plainBody_4 : decode cX15_plainBody 4 = .ok (.ifCond .ne 6, 3) := by decide +kernel
theorem dX15_plainBody_7 : decode cX15_plainBody 7 = .ok (.bipush (-2), 2) := by decide +kernel
theorem dX15_plainBody_9 : decode cX15_plainBody 9 = .ok (.ireturn, 1) := by decide +kernel
theorem dX15_plainBody_10 : decode cX15_plainBody 10 = .ok (.aload_n 0, 1) := by decide +kernel
theorem dX15_plainBody_11 : decode cX15_plainBody 11 = .ok (.iload_n 1, 1) := by decide +kernel
theorem dX15_plainBody_12 : decode cX15_plainBody 12 = .ok (.invokevirtual 388, 3) := by decide +kernel
theorem dX15_plainBody_15 : decode cX15_plainBody 15 = .ok (.aload_n 0, 1) := by decide +kernel
theorem dX15_plainBody_16 : decode cX15_plainBody 16 = .ok (.aload_n 0, 1) := by decide +kernel
theorem dX15_plainBody_17 : decode cX15_plainBody 17 = .ok (.getfield 91, 3) := by decide +kernel
theorem dX15_plainBody_20 : decode cX15_plainBody 20 = .ok (.invokevirtual 392, 3) := by decide +kernel
theorem dX15_plainBody_23 : decode cX15_plainBody 23 = .ok (.ireturn, 1) := by decide +kernel
theorem dX15_plainField_0 : decode cX15_plainField 0 = .ok (.aload_n 0, 1) := by decide +kernel
theorem dX15_plainField_1 : decode cX15_plainField 1 = .ok (.getfield 370, 3) := by decide +kernel
theorem dX15_plainField_4 : decode cX15_plainField 4 = .ok (.ifCond .eq 19, 3) := by decide +kernel
theorem dX15_plainField_7 : decode cX15_plainField 7 = .ok (.iload_n 1, 1) := by decide +kernel
theorem dX15_plainField_8 : decode cX15_plainField 8 = .ok (.i2l, 1) := by decide +kernel
theorem dX15_plainField_9 : decode cX15_plainField 9 = .ok (.lconst 0, 1) := by decide +kernel
theorem dX15_plainField_10 : decode cX15_plainField 10 = .ok (.aload_n 0, 1) := by decide +kernel
theorem dX15_plainField_11 : decode cX15_plainField 11 = .ok (.getfield 355, 3) := by decide +kernel
theorem dX15_plainField_14 : decode cX15_plainField 14 = .ok (.iconst 1, 1) := by decide +kernel
theorem dX15_plainField_15 : decode cX15_plainField 15 = .ok (.isub, 1) := by decide +kernel
theorem dX15_plainField_16 : decode cX15_plainField 16 = .ok (.i2l, 1) := by decide +kernel
theorem dX15_plainField_17 : decode cX15_plainField 17 = .ok (.invokestatic 170, 3) := by decide +kernel
theorem dX15_plainField_20 : decode cX15_plainField 20 = .ok (.ifCond .ne 6, 3) := by decide +kernel
theorem dX15_plainField_23 : decode cX15_plainField 23 = .ok (.bipush (-2), 2) := by decide +kernel
theorem dX15_plainField_25 : decode cX15_plainField 25 = .ok (.ireturn, 1) := by decide +kernel
theorem dX15_plainField_26 : decode cX15_plainField 26 = .ok (.aload_n 0, 1) := by decide +kernel
theorem dX15_plainField_27 : decode cX15_plainField 27 = .ok (.getfield 91, 3) := by decide +kernel
theorem dX15_plainField_30 : decode cX15_plainField 30 = .ok (.iconst 0, 1) := by decide +kernel
theorem dX15_plainField_31 : decode cX15_plainField 31 = .ok (.putfield 190, 3) := by decide +kernel
theorem dX15_plainField_34 : decode cX15_plainField 34 = .ok (.aload_n 0, 1) := by decide +kernel
theorem dX15_plainField_35 : decode cX15_plainField 35 = .ok (.iload_n 1, 1) := by decide +kernel
theorem dX15_plainField_36 : decode cX15_plainField 36 = .ok (.iload_n 2, 1) := by decide +kernel
theorem dX15_plainField_37 : decode cX15_plainField 37 = .ok (.iconst 0, 1) := by decide +kernel
theorem dX15_plainField_38 : decode cX15_plainField 38 = .ok (.iconst 0, 1) := by decide +kernel
theorem dX15_plainField_39 : decode cX15_plainField 39 = .ok (.invokevirtual 395, 3) := by decide +kernel
theorem dX15_plainField_42 : decode cX15_plainField 42 = .ok (.aload_n 0, 1) := by decide +kernel
theorem dX15_plainField_43 : decode cX15_plainField 43 = .ok (.aload_n 0, 1) := by decide +kernel
theorem dX15_plainField_44 : decode cX15_plainField 44 = .ok (.getfield 91, 3) := by decide +kernel
theorem dX15_plainField_47 : decode cX15_plainField 47 = .ok (.invokevirtual 392, 3) := by decide +kernel
theorem dX15_plainField_50 : decode cX15_plainField 50 = .ok (.ireturn, 1) := by decide +kernel
theorem dX15_tell_0 : decode cX15_tell 0 = .ok (.aload_n 1, 1) := by decide +kernel
theorem dX15_tell_1 : decode cX15_tell 1 = .ok (.getfield 295, 3) := by decide +kernel
theorem dX15_tell_4 : decode cX15_tell 4 = .ok (.iconst 0, 1) := by decide +kernel
theorem dX15_tell_5 : decode cX15_tell 5 = .ok (.aload_n 0, 1) := by decide +kernel
theorem dX15_tell_6 : decode cX15_tell 6 = .ok (.getfield 35, 3) := by decide +kernel
theorem dX15_tell_9 : decode cX15_tell 9 = .ok (.iconst 0, 1) := by decide +kernel
theorem dX15_tell_10 : decode cX15_tell 10 = .ok (.aload_n 1, 1) := by decide +kernel
theorem dX15_tell_11 : decode cX15_tell 11 = .ok (.getfield 190, 3) := by decide +kernel
theorem dX15_tell_14 : decode cX15_tell 14 = .ok (.invokestatic 358, 3) := by decide +kernel
theorem dX15_tell_17 : decode cX15_tell 17 = .ok (.aload_n 0, 1) := by decide +kernel
theorem dX15_tell_18 : decode cX15_tell 18 = .ok (.aload_n 1, 1) := by decide +kernel
theorem dX15_tell_19 : decode cX15_tell 19 = .ok (.getfield 190, 3) := by decide +kernel
theorem dX15_tell_22 : decode cX15_tell 22 = .ok (.putfield 385, 3) := by decide +kernel
theorem dX15_tell_25 : decode cX15_tell 25 = .ok (.aload_n 1, 1) := by decide +kernel
theorem dX15_tell_26 : decode cX15_tell 26 = .ok (.getfield 190, 3) := by decide +kernel
theorem dX15_tell_29 : decode cX15_tell 29 = .ok (.ireturn, 1) := by decide +kernel
theorem kt_1139 : Cond.fieldLink RX15 385 "PostGateModel" "outMany" "I" ∈ tb := tb_at (i := 1291) (by decide +kernel) (by decide +kernel)
theorem kt_1140 : Cond.code yX15_tell cX15_tell 2 (some .int) ∈ tb := tb_at (i := 1674) (by decide +kernel) (by decide +kernel)
theorem kt_1141 : Cond.methodLink RX15 392 yX15_tell ∈ tb := tb_at (i := 1671) (by decide +kernel) (by decide +kernel)
theorem kt_1142 : Cond.instanceMethod yX15_tell ∈ tb := tb_at (i := 1673) (by decide +kernel) (by decide +kernel)
theorem kt_1143 : Cond.selects RX15 yX15_tell yX15_tell ∈ tb := tb_at (i := 58) (by decide +kernel) (by decide +kernel)
theorem kt_1144 : Cond.constantLong RX15 603 (-1) ∈ tb := tb_at (i := 1898) (by decide +kernel) (by decide +kernel)
def OUTM (f g : Nat → Int32) (w : List (Nat × Nat)) : Prop := ∀ (j : Nat) (y : Nat × Nat), w[j]? = some y → g j = nb8 (evs f y)
theorem OUTM.nil {f g : Nat → Int32} : OUTM f g [] := fun j y h => by
  rw [List.getElem?_nil] at h
  cases h
theorem OUTM.add {f g g2 : Nat → Int32} {w : List (Nat × Nat)} {y : Nat × Nat} {x : Int32} {n : Nat} (h : OUTM f g w) (he : g2 = upd g n (nb8 x)) (hn : n = w.length) (hx : x = evs f y) : OUTM f g2 (w ++ [y]) := by
  subst hn
  intro j y9 hj
  rw [he]
  rcases Nat.lt_trichotomy j w.length with c | c | c
  · rw [List.getElem?_append_left c] at hj
    rw [upd_no (by omega)]
    exact h j y9 hj
  · rw [c, List.getElem?_append_right (Nat.le_refl _), Nat.sub_self] at hj
    have e : y = y9 := Option.some.inj hj
    rw [c, upd_at, hx, e]
  · rw [List.getElem?_append_right (by omega), List.getElem?_eq_none (by show 1 ≤ _; omega)] at hj
    cases hj
theorem OUTM.rs {f g g2 : Nat → Int32} {k b i n : Nat} {x : Int32} (h : OUTM f g (rng k b (i - b))) (hb : b ≤ i) (he : g2 = upd g n (nb8 x)) (hn : n = i - b) (hx : x = evs f (k, i)) : OUTM f g2 (rng k b (i + 1 - b)) := by
  have e := OUTM.add h (y := (k, b + (i - b))) (x := x) he (by rw [rng_len]; exact hn) (by rw [show b + (i - b) = i by omega]; exact hx)
  rw [show i + 1 - b = i - b + 1 by omega, rng_s]
  exact e
set_option maxHeartbeats 4000000 in
set_option maxRecDepth 100000 in
theorem s_X14_add_c (l : Launch) (dC : Nat → ClassId) (dI : Nat → Nat → Nat) (cs : Nat → ClassId) (ty : TyM) (gm : Nat → Nat → Nat) (L : List Nat) (sz : Nat) (F : Nat → va_E) (h0 : Nat) (ρ : Nat) (r0 : Nat) (n : Nat) (z : Nat) (x1 : Int32) (fq : Nat → Int32) (hW : WTm ty gm L) (hL_h0 : h0 ∈ L) (hT_h0 : ty h0 = (14, ρ, [r0, n])) (hF0 : F h0 = .inr (14, [.ref r0, .int (nI z)])) (hFr : F r0 = .inl (cs 17, n, .inl fq)) (hz : z < n) : Met l yX14_add (.code yX14_add cX14_add 2 none :: tb) ({ frames := 0, cells := 0, slots := 0, locals := 0 }) (va_Pc [.ref h0, .int x1] (PTm (dC, dI) cs ty gm L F sz)) (va_Qv (fun _ : Unit => True) (fun _ T9 => ∃ F2 : Nat → va_E, ∃ f2 : Nat → Int32, QTm (dC, dI) cs ty gm L [ρ] F F2 (va_A (va_pl L F) sz) T9 ∧ F2 h0 = .inr (14, [.ref r0, .int (nI (z + 1))]) ∧ F2 r0 = .inl (cs 17, n, .inl f2) ∧ f2 = upd fq z (nb8 x1)) (va_A (va_pl L F) sz)) 0 0 (va_A (va_pl L F) sz) := by
  refine Met.ofW (cc := cX14_add) (maxL := 2) (ret := none) (by decide) rfl ?_
  intro p e s m args below meth c s₁ B hml hv
  obtain ⟨rfl, hsz, hP, hK, hD0, hE, hO⟩ := hv
  have hx := B.exec
  have hb := B.bytes
  have hr := B.returns
  have hts : ∀ w ∈ tb, w.before _ s = true := fun w h => atoms_spec (ws := .code yX14_add cX14_add 2 none :: tb) B.pre w (List.mem_cons_of_mem _ h)
  have hown : s.vm.findClass RX14 = some m.cls := findClass_of_methodNamed B.named
  have hlocks := B.notSynchronized
  subst hsz
  have hD := hD0.self (sz := s.heap.size)
  generalize hAe : va_A (va_pl L F) s.heap.size = A at hD ⊢
  have hA : ∀ q : Nat, s.heap.size ≤ q → A q := fun q h => by rw [← hAe]; exact Or.inr h
  have hS : va_S A s.heap s.heap [] := va_S.rf
  have hR : FR ty [ρ] F F := FR.refl
  have hl := lv_entry ([.ref h0, .int x1]) (n := 2) (Nat.le_of_ble_eq_true rfl)
  rw [lg_entry_eq]
  generalize (lg_sl ([.ref h0, .int x1]) ++ List.replicate (2 - (lg_sl ([.ref h0, .int x1])).length) Slot.unset).toArray = ls at hl ⊢
  have hl : lv_has ls 2 [(0, .ref h0), (1, .int x1)] := hl
  obtain ⟨hi_1, ht_2, hq_3⟩ := hW.txt hL_h0 hT_h0
  have hBF := bfmo hFr (hO.octs hi_1 ht_2)
  refine lv_aload_n hx hb dX14_add_0 rfl (lv_at hl 0 rfl) ?_
  refine pg_get (ci := 14) (v := .ref r0) (C := RX14) (T := TX14) (N := 2) hx hb hts it_14 hown hK hP hL_h0 hF0 rfl 0 (by decide) (hts _ kt_672) (fun _ h9 => h9) rfl dX14_add_1 ?_
  refine lv_aload_n hx hb dX14_add_4 rfl (lv_at hl 0 rfl) ?_
  refine pg_get (ci := 14) (v := .int (nI z)) (C := RX14) (T := TX14) (N := 2) hx hb hts it_14 hown hK hP hL_h0 hF0 rfl 1 (by decide) (hts _ kt_673) (fun _ h9 => h9) rfl dX14_add_5 ?_
  refine lv_iload_n hx hb dX14_add_8 rfl (lv_at hl 1 rfl) ?_
  refine lv_i2b hx hb dX14_add_9 rfl ?_
  refine lv_topi (fun x_4 ex_4 => ?_)
  obtain rfl : x_4 = (x1.toInt8.toInt32) := ex_4.trans (rfl)
  obtain ⟨hq_5, hq_6⟩ := hW.octs hi_1 ht_2
  refine pg_bast hx hb hK hP hD hS hi_1 1 hFr rfl (vp_in_nI (by omega) (by omega)) dX14_add_10 (fun H locs hP hD hS => ?_)
  obtain ⟨F_7, he_8, hP, hD, hO, hR⟩ : ∃ G, G = va_up F r0 (.inl (cs 17, n, .inl (upd fq ((nI z)).toNatClampNeg (vp_nar .byte ((x1.toInt8.toInt32)))))) ∧ va_P (dC, dI) vwCl (va_pl L G) H ∧ va_D A (va_pl L G) ∧ OKm cs ty gm L G ∧ FR ty [ρ] F G := ⟨_, rfl, hP, hD, hO.up (shm.octs ht_2 ⟨_, rfl, bfm_upd hBF _ _⟩), hR.up ht_2 (by simp)⟩
  have hF_9 : F_7 r0 = .inl (cs 17, n, .inl (upd fq ((nI z)).toNatClampNeg (vp_nar .byte ((x1.toInt8.toInt32))))) := by rw [he_8]; exact up_self
  have hF_10 : F_7 h0 = .inr (14, [.ref r0, .int (nI z)]) := by rw [he_8, up_ne (ne_ty hT_h0 ht_2 (by simp))]; exact hF0
  obtain ⟨f_11, hF_9, hq_12, hfe_13⟩ : ∃ f : Nat → Int32, F_7 r0 = .inl (cs 17, n, .inl f) ∧ BFm f ∧ f = upd fq ((nI z)).toNatClampNeg (vp_nar .byte ((x1.toInt8.toInt32))) := ⟨_, hF_9, bfm_upd hBF _ _, rfl⟩
  refine lv_aload_n hx hb dX14_add_11 rfl (lv_at hl 0 rfl) ?_
  refine lv_dup hx hb dX14_add_12 rfl ?_
  refine pg_get (ci := 14) (v := .int (nI z)) (C := RX14) (T := TX14) (N := 2) hx hb hts it_14 hown hK hP hL_h0 hF_10 rfl 1 (by decide) (hts _ kt_673) (fun _ h9 => h9) rfl dX14_add_13 ?_
  refine lv_iconst (v := 1) hx hb dX14_add_16 (by decide) ?_
  refine lv_iadd hx hb dX14_add_17 ?_
  refine lv_topi (fun x_14 ex_14 => ?_)
  obtain rfl : x_14 = (nI (z + 1)) := ex_14.trans (nI_add z 1)
  refine pg_put (ci := 14) (v := .int (nI (z + 1))) (ty := .int) (C := RX14) (T := TX14) (N := 2) hx hb hts it_14 tyX14 tyX14_ok nmX14 hown hK hP hD hS hL_h0 hF_10 rfl 1 (by decide) (hts _ kt_673) (fun _ h9 => h9) rfl (by decide +kernel) (rfl) (rfl) (Nat.le_of_ble_eq_true rfl) dX14_add_18 (fun H locs hP hD hS => ?_)
  obtain ⟨F_15, he_16, hP, hD, hO, hR⟩ : ∃ G, G = va_up F_7 h0 (.inr (14, [.ref r0, .int (nI (z + 1))])) ∧ va_P (dC, dI) vwCl (va_pl L G) H ∧ va_D A (va_pl L G) ∧ OKm cs ty gm L G ∧ FR ty [ρ] F G := ⟨_, rfl, hP, hD, hO.up (shm.txt hT_h0 ⟨(z + 1), rfl, (by first | omega | assumption | exact Or.inl rfl | exact Or.inr rfl)⟩), hR.up hT_h0 (by simp)⟩
  have hF_17 : F_15 h0 = .inr (14, [.ref r0, .int (nI (z + 1))]) := by rw [he_16]; exact up_self
  have hF_18 : F_15 r0 = .inl (cs 17, n, .inl f_11) := by rw [he_16, up_ne (ne_ty ht_2 hT_h0 (by simp))]; exact hF_9
  refine W.widen (k := 0) (n := 0) (by omega) (by omega) ?_
  exact W.vret hx hb hr (fun t ht hWm => ⟨⟨(), rfl, trivial, ⟨F_15, f_11, QTm.mk ht hP hD hO hR, hF_17, hF_18, (hfe_13.trans (by rw [nI_clamp (by omega)]; rfl))⟩⟩, hS.F ht⟩) hS.2.2 dX14_add_21
set_option maxHeartbeats 4000000 in
set_option maxRecDepth 100000 in
theorem s_X15_fieldPlain_c (l : Launch) (dC : Nat → ClassId) (dI : Nat → Nat → Nat) (cs : Nat → ClassId) (ty : TyM) (gm : Nat → Nat → Nat) (L : List Nat) (sz : Nat) (F : Nat → va_E) (h0 : Nat) (ρ : Nat) (ta : Nat) (ou : Nat) (so : Nat) (ad : Nat) (na : Nat) (va : Nat) (lc : Nat) (dm : Nat) (tg : Nat) (pe : Nat) (ml : Nat) (bg : Nat) (co : Nat) (sp : Nat) (nb0 : Nat) (nb1 : Nat) (nb2 : Nat) (pl : Nat) (se : Nat) (ke : Nat) (wi : Nat) (hs : Nat) (mo : Nat) (po : Nat) (nu : Nat) (pr : Nat) (sq : Nat) (xa : Nat) (sa : Nat) (n64 : Nat) (m64 : Nat) (ex : Nat) (wh : Nat) (sd : Nat) (tk : Nat) (hd : Nat) (ak : Nat) (ho : Nat) (ot : Nat) (sx : Nat) (s0 : Nat) (s1 : Nat) (s2 : Nat) (nf : Nat) (bd : Nat) (mm : Nat) (zo : Nat) (fm : Nat) (sn : Nat) (hg : Nat) (gc : Nat) (gv : Nat) (ze : Nat) (zt : Nat) (rl : Nat) (jf : Nat) (kd : Nat) (gl : Nat → Int32) (x2 : Int32) (hW : WTm ty gm L) (hL_h0 : h0 ∈ L) (hT_h0 : ty h0 = (15, ρ, [ta, ou, so, ad, na, va, lc, dm, tg, pe, ml, bg, co, sp, nb0, nb1, nb2, pl, se, ke, wi, hs, mo, po, nu, pr, sq, xa, sa, n64, m64, ex, wh, sd, tk, hd, ak, ho, ot, sx, s0, s1, s2, nf, bd, mm, zo, fm, sn, hg, gc, gv, ze, zt])) (hL_pl : pl ∈ L) (hT_pl : ty pl = (14, ρ + 10, [rl, 6000])) (hFml : F ml = .inl (cs 17, 3000, .inl gl)) (hjf : jf < nf) (hst : gm 2 jf = min mm (kd + 1)) (hcd : gm 1 jf < kd) (hdm : kd ≤ mm) (hek : EOK (clr gl) mm kd) (hFl : F pl = .inr (14, [.ref rl, .int (nI 0)])) : Met l yX15_fieldPlain (.code yX15_fieldPlain cX15_fieldPlain 9 none :: tb) ({ frames := 1, cells := 0, slots := 0, locals := 21 }) (va_Pc [.ref h0, .int (nI jf), .int x2, .int 0, .int 0] (PTm (dC, dI) cs ty gm L F sz)) (va_Qv (fun _ : Unit => True) (fun _ T9 => ∃ F2 : Nat → va_E, ∃ f2 : Nat → Int32, QTm (dC, dI) cs ty gm L [ρ + 10] F F2 (va_A (va_pl L F) sz) T9 ∧ F2 pl = .inr (14, [.ref rl, .int (nI (FPL (clr gl) x2 (gm 0 jf) (gm 1 jf) kd).length)]) ∧ F2 rl = .inl (cs 17, 6000, .inl f2) ∧ OUTM gl f2 (FPL (clr gl) x2 (gm 0 jf) (gm 1 jf) kd)) (va_A (va_pl L F) sz)) 0 0 (va_A (va_pl L F) sz) := by
  refine Met.ofW (cc := cX15_fieldPlain) (maxL := 9) (ret := none) (by decide) rfl ?_
  intro p e s m args below meth c s₁ B hml hv
  obtain ⟨rfl, hsz, hP, hK, hD0, hE, hO⟩ := hv
  have hx := B.exec
  have hb := B.bytes
  have hr := B.returns
  have hts : ∀ w ∈ tb, w.before _ s = true := fun w h => atoms_spec (ws := .code yX15_fieldPlain cX15_fieldPlain 9 none :: tb) B.pre w (List.mem_cons_of_mem _ h)
  have hown : s.vm.findClass RX15 = some m.cls := findClass_of_methodNamed B.named
  have hlocks := B.notSynchronized
  subst hsz
  have hD := hD0.self (sz := s.heap.size)
  generalize hAe : va_A (va_pl L F) s.heap.size = A at hD ⊢
  have hA : ∀ q : Nat, s.heap.size ≤ q → A q := fun q h => by rw [← hAe]; exact Or.inr h
  have hS : va_S A s.heap s.heap [] := va_S.rf
  have hR : FR ty [ρ + 10] F F := FR.refl
  have hl := lv_entry ([.ref h0, .int (nI jf), .int x2, .int 0, .int 0]) (n := 9) (Nat.le_of_ble_eq_true rfl)
  rw [lg_entry_eq]
  generalize (lg_sl ([.ref h0, .int (nI jf), .int x2, .int 0, .int 0]) ++ List.replicate (9 - (lg_sl ([.ref h0, .int (nI jf), .int x2, .int 0, .int 0])).length) Slot.unset).toArray = ls at hl ⊢
  have hl : lv_has ls 9 [(0, .ref h0), (1, .int (nI jf)), (2, .int x2), (3, .int 0), (4, .int 0)] := hl
  obtain ⟨hq_22, hq_23, hq_24, hq_25, hq_26, hgO, hgA, hgB, hq_27⟩ := hW.sc hL_h0 hT_h0
  have hoj := hgO jf hjf
  obtain ⟨hi_28, ht_29, hq_30⟩ := hW.txt hL_pl hT_pl
  obtain ⟨hq_31, hq_32⟩ := hW.octs hi_28 ht_29
  obtain ⟨f_33, hF_34, hq_35⟩ := hO.octs hi_28 ht_29
  refine lv_aload_n hx hb dX15_fieldPlain_0 rfl (lv_at hl 0 rfl) ?_
  refine lv_iload_n hx hb dX15_fieldPlain_1 rfl (lv_at hl 1 rfl) ?_
  obtain ⟨hi_36, ht_37⟩ := hW.f_ml hL_h0 hT_h0
  obtain ⟨hq_38, hq_39⟩ := hW.octs hi_36 ht_37
  have hFc := pg_free hD hS hA
  obtain ⟨v14_40, v15_41, v17_42, v18_43, v19_44, v20_45, v21_46, v22_47, v33_48, v52_49, v53_50, v54_51, hF_52, hq_53, hq_54, hq_55, hq_56, hq_57⟩ := hO.mod hL_h0 hT_h0
  refine va_calli (va_runV (As := [.int (nI jf)]) (rest := []) ⟨hx, hb, hml, hown, hts⟩ (s_X15_valueEnd_e l dC dI cs ty gm L s.heap.size F h0 ρ ta ou so ad na va lc dm tg pe ml bg co sp nb0 nb1 nb2 pl se ke wi hs mo po nu pr sq xa sa n64 m64 ex wh sd tk hd ak ho ot sx s0 s1 s2 nf bd mm zo fm sn hg gc gv ze zt jf kd gl hW hL_h0 hT_h0 hFml (by first | omega | assumption | exact Or.inl rfl) (by first | omega | assumption | exact Or.inl rfl) (by first | omega | assumption | exact Or.inl rfl) (by first | omega | assumption | exact Or.inl rfl) (by first | omega | assumption | exact Or.inl rfl)) ⟨callB_of 1 hts (gi kt_897) rfl rfl rfl (hts _ kt_669) (hts _ kt_898) (by decide +kernel) ⟨Nat.le_of_ble_eq_true rfl, Nat.le_of_ble_eq_true rfl⟩, (hts _ kt_899), (hts _ kt_900)⟩ ⟨fun a U g mk q => ⟨q.1, PTm.calling q.2⟩, pg_recv hK hP hL_h0 hF_52 (q := (RX15, TX15, 59)) rfl, fun U hU hWm => ⟨rfl, PTm.mk hU hWm hP hK hD hE hO⟩⟩ rfl rfl hl.1 rfl (lv_room (Nat.le_of_ble_eq_true rfl)) dX15_fieldPlain_2 ⟨by show _ + 0 ≤ 0; omega, by show _ + 0 ≤ 0; omega⟩) hS (fun q _ h => hFc q h) hFc (fun r_58 u t H1 locs ht hvm hw hB hz1 hk1 hS => ?_)
  obtain ⟨F_59, hB1⟩ := hB
  obtain rfl : F = F_59 := (funext (fun a => hB1.2.2.2 a List.not_mem_nil)).symm
  obtain ⟨hP, hD, hO, hR⟩ := QTm.back hB1 ht hFc hR (fun q h => absurd h List.not_mem_nil)
  generalize H1 = H at hP hS ⊢
  have hw : r_58 = nI kd := hw
  subst hw
  refine lv_istore (lv' := [(5, .int (nI kd)), (0, .ref h0), (1, .int (nI jf)), (2, .int x2), (3, .int 0), (4, .int 0)]) hx hb dX15_fieldPlain_5 hl (by decide) rfl (fun ls hl => ?_)
  refine lv_iload_n hx hb dX15_fieldPlain_7 rfl (lv_at hl 3 rfl) ?_
  refine lv_if_ne (tgt := 60) hx hb dX15_fieldPlain_8 (by decide) (fun c_60 => ?_) (fun c_60 => ?_)
  ·
    refine lv_aload_n hx hb dX15_fieldPlain_60 rfl (lv_at hl 1 rfl) ?_
    refine pg_get (ci := 15) (v := .ref bg) (C := RX15) (T := TX15) (N := 59) hx hb hts it_15 hown hK hP hL_h0 hF_52 rfl 24 (by decide) (hts _ kt_888) (fun _ h9 => h9) rfl dX15_fieldPlain_61 ?_
    refine lv_iload_n hx hb dX15_fieldPlain_64 rfl (lv_at hl 2 rfl) ?_
    obtain ⟨hi_61, ht_62⟩ := hW.f_bg hL_h0 hT_h0
    obtain ⟨f_63, hF_64, hq_65⟩ := hO.pos hi_61 ht_62
    refine pg_iald hx hb hK hP hi_61 0 hF_64 rfl (vp_in_nI (by omega) (by omega)) dX15_fieldPlain_65 ?_
    refine lv_topi (fun x_66 ex_66 => ?_)
    obtain rfl : x_66 = (nI (gm 0 jf)) := ex_66.trans (by rw [show ((nI jf) : Int32) = nI jf from rfl, nI_clamp (by omega)]; exact hq_65 jf (by omega))
    have hgbx_66 := hgB 0 jf
    refine lv_istore (lv' := [(6, .int (nI (gm 0 jf))), (5, .int (nI kd)), (0, .ref h0), (1, .int (nI jf)), (2, .int x2), (3, .int 0), (4, .int 0)]) hx hb dX15_fieldPlain_66 hl (by decide) rfl (fun ls hl => ?_)
    refine W.widen (k := 0) (n := 0) (by omega) (by omega) ?_
    have hF_68 : F ml = .inl (cs 17, 3000, .inl gl) := (hR ml (by rw [ht_37]; simp)).symm.trans hFml
    have hF_69 : F h0 = .inr (15, (.ref ta) :: (.int (nI zt)) :: (.int (nI zo)) :: (.int (nI ze)) :: (.ref ou) :: (.ref so) :: (.ref ad) :: (.ref na) :: (.ref va) :: (.ref lc) :: (.ref dm) :: (.int (nI fm)) :: (.int (nI sn)) :: (.ref tg) :: (.int v14_40) :: (.int v15_41) :: (.ref pe) :: (.int v17_42) :: (.int v18_43) :: (.int v19_44) :: (.int v20_45) :: (.int v21_46) :: (.int v22_47) :: (.ref ml) :: (.ref bg) :: (.ref co) :: (.ref sp) :: (.ref nb0) :: (.ref nb1) :: (.ref nb2) :: (.int (nI nf)) :: (.int (nI bd)) :: (.int (nI mm)) :: (.int v33_48) :: (.ref pl) :: (.ref se) :: (.ref ke) :: (.ref wi) :: (.ref hs) :: (.ref mo) :: (.ref po) :: (.ref nu) :: (.ref pr) :: (.ref sq) :: (.ref xa) :: (.ref sa) :: (.ref n64) :: (.ref m64) :: (.ref ex) :: (.ref wh) :: (.ref sd) :: (.ref tk) :: (.int v52_49) :: (.int v53_50) :: (.int v54_51) :: (.ref hd) :: (.ref ak) :: (.ref ho) :: (.ref ot) :: []) := (hR h0 (by rw [hT_h0]; simp)).symm.trans hF_52
    have hF_70 : F bg = .inl (cs 16, 21, .inl f_63) := (hR bg (by rw [ht_62]; simp)).symm.trans hF_64
    refine pl_loopm (σ := Nat) A (dC, dI) cs ty gm L [ρ + 10] F 68 9 (fun j => [(6, .int (nI j)), (5, .int (nI kd)), (0, .ref h0), (1, .int (nI jf)), (2, .int x2), (3, .int 0), (4, .int 0)]) (fun j => []) (fun j FF => ((gm 0 jf ≤ j ∧ j ≤ gm 1 jf) ∧ FF pl = .inr (14, [.ref rl, .int (nI (j - gm 0 jf))])) ∧ ∃ fq : Nat → Int32, FF rl = .inl (cs 17, 6000, .inl fq) ∧ OUTM gl fq (rng 1 (gm 0 jf) (j - gm 0 jf))) (fun j => gm 1 jf - j) ?_ (gm 0 jf) F (⟨⟨⟨by omega, by omega⟩, (by rw [show gm 0 jf - gm 0 jf = 0 by omega]; exact hFl)⟩, _, hF_34, (by rw [Nat.sub_self]; exact OUTM.nil)⟩) hO hR _ _ hP hD hS ls (lv_sub hl [0, 1, 2, 3, 4, 5, 6] rfl)
    rintro j F_67 hv_71 hO hR ih_72 H locs hP hD hS ls hl
    have hl : lv_has ls 9 [(6, .int (nI j)), (5, .int (nI kd)), (0, .ref h0), (1, .int (nI jf)), (2, .int x2), (3, .int 0), (4, .int 0)] := hl
    have hv_71 : ((gm 0 jf ≤ j ∧ j ≤ gm 1 jf) ∧ F_67 pl = .inr (14, [.ref rl, .int (nI (j - gm 0 jf))])) ∧ ∃ fq : Nat → Int32, F_67 rl = .inl (cs 17, 6000, .inl fq) ∧ OUTM gl fq (rng 1 (gm 0 jf) (j - gm 0 jf)) := hv_71
    refine W.eq (g2 := F0 m 68 ls []) rfl ?_
    have hF_73 : F_67 ml = .inl (cs 17, 3000, .inl gl) := (hR ml (by rw [ht_37]; simp)).trans hF_68
    have hF_74 : F_67 h0 = .inr (15, (.ref ta) :: (.int (nI zt)) :: (.int (nI zo)) :: (.int (nI ze)) :: (.ref ou) :: (.ref so) :: (.ref ad) :: (.ref na) :: (.ref va) :: (.ref lc) :: (.ref dm) :: (.int (nI fm)) :: (.int (nI sn)) :: (.ref tg) :: (.int v14_40) :: (.int v15_41) :: (.ref pe) :: (.int v17_42) :: (.int v18_43) :: (.int v19_44) :: (.int v20_45) :: (.int v21_46) :: (.int v22_47) :: (.ref ml) :: (.ref bg) :: (.ref co) :: (.ref sp) :: (.ref nb0) :: (.ref nb1) :: (.ref nb2) :: (.int (nI nf)) :: (.int (nI bd)) :: (.int (nI mm)) :: (.int v33_48) :: (.ref pl) :: (.ref se) :: (.ref ke) :: (.ref wi) :: (.ref hs) :: (.ref mo) :: (.ref po) :: (.ref nu) :: (.ref pr) :: (.ref sq) :: (.ref xa) :: (.ref sa) :: (.ref n64) :: (.ref m64) :: (.ref ex) :: (.ref wh) :: (.ref sd) :: (.ref tk) :: (.int v52_49) :: (.int v53_50) :: (.int v54_51) :: (.ref hd) :: (.ref ak) :: (.ref ho) :: (.ref ot) :: []) := (hR h0 (by rw [hT_h0]; simp)).trans hF_69
    have hF_75 : F_67 bg = .inl (cs 16, 21, .inl f_63) := (hR bg (by rw [ht_62]; simp)).trans hF_70
    obtain ⟨hv9, fq, hq1, hq2⟩ := id hv_71
    obtain ⟨hp1, hp2⟩ := id hv9
    refine lv_iload hx hb dX15_fieldPlain_68 (lv_at hl 0 rfl) ?_
    refine lv_aload_n hx hb dX15_fieldPlain_70 rfl (lv_at hl 2 rfl) ?_
    refine pg_get (ci := 15) (v := .ref co) (C := RX15) (T := TX15) (N := 59) hx hb hts it_15 hown hK hP hL_h0 hF_74 rfl 25 (by decide) (hts _ kt_889) (fun _ h9 => h9) rfl dX15_fieldPlain_71 ?_
    refine lv_iload_n hx hb dX15_fieldPlain_74 rfl (lv_at hl 3 rfl) ?_
    obtain ⟨hi_76, ht_77⟩ := hW.f_co hL_h0 hT_h0
    obtain ⟨f_78, hF_79, hq_80⟩ := hO.pos hi_76 ht_77
    refine pg_iald hx hb hK hP hi_76 0 hF_79 rfl (vp_in_nI (by omega) (by omega)) dX15_fieldPlain_75 ?_
    refine lv_topi (fun x_81 ex_81 => ?_)
    obtain rfl : x_81 = (nI (gm 1 jf)) := ex_81.trans (by rw [show ((nI jf) : Int32) = nI jf from rfl, nI_clamp (by omega)]; exact hq_80 jf (by omega))
    have hgbx_81 := hgB 1 jf
    refine lv_icmp_ge (tgt := 102) hx hb dX15_fieldPlain_76 (by decide) (fun c_82 => ?_) (fun c_82 => ?_)
    ·
      have hi_83 : (gm 1 jf) ≤ j := leN (N := (gm 1 jf)) c_82
      refine lv_aload_n hx hb dX15_fieldPlain_102 rfl (lv_at hl 2 rfl) ?_
      refine pg_get (ci := 15) (v := .ref pl) (C := RX15) (T := TX15) (N := 59) hx hb hts it_15 hown hK hP hL_h0 hF_74 rfl 34 (by decide) (hts _ kt_901) (fun _ h9 => h9) rfl dX15_fieldPlain_103 ?_
      refine lv_bipush (v := 58) hx hb dX15_fieldPlain_106 (by decide) ?_
      have hFc := pg_free hD hS hA
      refine va_callv (va_runV (As := [.int 58]) (rest := []) ⟨hx, hb, hml, hown, hts⟩ (s_X14_add_c l dC dI cs ty gm L H.size F_67 pl (ρ + 10) rl 6000 (j - gm 0 jf) 58 fq hW hL_pl hT_pl hp2 hq1 (by first | omega | assumption | exact Or.inl rfl)) ⟨callB_of 1 hts (gi kt_711) rfl rfl rfl (hts _ kt_676) (hts _ kt_712) (by decide +kernel) ⟨Nat.le_of_ble_eq_true rfl, Nat.le_of_ble_eq_true rfl⟩, (hts _ kt_713), (hts _ kt_714)⟩ ⟨fun a U g mk q => ⟨q.1, PTm.calling q.2⟩, pg_recv hK hP hL_pl hp2 (q := (RX14, TX14, 2)) rfl, fun U hU hWm => ⟨rfl, PTm.mk hU hWm hP hK hD hE hO⟩⟩ rfl rfl hl.1 rfl (lv_room (Nat.le_of_ble_eq_true rfl)) dX15_fieldPlain_108 ⟨by show _ + 0 ≤ 0; omega, by show _ + 0 ≤ 0; omega⟩) hS (fun q _ h => hFc q h) hFc (fun u t H1 locs ht hvm hw hB hz1 hk1 hS => ?_)
      obtain ⟨F_85, f2_86, hB1, hq_87, hq_88, hq_89⟩ := hB
      obtain ⟨hP, hD, hO, hR⟩ := QTm.back hB1 ht hFc hR (fun q h => by simp only [List.mem_cons, List.not_mem_nil, or_false] at h ⊢; omega)
      have hF_90 : F_85 ml = .inl (cs 17, 3000, .inl gl) := (hB1.2.2.2 ml (by rw [ht_37]; simp)).trans hF_73
      have hF_91 : F_85 h0 = .inr (15, (.ref ta) :: (.int (nI zt)) :: (.int (nI zo)) :: (.int (nI ze)) :: (.ref ou) :: (.ref so) :: (.ref ad) :: (.ref na) :: (.ref va) :: (.ref lc) :: (.ref dm) :: (.int (nI fm)) :: (.int (nI sn)) :: (.ref tg) :: (.int v14_40) :: (.int v15_41) :: (.ref pe) :: (.int v17_42) :: (.int v18_43) :: (.int v19_44) :: (.int v20_45) :: (.int v21_46) :: (.int v22_47) :: (.ref ml) :: (.ref bg) :: (.ref co) :: (.ref sp) :: (.ref nb0) :: (.ref nb1) :: (.ref nb2) :: (.int (nI nf)) :: (.int (nI bd)) :: (.int (nI mm)) :: (.int v33_48) :: (.ref pl) :: (.ref se) :: (.ref ke) :: (.ref wi) :: (.ref hs) :: (.ref mo) :: (.ref po) :: (.ref nu) :: (.ref pr) :: (.ref sq) :: (.ref xa) :: (.ref sa) :: (.ref n64) :: (.ref m64) :: (.ref ex) :: (.ref wh) :: (.ref sd) :: (.ref tk) :: (.int v52_49) :: (.int v53_50) :: (.int v54_51) :: (.ref hd) :: (.ref ak) :: (.ref ho) :: (.ref ot) :: []) := (hB1.2.2.2 h0 (by rw [hT_h0]; simp)).trans hF_74
      have hF_92 : F_85 bg = .inl (cs 16, 21, .inl f_63) := (hB1.2.2.2 bg (by rw [ht_62]; simp)).trans hF_75
      have hF_93 : F_85 co = .inl (cs 16, 21, .inl f_78) := (hB1.2.2.2 co (by rw [ht_77]; simp)).trans hF_79
      generalize H1 = H at hP hS ⊢
      have hom_94 : OUTM gl f2_86 (rng 1 (gm 0 jf) (gm 1 jf - gm 0 jf) ++ [(2, 58)]) := OUTM.add (y := (2, 58)) (by rw [show gm 1 jf = j by omega]; exact hq2) hq_89 (by rw [rng_len]; omega) rfl
      refine lv_iconst (v := 0) hx hb dX15_fieldPlain_111 (by decide) ?_
      refine lv_istore (lv' := [(6, .int 0), (5, .int (nI kd)), (0, .ref h0), (1, .int (nI jf)), (2, .int x2), (3, .int 0), (4, .int 0)]) hx hb dX15_fieldPlain_112 hl (by decide) rfl (fun ls hl => ?_)
      refine lv_iconst (v := 0) hx hb dX15_fieldPlain_114 (by decide) ?_
      refine lv_istore (lv' := [(7, .int 0), (6, .int 0), (5, .int (nI kd)), (0, .ref h0), (1, .int (nI jf)), (2, .int x2), (3, .int 0), (4, .int 0)]) hx hb dX15_fieldPlain_115 hl (by decide) rfl (fun ls hl => ?_)
      refine lv_aload_n hx hb dX15_fieldPlain_117 rfl (lv_at hl 3 rfl) ?_
      refine pg_get (ci := 15) (v := .ref co) (C := RX15) (T := TX15) (N := 59) hx hb hts it_15 hown hK hP hL_h0 hF_91 rfl 25 (by decide) (hts _ kt_889) (fun _ h9 => h9) rfl dX15_fieldPlain_118 ?_
      refine lv_iload_n hx hb dX15_fieldPlain_121 rfl (lv_at hl 4 rfl) ?_
      refine pg_iald hx hb hK hP hi_76 0 hF_93 rfl (vp_in_nI (by omega) (by omega)) dX15_fieldPlain_122 ?_
      refine lv_topi (fun x_95 ex_95 => ?_)
      obtain rfl : x_95 = (nI (gm 1 jf)) := ex_95.trans (by rw [show ((nI jf) : Int32) = nI jf from rfl, nI_clamp (by omega)]; exact hq_80 jf (by omega))
      have hgbx_95 := hgB 1 jf
      refine lv_iconst (v := 1) hx hb dX15_fieldPlain_123 (by decide) ?_
      refine lv_iadd hx hb dX15_fieldPlain_124 ?_
      refine lv_topi (fun x_96 ex_96 => ?_)
      obtain rfl : x_96 = (nI ((gm 1 jf) + 1)) := ex_96.trans (nI_add (gm 1 jf) 1)
      refine lv_istore (lv' := [(8, .int (nI ((gm 1 jf) + 1))), (7, .int 0), (6, .int 0), (5, .int (nI kd)), (0, .ref h0), (1, .int (nI jf)), (2, .int x2), (3, .int 0), (4, .int 0)]) hx hb dX15_fieldPlain_125 hl (by decide) rfl (fun ls hl => ?_)
      have hF_97 : F_85 pl = .inr (14, [.ref rl, .int (nI (rng 1 (gm 0 jf) (gm 1 jf - gm 0 jf) ++ [(2, 58)]).length)]) := by rw [len1, rng_len, show gm 1 jf - gm 0 jf + 1 = ((j - gm 0 jf) + 1) by omega]; exact hq_87
      refine W.widen (k := 0) (n := 0) (by omega) (by omega) ?_
      have hF_99 : F ml = .inl (cs 17, 3000, .inl gl) := (hR ml (by rw [ht_37]; simp)).symm.trans hF_90
      have hF_100 : F h0 = .inr (15, (.ref ta) :: (.int (nI zt)) :: (.int (nI zo)) :: (.int (nI ze)) :: (.ref ou) :: (.ref so) :: (.ref ad) :: (.ref na) :: (.ref va) :: (.ref lc) :: (.ref dm) :: (.int (nI fm)) :: (.int (nI sn)) :: (.ref tg) :: (.int v14_40) :: (.int v15_41) :: (.ref pe) :: (.int v17_42) :: (.int v18_43) :: (.int v19_44) :: (.int v20_45) :: (.int v21_46) :: (.int v22_47) :: (.ref ml) :: (.ref bg) :: (.ref co) :: (.ref sp) :: (.ref nb0) :: (.ref nb1) :: (.ref nb2) :: (.int (nI nf)) :: (.int (nI bd)) :: (.int (nI mm)) :: (.int v33_48) :: (.ref pl) :: (.ref se) :: (.ref ke) :: (.ref wi) :: (.ref hs) :: (.ref mo) :: (.ref po) :: (.ref nu) :: (.ref pr) :: (.ref sq) :: (.ref xa) :: (.ref sa) :: (.ref n64) :: (.ref m64) :: (.ref ex) :: (.ref wh) :: (.ref sd) :: (.ref tk) :: (.int v52_49) :: (.int v53_50) :: (.int v54_51) :: (.ref hd) :: (.ref ak) :: (.ref ho) :: (.ref ot) :: []) := (hR h0 (by rw [hT_h0]; simp)).symm.trans hF_91
      have hF_101 : F bg = .inl (cs 16, 21, .inl f_63) := (hR bg (by rw [ht_62]; simp)).symm.trans hF_92
      have hF_102 : F co = .inl (cs 16, 21, .inl f_78) := (hR co (by rw [ht_77]; simp)).symm.trans hF_93
      refine pl_loopm (σ := Nat × Int32 × Int32 × (List (Nat × Nat))) A (dC, dI) cs ty gm L [ρ + 10] F 127 9 (fun (i, w6, w7, aa) => [(8, .int (nI i)), (7, .int w7), (6, .int w6), (5, .int (nI kd)), (0, .ref h0), (1, .int (nI jf)), (2, .int x2), (3, .int 0), (4, .int 0)]) (fun (i, w6, w7, aa) => []) (fun (i, w6, w7, aa) FF => ((gm 1 jf + 1 ≤ i ∧ i ≤ kd) ∧ (w6 = 0 ∨ w6 = 1) ∧ aa.length ≤ i - gm 0 jf ∧ (w7 = 0 ∨ aa.length + 1 ≤ i - gm 0 jf) ∧ (FPL (clr gl) x2 (gm 0 jf) (gm 1 jf) kd) = aa ++ rvl (clr gl) (kd - i) i w6 (wvv w6 w7) ∧ FF pl = .inr (14, [.ref rl, .int (nI aa.length)])) ∧ ∃ fq : Nat → Int32, FF rl = .inl (cs 17, 6000, .inl fq) ∧ OUTM gl fq aa) (fun (i, w6, w7, aa) => kd - i) ?_ (((gm 1 jf) + 1), 0, 0, (rng 1 (gm 0 jf) (gm 1 jf - gm 0 jf) ++ [(2, 58)])) F_85 (⟨⟨⟨by omega, by omega⟩, Or.inl rfl, (by rw [len1, rng_len]; omega), Or.inl rfl, (by rw [wv_z]; exact FPL_r c_60), hF_97⟩, _, hq_88, hom_94⟩) hO hR _ _ hP hD hS ls (lv_sub hl [0, 1, 2, 3, 4, 5, 6, 7, 8] rfl)
      rintro ⟨i, w6, w7, aa⟩ F_98 hv_103 hO hR ih_104 H locs hP hD hS ls hl
      have hl : lv_has ls 9 [(8, .int (nI i)), (7, .int w7), (6, .int w6), (5, .int (nI kd)), (0, .ref h0), (1, .int (nI jf)), (2, .int x2), (3, .int 0), (4, .int 0)] := hl
      have hv_103 : ((gm 1 jf + 1 ≤ i ∧ i ≤ kd) ∧ (w6 = 0 ∨ w6 = 1) ∧ aa.length ≤ i - gm 0 jf ∧ (w7 = 0 ∨ aa.length + 1 ≤ i - gm 0 jf) ∧ (FPL (clr gl) x2 (gm 0 jf) (gm 1 jf) kd) = aa ++ rvl (clr gl) (kd - i) i w6 (wvv w6 w7) ∧ F_98 pl = .inr (14, [.ref rl, .int (nI aa.length)])) ∧ ∃ fq : Nat → Int32, F_98 rl = .inl (cs 17, 6000, .inl fq) ∧ OUTM gl fq aa := hv_103
      refine W.eq (g2 := F0 m 127 ls []) rfl ?_
      have hF_105 : F_98 ml = .inl (cs 17, 3000, .inl gl) := (hR ml (by rw [ht_37]; simp)).trans hF_99
      have hF_106 : F_98 h0 = .inr (15, (.ref ta) :: (.int (nI zt)) :: (.int (nI zo)) :: (.int (nI ze)) :: (.ref ou) :: (.ref so) :: (.ref ad) :: (.ref na) :: (.ref va) :: (.ref lc) :: (.ref dm) :: (.int (nI fm)) :: (.int (nI sn)) :: (.ref tg) :: (.int v14_40) :: (.int v15_41) :: (.ref pe) :: (.int v17_42) :: (.int v18_43) :: (.int v19_44) :: (.int v20_45) :: (.int v21_46) :: (.int v22_47) :: (.ref ml) :: (.ref bg) :: (.ref co) :: (.ref sp) :: (.ref nb0) :: (.ref nb1) :: (.ref nb2) :: (.int (nI nf)) :: (.int (nI bd)) :: (.int (nI mm)) :: (.int v33_48) :: (.ref pl) :: (.ref se) :: (.ref ke) :: (.ref wi) :: (.ref hs) :: (.ref mo) :: (.ref po) :: (.ref nu) :: (.ref pr) :: (.ref sq) :: (.ref xa) :: (.ref sa) :: (.ref n64) :: (.ref m64) :: (.ref ex) :: (.ref wh) :: (.ref sd) :: (.ref tk) :: (.int v52_49) :: (.int v53_50) :: (.int v54_51) :: (.ref hd) :: (.ref ak) :: (.ref ho) :: (.ref ot) :: []) := (hR h0 (by rw [hT_h0]; simp)).trans hF_100
      have hF_107 : F_98 bg = .inl (cs 16, 21, .inl f_63) := (hR bg (by rw [ht_62]; simp)).trans hF_101
      have hF_108 : F_98 co = .inl (cs 16, 21, .inl f_78) := (hR co (by rw [ht_77]; simp)).trans hF_102
      obtain ⟨hv9, fq, hq1, hq2⟩ := id hv_103
      obtain ⟨hp1, hp3, hp4, hp5, hp6, hp2⟩ := id hv9
      refine lv_iload hx hb dX15_fieldPlain_127 (lv_at hl 0 rfl) ?_
      refine lv_iload hx hb dX15_fieldPlain_129 (lv_at hl 3 rfl) ?_
      refine lv_icmp_ge (tgt := 226) hx hb dX15_fieldPlain_131 (by decide) (fun c_109 => ?_) (fun c_109 => ?_)
      ·
        have hi_110 : kd ≤ i := leN (N := kd) c_109
        have hib : kd ≤ i := by omega
        refine W.widen (k := 0) (n := 0) (by omega) (by omega) ?_
        exact W.vret hx hb hr (fun t ht hWm => ⟨⟨(), rfl, trivial, ⟨F_98, fq, QTm.mk ht hP hD hO hR, (by rw [rv_e hp6 hib]; exact hp2), hq1, (by rw [rv_e hp6 hib]; exact hq2)⟩⟩, hS.F ht⟩) hS.2.2 dX15_fieldPlain_226
      ·
        have hi_111 : i < kd := ltN (N := kd) c_109
        have hib : i < kd := by omega
        refine lv_iload hx hb dX15_fieldPlain_134 (lv_at hl 0 rfl) ?_
        refine lv_iload_n hx hb dX15_fieldPlain_136 rfl (lv_at hl 7 rfl) ?_
        refine lv_icmp_lt (tgt := 147) hx hb dX15_fieldPlain_137 (by decide) (fun c_112 => absurd c_112 (nI_pos (by omega))) (fun c_112 => ?_)
        refine lv_iload hx hb dX15_fieldPlain_140 (lv_at hl 0 rfl) ?_
        refine lv_iload hx hb dX15_fieldPlain_142 (lv_at hl 8 rfl) ?_
        refine lv_icmp_lt (tgt := 220) hx hb dX15_fieldPlain_144 (by decide) (fun c_113 => absurd c_113 (nI_pos (by omega))) (fun c_113 => ?_)
        refine lv_aload_n hx hb dX15_fieldPlain_147 rfl (lv_at hl 4 rfl) ?_
        refine pg_get (ci := 15) (v := .ref ml) (C := RX15) (T := TX15) (N := 59) hx hb hts it_15 hown hK hP hL_h0 hF_106 rfl 23 (by decide) (hts _ kt_887) (fun _ h9 => h9) rfl dX15_fieldPlain_148 ?_
        refine lv_iload hx hb dX15_fieldPlain_151 (lv_at hl 0 rfl) ?_
        refine pg_bald hx hb hK hP hi_36 1 hF_105 rfl (vp_in_nI (by omega) (by omega)) dX15_fieldPlain_153 ?_
        refine lv_topi (fun x_114 ex_114 => ?_)
        obtain rfl : x_114 = gl i := ex_114.trans (congrArg gl (show ((nI i) : Int32).toNatClampNeg = i from nI_clamp (by omega)))
        refine lv_bipush (v := 10) hx hb dX15_fieldPlain_154 (by decide) ?_
        refine lv_icmp_ne (tgt := 162) hx hb dX15_fieldPlain_156 (by decide) (fun c_115 => ?_) (fun c_115 => ?_)
        ·
          refine lv_aload_n hx hb dX15_fieldPlain_162 rfl (lv_at hl 4 rfl) ?_
          refine pg_get (ci := 15) (v := .ref ml) (C := RX15) (T := TX15) (N := 59) hx hb hts it_15 hown hK hP hL_h0 hF_106 rfl 23 (by decide) (hts _ kt_887) (fun _ h9 => h9) rfl dX15_fieldPlain_163 ?_
          refine lv_iload hx hb dX15_fieldPlain_166 (lv_at hl 0 rfl) ?_
          refine pg_bald hx hb hK hP hi_36 1 hF_105 rfl (vp_in_nI (by omega) (by omega)) dX15_fieldPlain_168 ?_
          refine lv_topi (fun x_116 ex_116 => ?_)
          obtain rfl : x_116 = gl i := ex_116.trans (congrArg gl (show ((nI i) : Int32).toNatClampNeg = i from nI_clamp (by omega)))
          have hFc := pg_free hD hS hA
          refine va_calli (va_runS (As := [.int (gl i)]) (rest := []) ⟨hx, hb, hml, hown, hts⟩ (s_X15_isWhite_e l dC dI cs ty gm L H.size F_98 (gl i) hW ) ⟨callB_of 1 hts (gi kt_715) rfl rfl rfl (hts _ kt_669) (hts _ kt_716) (by decide +kernel) ⟨Nat.le_of_ble_eq_true rfl, Nat.le_of_ble_eq_true rfl⟩, (hts _ kt_717)⟩ ⟨fun a U g mk q => ⟨q.1, PTm.calling q.2⟩, fun U hU hWm => ⟨rfl, PTm.mk hU hWm hP hK hD hE hO⟩⟩ rfl rfl hl.1 rfl (lv_room (Nat.le_of_ble_eq_true rfl)) dX15_fieldPlain_169 ⟨by show _ + 0 ≤ 0; omega, by show _ + 0 ≤ 0; omega⟩) hS (fun q _ h => hFc q h) hFc (fun r_117 u t H1 locs ht hvm hw hB hz1 hk1 hS => ?_)
          obtain ⟨F_118, hB1⟩ := hB
          obtain rfl : F_98 = F_118 := (funext (fun a => hB1.2.2.2 a List.not_mem_nil)).symm
          obtain ⟨hP, hD, hO, hR⟩ := QTm.back hB1 ht hFc hR (fun q h => absurd h List.not_mem_nil)
          generalize H1 = H at hP hS ⊢
          have hw : r_117 = (if (gl i) = 32 ∨ (gl i) = 9 then 1 else 0) := hw
          have hw_119 := hw
          refine lv_if_eq (tgt := 181) hx hb dX15_fieldPlain_172 (by decide) (fun c_120 => ?_) (fun c_120 => ?_)
          ·
            refine lv_iload hx hb dX15_fieldPlain_181 (lv_at hl 1 rfl) ?_
            refine lv_if_eq (tgt := 200) hx hb dX15_fieldPlain_183 (by decide) (fun c_121 => ?_) (fun c_121 => ?_)
            ·
              refine lv_iconst (v := 0) hx hb dX15_fieldPlain_200 (by decide) ?_
              refine lv_istore (lv' := [(7, .int 0), (8, .int (nI i)), (6, .int w6), (5, .int (nI kd)), (0, .ref h0), (1, .int (nI jf)), (2, .int x2), (3, .int 0), (4, .int 0)]) hx hb dX15_fieldPlain_201 hl (by decide) rfl (fun ls hl => ?_)
              refine lv_iconst (v := 1) hx hb dX15_fieldPlain_203 (by decide) ?_
              refine lv_istore (lv' := [(6, .int 1), (7, .int 0), (8, .int (nI i)), (5, .int (nI kd)), (0, .ref h0), (1, .int (nI jf)), (2, .int x2), (3, .int 0), (4, .int 0)]) hx hb dX15_fieldPlain_204 hl (by decide) rfl (fun ls hl => ?_)
              refine lv_aload_n hx hb dX15_fieldPlain_206 rfl (lv_at hl 4 rfl) ?_
              refine pg_get (ci := 15) (v := .ref pl) (C := RX15) (T := TX15) (N := 59) hx hb hts it_15 hown hK hP hL_h0 hF_106 rfl 34 (by decide) (hts _ kt_901) (fun _ h9 => h9) rfl dX15_fieldPlain_207 ?_
              refine lv_aload_n hx hb dX15_fieldPlain_210 rfl (lv_at hl 4 rfl) ?_
              refine pg_get (ci := 15) (v := .ref ml) (C := RX15) (T := TX15) (N := 59) hx hb hts it_15 hown hK hP hL_h0 hF_106 rfl 23 (by decide) (hts _ kt_887) (fun _ h9 => h9) rfl dX15_fieldPlain_211 ?_
              refine lv_iload hx hb dX15_fieldPlain_214 (lv_at hl 2 rfl) ?_
              refine pg_bald hx hb hK hP hi_36 1 hF_105 rfl (vp_in_nI (by omega) (by omega)) dX15_fieldPlain_216 ?_
              refine lv_topi (fun x_122 ex_122 => ?_)
              obtain rfl : x_122 = gl i := ex_122.trans (congrArg gl (show ((nI i) : Int32).toNatClampNeg = i from nI_clamp (by omega)))
              have hFc := pg_free hD hS hA
              refine va_callv (va_runV (As := [.int (gl i)]) (rest := []) ⟨hx, hb, hml, hown, hts⟩ (s_X14_add_c l dC dI cs ty gm L H.size F_98 pl (ρ + 10) rl 6000 aa.length (gl i) fq hW hL_pl hT_pl hp2 hq1 (by first | omega | assumption | exact Or.inl rfl)) ⟨callB_of 1 hts (gi kt_711) rfl rfl rfl (hts _ kt_676) (hts _ kt_712) (by decide +kernel) ⟨Nat.le_of_ble_eq_true rfl, Nat.le_of_ble_eq_true rfl⟩, (hts _ kt_713), (hts _ kt_714)⟩ ⟨fun a U g mk q => ⟨q.1, PTm.calling q.2⟩, pg_recv hK hP hL_pl hp2 (q := (RX14, TX14, 2)) rfl, fun U hU hWm => ⟨rfl, PTm.mk hU hWm hP hK hD hE hO⟩⟩ rfl rfl hl.1 rfl (lv_room (Nat.le_of_ble_eq_true rfl)) dX15_fieldPlain_217 ⟨by show _ + 0 ≤ 0; omega, by show _ + 0 ≤ 0; omega⟩) hS (fun q _ h => hFc q h) hFc (fun u t H1 locs ht hvm hw hB hz1 hk1 hS => ?_)
              obtain ⟨F_124, f2_125, hB1, hq_126, hq_127, hq_128⟩ := hB
              obtain ⟨hP, hD, hO, hR⟩ := QTm.back hB1 ht hFc hR (fun q h => by simp only [List.mem_cons, List.not_mem_nil, or_false] at h ⊢; omega)
              have hF_129 : F_124 ml = .inl (cs 17, 3000, .inl gl) := (hB1.2.2.2 ml (by rw [ht_37]; simp)).trans hF_105
              have hF_130 : F_124 h0 = .inr (15, (.ref ta) :: (.int (nI zt)) :: (.int (nI zo)) :: (.int (nI ze)) :: (.ref ou) :: (.ref so) :: (.ref ad) :: (.ref na) :: (.ref va) :: (.ref lc) :: (.ref dm) :: (.int (nI fm)) :: (.int (nI sn)) :: (.ref tg) :: (.int v14_40) :: (.int v15_41) :: (.ref pe) :: (.int v17_42) :: (.int v18_43) :: (.int v19_44) :: (.int v20_45) :: (.int v21_46) :: (.int v22_47) :: (.ref ml) :: (.ref bg) :: (.ref co) :: (.ref sp) :: (.ref nb0) :: (.ref nb1) :: (.ref nb2) :: (.int (nI nf)) :: (.int (nI bd)) :: (.int (nI mm)) :: (.int v33_48) :: (.ref pl) :: (.ref se) :: (.ref ke) :: (.ref wi) :: (.ref hs) :: (.ref mo) :: (.ref po) :: (.ref nu) :: (.ref pr) :: (.ref sq) :: (.ref xa) :: (.ref sa) :: (.ref n64) :: (.ref m64) :: (.ref ex) :: (.ref wh) :: (.ref sd) :: (.ref tk) :: (.int v52_49) :: (.int v53_50) :: (.int v54_51) :: (.ref hd) :: (.ref ak) :: (.ref ho) :: (.ref ot) :: []) := (hB1.2.2.2 h0 (by rw [hT_h0]; simp)).trans hF_106
              have hF_131 : F_124 bg = .inl (cs 16, 21, .inl f_63) := (hB1.2.2.2 bg (by rw [ht_62]; simp)).trans hF_107
              have hF_132 : F_124 co = .inl (cs 16, 21, .inl f_78) := (hB1.2.2.2 co (by rw [ht_77]; simp)).trans hF_108
              generalize H1 = H at hP hS ⊢
              have hom_133 := OUTM.add (y := (0, i)) hq2 hq_128 rfl rfl
              refine lv_iinc (v := (nI (i + 1))) (lv' := [(8, .int (nI (i + 1))), (6, .int 1), (7, .int 0), (5, .int (nI kd)), (0, .ref h0), (1, .int (nI jf)), (2, .int x2), (3, .int 0), (4, .int 0)]) hx hb dX15_fieldPlain_220 hl (k := 2) rfl (nI_1 _) (by decide) rfl (fun ls hl => ?_)
              refine lv_goto (tgt := 127) hx hb dX15_fieldPlain_223 (by decide) ?_
              refine W.widen (k := 0) (n := 0) (by omega) (by omega) ?_
              exact ih_104 ((i + 1), 1, 0, (aa ++ [(0, i)])) F_124 (⟨⟨⟨by omega, by omega⟩, Or.inr rfl, by rw [len1]; omega, Or.inl rfl, (by rw [wv_z]; exact rv_a hp6 hib (clg0n c_115) (clg1n (ifb0 hw_119 c_120)) (by rw [c_121]; exact wv_z)), (by rw [len1]; exact hq_126)⟩, _, hq_127, hom_133⟩) (by show kd - (i + 1) < kd - i; omega) hO hR _ _ hP hD hS ls (lv_sub hl [0, 2, 1, 3, 4, 5, 6, 7, 8] rfl)
            ·
              have hz9 := hp5.resolve_left c_121
              refine lv_iload hx hb dX15_fieldPlain_186 (lv_at hl 2 rfl) ?_
              refine lv_if_eq (tgt := 200) hx hb dX15_fieldPlain_188 (by decide) (fun c_134 => ?_) (fun c_134 => ?_)
              ·
                refine lv_iconst (v := 0) hx hb dX15_fieldPlain_200 (by decide) ?_
                refine lv_istore (lv' := [(7, .int 0), (8, .int (nI i)), (6, .int w6), (5, .int (nI kd)), (0, .ref h0), (1, .int (nI jf)), (2, .int x2), (3, .int 0), (4, .int 0)]) hx hb dX15_fieldPlain_201 hl (by decide) rfl (fun ls hl => ?_)
                refine lv_iconst (v := 1) hx hb dX15_fieldPlain_203 (by decide) ?_
                refine lv_istore (lv' := [(6, .int 1), (7, .int 0), (8, .int (nI i)), (5, .int (nI kd)), (0, .ref h0), (1, .int (nI jf)), (2, .int x2), (3, .int 0), (4, .int 0)]) hx hb dX15_fieldPlain_204 hl (by decide) rfl (fun ls hl => ?_)
                refine lv_aload_n hx hb dX15_fieldPlain_206 rfl (lv_at hl 4 rfl) ?_
                refine pg_get (ci := 15) (v := .ref pl) (C := RX15) (T := TX15) (N := 59) hx hb hts it_15 hown hK hP hL_h0 hF_106 rfl 34 (by decide) (hts _ kt_901) (fun _ h9 => h9) rfl dX15_fieldPlain_207 ?_
                refine lv_aload_n hx hb dX15_fieldPlain_210 rfl (lv_at hl 4 rfl) ?_
                refine pg_get (ci := 15) (v := .ref ml) (C := RX15) (T := TX15) (N := 59) hx hb hts it_15 hown hK hP hL_h0 hF_106 rfl 23 (by decide) (hts _ kt_887) (fun _ h9 => h9) rfl dX15_fieldPlain_211 ?_
                refine lv_iload hx hb dX15_fieldPlain_214 (lv_at hl 2 rfl) ?_
                refine pg_bald hx hb hK hP hi_36 1 hF_105 rfl (vp_in_nI (by omega) (by omega)) dX15_fieldPlain_216 ?_
                refine lv_topi (fun x_135 ex_135 => ?_)
                obtain rfl : x_135 = gl i := ex_135.trans (congrArg gl (show ((nI i) : Int32).toNatClampNeg = i from nI_clamp (by omega)))
                have hFc := pg_free hD hS hA
                refine va_callv (va_runV (As := [.int (gl i)]) (rest := []) ⟨hx, hb, hml, hown, hts⟩ (s_X14_add_c l dC dI cs ty gm L H.size F_98 pl (ρ + 10) rl 6000 aa.length (gl i) fq hW hL_pl hT_pl hp2 hq1 (by first | omega | assumption | exact Or.inl rfl)) ⟨callB_of 1 hts (gi kt_711) rfl rfl rfl (hts _ kt_676) (hts _ kt_712) (by decide +kernel) ⟨Nat.le_of_ble_eq_true rfl, Nat.le_of_ble_eq_true rfl⟩, (hts _ kt_713), (hts _ kt_714)⟩ ⟨fun a U g mk q => ⟨q.1, PTm.calling q.2⟩, pg_recv hK hP hL_pl hp2 (q := (RX14, TX14, 2)) rfl, fun U hU hWm => ⟨rfl, PTm.mk hU hWm hP hK hD hE hO⟩⟩ rfl rfl hl.1 rfl (lv_room (Nat.le_of_ble_eq_true rfl)) dX15_fieldPlain_217 ⟨by show _ + 0 ≤ 0; omega, by show _ + 0 ≤ 0; omega⟩) hS (fun q _ h => hFc q h) hFc (fun u t H1 locs ht hvm hw hB hz1 hk1 hS => ?_)
                obtain ⟨F_137, f2_138, hB1, hq_139, hq_140, hq_141⟩ := hB
                obtain ⟨hP, hD, hO, hR⟩ := QTm.back hB1 ht hFc hR (fun q h => by simp only [List.mem_cons, List.not_mem_nil, or_false] at h ⊢; omega)
                have hF_142 : F_137 ml = .inl (cs 17, 3000, .inl gl) := (hB1.2.2.2 ml (by rw [ht_37]; simp)).trans hF_105
                have hF_143 : F_137 h0 = .inr (15, (.ref ta) :: (.int (nI zt)) :: (.int (nI zo)) :: (.int (nI ze)) :: (.ref ou) :: (.ref so) :: (.ref ad) :: (.ref na) :: (.ref va) :: (.ref lc) :: (.ref dm) :: (.int (nI fm)) :: (.int (nI sn)) :: (.ref tg) :: (.int v14_40) :: (.int v15_41) :: (.ref pe) :: (.int v17_42) :: (.int v18_43) :: (.int v19_44) :: (.int v20_45) :: (.int v21_46) :: (.int v22_47) :: (.ref ml) :: (.ref bg) :: (.ref co) :: (.ref sp) :: (.ref nb0) :: (.ref nb1) :: (.ref nb2) :: (.int (nI nf)) :: (.int (nI bd)) :: (.int (nI mm)) :: (.int v33_48) :: (.ref pl) :: (.ref se) :: (.ref ke) :: (.ref wi) :: (.ref hs) :: (.ref mo) :: (.ref po) :: (.ref nu) :: (.ref pr) :: (.ref sq) :: (.ref xa) :: (.ref sa) :: (.ref n64) :: (.ref m64) :: (.ref ex) :: (.ref wh) :: (.ref sd) :: (.ref tk) :: (.int v52_49) :: (.int v53_50) :: (.int v54_51) :: (.ref hd) :: (.ref ak) :: (.ref ho) :: (.ref ot) :: []) := (hB1.2.2.2 h0 (by rw [hT_h0]; simp)).trans hF_106
                have hF_144 : F_137 bg = .inl (cs 16, 21, .inl f_63) := (hB1.2.2.2 bg (by rw [ht_62]; simp)).trans hF_107
                have hF_145 : F_137 co = .inl (cs 16, 21, .inl f_78) := (hB1.2.2.2 co (by rw [ht_77]; simp)).trans hF_108
                generalize H1 = H at hP hS ⊢
                have hom_146 := OUTM.add (y := (0, i)) hq2 hq_141 rfl rfl
                refine lv_iinc (v := (nI (i + 1))) (lv' := [(8, .int (nI (i + 1))), (6, .int 1), (7, .int 0), (5, .int (nI kd)), (0, .ref h0), (1, .int (nI jf)), (2, .int x2), (3, .int 0), (4, .int 0)]) hx hb dX15_fieldPlain_220 hl (k := 2) rfl (nI_1 _) (by decide) rfl (fun ls hl => ?_)
                refine lv_goto (tgt := 127) hx hb dX15_fieldPlain_223 (by decide) ?_
                refine W.widen (k := 0) (n := 0) (by omega) (by omega) ?_
                exact ih_104 ((i + 1), 1, 0, (aa ++ [(0, i)])) F_137 (⟨⟨⟨by omega, by omega⟩, Or.inr rfl, by rw [len1]; omega, Or.inl rfl, (by rw [wv_z]; exact rv_a hp6 hib (clg0n c_115) (clg1n (ifb0 hw_119 c_120)) (wv_0 c_134)), (by rw [len1]; exact hq_139)⟩, _, hq_140, hom_146⟩) (by show kd - (i + 1) < kd - i; omega) hO hR _ _ hP hD hS ls (lv_sub hl [0, 2, 1, 3, 4, 5, 6, 7, 8] rfl)
              ·
                refine lv_aload_n hx hb dX15_fieldPlain_191 rfl (lv_at hl 4 rfl) ?_
                refine pg_get (ci := 15) (v := .ref pl) (C := RX15) (T := TX15) (N := 59) hx hb hts it_15 hown hK hP hL_h0 hF_106 rfl 34 (by decide) (hts _ kt_901) (fun _ h9 => h9) rfl dX15_fieldPlain_192 ?_
                refine lv_bipush (v := 32) hx hb dX15_fieldPlain_195 (by decide) ?_
                have hFc := pg_free hD hS hA
                refine va_callv (va_runV (As := [.int 32]) (rest := []) ⟨hx, hb, hml, hown, hts⟩ (s_X14_add_c l dC dI cs ty gm L H.size F_98 pl (ρ + 10) rl 6000 aa.length 32 fq hW hL_pl hT_pl hp2 hq1 (by first | omega | assumption | exact Or.inl rfl)) ⟨callB_of 1 hts (gi kt_711) rfl rfl rfl (hts _ kt_676) (hts _ kt_712) (by decide +kernel) ⟨Nat.le_of_ble_eq_true rfl, Nat.le_of_ble_eq_true rfl⟩, (hts _ kt_713), (hts _ kt_714)⟩ ⟨fun a U g mk q => ⟨q.1, PTm.calling q.2⟩, pg_recv hK hP hL_pl hp2 (q := (RX14, TX14, 2)) rfl, fun U hU hWm => ⟨rfl, PTm.mk hU hWm hP hK hD hE hO⟩⟩ rfl rfl hl.1 rfl (lv_room (Nat.le_of_ble_eq_true rfl)) dX15_fieldPlain_197 ⟨by show _ + 0 ≤ 0; omega, by show _ + 0 ≤ 0; omega⟩) hS (fun q _ h => hFc q h) hFc (fun u t H1 locs ht hvm hw hB hz1 hk1 hS => ?_)
                obtain ⟨F_148, f2_149, hB1, hq_150, hq_151, hq_152⟩ := hB
                obtain ⟨hP, hD, hO, hR⟩ := QTm.back hB1 ht hFc hR (fun q h => by simp only [List.mem_cons, List.not_mem_nil, or_false] at h ⊢; omega)
                have hF_153 : F_148 ml = .inl (cs 17, 3000, .inl gl) := (hB1.2.2.2 ml (by rw [ht_37]; simp)).trans hF_105
                have hF_154 : F_148 h0 = .inr (15, (.ref ta) :: (.int (nI zt)) :: (.int (nI zo)) :: (.int (nI ze)) :: (.ref ou) :: (.ref so) :: (.ref ad) :: (.ref na) :: (.ref va) :: (.ref lc) :: (.ref dm) :: (.int (nI fm)) :: (.int (nI sn)) :: (.ref tg) :: (.int v14_40) :: (.int v15_41) :: (.ref pe) :: (.int v17_42) :: (.int v18_43) :: (.int v19_44) :: (.int v20_45) :: (.int v21_46) :: (.int v22_47) :: (.ref ml) :: (.ref bg) :: (.ref co) :: (.ref sp) :: (.ref nb0) :: (.ref nb1) :: (.ref nb2) :: (.int (nI nf)) :: (.int (nI bd)) :: (.int (nI mm)) :: (.int v33_48) :: (.ref pl) :: (.ref se) :: (.ref ke) :: (.ref wi) :: (.ref hs) :: (.ref mo) :: (.ref po) :: (.ref nu) :: (.ref pr) :: (.ref sq) :: (.ref xa) :: (.ref sa) :: (.ref n64) :: (.ref m64) :: (.ref ex) :: (.ref wh) :: (.ref sd) :: (.ref tk) :: (.int v52_49) :: (.int v53_50) :: (.int v54_51) :: (.ref hd) :: (.ref ak) :: (.ref ho) :: (.ref ot) :: []) := (hB1.2.2.2 h0 (by rw [hT_h0]; simp)).trans hF_106
                have hF_155 : F_148 bg = .inl (cs 16, 21, .inl f_63) := (hB1.2.2.2 bg (by rw [ht_62]; simp)).trans hF_107
                have hF_156 : F_148 co = .inl (cs 16, 21, .inl f_78) := (hB1.2.2.2 co (by rw [ht_77]; simp)).trans hF_108
                generalize H1 = H at hP hS ⊢
                have hom_157 := OUTM.add (y := (2, 32)) hq2 hq_152 rfl rfl
                refine lv_iconst (v := 0) hx hb dX15_fieldPlain_200 (by decide) ?_
                refine lv_istore (lv' := [(7, .int 0), (8, .int (nI i)), (6, .int w6), (5, .int (nI kd)), (0, .ref h0), (1, .int (nI jf)), (2, .int x2), (3, .int 0), (4, .int 0)]) hx hb dX15_fieldPlain_201 hl (by decide) rfl (fun ls hl => ?_)
                refine lv_iconst (v := 1) hx hb dX15_fieldPlain_203 (by decide) ?_
                refine lv_istore (lv' := [(6, .int 1), (7, .int 0), (8, .int (nI i)), (5, .int (nI kd)), (0, .ref h0), (1, .int (nI jf)), (2, .int x2), (3, .int 0), (4, .int 0)]) hx hb dX15_fieldPlain_204 hl (by decide) rfl (fun ls hl => ?_)
                refine lv_aload_n hx hb dX15_fieldPlain_206 rfl (lv_at hl 4 rfl) ?_
                refine pg_get (ci := 15) (v := .ref pl) (C := RX15) (T := TX15) (N := 59) hx hb hts it_15 hown hK hP hL_h0 hF_154 rfl 34 (by decide) (hts _ kt_901) (fun _ h9 => h9) rfl dX15_fieldPlain_207 ?_
                refine lv_aload_n hx hb dX15_fieldPlain_210 rfl (lv_at hl 4 rfl) ?_
                refine pg_get (ci := 15) (v := .ref ml) (C := RX15) (T := TX15) (N := 59) hx hb hts it_15 hown hK hP hL_h0 hF_154 rfl 23 (by decide) (hts _ kt_887) (fun _ h9 => h9) rfl dX15_fieldPlain_211 ?_
                refine lv_iload hx hb dX15_fieldPlain_214 (lv_at hl 2 rfl) ?_
                refine pg_bald hx hb hK hP hi_36 1 hF_153 rfl (vp_in_nI (by omega) (by omega)) dX15_fieldPlain_216 ?_
                refine lv_topi (fun x_158 ex_158 => ?_)
                obtain rfl : x_158 = gl i := ex_158.trans (congrArg gl (show ((nI i) : Int32).toNatClampNeg = i from nI_clamp (by omega)))
                have hFc := pg_free hD hS hA
                refine va_callv (va_runV (As := [.int (gl i)]) (rest := []) ⟨hx, hb, hml, hown, hts⟩ (s_X14_add_c l dC dI cs ty gm L H.size F_148 pl (ρ + 10) rl 6000 (aa.length + 1) (gl i) f2_149 hW hL_pl hT_pl hq_150 hq_151 (by first | omega | assumption | exact Or.inl rfl)) ⟨callB_of 1 hts (gi kt_711) rfl rfl rfl (hts _ kt_676) (hts _ kt_712) (by decide +kernel) ⟨Nat.le_of_ble_eq_true rfl, Nat.le_of_ble_eq_true rfl⟩, (hts _ kt_713), (hts _ kt_714)⟩ ⟨fun a U g mk q => ⟨q.1, PTm.calling q.2⟩, pg_recv hK hP hL_pl hq_150 (q := (RX14, TX14, 2)) rfl, fun U hU hWm => ⟨rfl, PTm.mk hU hWm hP hK hD hE hO⟩⟩ rfl rfl hl.1 rfl (lv_room (Nat.le_of_ble_eq_true rfl)) dX15_fieldPlain_217 ⟨by show _ + 0 ≤ 0; omega, by show _ + 0 ≤ 0; omega⟩) hS (fun q _ h => hFc q h) hFc (fun u t H1 locs ht hvm hw hB hz1 hk1 hS => ?_)
                obtain ⟨F_160, f2_161, hB1, hq_162, hq_163, hq_164⟩ := hB
                obtain ⟨hP, hD, hO, hR⟩ := QTm.back hB1 ht hFc hR (fun q h => by simp only [List.mem_cons, List.not_mem_nil, or_false] at h ⊢; omega)
                have hF_165 : F_160 ml = .inl (cs 17, 3000, .inl gl) := (hB1.2.2.2 ml (by rw [ht_37]; simp)).trans hF_153
                have hF_166 : F_160 h0 = .inr (15, (.ref ta) :: (.int (nI zt)) :: (.int (nI zo)) :: (.int (nI ze)) :: (.ref ou) :: (.ref so) :: (.ref ad) :: (.ref na) :: (.ref va) :: (.ref lc) :: (.ref dm) :: (.int (nI fm)) :: (.int (nI sn)) :: (.ref tg) :: (.int v14_40) :: (.int v15_41) :: (.ref pe) :: (.int v17_42) :: (.int v18_43) :: (.int v19_44) :: (.int v20_45) :: (.int v21_46) :: (.int v22_47) :: (.ref ml) :: (.ref bg) :: (.ref co) :: (.ref sp) :: (.ref nb0) :: (.ref nb1) :: (.ref nb2) :: (.int (nI nf)) :: (.int (nI bd)) :: (.int (nI mm)) :: (.int v33_48) :: (.ref pl) :: (.ref se) :: (.ref ke) :: (.ref wi) :: (.ref hs) :: (.ref mo) :: (.ref po) :: (.ref nu) :: (.ref pr) :: (.ref sq) :: (.ref xa) :: (.ref sa) :: (.ref n64) :: (.ref m64) :: (.ref ex) :: (.ref wh) :: (.ref sd) :: (.ref tk) :: (.int v52_49) :: (.int v53_50) :: (.int v54_51) :: (.ref hd) :: (.ref ak) :: (.ref ho) :: (.ref ot) :: []) := (hB1.2.2.2 h0 (by rw [hT_h0]; simp)).trans hF_154
                have hF_167 : F_160 bg = .inl (cs 16, 21, .inl f_63) := (hB1.2.2.2 bg (by rw [ht_62]; simp)).trans hF_155
                have hF_168 : F_160 co = .inl (cs 16, 21, .inl f_78) := (hB1.2.2.2 co (by rw [ht_77]; simp)).trans hF_156
                generalize H1 = H at hP hS ⊢
                have hom_169 := OUTM.add (y := (0, i)) hom_157 hq_164 (by rw [len1]) rfl
                refine lv_iinc (v := (nI (i + 1))) (lv' := [(8, .int (nI (i + 1))), (6, .int 1), (7, .int 0), (5, .int (nI kd)), (0, .ref h0), (1, .int (nI jf)), (2, .int x2), (3, .int 0), (4, .int 0)]) hx hb dX15_fieldPlain_220 hl (k := 2) rfl (nI_1 _) (by decide) rfl (fun ls hl => ?_)
                refine lv_goto (tgt := 127) hx hb dX15_fieldPlain_223 (by decide) ?_
                refine W.widen (k := 0) (n := 0) (by omega) (by omega) ?_
                exact ih_104 ((i + 1), 1, 0, (aa ++ [(2, 32)] ++ [(0, i)])) F_160 (⟨⟨⟨by omega, by omega⟩, Or.inr rfl, by rw [len1, len1]; have h9 := hp5.resolve_left c_121; omega, Or.inl rfl, (by rw [wv_z]; exact rv_b hp6 hib (clg0n c_115) (clg1n (ifb0 hw_119 c_120)) (by rw [wv_n c_134]; exact c_121)), (by rw [len1, len1]; exact hq_162)⟩, _, hq_163, hom_169⟩) (by show kd - (i + 1) < kd - i; omega) hO hR _ _ hP hD hS ls (lv_sub hl [0, 2, 1, 3, 4, 5, 6, 7, 8] rfl)
          ·
            refine lv_iconst (v := 1) hx hb dX15_fieldPlain_175 (by decide) ?_
            refine lv_istore (lv' := [(7, .int 1), (8, .int (nI i)), (6, .int w6), (5, .int (nI kd)), (0, .ref h0), (1, .int (nI jf)), (2, .int x2), (3, .int 0), (4, .int 0)]) hx hb dX15_fieldPlain_176 hl (by decide) rfl (fun ls hl => ?_)
            refine lv_goto (tgt := 220) hx hb dX15_fieldPlain_178 (by decide) ?_
            refine lv_iinc (v := (nI (i + 1))) (lv' := [(8, .int (nI (i + 1))), (7, .int 1), (6, .int w6), (5, .int (nI kd)), (0, .ref h0), (1, .int (nI jf)), (2, .int x2), (3, .int 0), (4, .int 0)]) hx hb dX15_fieldPlain_220 hl (k := 1) rfl (nI_1 _) (by decide) rfl (fun ls hl => ?_)
            refine lv_goto (tgt := 127) hx hb dX15_fieldPlain_223 (by decide) ?_
            refine W.widen (k := 0) (n := 0) (by omega) (by omega) ?_
            exact ih_104 ((i + 1), w6, 1, aa) F_98 (⟨⟨⟨by omega, by omega⟩, hp3, by omega, Or.inr (by omega), (by rw [wv_1 hp3]; exact rv_1 hp6 hib (clg1 (ifb1 hw_119 c_120))), hp2⟩, _, hq1, hq2⟩) (by show kd - (i + 1) < kd - i; omega) hO hR _ _ hP hD hS ls (lv_sub hl [0, 1, 2, 3, 4, 5, 6, 7, 8] rfl)
        ·
          refine lv_goto (tgt := 220) hx hb dX15_fieldPlain_159 (by decide) ?_
          refine lv_iinc (v := (nI (i + 1))) (lv' := [(8, .int (nI (i + 1))), (7, .int w7), (6, .int w6), (5, .int (nI kd)), (0, .ref h0), (1, .int (nI jf)), (2, .int x2), (3, .int 0), (4, .int 0)]) hx hb dX15_fieldPlain_220 hl (k := 0) rfl (nI_1 _) (by decide) rfl (fun ls hl => ?_)
          refine lv_goto (tgt := 127) hx hb dX15_fieldPlain_223 (by decide) ?_
          refine W.widen (k := 0) (n := 0) (by omega) (by omega) ?_
          exact ih_104 ((i + 1), w6, w7, aa) F_98 (⟨⟨⟨by omega, by omega⟩, hp3, by omega, by rcases hp5 with q | q; exact Or.inl q; exact Or.inr (by omega), rv_0 hp6 hib (clg0 c_115), hp2⟩, _, hq1, hq2⟩) (by show kd - (i + 1) < kd - i; omega) hO hR _ _ hP hD hS ls (lv_sub hl [0, 1, 2, 3, 4, 5, 6, 7, 8] rfl)
    ·
      have hi_170 : j < (gm 1 jf) := ltN (N := (gm 1 jf)) c_82
      refine lv_aload_n hx hb dX15_fieldPlain_79 rfl (lv_at hl 2 rfl) ?_
      refine pg_get (ci := 15) (v := .ref pl) (C := RX15) (T := TX15) (N := 59) hx hb hts it_15 hown hK hP hL_h0 hF_74 rfl 34 (by decide) (hts _ kt_901) (fun _ h9 => h9) rfl dX15_fieldPlain_80 ?_
      refine lv_aload_n hx hb dX15_fieldPlain_83 rfl (lv_at hl 2 rfl) ?_
      refine pg_get (ci := 15) (v := .ref ml) (C := RX15) (T := TX15) (N := 59) hx hb hts it_15 hown hK hP hL_h0 hF_74 rfl 23 (by decide) (hts _ kt_887) (fun _ h9 => h9) rfl dX15_fieldPlain_84 ?_
      refine lv_iload hx hb dX15_fieldPlain_87 (lv_at hl 0 rfl) ?_
      refine pg_bald hx hb hK hP hi_36 1 hF_73 rfl (vp_in_nI (by omega) (by omega)) dX15_fieldPlain_89 ?_
      refine lv_topi (fun x_171 ex_171 => ?_)
      obtain rfl : x_171 = gl j := ex_171.trans (congrArg gl (show ((nI j) : Int32).toNatClampNeg = j from nI_clamp (by omega)))
      have hFc := pg_free hD hS hA
      refine va_calli (va_runS (As := [.int (gl j)]) (rest := [.ref pl]) ⟨hx, hb, hml, hown, hts⟩ (s_X15_small_e l dC dI cs ty gm L H.size F_67 (gl j) hW ) ⟨callB_of 1 hts (gi kt_697) rfl rfl rfl (hts _ kt_669) (hts _ kt_698) (by decide +kernel) ⟨Nat.le_of_ble_eq_true rfl, Nat.le_of_ble_eq_true rfl⟩, (hts _ kt_699)⟩ ⟨fun a U g mk q => ⟨q.1, PTm.calling q.2⟩, fun U hU hWm => ⟨rfl, PTm.mk hU hWm hP hK hD hE hO⟩⟩ rfl rfl hl.1 rfl (lv_room (Nat.le_of_ble_eq_true rfl)) dX15_fieldPlain_90 ⟨by show _ + 0 ≤ 0; omega, by show _ + 0 ≤ 0; omega⟩) hS (fun q _ h => hFc q h) hFc (fun r_172 u t H1 locs ht hvm hw hB hz1 hk1 hS => ?_)
      obtain ⟨F_173, hB1⟩ := hB
      obtain rfl : F_67 = F_173 := (funext (fun a => hB1.2.2.2 a List.not_mem_nil)).symm
      obtain ⟨hP, hD, hO, hR⟩ := QTm.back hB1 ht hFc hR (fun q h => absurd h List.not_mem_nil)
      generalize H1 = H at hP hS ⊢
      have hw : r_172 = smv (gl j) := hw
      subst hw
      have hFc := pg_free hD hS hA
      refine va_callv (va_runV (As := [.int (smv (gl j))]) (rest := []) ⟨hx, hb, hml, hown, hts⟩ (s_X14_add_c l dC dI cs ty gm L H.size F_67 pl (ρ + 10) rl 6000 (j - gm 0 jf) (smv (gl j)) fq hW hL_pl hT_pl hp2 hq1 (by first | omega | assumption | exact Or.inl rfl)) ⟨callB_of 1 hts (gi kt_711) rfl rfl rfl (hts _ kt_676) (hts _ kt_712) (by decide +kernel) ⟨Nat.le_of_ble_eq_true rfl, Nat.le_of_ble_eq_true rfl⟩, (hts _ kt_713), (hts _ kt_714)⟩ ⟨fun a U g mk q => ⟨q.1, PTm.calling q.2⟩, pg_recv hK hP hL_pl hp2 (q := (RX14, TX14, 2)) rfl, fun U hU hWm => ⟨rfl, PTm.mk hU hWm hP hK hD hE hO⟩⟩ rfl rfl hl.1 rfl (lv_room (Nat.le_of_ble_eq_true rfl)) dX15_fieldPlain_93 ⟨by show _ + 0 ≤ 0; omega, by show _ + 0 ≤ 0; omega⟩) hS (fun q _ h => hFc q h) hFc (fun u t H1 locs ht hvm hw hB hz1 hk1 hS => ?_)
      obtain ⟨F_175, f2_176, hB1, hq_177, hq_178, hq_179⟩ := hB
      obtain ⟨hP, hD, hO, hR⟩ := QTm.back hB1 ht hFc hR (fun q h => by simp only [List.mem_cons, List.not_mem_nil, or_false] at h ⊢; omega)
      have hF_180 : F_175 ml = .inl (cs 17, 3000, .inl gl) := (hB1.2.2.2 ml (by rw [ht_37]; simp)).trans hF_73
      have hF_181 : F_175 h0 = .inr (15, (.ref ta) :: (.int (nI zt)) :: (.int (nI zo)) :: (.int (nI ze)) :: (.ref ou) :: (.ref so) :: (.ref ad) :: (.ref na) :: (.ref va) :: (.ref lc) :: (.ref dm) :: (.int (nI fm)) :: (.int (nI sn)) :: (.ref tg) :: (.int v14_40) :: (.int v15_41) :: (.ref pe) :: (.int v17_42) :: (.int v18_43) :: (.int v19_44) :: (.int v20_45) :: (.int v21_46) :: (.int v22_47) :: (.ref ml) :: (.ref bg) :: (.ref co) :: (.ref sp) :: (.ref nb0) :: (.ref nb1) :: (.ref nb2) :: (.int (nI nf)) :: (.int (nI bd)) :: (.int (nI mm)) :: (.int v33_48) :: (.ref pl) :: (.ref se) :: (.ref ke) :: (.ref wi) :: (.ref hs) :: (.ref mo) :: (.ref po) :: (.ref nu) :: (.ref pr) :: (.ref sq) :: (.ref xa) :: (.ref sa) :: (.ref n64) :: (.ref m64) :: (.ref ex) :: (.ref wh) :: (.ref sd) :: (.ref tk) :: (.int v52_49) :: (.int v53_50) :: (.int v54_51) :: (.ref hd) :: (.ref ak) :: (.ref ho) :: (.ref ot) :: []) := (hB1.2.2.2 h0 (by rw [hT_h0]; simp)).trans hF_74
      have hF_182 : F_175 bg = .inl (cs 16, 21, .inl f_63) := (hB1.2.2.2 bg (by rw [ht_62]; simp)).trans hF_75
      have hF_183 : F_175 co = .inl (cs 16, 21, .inl f_78) := (hB1.2.2.2 co (by rw [ht_77]; simp)).trans hF_79
      generalize H1 = H at hP hS ⊢
      have hom_184 := OUTM.rs hq2 (by omega) hq_179 rfl rfl
      refine lv_iinc (v := (nI (j + 1))) (lv' := [(6, .int (nI (j + 1))), (5, .int (nI kd)), (0, .ref h0), (1, .int (nI jf)), (2, .int x2), (3, .int 0), (4, .int 0)]) hx hb dX15_fieldPlain_96 hl (k := 0) rfl (nI_1 _) (by decide) rfl (fun ls hl => ?_)
      refine lv_goto (tgt := 68) hx hb dX15_fieldPlain_99 (by decide) ?_
      refine W.widen (k := 0) (n := 0) (by omega) (by omega) ?_
      exact ih_72 (j + 1) F_175 (⟨⟨⟨by omega, by omega⟩, (by rw [show j + 1 - gm 0 jf = ((j - gm 0 jf) + 1) by omega]; exact hq_177)⟩, _, hq_178, hom_184⟩) (by show gm 1 jf - (j + 1) < gm 1 jf - j; omega) hO hR _ _ hP hD hS ls (lv_sub hl [0, 1, 2, 3, 4, 5, 6] rfl)
  ·
    refine lv_aload_n hx hb dX15_fieldPlain_11 rfl (lv_at hl 1 rfl) ?_
    refine pg_get (ci := 15) (v := .ref bg) (C := RX15) (T := TX15) (N := 59) hx hb hts it_15 hown hK hP hL_h0 hF_52 rfl 24 (by decide) (hts _ kt_888) (fun _ h9 => h9) rfl dX15_fieldPlain_12 ?_
    refine lv_iload_n hx hb dX15_fieldPlain_15 rfl (lv_at hl 2 rfl) ?_
    obtain ⟨hi_185, ht_186⟩ := hW.f_bg hL_h0 hT_h0
    obtain ⟨f_187, hF_188, hq_189⟩ := hO.pos hi_185 ht_186
    refine pg_iald hx hb hK hP hi_185 0 hF_188 rfl (vp_in_nI (by omega) (by omega)) dX15_fieldPlain_16 ?_
    refine lv_topi (fun x_190 ex_190 => ?_)
    obtain rfl : x_190 = (nI (gm 0 jf)) := ex_190.trans (by rw [show ((nI jf) : Int32) = nI jf from rfl, nI_clamp (by omega)]; exact hq_189 jf (by omega))
    have hgbx_190 := hgB 0 jf
    refine lv_istore (lv' := [(6, .int (nI (gm 0 jf))), (5, .int (nI kd)), (0, .ref h0), (1, .int (nI jf)), (2, .int x2), (3, .int 0), (4, .int 0)]) hx hb dX15_fieldPlain_17 hl (by decide) rfl (fun ls hl => ?_)
    refine W.widen (k := 0) (n := 0) (by omega) (by omega) ?_
    have hF_192 : F ml = .inl (cs 17, 3000, .inl gl) := (hR ml (by rw [ht_37]; simp)).symm.trans hFml
    have hF_193 : F h0 = .inr (15, (.ref ta) :: (.int (nI zt)) :: (.int (nI zo)) :: (.int (nI ze)) :: (.ref ou) :: (.ref so) :: (.ref ad) :: (.ref na) :: (.ref va) :: (.ref lc) :: (.ref dm) :: (.int (nI fm)) :: (.int (nI sn)) :: (.ref tg) :: (.int v14_40) :: (.int v15_41) :: (.ref pe) :: (.int v17_42) :: (.int v18_43) :: (.int v19_44) :: (.int v20_45) :: (.int v21_46) :: (.int v22_47) :: (.ref ml) :: (.ref bg) :: (.ref co) :: (.ref sp) :: (.ref nb0) :: (.ref nb1) :: (.ref nb2) :: (.int (nI nf)) :: (.int (nI bd)) :: (.int (nI mm)) :: (.int v33_48) :: (.ref pl) :: (.ref se) :: (.ref ke) :: (.ref wi) :: (.ref hs) :: (.ref mo) :: (.ref po) :: (.ref nu) :: (.ref pr) :: (.ref sq) :: (.ref xa) :: (.ref sa) :: (.ref n64) :: (.ref m64) :: (.ref ex) :: (.ref wh) :: (.ref sd) :: (.ref tk) :: (.int v52_49) :: (.int v53_50) :: (.int v54_51) :: (.ref hd) :: (.ref ak) :: (.ref ho) :: (.ref ot) :: []) := (hR h0 (by rw [hT_h0]; simp)).symm.trans hF_52
    have hF_194 : F bg = .inl (cs 16, 21, .inl f_187) := (hR bg (by rw [ht_186]; simp)).symm.trans hF_188
    refine pl_loopm (σ := Nat) A (dC, dI) cs ty gm L [ρ + 10] F 19 9 (fun j => [(6, .int (nI j)), (5, .int (nI kd)), (0, .ref h0), (1, .int (nI jf)), (2, .int x2), (3, .int 0), (4, .int 0)]) (fun j => []) (fun j FF => ((gm 0 jf ≤ j ∧ j ≤ kd) ∧ FF pl = .inr (14, [.ref rl, .int (nI (j - gm 0 jf))])) ∧ ∃ fq : Nat → Int32, FF rl = .inl (cs 17, 6000, .inl fq) ∧ OUTM gl fq (rng 0 (gm 0 jf) (j - gm 0 jf))) (fun j => kd - j) ?_ (gm 0 jf) F (⟨⟨⟨by omega, by omega⟩, (by rw [show gm 0 jf - gm 0 jf = 0 by omega]; exact hFl)⟩, _, hF_34, (by rw [Nat.sub_self]; exact OUTM.nil)⟩) hO hR _ _ hP hD hS ls (lv_sub hl [0, 1, 2, 3, 4, 5, 6] rfl)
    rintro j F_191 hv_195 hO hR ih_196 H locs hP hD hS ls hl
    have hl : lv_has ls 9 [(6, .int (nI j)), (5, .int (nI kd)), (0, .ref h0), (1, .int (nI jf)), (2, .int x2), (3, .int 0), (4, .int 0)] := hl
    have hv_195 : ((gm 0 jf ≤ j ∧ j ≤ kd) ∧ F_191 pl = .inr (14, [.ref rl, .int (nI (j - gm 0 jf))])) ∧ ∃ fq : Nat → Int32, F_191 rl = .inl (cs 17, 6000, .inl fq) ∧ OUTM gl fq (rng 0 (gm 0 jf) (j - gm 0 jf)) := hv_195
    refine W.eq (g2 := F0 m 19 ls []) rfl ?_
    have hF_197 : F_191 ml = .inl (cs 17, 3000, .inl gl) := (hR ml (by rw [ht_37]; simp)).trans hF_192
    have hF_198 : F_191 h0 = .inr (15, (.ref ta) :: (.int (nI zt)) :: (.int (nI zo)) :: (.int (nI ze)) :: (.ref ou) :: (.ref so) :: (.ref ad) :: (.ref na) :: (.ref va) :: (.ref lc) :: (.ref dm) :: (.int (nI fm)) :: (.int (nI sn)) :: (.ref tg) :: (.int v14_40) :: (.int v15_41) :: (.ref pe) :: (.int v17_42) :: (.int v18_43) :: (.int v19_44) :: (.int v20_45) :: (.int v21_46) :: (.int v22_47) :: (.ref ml) :: (.ref bg) :: (.ref co) :: (.ref sp) :: (.ref nb0) :: (.ref nb1) :: (.ref nb2) :: (.int (nI nf)) :: (.int (nI bd)) :: (.int (nI mm)) :: (.int v33_48) :: (.ref pl) :: (.ref se) :: (.ref ke) :: (.ref wi) :: (.ref hs) :: (.ref mo) :: (.ref po) :: (.ref nu) :: (.ref pr) :: (.ref sq) :: (.ref xa) :: (.ref sa) :: (.ref n64) :: (.ref m64) :: (.ref ex) :: (.ref wh) :: (.ref sd) :: (.ref tk) :: (.int v52_49) :: (.int v53_50) :: (.int v54_51) :: (.ref hd) :: (.ref ak) :: (.ref ho) :: (.ref ot) :: []) := (hR h0 (by rw [hT_h0]; simp)).trans hF_193
    have hF_199 : F_191 bg = .inl (cs 16, 21, .inl f_187) := (hR bg (by rw [ht_186]; simp)).trans hF_194
    obtain ⟨hv9, fq, hq1, hq2⟩ := id hv_195
    obtain ⟨hp1, hp2⟩ := id hv9
    refine lv_iload hx hb dX15_fieldPlain_19 (lv_at hl 0 rfl) ?_
    refine lv_iload hx hb dX15_fieldPlain_21 (lv_at hl 1 rfl) ?_
    refine lv_icmp_ge (tgt := 59) hx hb dX15_fieldPlain_23 (by decide) (fun c_200 => ?_) (fun c_200 => ?_)
    ·
      have hi_201 : kd ≤ j := leN (N := kd) c_200
      refine W.widen (k := 0) (n := 0) (by omega) (by omega) ?_
      exact W.vret hx hb hr (fun t ht hWm => ⟨⟨(), rfl, trivial, ⟨F_191, fq, QTm.mk ht hP hD hO hR, (by rw [FPL_s c_60, rng_len, show kd - gm 0 jf = (j - gm 0 jf) by omega]; exact hp2), hq1, (by rw [FPL_s c_60, show kd = j by omega]; exact hq2)⟩⟩, hS.F ht⟩) hS.2.2 dX15_fieldPlain_59
    ·
      have hi_202 : j < kd := ltN (N := kd) c_200
      refine lv_iload hx hb dX15_fieldPlain_26 (lv_at hl 0 rfl) ?_
      refine lv_iload_n hx hb dX15_fieldPlain_28 rfl (lv_at hl 5 rfl) ?_
      refine lv_icmp_lt (tgt := 39) hx hb dX15_fieldPlain_29 (by decide) (fun c_203 => absurd c_203 (nI_pos (by omega))) (fun c_203 => ?_)
      refine lv_iload hx hb dX15_fieldPlain_32 (lv_at hl 0 rfl) ?_
      refine lv_iload hx hb dX15_fieldPlain_34 (lv_at hl 6 rfl) ?_
      refine lv_icmp_lt (tgt := 53) hx hb dX15_fieldPlain_36 (by decide) (fun c_204 => absurd c_204 (nI_pos (by omega))) (fun c_204 => ?_)
      refine lv_aload_n hx hb dX15_fieldPlain_39 rfl (lv_at hl 2 rfl) ?_
      refine pg_get (ci := 15) (v := .ref pl) (C := RX15) (T := TX15) (N := 59) hx hb hts it_15 hown hK hP hL_h0 hF_198 rfl 34 (by decide) (hts _ kt_901) (fun _ h9 => h9) rfl dX15_fieldPlain_40 ?_
      refine lv_aload_n hx hb dX15_fieldPlain_43 rfl (lv_at hl 2 rfl) ?_
      refine pg_get (ci := 15) (v := .ref ml) (C := RX15) (T := TX15) (N := 59) hx hb hts it_15 hown hK hP hL_h0 hF_198 rfl 23 (by decide) (hts _ kt_887) (fun _ h9 => h9) rfl dX15_fieldPlain_44 ?_
      refine lv_iload hx hb dX15_fieldPlain_47 (lv_at hl 0 rfl) ?_
      refine pg_bald hx hb hK hP hi_36 1 hF_197 rfl (vp_in_nI (by omega) (by omega)) dX15_fieldPlain_49 ?_
      refine lv_topi (fun x_205 ex_205 => ?_)
      obtain rfl : x_205 = gl j := ex_205.trans (congrArg gl (show ((nI j) : Int32).toNatClampNeg = j from nI_clamp (by omega)))
      have hFc := pg_free hD hS hA
      refine va_callv (va_runV (As := [.int (gl j)]) (rest := []) ⟨hx, hb, hml, hown, hts⟩ (s_X14_add_c l dC dI cs ty gm L H.size F_191 pl (ρ + 10) rl 6000 (j - gm 0 jf) (gl j) fq hW hL_pl hT_pl hp2 hq1 (by first | omega | assumption | exact Or.inl rfl)) ⟨callB_of 1 hts (gi kt_711) rfl rfl rfl (hts _ kt_676) (hts _ kt_712) (by decide +kernel) ⟨Nat.le_of_ble_eq_true rfl, Nat.le_of_ble_eq_true rfl⟩, (hts _ kt_713), (hts _ kt_714)⟩ ⟨fun a U g mk q => ⟨q.1, PTm.calling q.2⟩, pg_recv hK hP hL_pl hp2 (q := (RX14, TX14, 2)) rfl, fun U hU hWm => ⟨rfl, PTm.mk hU hWm hP hK hD hE hO⟩⟩ rfl rfl hl.1 rfl (lv_room (Nat.le_of_ble_eq_true rfl)) dX15_fieldPlain_50 ⟨by show _ + 0 ≤ 0; omega, by show _ + 0 ≤ 0; omega⟩) hS (fun q _ h => hFc q h) hFc (fun u t H1 locs ht hvm hw hB hz1 hk1 hS => ?_)
      obtain ⟨F_207, f2_208, hB1, hq_209, hq_210, hq_211⟩ := hB
      obtain ⟨hP, hD, hO, hR⟩ := QTm.back hB1 ht hFc hR (fun q h => by simp only [List.mem_cons, List.not_mem_nil, or_false] at h ⊢; omega)
      have hF_212 : F_207 ml = .inl (cs 17, 3000, .inl gl) := (hB1.2.2.2 ml (by rw [ht_37]; simp)).trans hF_197
      have hF_213 : F_207 h0 = .inr (15, (.ref ta) :: (.int (nI zt)) :: (.int (nI zo)) :: (.int (nI ze)) :: (.ref ou) :: (.ref so) :: (.ref ad) :: (.ref na) :: (.ref va) :: (.ref lc) :: (.ref dm) :: (.int (nI fm)) :: (.int (nI sn)) :: (.ref tg) :: (.int v14_40) :: (.int v15_41) :: (.ref pe) :: (.int v17_42) :: (.int v18_43) :: (.int v19_44) :: (.int v20_45) :: (.int v21_46) :: (.int v22_47) :: (.ref ml) :: (.ref bg) :: (.ref co) :: (.ref sp) :: (.ref nb0) :: (.ref nb1) :: (.ref nb2) :: (.int (nI nf)) :: (.int (nI bd)) :: (.int (nI mm)) :: (.int v33_48) :: (.ref pl) :: (.ref se) :: (.ref ke) :: (.ref wi) :: (.ref hs) :: (.ref mo) :: (.ref po) :: (.ref nu) :: (.ref pr) :: (.ref sq) :: (.ref xa) :: (.ref sa) :: (.ref n64) :: (.ref m64) :: (.ref ex) :: (.ref wh) :: (.ref sd) :: (.ref tk) :: (.int v52_49) :: (.int v53_50) :: (.int v54_51) :: (.ref hd) :: (.ref ak) :: (.ref ho) :: (.ref ot) :: []) := (hB1.2.2.2 h0 (by rw [hT_h0]; simp)).trans hF_198
      have hF_214 : F_207 bg = .inl (cs 16, 21, .inl f_187) := (hB1.2.2.2 bg (by rw [ht_186]; simp)).trans hF_199
      generalize H1 = H at hP hS ⊢
      have hom_215 := OUTM.rs hq2 (by omega) hq_211 rfl rfl
      refine lv_iinc (v := (nI (j + 1))) (lv' := [(6, .int (nI (j + 1))), (5, .int (nI kd)), (0, .ref h0), (1, .int (nI jf)), (2, .int x2), (3, .int 0), (4, .int 0)]) hx hb dX15_fieldPlain_53 hl (k := 0) rfl (nI_1 _) (by decide) rfl (fun ls hl => ?_)
      refine lv_goto (tgt := 19) hx hb dX15_fieldPlain_56 (by decide) ?_
      refine W.widen (k := 0) (n := 0) (by omega) (by omega) ?_
      exact ih_196 (j + 1) F_207 (⟨⟨⟨by omega, by omega⟩, (by rw [show j + 1 - gm 0 jf = ((j - gm 0 jf) + 1) by omega]; exact hq_209)⟩, _, hq_210, hom_215⟩) (by show kd - (j + 1) < kd - j; omega) hO hR _ _ hP hD hS ls (lv_sub hl [0, 1, 2, 3, 4, 5, 6] rfl)
theorem cpy_0 {f fr : Nat → Int32} {k : Nat} (hk : k ≤ 20000) : ∀ j, j < k → va_cpy f fr (0 : Int32).toNatClampNeg (0 : Int32).toNatClampNeg (nI k).toNatClampNeg j = f j := by
  intro j hj
  rw [show (0 : Int32).toNatClampNeg = 0 by decide, nI_clamp (by omega)]
  show (if 0 ≤ j ∧ j < 0 + k then f (0 + (j - 0)) else fr j) = _
  rw [if_pos ⟨Nat.zero_le _, by omega⟩, Nat.sub_zero, Nat.zero_add]
theorem OUTM.cg {f g g2 : Nat → Int32} {w : List (Nat × Nat)} (h : OUTM f g w) (he : ∀ j, j < w.length → g2 j = g j) : OUTM f g2 w := by
  intro j y hj
  have h9 : j < w.length := by
    rcases Nat.lt_or_ge j w.length with q | q
    · exact q
    · rw [List.getElem?_eq_none q] at hj
      cases hj
  rw [he j h9]
  exact h j y hj
set_option maxHeartbeats 4000000 in
set_option maxRecDepth 100000 in
theorem s_X15_tell_c (l : Launch) (dC : Nat → ClassId) (dI : Nat → Nat → Nat) (cs : Nat → ClassId) (ty : TyM) (gm : Nat → Nat → Nat) (L : List Nat) (sz : Nat) (F : Nat → va_E) (h0 : Nat) (ρ : Nat) (ta : Nat) (ou : Nat) (so : Nat) (ad : Nat) (na : Nat) (va : Nat) (lc : Nat) (dm : Nat) (tg : Nat) (pe : Nat) (ml : Nat) (bg : Nat) (co : Nat) (sp : Nat) (nb0 : Nat) (nb1 : Nat) (nb2 : Nat) (pl : Nat) (se : Nat) (ke : Nat) (wi : Nat) (hs : Nat) (mo : Nat) (po : Nat) (nu : Nat) (pr : Nat) (sq : Nat) (xa : Nat) (sa : Nat) (n64 : Nat) (m64 : Nat) (ex : Nat) (wh : Nat) (sd : Nat) (tk : Nat) (hd : Nat) (ak : Nat) (ho : Nat) (ot : Nat) (sx : Nat) (s0 : Nat) (s1 : Nat) (s2 : Nat) (nf : Nat) (bd : Nat) (mm : Nat) (zo : Nat) (fm : Nat) (sn : Nat) (hg : Nat) (gc : Nat) (gv : Nat) (ze : Nat) (zt : Nat) (g1 : Nat) (σ : Nat) (r1 : Nat) (z : Nat) (gp : Nat → Int32) (hW : WTm ty gm L) (hL_h0 : h0 ∈ L) (hT_h0 : ty h0 = (15, ρ, [ta, ou, so, ad, na, va, lc, dm, tg, pe, ml, bg, co, sp, nb0, nb1, nb2, pl, se, ke, wi, hs, mo, po, nu, pr, sq, xa, sa, n64, m64, ex, wh, sd, tk, hd, ak, ho, ot, sx, s0, s1, s2, nf, bd, mm, zo, fm, sn, hg, gc, gv, ze, zt])) (hL_g1 : g1 ∈ L) (hT_g1 : ty g1 = (14, σ, [r1, 6000])) (hFg : F g1 = .inr (14, [.ref r1, .int (nI z)])) (hFp : F r1 = .inl (cs 17, 6000, .inl gp)) (hz6 : z ≤ 6000) : Met l yX15_tell (.code yX15_tell cX15_tell 2 (some .int) :: tb) ({ frames := 1, cells := 0, slots := 0, locals := 48 }) (va_Pc [.ref h0, .ref g1] (PTm (dC, dI) cs ty gm L F sz)) (va_Qi (fun (r : Int32) (_ : Unit) => r = nI z) (fun _ T9 => ∃ F2 : Nat → va_E, ∃ ty2 : TyM, ∃ go : Nat → Int32, ty2 = rtf ty h0 (15, ρ, [ta, ou, so, ad, na, va, lc, dm, tg, pe, ml, bg, co, sp, nb0, nb1, nb2, pl, se, ke, wi, hs, mo, po, nu, pr, sq, xa, sa, n64, m64, ex, wh, sd, tk, hd, ak, ho, ot, sx, s0, s1, s2, nf, bd, mm, z, fm, sn, hg, gc, gv, ze, zt]) ∧ QTm (dC, dI) cs ty2 gm L [ρ, ρ + 2] F F2 (va_A (va_pl L F) sz) T9 ∧ WTm ty2 gm L ∧ F2 ou = .inl (cs 17, 6000, .inl go) ∧ (∀ j, j < z → go j = gp j)) (va_A (va_pl L F) sz)) 0 0 (va_A (va_pl L F) sz) := by
  refine Met.ofW (cc := cX15_tell) (maxL := 2) (ret := (some .int)) (by decide) rfl ?_
  intro p e s m args below meth c s₁ B hml hv
  obtain ⟨rfl, hsz, hP, hK, hD0, hE, hO⟩ := hv
  have hx := B.exec
  have hb := B.bytes
  have hr := B.returns
  have hts : ∀ w ∈ tb, w.before _ s = true := fun w h => atoms_spec (ws := .code yX15_tell cX15_tell 2 (some .int) :: tb) B.pre w (List.mem_cons_of_mem _ h)
  have hown : s.vm.findClass RX15 = some m.cls := findClass_of_methodNamed B.named
  have hlocks := B.notSynchronized
  subst hsz
  have hD := hD0.self (sz := s.heap.size)
  generalize hAe : va_A (va_pl L F) s.heap.size = A at hD ⊢
  have hA : ∀ q : Nat, s.heap.size ≤ q → A q := fun q h => by rw [← hAe]; exact Or.inr h
  have hS : va_S A s.heap s.heap [] := va_S.rf
  have hR : FR ty [ρ, ρ + 2] F F := FR.refl
  have hl := lv_entry ([.ref h0, .ref g1]) (n := 2) (Nat.le_of_ble_eq_true rfl)
  rw [lg_entry_eq]
  generalize (lg_sl ([.ref h0, .ref g1]) ++ List.replicate (2 - (lg_sl ([.ref h0, .ref g1])).length) Slot.unset).toArray = ls at hl ⊢
  have hl : lv_has ls 2 [(0, .ref h0), (1, .ref g1)] := hl
  obtain ⟨hq_23, hq_24, hq_25, hq_26, hq_27, hgO, hgA, hgB, hq_28⟩ := hW.sc hL_h0 hT_h0
  obtain ⟨hi_29, ht_30, hq_31⟩ := hW.txt hL_g1 hT_g1
  have hBp := bfmo hFp (hO.octs hi_29 ht_30)
  refine lv_aload_n hx hb dX15_tell_0 rfl (lv_at hl 1 rfl) ?_
  refine pg_get (ci := 14) (v := .ref r1) (C := RX14) (T := TX14) (N := 2) hx hb hts it_14 hown hK hP hL_g1 hFg rfl 0 (by decide) (hts _ kt_710) (fun _ h9 => h9) rfl dX15_tell_1 ?_
  refine lv_iconst (v := 0) hx hb dX15_tell_4 (by decide) ?_
  refine lv_aload_n hx hb dX15_tell_5 rfl (lv_at hl 0 rfl) ?_
  obtain ⟨v14_32, v15_33, v17_34, v18_35, v19_36, v20_37, v21_38, v22_39, v33_40, v52_41, v53_42, v54_43, hF_44, hq_45, hq_46, hq_47, hq_48, hq_49⟩ := hO.mod hL_h0 hT_h0
  refine pg_get (ci := 15) (v := .ref ou) (C := RX15) (T := TX15) (N := 59) hx hb hts it_15 hown hK hP hL_h0 hF_44 rfl 4 (by decide) (hts _ kt_1120) (fun _ h9 => h9) rfl dX15_tell_6 ?_
  refine lv_iconst (v := 0) hx hb dX15_tell_9 (by decide) ?_
  refine lv_aload_n hx hb dX15_tell_10 rfl (lv_at hl 1 rfl) ?_
  refine pg_get (ci := 14) (v := .int (nI z)) (C := RX14) (T := TX14) (N := 2) hx hb hts it_14 hown hK hP hL_g1 hFg rfl 1 (by decide) (hts _ kt_709) (fun _ h9 => h9) rfl dX15_tell_11 ?_
  obtain ⟨hq_50, hq_51⟩ := hW.octs hi_29 ht_30
  obtain ⟨hi_52, ht_53⟩ := hW.f_ou hL_h0 hT_h0
  obtain ⟨hq_54, hq_55⟩ := hW.octs hi_52 ht_53
  obtain ⟨f_56, hF_57, hq_58⟩ := hO.octs hi_52 ht_53
  refine pg_copyi hx hb (by rw [hml]; exact hl.1.symm) hown (hts _ kt_912) (hts _ kt_29) (hts _ kt_30) (hts _ kt_31) hK hP hD hS hi_29 hi_52 1 1 hFp hF_57 rfl rfl rfl (by decide) (by decide) (nI_pos (by omega)) (by rw [nI_clamp (by omega)]; show 0 + _ ≤ _; omega) (by rw [nI_clamp (by omega)]; show 0 + _ ≤ _; omega) (fun _ _ => hBp _) (Nat.le_of_ble_eq_true rfl) (by decide) dX15_tell_14 (fun H locs hP hD hS => ?_)
  obtain ⟨F_59, he_60, hP, hD, hO, hR⟩ : ∃ G, G = va_up F ou (.inl (cs 17, 6000, .inl (va_cpy gp f_56 (0 : Int32).toNatClampNeg (0 : Int32).toNatClampNeg ((nI z)).toNatClampNeg))) ∧ va_P (dC, dI) vwCl (va_pl L G) H ∧ va_D A (va_pl L G) ∧ OKm cs ty gm L G ∧ FR ty [ρ, ρ + 2] F G := ⟨_, rfl, hP, hD, hO.up (shm.octs ht_53 ⟨_, rfl, bfm_cpy hBp hq_58 _ _ _⟩), hR.up ht_53 (by simp)⟩
  have hF_61 : F_59 ou = .inl (cs 17, 6000, .inl (va_cpy gp f_56 (0 : Int32).toNatClampNeg (0 : Int32).toNatClampNeg ((nI z)).toNatClampNeg)) := by rw [he_60]; exact up_self
  have hF_62 : F_59 g1 = .inr (14, [.ref r1, .int (nI z)]) := by rw [he_60, up_ne (ne_ty hT_g1 ht_53 (by simp))]; exact hFg
  have hF_63 : F_59 h0 = .inr (15, (.ref ta) :: (.int (nI zt)) :: (.int (nI zo)) :: (.int (nI ze)) :: (.ref ou) :: (.ref so) :: (.ref ad) :: (.ref na) :: (.ref va) :: (.ref lc) :: (.ref dm) :: (.int (nI fm)) :: (.int (nI sn)) :: (.ref tg) :: (.int v14_32) :: (.int v15_33) :: (.ref pe) :: (.int v17_34) :: (.int v18_35) :: (.int v19_36) :: (.int v20_37) :: (.int v21_38) :: (.int v22_39) :: (.ref ml) :: (.ref bg) :: (.ref co) :: (.ref sp) :: (.ref nb0) :: (.ref nb1) :: (.ref nb2) :: (.int (nI nf)) :: (.int (nI bd)) :: (.int (nI mm)) :: (.int v33_40) :: (.ref pl) :: (.ref se) :: (.ref ke) :: (.ref wi) :: (.ref hs) :: (.ref mo) :: (.ref po) :: (.ref nu) :: (.ref pr) :: (.ref sq) :: (.ref xa) :: (.ref sa) :: (.ref n64) :: (.ref m64) :: (.ref ex) :: (.ref wh) :: (.ref sd) :: (.ref tk) :: (.int v52_41) :: (.int v53_42) :: (.int v54_43) :: (.ref hd) :: (.ref ak) :: (.ref ho) :: (.ref ot) :: []) := by rw [he_60, up_ne (ne_ty hT_h0 ht_53 (by simp))]; exact hF_44
  obtain ⟨f_64, hF_61, hq_65, hfe_66⟩ : ∃ f : Nat → Int32, F_59 ou = .inl (cs 17, 6000, .inl f) ∧ BFm f ∧ f = va_cpy gp f_56 (0 : Int32).toNatClampNeg (0 : Int32).toNatClampNeg ((nI z)).toNatClampNeg := ⟨_, hF_61, bfm_cpy hBp hq_58 _ _ _, rfl⟩
  refine lv_aload_n hx hb dX15_tell_17 rfl (lv_at hl 0 rfl) ?_
  refine lv_aload_n hx hb dX15_tell_18 rfl (lv_at hl 1 rfl) ?_
  refine pg_get (ci := 14) (v := .int (nI z)) (C := RX14) (T := TX14) (N := 2) hx hb hts it_14 hown hK hP hL_g1 hF_62 rfl 1 (by decide) (hts _ kt_709) (fun _ h9 => h9) rfl dX15_tell_19 ?_
  refine pg_put (ci := 15) (v := .int (nI z)) (ty := .int) (C := RX15) (T := TX15) (N := 59) hx hb hts it_15 tyX15 tyX15_ok nmX15 hown hK hP hD hS hL_h0 hF_63 rfl 2 (by decide) (hts _ kt_1139) (fun _ h9 => h9) rfl (by decide +kernel) (rfl) (rfl) (Nat.le_of_ble_eq_true rfl) dX15_tell_22 (fun H locs hP hD hS => ?_)
  obtain ⟨F_67, he_68, hP, hD, hR⟩ : ∃ G, G = va_up F_59 h0 (.inr (15, (.ref ta) :: (.int (nI zt)) :: (.int (nI z)) :: (.int (nI ze)) :: (.ref ou) :: (.ref so) :: (.ref ad) :: (.ref na) :: (.ref va) :: (.ref lc) :: (.ref dm) :: (.int (nI fm)) :: (.int (nI sn)) :: (.ref tg) :: (.int v14_32) :: (.int v15_33) :: (.ref pe) :: (.int v17_34) :: (.int v18_35) :: (.int v19_36) :: (.int v20_37) :: (.int v21_38) :: (.int v22_39) :: (.ref ml) :: (.ref bg) :: (.ref co) :: (.ref sp) :: (.ref nb0) :: (.ref nb1) :: (.ref nb2) :: (.int (nI nf)) :: (.int (nI bd)) :: (.int (nI mm)) :: (.int v33_40) :: (.ref pl) :: (.ref se) :: (.ref ke) :: (.ref wi) :: (.ref hs) :: (.ref mo) :: (.ref po) :: (.ref nu) :: (.ref pr) :: (.ref sq) :: (.ref xa) :: (.ref sa) :: (.ref n64) :: (.ref m64) :: (.ref ex) :: (.ref wh) :: (.ref sd) :: (.ref tk) :: (.int v52_41) :: (.int v53_42) :: (.int v54_43) :: (.ref hd) :: (.ref ak) :: (.ref ho) :: (.ref ot) :: [])) ∧ va_P (dC, dI) vwCl (va_pl L G) H ∧ va_D A (va_pl L G) ∧ FR ty [ρ, ρ + 2] F G := ⟨_, rfl, hP, hD, hR.up hT_h0 (by simp)⟩
  have hF_69 : F_67 ou = .inl (cs 17, 6000, .inl f_64) := by rw [he_68, up_ne (ne_ty ht_53 hT_h0 (by simp))]; exact hF_61
  have hF_70 : F_67 g1 = .inr (14, [.ref r1, .int (nI z)]) := by rw [he_68, up_ne (ne_ty hT_g1 hT_h0 (by simp))]; exact hF_62
  have hTo := hT_h0
  obtain ⟨ty, hty, hT_h0, hW, hO, hR⟩ : ∃ t9 : TyM, t9 = rtf ty h0 (15, ρ, [ta, ou, so, ad, na, va, lc, dm, tg, pe, ml, bg, co, sp, nb0, nb1, nb2, pl, se, ke, wi, hs, mo, po, nu, pr, sq, xa, sa, n64, m64, ex, wh, sd, tk, hd, ak, ho, ot, sx, s0, s1, s2, nf, bd, mm, z, fm, sn, hg, gc, gv, ze, zt]) ∧ t9 h0 = (15, ρ, [ta, ou, so, ad, na, va, lc, dm, tg, pe, ml, bg, co, sp, nb0, nb1, nb2, pl, se, ke, wi, hs, mo, po, nu, pr, sq, xa, sa, n64, m64, ex, wh, sd, tk, hd, ak, ho, ot, sx, s0, s1, s2, nf, bd, mm, z, fm, sn, hg, gc, gv, ze, zt]) ∧ WTm t9 gm L ∧ OKm cs t9 gm L F_67 ∧ FR t9 [ρ, ρ + 2] F F_67 := ⟨_, rfl, rtf_self, hW.zo hL_h0 hT_h0, (by rw [he_68]; exact OKm.retype hO hT_h0 (shm.mod rtf_self ⟨v14_32, v15_33, v17_34, v18_35, v19_36, v20_37, v21_38, v22_39, v33_40, v52_41, v53_42, v54_43, rfl, (by first | omega | assumption | exact Or.inl rfl | exact Or.inr rfl), (by first | omega | assumption | exact Or.inl rfl | exact Or.inr rfl), (by first | omega | assumption | exact Or.inl rfl | exact Or.inr rfl), (by first | omega | assumption | exact Or.inl rfl | exact Or.inr rfl), (by first | omega | assumption | exact Or.inl rfl | exact Or.inr rfl)⟩)), FR.retype hT_h0 hR⟩
  have hF_71 : F_67 h0 = .inr (15, (.ref ta) :: (.int (nI zt)) :: (.int (nI z)) :: (.int (nI ze)) :: (.ref ou) :: (.ref so) :: (.ref ad) :: (.ref na) :: (.ref va) :: (.ref lc) :: (.ref dm) :: (.int (nI fm)) :: (.int (nI sn)) :: (.ref tg) :: (.int v14_32) :: (.int v15_33) :: (.ref pe) :: (.int v17_34) :: (.int v18_35) :: (.int v19_36) :: (.int v20_37) :: (.int v21_38) :: (.int v22_39) :: (.ref ml) :: (.ref bg) :: (.ref co) :: (.ref sp) :: (.ref nb0) :: (.ref nb1) :: (.ref nb2) :: (.int (nI nf)) :: (.int (nI bd)) :: (.int (nI mm)) :: (.int v33_40) :: (.ref pl) :: (.ref se) :: (.ref ke) :: (.ref wi) :: (.ref hs) :: (.ref mo) :: (.ref po) :: (.ref nu) :: (.ref pr) :: (.ref sq) :: (.ref xa) :: (.ref sa) :: (.ref n64) :: (.ref m64) :: (.ref ex) :: (.ref wh) :: (.ref sd) :: (.ref tk) :: (.int v52_41) :: (.int v53_42) :: (.int v54_43) :: (.ref hd) :: (.ref ak) :: (.ref ho) :: (.ref ot) :: []) := by rw [he_68]; exact up_self
  obtain ⟨hq_94, hq_95, hq_96, hq_97, hq_98, hgO, hgA, hgB, hq_99⟩ := hW.sc hL_h0 hT_h0
  have hT2_g1 : ty g1 = (14, σ, [r1, 6000]) := by rw [hty]; exact rtf_tr hTo (by decide) hT_g1
  refine lv_aload_n hx hb dX15_tell_25 rfl (lv_at hl 1 rfl) ?_
  obtain ⟨hi_100, ht_101, hq_102⟩ := hW.txt hL_g1 hT2_g1
  refine pg_get (ci := 14) (v := .int (nI z)) (C := RX14) (T := TX14) (N := 2) hx hb hts it_14 hown hK hP hL_g1 hF_70 rfl 1 (by decide) (hts _ kt_709) (fun _ h9 => h9) rfl dX15_tell_26 ?_
  refine W.widen (k := 0) (n := 0) (by omega) (by omega) ?_
  exact W.iret (v := (nI z)) hx hb hr (fun t ht hWm => ⟨⟨(nI z), (), rfl, rfl, ⟨F_67, ty, f_64, hty, QTm.mk ht hP hD hO hR, hW, hF_69, (by rw [hfe_66]; exact cpy_0 (by omega))⟩⟩, hS.F ht⟩) hS.2.2 dX15_tell_29
set_option maxHeartbeats 4000000 in
set_option maxRecDepth 100000 in
theorem s_X15_plainField_c (l : Launch) (dC : Nat → ClassId) (dI : Nat → Nat → Nat) (cs : Nat → ClassId) (ty : TyM) (gm : Nat → Nat → Nat) (L : List Nat) (sz : Nat) (F : Nat → va_E) (h0 : Nat) (ρ : Nat) (ta : Nat) (ou : Nat) (so : Nat) (ad : Nat) (na : Nat) (va : Nat) (lc : Nat) (dm : Nat) (tg : Nat) (pe : Nat) (ml : Nat) (bg : Nat) (co : Nat) (sp : Nat) (nb0 : Nat) (nb1 : Nat) (nb2 : Nat) (pl : Nat) (se : Nat) (ke : Nat) (wi : Nat) (hs : Nat) (mo : Nat) (po : Nat) (nu : Nat) (pr : Nat) (sq : Nat) (xa : Nat) (sa : Nat) (n64 : Nat) (m64 : Nat) (ex : Nat) (wh : Nat) (sd : Nat) (tk : Nat) (hd : Nat) (ak : Nat) (ho : Nat) (ot : Nat) (sx : Nat) (s0 : Nat) (s1 : Nat) (s2 : Nat) (nf : Nat) (bd : Nat) (mm : Nat) (zo : Nat) (fm : Nat) (sn : Nat) (hg : Nat) (gc : Nat) (gv : Nat) (ze : Nat) (zt : Nat) (rl : Nat) (gl : Nat → Int32) (go0 : Nat → Int32) (gd : Nat → Nat) (x1 : Int32) (x2 : Int32) (hW : WTm ty gm L) (hL_h0 : h0 ∈ L) (hT_h0 : ty h0 = (15, ρ, [ta, ou, so, ad, na, va, lc, dm, tg, pe, ml, bg, co, sp, nb0, nb1, nb2, pl, se, ke, wi, hs, mo, po, nu, pr, sq, xa, sa, n64, m64, ex, wh, sd, tk, hd, ak, ho, ot, sx, s0, s1, s2, nf, bd, mm, zo, fm, sn, hg, gc, gv, ze, zt])) (hL_pl : pl ∈ L) (hT_pl : ty pl = (14, ρ + 10, [rl, 6000])) (hFml : F ml = .inl (cs 17, 3000, .inl gl)) (hpos : ∀ j, j < nf → gm 2 j = min mm (gd j + 1) ∧ gm 1 j < gd j ∧ gd j ≤ mm ∧ EOK (clr gl) mm (gd j)) (hFo0 : F ou = .inl (cs 17, 6000, .inl go0)) : Met l yX15_plainField (.code yX15_plainField cX15_plainField 3 (some .int) :: tb) ({ frames := 2, cells := 0, slots := 0, locals := 69 }) (va_Pc [.ref h0, .int x1, .int x2] (PTm (dC, dI) cs ty gm L F sz)) (va_Qi (fun (r : Int32) (c2 : Nat) => PFR (clr gl) nf (gm 0) (gm 1) gd x1 x2 r) (fun (c2 : Nat) T9 => ∃ F2 : Nat → va_E, ∃ ty2 : TyM, ∃ go : Nat → Int32, ty2 = rtf ty h0 (15, ρ, [ta, ou, so, ad, na, va, lc, dm, tg, pe, ml, bg, co, sp, nb0, nb1, nb2, pl, se, ke, wi, hs, mo, po, nu, pr, sq, xa, sa, n64, m64, ex, wh, sd, tk, hd, ak, ho, ot, sx, s0, s1, s2, nf, bd, mm, c2, fm, sn, hg, gc, gv, ze, zt]) ∧ QTm (dC, dI) cs ty2 gm L [ρ, ρ + 2, ρ + 10] F F2 (va_A (va_pl L F) sz) T9 ∧ WTm ty2 gm L ∧ F2 ou = .inl (cs 17, 6000, .inl go) ∧ ((¬ (¬ x1 < 0 ∧ x1 < nI nf) ∧ c2 = zo ∧ go = go0) ∨ (∃ jf, jf < nf ∧ x1 = nI jf ∧ c2 = (FPL (clr gl) x2 (gm 0 jf) (gm 1 jf) (gd jf)).length ∧ OUTM gl go (FPL (clr gl) x2 (gm 0 jf) (gm 1 jf) (gd jf))))) (va_A (va_pl L F) sz)) 0 0 (va_A (va_pl L F) sz) := by
  refine Met.ofW (cc := cX15_plainField) (maxL := 3) (ret := (some .int)) (by decide) rfl ?_
  intro p e s m args below meth c s₁ B hml hv
  obtain ⟨rfl, hsz, hP, hK, hD0, hE, hO⟩ := hv
  have hx := B.exec
  have hb := B.bytes
  have hr := B.returns
  have hts : ∀ w ∈ tb, w.before _ s = true := fun w h => atoms_spec (ws := .code yX15_plainField cX15_plainField 3 (some .int) :: tb) B.pre w (List.mem_cons_of_mem _ h)
  have hown : s.vm.findClass RX15 = some m.cls := findClass_of_methodNamed B.named
  have hlocks := B.notSynchronized
  subst hsz
  have hD := hD0.self (sz := s.heap.size)
  generalize hAe : va_A (va_pl L F) s.heap.size = A at hD ⊢
  have hA : ∀ q : Nat, s.heap.size ≤ q → A q := fun q h => by rw [← hAe]; exact Or.inr h
  have hS : va_S A s.heap s.heap [] := va_S.rf
  have hR : FR ty [ρ, ρ + 2, ρ + 10] F F := FR.refl
  have hl := lv_entry ([.ref h0, .int x1, .int x2]) (n := 3) (Nat.le_of_ble_eq_true rfl)
  rw [lg_entry_eq]
  generalize (lg_sl ([.ref h0, .int x1, .int x2]) ++ List.replicate (3 - (lg_sl ([.ref h0, .int x1, .int x2])).length) Slot.unset).toArray = ls at hl ⊢
  have hl : lv_has ls 3 [(0, .ref h0), (1, .int x1), (2, .int x2)] := hl
  obtain ⟨hq_22, hq_23, hq_24, hq_25, hq_26, hgO, hgA, hgB, hq_27⟩ := hW.sc hL_h0 hT_h0
  obtain ⟨hi_28, ht_29, hq_30⟩ := hW.txt hL_pl hT_pl
  obtain ⟨v14_31, v15_32, v17_33, v18_34, v19_35, v20_36, v21_37, v22_38, v33_39, v52_40, v53_41, v54_42, hF_43, hq_44, hq_45, hq_46, hq_47, hq_48⟩ := hO.mod hL_h0 hT_h0
  refine lv_aload_n hx hb dX15_plainField_0 rfl (lv_at hl 0 rfl) ?_
  refine pg_get (ci := 15) (v := .int v33_39) (C := RX15) (T := TX15) (N := 59) hx hb hts it_15 hown hK hP hL_h0 hF_43 rfl 33 (by decide) (hts _ kt_891) (fun _ h9 => h9) rfl dX15_plainField_1 ?_
  refine lv_if_eq (tgt := 23) hx hb dX15_plainField_4 (by decide) (fun c_49 => ?_) (fun c_49 => ?_)
  ·
    have hn0 : nf = 0 := (hq_46.resolve_right (fun q => absurd (q.1.symm.trans c_49) (by decide))).2
    refine lv_bipush (v := (-2)) hx hb dX15_plainField_23 (by decide) ?_
    refine W.widen (k := 0) (n := 0) (by omega) (by omega) ?_
    exact W.iret (v := (-2)) hx hb hr (fun t ht hWm => ⟨⟨(-2), zo, rfl, (Or.inl ⟨fun q => q.1 (by have h9 := q.2; rw [hn0, nI_0] at h9; exact h9), rfl⟩), ⟨F, ty, go0, (rtf_id hT_h0).symm, QTm.mk ht hP hD hO hR, hW, hFo0, (Or.inl ⟨fun q => q.1 (by have h9 := q.2; rw [hn0, nI_0] at h9; exact h9), rfl, rfl⟩)⟩⟩, hS.F ht⟩) hS.2.2 dX15_plainField_25
  ·
    refine lv_iload_n hx hb dX15_plainField_7 rfl (lv_at hl 1 rfl) ?_
    refine lv_i2l (v := x1.toInt64) hx hb dX15_plainField_8 rfl ?_
    refine lv_lconst (v := 0) hx hb dX15_plainField_9 (by decide) ?_
    refine lv_aload_n hx hb dX15_plainField_10 rfl (lv_at hl 0 rfl) ?_
    refine pg_get (ci := 15) (v := .int (nI nf)) (C := RX15) (T := TX15) (N := 59) hx hb hts it_15 hown hK hP hL_h0 hF_43 rfl 30 (by decide) (hts _ kt_892) (fun _ h9 => h9) rfl dX15_plainField_11 ?_
    refine lv_iconst (v := 1) hx hb dX15_plainField_14 (by decide) ?_
    refine lv_isub hx hb dX15_plainField_15 ?_
    refine lv_topi (fun x_50 ex_50 => ?_)
    obtain rfl : x_50 = (nI nf - 1) := ex_50.trans (rfl)
    refine lv_i2l (v := (nI nf - 1).toInt64) hx hb dX15_plainField_16 rfl ?_
    have hFc := pg_free hD hS hA
    refine va_calli (va_runS (As := [.long x1.toInt64, .long 0, .long ((nI nf - 1).toInt64)]) (rest := []) ⟨hx, hb, hml, hown, hts⟩ (s_X15_in l dC dI cs ty gm L s.heap.size F x1.toInt64 0 ((nI nf - 1).toInt64) hW ) ⟨callB_of 3 hts (gi kt_685) rfl rfl rfl (hts _ kt_669) (hts _ kt_705) (by decide +kernel) ⟨Nat.le_of_ble_eq_true rfl, Nat.le_of_ble_eq_true rfl⟩, (hts _ kt_686)⟩ ⟨fun a U g mk q => ⟨q.1, PTm.calling q.2⟩, fun U hU hWm => ⟨rfl, PTm.mk hU hWm hP hK hD hE hO⟩⟩ rfl rfl hl.1 rfl (lv_room (Nat.le_of_ble_eq_true rfl)) dX15_plainField_17 ⟨by show _ + 0 ≤ 0; omega, by show _ + 0 ≤ 0; omega⟩) hS (fun q _ h => hFc q h) hFc (fun r_51 u t H1 locs ht hvm hw hB hz1 hk1 hS => ?_)
    obtain ⟨F_52, hB1⟩ := hB
    obtain rfl : F = F_52 := (funext (fun a => hB1.2.2.2 a List.not_mem_nil)).symm
    obtain ⟨hP, hD, hO, hR⟩ := QTm.back hB1 ht hFc hR (fun q h => absurd h List.not_mem_nil)
    generalize H1 = H at hP hS ⊢
    have hw : r_51 = (if 0 ≤ x1.toInt64 ∧ x1.toInt64 ≤ (nI nf - 1).toInt64 then 1 else 0) := hw
    have hw_53 := hw
    refine lv_if_ne (tgt := 26) hx hb dX15_plainField_20 (by decide) (fun c_54 => ?_) (fun c_54 => ?_)
    ·
      have hin := in_int hw_53 c_54
      rw [Int32.toInt_toInt64, show (1 : Int32) = nI 1 from rfl, pk_sub_toInt (by omega) (by omega), show (0 : Int64).toInt = 0 from by decide] at hin
      obtain ⟨jf, hjf0, rfl⟩ := nI_of (x := x1) (fun h => by rw [Int32.lt_iff_toInt_lt, show (0 : Int32).toInt = 0 from by decide] at h; omega)
      rw [nI_toInt hjf0] at hin
      have hjf : jf < nf := by omega
      have hoj := hgO jf hjf
      obtain ⟨q1, q2, q3, q4⟩ := hpos jf hjf
      refine lv_aload_n hx hb dX15_plainField_26 rfl (lv_at hl 0 rfl) ?_
      refine pg_get (ci := 15) (v := .ref pl) (C := RX15) (T := TX15) (N := 59) hx hb hts it_15 hown hK hP hL_h0 hF_43 rfl 34 (by decide) (hts _ kt_901) (fun _ h9 => h9) rfl dX15_plainField_27 ?_
      refine lv_iconst (v := 0) hx hb dX15_plainField_30 (by decide) ?_
      obtain ⟨z_55, hF_56, hq_57⟩ := hO.txt hL_pl hT_pl
      refine pg_put (ci := 14) (v := .int 0) (ty := .int) (C := RX14) (T := TX14) (N := 2) hx hb hts it_14 tyX14 tyX14_ok nmX14 hown hK hP hD hS hL_pl hF_56 rfl 1 (by decide) (hts _ kt_709) (fun _ h9 => h9) rfl (by decide +kernel) (rfl) (rfl) (Nat.le_of_ble_eq_true rfl) dX15_plainField_31 (fun H locs hP hD hS => ?_)
      obtain ⟨F_58, he_59, hP, hD, hO, hR⟩ : ∃ G, G = va_up F pl (.inr (14, [.ref rl, .int 0])) ∧ va_P (dC, dI) vwCl (va_pl L G) H ∧ va_D A (va_pl L G) ∧ OKm cs ty gm L G ∧ FR ty [ρ, ρ + 2, ρ + 10] F G := ⟨_, rfl, hP, hD, hO.up (shm.txt hT_pl ⟨0, rfl, (by first | omega | assumption | exact Or.inl rfl | exact Or.inr rfl)⟩), hR.up hT_pl (by simp)⟩
      have hF_60 : F_58 pl = .inr (14, [.ref rl, .int 0]) := by rw [he_59]; exact up_self
      obtain ⟨hi_62, ht_63⟩ := hW.f_ml hL_h0 hT_h0
      have hF_61 : F_58 ml = .inl (cs 17, 3000, .inl gl) := by rw [he_59, up_ne (ne_ty ht_63 hT_pl (by simp))]; exact hFml
      obtain ⟨hi_65, ht_66⟩ := hW.f_ou hL_h0 hT_h0
      have hF_64 : F_58 ou = .inl (cs 17, 6000, .inl go0) := by rw [he_59, up_ne (ne_ty ht_66 hT_pl (by simp))]; exact hFo0
      have hF_67 : F_58 h0 = .inr (15, (.ref ta) :: (.int (nI zt)) :: (.int (nI zo)) :: (.int (nI ze)) :: (.ref ou) :: (.ref so) :: (.ref ad) :: (.ref na) :: (.ref va) :: (.ref lc) :: (.ref dm) :: (.int (nI fm)) :: (.int (nI sn)) :: (.ref tg) :: (.int v14_31) :: (.int v15_32) :: (.ref pe) :: (.int v17_33) :: (.int v18_34) :: (.int v19_35) :: (.int v20_36) :: (.int v21_37) :: (.int v22_38) :: (.ref ml) :: (.ref bg) :: (.ref co) :: (.ref sp) :: (.ref nb0) :: (.ref nb1) :: (.ref nb2) :: (.int (nI nf)) :: (.int (nI bd)) :: (.int (nI mm)) :: (.int v33_39) :: (.ref pl) :: (.ref se) :: (.ref ke) :: (.ref wi) :: (.ref hs) :: (.ref mo) :: (.ref po) :: (.ref nu) :: (.ref pr) :: (.ref sq) :: (.ref xa) :: (.ref sa) :: (.ref n64) :: (.ref m64) :: (.ref ex) :: (.ref wh) :: (.ref sd) :: (.ref tk) :: (.int v52_40) :: (.int v53_41) :: (.int v54_42) :: (.ref hd) :: (.ref ak) :: (.ref ho) :: (.ref ot) :: []) := by rw [he_59, up_ne (ne_ty hT_h0 hT_pl (by simp))]; exact hF_43
      refine lv_aload_n hx hb dX15_plainField_34 rfl (lv_at hl 0 rfl) ?_
      refine lv_iload_n hx hb dX15_plainField_35 rfl (lv_at hl 1 rfl) ?_
      refine lv_iload_n hx hb dX15_plainField_36 rfl (lv_at hl 2 rfl) ?_
      refine lv_iconst (v := 0) hx hb dX15_plainField_37 (by decide) ?_
      refine lv_iconst (v := 0) hx hb dX15_plainField_38 (by decide) ?_
      obtain ⟨hq_68, hq_69⟩ := hW.octs hi_62 ht_63
      have hFc := pg_free hD hS hA
      refine va_callv (va_runV (As := [.int (nI jf), .int x2, .int 0, .int 0]) (rest := []) ⟨hx, hb, hml, hown, hts⟩ (s_X15_fieldPlain_c l dC dI cs ty gm L H.size F_58 h0 ρ ta ou so ad na va lc dm tg pe ml bg co sp nb0 nb1 nb2 pl se ke wi hs mo po nu pr sq xa sa n64 m64 ex wh sd tk hd ak ho ot sx s0 s1 s2 nf bd mm zo fm sn hg gc gv ze zt rl jf (gd jf) gl x2 hW hL_h0 hT_h0 hL_pl hT_pl hF_61 (hjf) (q1) (q2) (q3) (q4) hF_60) ⟨callB_of 4 hts (gi kt_933) rfl rfl rfl (hts _ kt_669) (hts _ kt_934) (by decide +kernel) ⟨Nat.le_of_ble_eq_true rfl, Nat.le_of_ble_eq_true rfl⟩, (hts _ kt_935), (hts _ kt_936)⟩ ⟨fun a U g mk q => ⟨q.1, PTm.calling q.2⟩, pg_recv hK hP hL_h0 hF_67 (q := (RX15, TX15, 59)) rfl, fun U hU hWm => ⟨rfl, PTm.mk hU hWm hP hK hD hE hO⟩⟩ rfl rfl hl.1 rfl (lv_room (Nat.le_of_ble_eq_true rfl)) dX15_plainField_39 ⟨by show _ + 0 ≤ 0; omega, by show _ + 0 ≤ 0; omega⟩) hS (fun q _ h => hFc q h) hFc (fun u t H1 locs ht hvm hw hB hz1 hk1 hS => ?_)
      obtain ⟨F_71, f2_72, hB1, hq_73, hq_74, hq_75⟩ := hB
      obtain ⟨hP, hD, hO, hR⟩ := QTm.back hB1 ht hFc hR (fun q h => by simp only [List.mem_cons, List.not_mem_nil, or_false] at h ⊢; omega)
      have hF_76 : F_71 ml = .inl (cs 17, 3000, .inl gl) := (hB1.2.2.2 ml (by rw [ht_63]; simp)).trans hF_61
      have hF_77 : F_71 ou = .inl (cs 17, 6000, .inl go0) := (hB1.2.2.2 ou (by rw [ht_66]; simp)).trans hF_64
      have hF_78 : F_71 h0 = .inr (15, (.ref ta) :: (.int (nI zt)) :: (.int (nI zo)) :: (.int (nI ze)) :: (.ref ou) :: (.ref so) :: (.ref ad) :: (.ref na) :: (.ref va) :: (.ref lc) :: (.ref dm) :: (.int (nI fm)) :: (.int (nI sn)) :: (.ref tg) :: (.int v14_31) :: (.int v15_32) :: (.ref pe) :: (.int v17_33) :: (.int v18_34) :: (.int v19_35) :: (.int v20_36) :: (.int v21_37) :: (.int v22_38) :: (.ref ml) :: (.ref bg) :: (.ref co) :: (.ref sp) :: (.ref nb0) :: (.ref nb1) :: (.ref nb2) :: (.int (nI nf)) :: (.int (nI bd)) :: (.int (nI mm)) :: (.int v33_39) :: (.ref pl) :: (.ref se) :: (.ref ke) :: (.ref wi) :: (.ref hs) :: (.ref mo) :: (.ref po) :: (.ref nu) :: (.ref pr) :: (.ref sq) :: (.ref xa) :: (.ref sa) :: (.ref n64) :: (.ref m64) :: (.ref ex) :: (.ref wh) :: (.ref sd) :: (.ref tk) :: (.int v52_40) :: (.int v53_41) :: (.int v54_42) :: (.ref hd) :: (.ref ak) :: (.ref ho) :: (.ref ot) :: []) := (hB1.2.2.2 h0 (by rw [hT_h0]; simp)).trans hF_67
      generalize H1 = H at hP hS ⊢
      refine lv_aload_n hx hb dX15_plainField_42 rfl (lv_at hl 0 rfl) ?_
      refine lv_aload_n hx hb dX15_plainField_43 rfl (lv_at hl 0 rfl) ?_
      refine pg_get (ci := 15) (v := .ref pl) (C := RX15) (T := TX15) (N := 59) hx hb hts it_15 hown hK hP hL_h0 hF_78 rfl 34 (by decide) (hts _ kt_901) (fun _ h9 => h9) rfl dX15_plainField_44 ?_
      obtain ⟨hq_79, hq_80⟩ := hW.octs hi_28 ht_29
      have hFc := pg_free hD hS hA
      refine va_calli (va_runV (As := [.ref pl]) (rest := []) ⟨hx, hb, hml, hown, hts⟩ (s_X15_tell_c l dC dI cs ty gm L H.size F_71 h0 ρ ta ou so ad na va lc dm tg pe ml bg co sp nb0 nb1 nb2 pl se ke wi hs mo po nu pr sq xa sa n64 m64 ex wh sd tk hd ak ho ot sx s0 s1 s2 nf bd mm zo fm sn hg gc gv ze zt pl (ρ + 10) rl ((FPL (clr gl) x2 (gm 0 jf) (gm 1 jf) (gd jf)).length) f2_72 hW hL_h0 hT_h0 hL_pl hT_pl hq_73 hq_74 (by have h9 := FPL_len (T := clr gl) (x := x2) hoj.1 q2; omega)) ⟨callB_of 1 hts (gi kt_1140) rfl rfl rfl (hts _ kt_669) (hts _ kt_1141) (by decide +kernel) ⟨Nat.le_of_ble_eq_true rfl, Nat.le_of_ble_eq_true rfl⟩, (hts _ kt_1142), (hts _ kt_1143)⟩ ⟨fun a U g mk q => ⟨q.1, PTm.calling q.2⟩, pg_recv hK hP hL_h0 hF_78 (q := (RX15, TX15, 59)) rfl, fun U hU hWm => ⟨rfl, PTm.mk hU hWm hP hK hD hE hO⟩⟩ rfl rfl hl.1 rfl (lv_room (Nat.le_of_ble_eq_true rfl)) dX15_plainField_47 ⟨by show _ + 0 ≤ 0; omega, by show _ + 0 ≤ 0; omega⟩) hS (fun q _ h => hFc q h) hFc (fun r_81 u t H1 locs ht hvm hw hB hz1 hk1 hS => ?_)
      obtain ⟨F_82, ty9, go_83, hty9, hB1, hW9, hq_84, hq_85⟩ := hB
      subst hty9
      have hR9 := FR.retype (im2 := [ta, ou, so, ad, na, va, lc, dm, tg, pe, ml, bg, co, sp, nb0, nb1, nb2, pl, se, ke, wi, hs, mo, po, nu, pr, sq, xa, sa, n64, m64, ex, wh, sd, tk, hd, ak, ho, ot, sx, s0, s1, s2, nf, bd, mm, (FPL (clr gl) x2 (gm 0 jf) (gm 1 jf) (gd jf)).length, fm, sn, hg, gc, gv, ze, zt]) hT_h0 hR
      have hTU := hT_h0
      obtain ⟨hP, hD, hO, hR⟩ := QTm.back hB1 ht hFc hR9 (fun q h => by simp only [List.mem_cons, List.not_mem_nil, or_false] at h ⊢; omega)
      obtain ⟨ty, hty, hT_h0, hW, hO, hR⟩ : ∃ t9 : TyM, t9 = rtf ty h0 (15, ρ, [ta, ou, so, ad, na, va, lc, dm, tg, pe, ml, bg, co, sp, nb0, nb1, nb2, pl, se, ke, wi, hs, mo, po, nu, pr, sq, xa, sa, n64, m64, ex, wh, sd, tk, hd, ak, ho, ot, sx, s0, s1, s2, nf, bd, mm, (FPL (clr gl) x2 (gm 0 jf) (gm 1 jf) (gd jf)).length, fm, sn, hg, gc, gv, ze, zt]) ∧ t9 h0 = (15, ρ, [ta, ou, so, ad, na, va, lc, dm, tg, pe, ml, bg, co, sp, nb0, nb1, nb2, pl, se, ke, wi, hs, mo, po, nu, pr, sq, xa, sa, n64, m64, ex, wh, sd, tk, hd, ak, ho, ot, sx, s0, s1, s2, nf, bd, mm, (FPL (clr gl) x2 (gm 0 jf) (gm 1 jf) (gd jf)).length, fm, sn, hg, gc, gv, ze, zt]) ∧ WTm t9 gm L ∧ OKm cs t9 gm L F_82 ∧ FR t9 [ρ, ρ + 2, ρ + 10] F F_82 := ⟨_, rfl, rtf_self, hW9, hO, hR⟩
      generalize H1 = H at hP hS ⊢
      have hw : r_81 = nI (FPL (clr gl) x2 (gm 0 jf) (gm 1 jf) (gd jf)).length := hw
      subst hw
      obtain ⟨hq_108, hq_109, hq_110, hq_111, hq_112, hgO, hgA, hgB, hq_113⟩ := hW.sc hL_h0 hT_h0
      refine W.widen (k := 0) (n := 0) (by omega) (by omega) ?_
      exact W.iret (v := (nI (FPL (clr gl) x2 (gm 0 jf) (gm 1 jf) (gd jf)).length)) hx hb hr (fun t ht hWm => ⟨⟨(nI (FPL (clr gl) x2 (gm 0 jf) (gm 1 jf) (gd jf)).length), (FPL (clr gl) x2 (gm 0 jf) (gm 1 jf) (gd jf)).length, rfl, (Or.inr ⟨jf, hjf, rfl, rfl⟩), ⟨F_82, ty, go_83, hty, QTm.mk ht hP hD hO hR, hW, hq_84, (Or.inr ⟨jf, hjf, rfl, rfl, OUTM.cg hq_75 hq_85⟩)⟩⟩, hS.F ht⟩) hS.2.2 dX15_plainField_50
    ·
      refine lv_bipush (v := (-2)) hx hb dX15_plainField_23 (by decide) ?_
      refine W.widen (k := 0) (n := 0) (by omega) (by omega) ?_
      exact W.iret (v := (-2)) hx hb hr (fun t ht hWm => ⟨⟨(-2), zo, rfl, (Or.inl ⟨in_pf0 (by omega) hw_53 c_54, rfl⟩), ⟨F, ty, go0, (rtf_id hT_h0).symm, QTm.mk ht hP hD hO hR, hW, hFo0, (Or.inl ⟨in_pf0 (by omega) hw_53 c_54, rfl, rfl⟩)⟩⟩, hS.F ht⟩) hS.2.2 dX15_plainField_25
theorem cpy32 {f g : Nat → Int32} : ∀ j, j < 32 → va_cpy f g (0 : Int32).toNatClampNeg (0 : Int32).toNatClampNeg (32 : Int32).toNatClampNeg j = f j := by
  intro j hj
  rw [show (0 : Int32).toNatClampNeg = 0 by decide, show (32 : Int32).toNatClampNeg = 32 by decide]
  show (if 0 ≤ j ∧ j < 0 + 32 then f (0 + (j - 0)) else g j) = _
  rw [if_pos ⟨Nat.zero_le _, by omega⟩, Nat.sub_zero, Nat.zero_add]
def octm (g : Nat → Int32) (z : Nat) (x : Int32) : Int32 := if x = (-1) then nI z else if x < 0 then (-2) else if x < nI z then g x.toNatClampNeg &&& 255 else (-2)
theorem m1_int {x : Int32} (h : x.toInt = -1) : x = (-1) := Int32.toInt_inj.mp (h.trans (by decide))
theorem oct_no {g : Nat → Int32} {z : Nat} {x r : Int32} (hz : z ≤ 6000) (hr : r = (if (-1 : Int64) ≤ x.toInt64 ∧ x.toInt64 ≤ (nI z - 1).toInt64 then 1 else 0)) (c : r = 0) : (-2) = octm g z x := by
  have h : ¬ ((-1 : Int) ≤ x.toInt ∧ x.toInt ≤ (z : Int) - 1) := fun q => by
    have h9 : (-1 : Int64) ≤ x.toInt64 ∧ x.toInt64 ≤ (nI z - 1).toInt64 := by
      rw [Int64.le_iff_toInt_le, Int64.le_iff_toInt_le, Int32.toInt_toInt64, Int32.toInt_toInt64, show (1 : Int32) = nI 1 from rfl, pk_sub_toInt (by omega) (by omega), show (-1 : Int64).toInt = -1 from by decide]
      omega
    rw [if_pos h9] at hr
    rw [hr] at c
    exact absurd c (by decide)
  unfold octm
  by_cases d : x = (-1)
  · refine absurd ?_ h
    rw [d, show (-1 : Int32).toInt = -1 from by decide]
    omega
  · rw [if_neg d]
    by_cases e : x < 0
    · rw [if_pos e]
    · rw [if_neg e]
      have e1 := pos_int e
      rw [if_neg (fun q => ?_)]
      rw [Int32.lt_iff_toInt_lt, nI_toInt (by omega)] at q
      omega
theorem oct_m {g : Nat → Int32} {z : Nat} {x r : Int32} {B : Int64} (hr : r = (if (-1 : Int64) ≤ x.toInt64 ∧ x.toInt64 ≤ B then 1 else 0)) (c : ¬ r = 0) (hn : x < 0) : nI z = octm g z x := by
  have h := (in_int hr c).1
  rw [show (-1 : Int64).toInt = -1 from by decide] at h
  have h2 := neg_int hn
  unfold octm
  rw [if_pos (m1_int (by omega))]
theorem oct_y {g : Nat → Int32} {z k : Nat} (hk : k < z) (hz : z ≤ 6000) : g k &&& 255 = octm g z (nI k) := by
  unfold octm
  rw [if_neg (fun q => by have h9 := congrArg Int32.toInt q; rw [nI_toInt (by omega), show (-1 : Int32).toInt = -1 from by decide] at h9; omega), if_neg (nI_pos (by omega)), if_pos ((nI_ltI (by omega) (by omega)).mpr hk), nI_clamp (by omega)]
theorem nar_and : ∀ n, n < 256 → (vp_nar .byte (nI n)) &&& 255 = nI n := by decide +kernel
theorem oct_same {f g : Nat → Int32} {z : Nat} {x : Int32} (h : REL f g z) (hz : z ≤ 3000) : octc f z x = octm g z x := by
  unfold octc octm
  by_cases d : x = (-1)
  · rw [if_pos d, if_pos d]
  · rw [if_neg d, if_neg d]
    by_cases e : x < 0
    · rw [if_pos e, if_pos e]
    · rw [if_neg e, if_neg e]
      by_cases c : x < nI z
      · rw [if_pos c, if_pos c]
        obtain ⟨k, hk, rfl⟩ := nI_of e
        rw [nI_clamp hk]
        obtain ⟨n, a1, a2, a3⟩ := h k ((nI_ltI hk (by omega)).mp c)
        rw [a2, a3, nar_and n a1]
      · rw [if_neg c, if_neg c]
set_option maxHeartbeats 4000000 in
set_option maxRecDepth 100000 in
theorem s_X15_digest_c (l : Launch) (dC : Nat → ClassId) (dI : Nat → Nat → Nat) (cs : Nat → ClassId) (ty : TyM) (gm : Nat → Nat → Nat) (L : List Nat) (sz : Nat) (F : Nat → va_E) (h0 : Nat) (ρ : Nat) (ta : Nat) (ou : Nat) (so : Nat) (ad : Nat) (na : Nat) (va : Nat) (lc : Nat) (dm : Nat) (tg : Nat) (pe : Nat) (ml : Nat) (bg : Nat) (co : Nat) (sp : Nat) (nb0 : Nat) (nb1 : Nat) (nb2 : Nat) (pl : Nat) (se : Nat) (ke : Nat) (wi : Nat) (hs : Nat) (mo : Nat) (po : Nat) (nu : Nat) (pr : Nat) (sq : Nat) (xa : Nat) (sa : Nat) (n64 : Nat) (m64 : Nat) (ex : Nat) (wh : Nat) (sd : Nat) (tk : Nat) (hd : Nat) (ak : Nat) (ho : Nat) (ot : Nat) (sx : Nat) (s0 : Nat) (s1 : Nat) (s2 : Nat) (nf : Nat) (bd : Nat) (mm : Nat) (zo : Nat) (fm : Nat) (sn : Nat) (hg : Nat) (gc : Nat) (gv : Nat) (ze : Nat) (zt : Nat) (gt : Nat → Int32) (hW : WTm ty gm L) (hL_h0 : h0 ∈ L) (hT_h0 : ty h0 = (15, ρ, [ta, ou, so, ad, na, va, lc, dm, tg, pe, ml, bg, co, sp, nb0, nb1, nb2, pl, se, ke, wi, hs, mo, po, nu, pr, sq, xa, sa, n64, m64, ex, wh, sd, tk, hd, ak, ho, ot, sx, s0, s1, s2, nf, bd, mm, zo, fm, sn, hg, gc, gv, ze, zt])) (hFta : F ta = .inl (cs 17, 3000, .inl gt)) : Met l yX15_digest_ (.code yX15_digest_ cX15_digest_ 2 (some .int) :: tb) ({ frames := 6, cells := 0, slots := 0, locals := 143 }) (va_Pc [.ref h0] (PTm (dC, dI) cs ty gm L F sz)) (va_Qi (fun (r : Int32) (_ : Unit) => r = 32) (fun _ T9 => ∃ F2 : Nat → va_E, ∃ ty2 : TyM, ∃ go : Nat → Int32, ty2 = rtf ty h0 (15, ρ, [ta, ou, so, ad, na, va, lc, dm, tg, pe, ml, bg, co, sp, nb0, nb1, nb2, pl, se, ke, wi, hs, mo, po, nu, pr, sq, xa, sa, n64, m64, ex, wh, sd, tk, hd, ak, ho, ot, sx, s0, s1, s2, nf, bd, mm, 32, fm, sn, hg, gc, gv, ze, 0]) ∧ QTm (dC, dI) cs ty2 gm L [ρ, ρ + 2, ρ + 17, ρ + 19] F F2 (va_A (va_pl L F) sz) T9 ∧ WTm ty2 gm L ∧ F2 ou = .inl (cs 17, 6000, .inl go) ∧ (∀ j, j < 32 → go j = nb8 (shr (rst (pad gt zt) ((zt + 72) / 64) (j / 4)) (nI (24 - 8 * (j % 4)))))) (va_A (va_pl L F) sz)) 0 0 (va_A (va_pl L F) sz) := by
  refine Met.ofW (cc := cX15_digest_) (maxL := 2) (ret := (some .int)) (by decide) rfl ?_
  intro p e s m args below meth c s₁ B hml hv
  obtain ⟨rfl, hsz, hP, hK, hD0, hE, hO⟩ := hv
  have hx := B.exec
  have hb := B.bytes
  have hr := B.returns
  have hts : ∀ w ∈ tb, w.before _ s = true := fun w h => atoms_spec (ws := .code yX15_digest_ cX15_digest_ 2 (some .int) :: tb) B.pre w (List.mem_cons_of_mem _ h)
  have hown : s.vm.findClass RX15 = some m.cls := findClass_of_methodNamed B.named
  have hlocks := B.notSynchronized
  subst hsz
  have hD := hD0.self (sz := s.heap.size)
  generalize hAe : va_A (va_pl L F) s.heap.size = A at hD ⊢
  have hA : ∀ q : Nat, s.heap.size ≤ q → A q := fun q h => by rw [← hAe]; exact Or.inr h
  have hS : va_S A s.heap s.heap [] := va_S.rf
  have hR : FR ty [ρ, ρ + 2, ρ + 17, ρ + 19] F F := FR.refl
  have hl := lv_entry ([.ref h0]) (n := 2) (Nat.le_of_ble_eq_true rfl)
  rw [lg_entry_eq]
  generalize (lg_sl ([.ref h0]) ++ List.replicate (2 - (lg_sl ([.ref h0])).length) Slot.unset).toArray = ls at hl ⊢
  have hl : lv_has ls 2 [(0, .ref h0)] := hl
  obtain ⟨hq_23, hq_24, hq_25, hq_26, hq_27, hgO, hgA, hgB, hq_28⟩ := hW.sc hL_h0 hT_h0
  refine lv_aload_n hx hb dX15_digest__0 rfl (lv_at hl 0 rfl) ?_
  obtain ⟨v14_29, v15_30, v17_31, v18_32, v19_33, v20_34, v21_35, v22_36, v33_37, v52_38, v53_39, v54_40, hF_41, hq_42, hq_43, hq_44, hq_45, hq_46⟩ := hO.mod hL_h0 hT_h0
  have hFc := pg_free hD hS hA
  refine va_calli (va_runV (As := []) (rest := []) ⟨hx, hb, hml, hown, hts⟩ (s_X15_used l dC dI cs ty gm L s.heap.size F h0 ρ ta ou so ad na va lc dm tg pe ml bg co sp nb0 nb1 nb2 pl se ke wi hs mo po nu pr sq xa sa n64 m64 ex wh sd tk hd ak ho ot sx s0 s1 s2 nf bd mm zo fm sn hg gc gv ze zt v14_29 v15_30 v17_31 v18_32 v19_33 v20_34 v21_35 v22_36 v33_37 v52_38 v53_39 v54_40 hW hL_h0 hT_h0 hF_41 (by first | omega | assumption | exact Or.inl rfl) (by first | omega | assumption | exact Or.inl rfl) (by first | omega | assumption | exact Or.inl rfl) (by first | omega | assumption | exact Or.inl rfl) (by first | omega | assumption | exact Or.inl rfl)) ⟨callB_of 0 hts (gi kt_999) rfl rfl rfl (hts _ kt_669) (hts _ kt_1000) (by decide +kernel) ⟨Nat.le_of_ble_eq_true rfl, Nat.le_of_ble_eq_true rfl⟩, (hts _ kt_1001), (hts _ kt_1002)⟩ ⟨fun a U g mk q => ⟨q.1, PTm.calling q.2⟩, pg_recv hK hP hL_h0 hF_41 (q := (RX15, TX15, 59)) rfl, fun U hU hWm => ⟨rfl, PTm.mk hU hWm hP hK hD hE hO⟩⟩ rfl rfl hl.1 rfl (lv_room (Nat.le_of_ble_eq_true rfl)) dX15_digest__1 ⟨by show _ + 0 ≤ 0; omega, by show _ + 0 ≤ 0; omega⟩) hS (fun q _ h => hFc q h) hFc (fun r_47 u t H1 locs ht hvm hw hB hz1 hk1 hS => ?_)
  obtain ⟨F_48, ty9, hty9, hB1, hW9, hq_49⟩ := hB
  subst hty9
  have hR9 := FR.retype (im2 := [ta, ou, so, ad, na, va, lc, dm, tg, pe, ml, bg, co, sp, nb0, nb1, nb2, pl, se, ke, wi, hs, mo, po, nu, pr, sq, xa, sa, n64, m64, ex, wh, sd, tk, hd, ak, ho, ot, sx, s0, s1, s2, nf, bd, mm, zo, fm, sn, hg, gc, gv, ze, 0]) hT_h0 hR
  obtain ⟨hP, hD, hO, hR⟩ := QTm.back hB1 ht hFc hR9 (fun q h => by simp only [List.mem_cons, List.not_mem_nil, or_false] at h ⊢; omega)
  obtain ⟨ty, hty, hT_h0, hW, hO, hR⟩ : ∃ t9 : TyM, t9 = rtf ty h0 (15, ρ, [ta, ou, so, ad, na, va, lc, dm, tg, pe, ml, bg, co, sp, nb0, nb1, nb2, pl, se, ke, wi, hs, mo, po, nu, pr, sq, xa, sa, n64, m64, ex, wh, sd, tk, hd, ak, ho, ot, sx, s0, s1, s2, nf, bd, mm, zo, fm, sn, hg, gc, gv, ze, 0]) ∧ t9 h0 = (15, ρ, [ta, ou, so, ad, na, va, lc, dm, tg, pe, ml, bg, co, sp, nb0, nb1, nb2, pl, se, ke, wi, hs, mo, po, nu, pr, sq, xa, sa, n64, m64, ex, wh, sd, tk, hd, ak, ho, ot, sx, s0, s1, s2, nf, bd, mm, zo, fm, sn, hg, gc, gv, ze, 0]) ∧ WTm t9 gm L ∧ OKm cs t9 gm L F_48 ∧ FR t9 [ρ, ρ + 2, ρ + 17, ρ + 19] F F_48 := ⟨_, rfl, rtf_self, hW9, hO, hR⟩
  generalize H1 = H at hP hS ⊢
  have hw : r_47 = nI zt := hw
  subst hw
  obtain ⟨hq_72, hq_73, hq_74, hq_75, hq_76, hgO, hgA, hgB, hq_77⟩ := hW.sc hL_h0 hT_h0
  obtain ⟨hi_79, ht_80⟩ := hW.f_ta hL_h0 hT_h0
  have hF_78 : F_48 ta = .inl (cs 17, 3000, .inl gt) := (hB1.2.2.2 ta (by rw [← hty, ht_80]; simp)).trans hFta
  refine lv_istore_n (lv' := [(1, .int (nI zt)), (0, .ref h0)]) hx hb dX15_digest__4 rfl hl (by decide) rfl (fun ls hl => ?_)
  refine lv_aload_n hx hb dX15_digest__5 rfl (lv_at hl 1 rfl) ?_
  refine lv_aload_n hx hb dX15_digest__6 rfl (lv_at hl 1 rfl) ?_
  refine pg_get (ci := 15) (v := .ref ta) (C := RX15) (T := TX15) (N := 59) hx hb hts it_15 hown hK hP hL_h0 hq_49 rfl 0 (by decide) (hts _ kt_1006) (fun _ h9 => h9) rfl dX15_digest__7 ?_
  refine lv_iload_n hx hb dX15_digest__10 rfl (lv_at hl 0 rfl) ?_
  refine lv_aload_n hx hb dX15_digest__11 rfl (lv_at hl 1 rfl) ?_
  refine pg_get (ci := 15) (v := .ref xa) (C := RX15) (T := TX15) (N := 59) hx hb hts it_15 hown hK hP hL_h0 hq_49 rfl 44 (by decide) (hts _ kt_921) (fun _ h9 => h9) rfl dX15_digest__12 ?_
  obtain ⟨hq_81, hq_82⟩ := hW.octs hi_79 ht_80
  obtain ⟨hi_83, ht_84⟩ := hW.f_xa hL_h0 hT_h0
  obtain ⟨hq_85, hq_86⟩ := hW.octs hi_83 ht_84
  have hFc := pg_free hD hS hA
  refine va_callv (va_runV (As := [.ref ta, .int (nI zt), .ref xa]) (rest := []) ⟨hx, hb, hml, hown, hts⟩ (s_X15_digest_d l dC dI cs ty gm L H.size F_48 h0 ρ ta ou so ad na va lc dm tg pe ml bg co sp nb0 nb1 nb2 pl se ke wi hs mo po nu pr sq xa sa n64 m64 ex wh sd tk hd ak ho ot sx s0 s1 s2 nf bd mm zo fm sn hg gc gv ze 0 ta (ρ + 1) 3000 xa (ρ + 19) 32 zt gt hW hL_h0 hT_h0 hi_79 ht_80 hi_83 ht_84 hF_78 (by omega) (by omega) (by omega) (by omega) (by omega) (by omega) (by first | omega | assumption | exact Or.inl rfl)) ⟨callB_of 3 hts (gi kt_970) rfl rfl rfl (hts _ kt_669) (hts _ kt_971) (by decide +kernel) ⟨Nat.le_of_ble_eq_true rfl, Nat.le_of_ble_eq_true rfl⟩, (hts _ kt_972), (hts _ kt_973)⟩ ⟨fun a U g mk q => ⟨q.1, PTm.calling q.2⟩, pg_recv hK hP hL_h0 hq_49 (q := (RX15, TX15, 59)) rfl, fun U hU hWm => ⟨rfl, PTm.mk hU hWm hP hK hD hE hO⟩⟩ rfl rfl hl.1 rfl (lv_room (Nat.le_of_ble_eq_true rfl)) dX15_digest__15 ⟨by show _ + 0 ≤ 0; omega, by show _ + 0 ≤ 0; omega⟩) hS (fun q _ h => hFc q h) hFc (fun u t H1 locs ht hvm hw hB hz1 hk1 hS => ?_)
  obtain ⟨F_88, fo_89, hB1, hq_90, hq_91⟩ := hB
  obtain ⟨hP, hD, hO, hR⟩ := QTm.back hB1 ht hFc hR (fun q h => by simp only [List.mem_cons, List.not_mem_nil, or_false] at h ⊢; omega)
  have hF_92 : F_88 h0 = .inr (15, (.ref ta) :: (.int 0) :: (.int (nI zo)) :: (.int (nI ze)) :: (.ref ou) :: (.ref so) :: (.ref ad) :: (.ref na) :: (.ref va) :: (.ref lc) :: (.ref dm) :: (.int (nI fm)) :: (.int (nI sn)) :: (.ref tg) :: (.int v14_29) :: (.int v15_30) :: (.ref pe) :: (.int v17_31) :: (.int v18_32) :: (.int v19_33) :: (.int v20_34) :: (.int v21_35) :: (.int v22_36) :: (.ref ml) :: (.ref bg) :: (.ref co) :: (.ref sp) :: (.ref nb0) :: (.ref nb1) :: (.ref nb2) :: (.int (nI nf)) :: (.int (nI bd)) :: (.int (nI mm)) :: (.int v33_37) :: (.ref pl) :: (.ref se) :: (.ref ke) :: (.ref wi) :: (.ref hs) :: (.ref mo) :: (.ref po) :: (.ref nu) :: (.ref pr) :: (.ref sq) :: (.ref xa) :: (.ref sa) :: (.ref n64) :: (.ref m64) :: (.ref ex) :: (.ref wh) :: (.ref sd) :: (.ref tk) :: (.int v52_38) :: (.int v53_39) :: (.int v54_40) :: (.ref hd) :: (.ref ak) :: (.ref ho) :: (.ref ot) :: []) := (hB1.2.2.2 h0 (by rw [hT_h0]; simp)).trans hq_49
  have hF_93 : F_88 ta = .inl (cs 17, 3000, .inl gt) := (hB1.2.2.2 ta (by rw [ht_80]; simp)).trans hF_78
  generalize H1 = H at hP hS ⊢
  refine lv_aload_n hx hb dX15_digest__18 rfl (lv_at hl 1 rfl) ?_
  refine pg_get (ci := 15) (v := .ref xa) (C := RX15) (T := TX15) (N := 59) hx hb hts it_15 hown hK hP hL_h0 hF_92 rfl 44 (by decide) (hts _ kt_921) (fun _ h9 => h9) rfl dX15_digest__19 ?_
  refine lv_iconst (v := 0) hx hb dX15_digest__22 (by decide) ?_
  refine lv_aload_n hx hb dX15_digest__23 rfl (lv_at hl 1 rfl) ?_
  refine pg_get (ci := 15) (v := .ref ou) (C := RX15) (T := TX15) (N := 59) hx hb hts it_15 hown hK hP hL_h0 hF_92 rfl 4 (by decide) (hts _ kt_1120) (fun _ h9 => h9) rfl dX15_digest__24 ?_
  refine lv_iconst (v := 0) hx hb dX15_digest__27 (by decide) ?_
  refine lv_bipush (v := 32) hx hb dX15_digest__28 (by decide) ?_
  have hBx := bfmo hq_90 (hO.octs hi_83 ht_84)
  obtain ⟨hi_94, ht_95⟩ := hW.f_ou hL_h0 hT_h0
  obtain ⟨hq_96, hq_97⟩ := hW.octs hi_94 ht_95
  obtain ⟨f_98, hF_99, hq_100⟩ := hO.octs hi_94 ht_95
  refine pg_copyi hx hb (by rw [hml]; exact hl.1.symm) hown (hts _ kt_912) (hts _ kt_29) (hts _ kt_30) (hts _ kt_31) hK hP hD hS hi_83 hi_94 1 1 hq_90 hF_99 rfl rfl rfl (by decide) (by decide) (by decide) (by decide) (by decide) (fun _ _ => hBx _) (Nat.le_of_ble_eq_true rfl) (by decide) dX15_digest__30 (fun H locs hP hD hS => ?_)
  obtain ⟨F_101, he_102, hP, hD, hO, hR⟩ : ∃ G, G = va_up F_88 ou (.inl (cs 17, 6000, .inl (va_cpy fo_89 f_98 (0 : Int32).toNatClampNeg (0 : Int32).toNatClampNeg (32 : Int32).toNatClampNeg))) ∧ va_P (dC, dI) vwCl (va_pl L G) H ∧ va_D A (va_pl L G) ∧ OKm cs ty gm L G ∧ FR ty [ρ, ρ + 2, ρ + 17, ρ + 19] F G := ⟨_, rfl, hP, hD, hO.up (shm.octs ht_95 ⟨_, rfl, bfm_cpy hBx hq_100 _ _ _⟩), hR.up ht_95 (by simp)⟩
  have hF_103 : F_101 ou = .inl (cs 17, 6000, .inl (va_cpy fo_89 f_98 (0 : Int32).toNatClampNeg (0 : Int32).toNatClampNeg (32 : Int32).toNatClampNeg)) := by rw [he_102]; exact up_self
  have hF_104 : F_101 h0 = .inr (15, (.ref ta) :: (.int 0) :: (.int (nI zo)) :: (.int (nI ze)) :: (.ref ou) :: (.ref so) :: (.ref ad) :: (.ref na) :: (.ref va) :: (.ref lc) :: (.ref dm) :: (.int (nI fm)) :: (.int (nI sn)) :: (.ref tg) :: (.int v14_29) :: (.int v15_30) :: (.ref pe) :: (.int v17_31) :: (.int v18_32) :: (.int v19_33) :: (.int v20_34) :: (.int v21_35) :: (.int v22_36) :: (.ref ml) :: (.ref bg) :: (.ref co) :: (.ref sp) :: (.ref nb0) :: (.ref nb1) :: (.ref nb2) :: (.int (nI nf)) :: (.int (nI bd)) :: (.int (nI mm)) :: (.int v33_37) :: (.ref pl) :: (.ref se) :: (.ref ke) :: (.ref wi) :: (.ref hs) :: (.ref mo) :: (.ref po) :: (.ref nu) :: (.ref pr) :: (.ref sq) :: (.ref xa) :: (.ref sa) :: (.ref n64) :: (.ref m64) :: (.ref ex) :: (.ref wh) :: (.ref sd) :: (.ref tk) :: (.int v52_38) :: (.int v53_39) :: (.int v54_40) :: (.ref hd) :: (.ref ak) :: (.ref ho) :: (.ref ot) :: []) := by rw [he_102, up_ne (ne_ty hT_h0 ht_95 (by simp))]; exact hF_92
  have hF_105 : F_101 ta = .inl (cs 17, 3000, .inl gt) := by rw [he_102, up_ne (ne_ty2 ht_80 ht_95 (by simp))]; exact hF_93
  have hF_106 : F_101 xa = .inl (cs 17, 32, .inl fo_89) := by rw [he_102, up_ne (ne_ty2 ht_84 ht_95 (by simp))]; exact hq_90
  obtain ⟨f_107, hF_103, hq_108, hfe_109⟩ : ∃ f : Nat → Int32, F_101 ou = .inl (cs 17, 6000, .inl f) ∧ BFm f ∧ f = va_cpy fo_89 f_98 (0 : Int32).toNatClampNeg (0 : Int32).toNatClampNeg (32 : Int32).toNatClampNeg := ⟨_, hF_103, bfm_cpy hBx hq_100 _ _ _, rfl⟩
  refine lv_aload_n hx hb dX15_digest__33 rfl (lv_at hl 1 rfl) ?_
  refine lv_bipush (v := 32) hx hb dX15_digest__34 (by decide) ?_
  have htyU := hty
  refine pg_put (ci := 15) (v := .int 32) (ty := .int) (C := RX15) (T := TX15) (N := 59) hx hb hts it_15 tyX15 tyX15_ok nmX15 hown hK hP hD hS hL_h0 hF_104 rfl 2 (by decide) (hts _ kt_1139) (fun _ h9 => h9) rfl (by decide +kernel) (rfl) (rfl) (Nat.le_of_ble_eq_true rfl) dX15_digest__36 (fun H locs hP hD hS => ?_)
  obtain ⟨F_110, he_111, hP, hD, hR⟩ : ∃ G, G = va_up F_101 h0 (.inr (15, (.ref ta) :: (.int 0) :: (.int 32) :: (.int (nI ze)) :: (.ref ou) :: (.ref so) :: (.ref ad) :: (.ref na) :: (.ref va) :: (.ref lc) :: (.ref dm) :: (.int (nI fm)) :: (.int (nI sn)) :: (.ref tg) :: (.int v14_29) :: (.int v15_30) :: (.ref pe) :: (.int v17_31) :: (.int v18_32) :: (.int v19_33) :: (.int v20_34) :: (.int v21_35) :: (.int v22_36) :: (.ref ml) :: (.ref bg) :: (.ref co) :: (.ref sp) :: (.ref nb0) :: (.ref nb1) :: (.ref nb2) :: (.int (nI nf)) :: (.int (nI bd)) :: (.int (nI mm)) :: (.int v33_37) :: (.ref pl) :: (.ref se) :: (.ref ke) :: (.ref wi) :: (.ref hs) :: (.ref mo) :: (.ref po) :: (.ref nu) :: (.ref pr) :: (.ref sq) :: (.ref xa) :: (.ref sa) :: (.ref n64) :: (.ref m64) :: (.ref ex) :: (.ref wh) :: (.ref sd) :: (.ref tk) :: (.int v52_38) :: (.int v53_39) :: (.int v54_40) :: (.ref hd) :: (.ref ak) :: (.ref ho) :: (.ref ot) :: [])) ∧ va_P (dC, dI) vwCl (va_pl L G) H ∧ va_D A (va_pl L G) ∧ FR ty [ρ, ρ + 2, ρ + 17, ρ + 19] F G := ⟨_, rfl, hP, hD, hR.up hT_h0 (by simp)⟩
  have hF_112 : F_110 ou = .inl (cs 17, 6000, .inl f_107) := by rw [he_111, up_ne (ne_ty ht_95 hT_h0 (by simp))]; exact hF_103
  obtain ⟨ty, hty, hT_h0, hW, hO, hR⟩ : ∃ t9 : TyM, t9 = rtf ty h0 (15, ρ, [ta, ou, so, ad, na, va, lc, dm, tg, pe, ml, bg, co, sp, nb0, nb1, nb2, pl, se, ke, wi, hs, mo, po, nu, pr, sq, xa, sa, n64, m64, ex, wh, sd, tk, hd, ak, ho, ot, sx, s0, s1, s2, nf, bd, mm, 32, fm, sn, hg, gc, gv, ze, 0]) ∧ t9 h0 = (15, ρ, [ta, ou, so, ad, na, va, lc, dm, tg, pe, ml, bg, co, sp, nb0, nb1, nb2, pl, se, ke, wi, hs, mo, po, nu, pr, sq, xa, sa, n64, m64, ex, wh, sd, tk, hd, ak, ho, ot, sx, s0, s1, s2, nf, bd, mm, 32, fm, sn, hg, gc, gv, ze, 0]) ∧ WTm t9 gm L ∧ OKm cs t9 gm L F_110 ∧ FR t9 [ρ, ρ + 2, ρ + 17, ρ + 19] F F_110 := ⟨_, rfl, rtf_self, hW.zo hL_h0 hT_h0, (by rw [he_111]; exact OKm.retype hO hT_h0 (shm.mod rtf_self ⟨v14_29, v15_30, v17_31, v18_32, v19_33, v20_34, v21_35, v22_36, v33_37, v52_38, v53_39, v54_40, rfl, (by first | omega | assumption | exact Or.inl rfl | exact Or.inr rfl), (by first | omega | assumption | exact Or.inl rfl | exact Or.inr rfl), (by first | omega | assumption | exact Or.inl rfl | exact Or.inr rfl), (by first | omega | assumption | exact Or.inl rfl | exact Or.inr rfl), (by first | omega | assumption | exact Or.inl rfl | exact Or.inr rfl)⟩)), FR.retype hT_h0 hR⟩
  have hF_113 : F_110 h0 = .inr (15, (.ref ta) :: (.int 0) :: (.int 32) :: (.int (nI ze)) :: (.ref ou) :: (.ref so) :: (.ref ad) :: (.ref na) :: (.ref va) :: (.ref lc) :: (.ref dm) :: (.int (nI fm)) :: (.int (nI sn)) :: (.ref tg) :: (.int v14_29) :: (.int v15_30) :: (.ref pe) :: (.int v17_31) :: (.int v18_32) :: (.int v19_33) :: (.int v20_34) :: (.int v21_35) :: (.int v22_36) :: (.ref ml) :: (.ref bg) :: (.ref co) :: (.ref sp) :: (.ref nb0) :: (.ref nb1) :: (.ref nb2) :: (.int (nI nf)) :: (.int (nI bd)) :: (.int (nI mm)) :: (.int v33_37) :: (.ref pl) :: (.ref se) :: (.ref ke) :: (.ref wi) :: (.ref hs) :: (.ref mo) :: (.ref po) :: (.ref nu) :: (.ref pr) :: (.ref sq) :: (.ref xa) :: (.ref sa) :: (.ref n64) :: (.ref m64) :: (.ref ex) :: (.ref wh) :: (.ref sd) :: (.ref tk) :: (.int v52_38) :: (.int v53_39) :: (.int v54_40) :: (.ref hd) :: (.ref ak) :: (.ref ho) :: (.ref ot) :: []) := by rw [he_111]; exact up_self
  obtain ⟨hq_136, hq_137, hq_138, hq_139, hq_140, hgO, hgA, hgB, hq_141⟩ := hW.sc hL_h0 hT_h0
  refine lv_bipush (v := 32) hx hb dX15_digest__39 (by decide) ?_
  refine W.widen (k := 0) (n := 0) (by omega) (by omega) ?_
  exact W.iret (v := 32) hx hb hr (fun t ht hWm => ⟨⟨32, (), rfl, rfl, ⟨F_110, ty, f_107, (by rw [hty, htyU, rtf_rtf2]), QTm.mk ht hP hD hO hR, hW, hF_112, (fun j hj => by rw [hfe_109, cpy32 j hj]; exact hq_91 j hj)⟩⟩, hS.F ht⟩) hS.2.2 dX15_digest__41
set_option maxHeartbeats 4000000 in
set_option maxRecDepth 100000 in
theorem s_X15_octet_c (l : Launch) (dC : Nat → ClassId) (dI : Nat → Nat → Nat) (cs : Nat → ClassId) (ty : TyM) (gm : Nat → Nat → Nat) (L : List Nat) (sz : Nat) (F : Nat → va_E) (h0 : Nat) (ρ : Nat) (ta : Nat) (ou : Nat) (so : Nat) (ad : Nat) (na : Nat) (va : Nat) (lc : Nat) (dm : Nat) (tg : Nat) (pe : Nat) (ml : Nat) (bg : Nat) (co : Nat) (sp : Nat) (nb0 : Nat) (nb1 : Nat) (nb2 : Nat) (pl : Nat) (se : Nat) (ke : Nat) (wi : Nat) (hs : Nat) (mo : Nat) (po : Nat) (nu : Nat) (pr : Nat) (sq : Nat) (xa : Nat) (sa : Nat) (n64 : Nat) (m64 : Nat) (ex : Nat) (wh : Nat) (sd : Nat) (tk : Nat) (hd : Nat) (ak : Nat) (ho : Nat) (ot : Nat) (sx : Nat) (s0 : Nat) (s1 : Nat) (s2 : Nat) (nf : Nat) (bd : Nat) (mm : Nat) (zo : Nat) (fm : Nat) (sn : Nat) (hg : Nat) (gc : Nat) (gv : Nat) (ze : Nat) (zt : Nat) (go : Nat → Int32) (x1 : Int32) (hW : WTm ty gm L) (hL_h0 : h0 ∈ L) (hT_h0 : ty h0 = (15, ρ, [ta, ou, so, ad, na, va, lc, dm, tg, pe, ml, bg, co, sp, nb0, nb1, nb2, pl, se, ke, wi, hs, mo, po, nu, pr, sq, xa, sa, n64, m64, ex, wh, sd, tk, hd, ak, ho, ot, sx, s0, s1, s2, nf, bd, mm, zo, fm, sn, hg, gc, gv, ze, zt])) (hFo : F ou = .inl (cs 17, 6000, .inl go)) : Met l yX15_octet (.code yX15_octet cX15_octet 2 (some .int) :: tb) ({ frames := 1, cells := 0, slots := 0, locals := 25 }) (va_Pc [.ref h0, .int x1] (PTm (dC, dI) cs ty gm L F sz)) (va_Qi (fun (r : Int32) (_ : Unit) => r = octm go zo x1) (fun _ T9 => ∃ F2 : Nat → va_E, QTm (dC, dI) cs ty gm L [] F F2 (va_A (va_pl L F) sz) T9) (va_A (va_pl L F) sz)) 0 0 (va_A (va_pl L F) sz) := by
  refine Met.ofW (cc := cX15_octet) (maxL := 2) (ret := (some .int)) (by decide) rfl ?_
  intro p e s m args below meth c s₁ B hml hv
  obtain ⟨rfl, hsz, hP, hK, hD0, hE, hO⟩ := hv
  have hx := B.exec
  have hb := B.bytes
  have hr := B.returns
  have hts : ∀ w ∈ tb, w.before _ s = true := fun w h => atoms_spec (ws := .code yX15_octet cX15_octet 2 (some .int) :: tb) B.pre w (List.mem_cons_of_mem _ h)
  have hown : s.vm.findClass RX15 = some m.cls := findClass_of_methodNamed B.named
  have hlocks := B.notSynchronized
  subst hsz
  have hD := hD0.self (sz := s.heap.size)
  generalize hAe : va_A (va_pl L F) s.heap.size = A at hD ⊢
  have hA : ∀ q : Nat, s.heap.size ≤ q → A q := fun q h => by rw [← hAe]; exact Or.inr h
  have hS : va_S A s.heap s.heap [] := va_S.rf
  have hR : FR ty [] F F := FR.refl
  have hl := lv_entry ([.ref h0, .int x1]) (n := 2) (Nat.le_of_ble_eq_true rfl)
  rw [lg_entry_eq]
  generalize (lg_sl ([.ref h0, .int x1]) ++ List.replicate (2 - (lg_sl ([.ref h0, .int x1])).length) Slot.unset).toArray = ls at hl ⊢
  have hl : lv_has ls 2 [(0, .ref h0), (1, .int x1)] := hl
  obtain ⟨hq_23, hq_24, hq_25, hq_26, hq_27, hgO, hgA, hgB, hq_28⟩ := hW.sc hL_h0 hT_h0
  obtain ⟨v14_29, v15_30, v17_31, v18_32, v19_33, v20_34, v21_35, v22_36, v33_37, v52_38, v53_39, v54_40, hF_41, hq_42, hq_43, hq_44, hq_45, hq_46⟩ := hO.mod hL_h0 hT_h0
  refine lv_iload_n hx hb dX15_octet_0 rfl (lv_at hl 1 rfl) ?_
  refine lv_i2l (v := x1.toInt64) hx hb dX15_octet_1 rfl ?_
  refine lv_ldc2 (v := (-1)) hx hb hown (hts _ kt_1144) dX15_octet_2 ?_
  refine lv_aload_n hx hb dX15_octet_5 rfl (lv_at hl 0 rfl) ?_
  refine pg_get (ci := 15) (v := .int (nI zo)) (C := RX15) (T := TX15) (N := 59) hx hb hts it_15 hown hK hP hL_h0 hF_41 rfl 2 (by decide) (hts _ kt_1139) (fun _ h9 => h9) rfl dX15_octet_6 ?_
  refine lv_iconst (v := 1) hx hb dX15_octet_9 (by decide) ?_
  refine lv_isub hx hb dX15_octet_10 ?_
  refine lv_topi (fun x_47 ex_47 => ?_)
  obtain rfl : x_47 = (nI zo - 1) := ex_47.trans (rfl)
  refine lv_i2l (v := (nI zo - 1).toInt64) hx hb dX15_octet_11 rfl ?_
  have hFc := pg_free hD hS hA
  refine va_calli (va_runS (As := [.long x1.toInt64, .long (-1), .long ((nI zo - 1).toInt64)]) (rest := []) ⟨hx, hb, hml, hown, hts⟩ (s_X15_in l dC dI cs ty gm L s.heap.size F x1.toInt64 (-1) ((nI zo - 1).toInt64) hW ) ⟨callB_of 3 hts (gi kt_685) rfl rfl rfl (hts _ kt_669) (hts _ kt_705) (by decide +kernel) ⟨Nat.le_of_ble_eq_true rfl, Nat.le_of_ble_eq_true rfl⟩, (hts _ kt_686)⟩ ⟨fun a U g mk q => ⟨q.1, PTm.calling q.2⟩, fun U hU hWm => ⟨rfl, PTm.mk hU hWm hP hK hD hE hO⟩⟩ rfl rfl hl.1 rfl (lv_room (Nat.le_of_ble_eq_true rfl)) dX15_octet_12 ⟨by show _ + 0 ≤ 0; omega, by show _ + 0 ≤ 0; omega⟩) hS (fun q _ h => hFc q h) hFc (fun r_48 u t H1 locs ht hvm hw hB hz1 hk1 hS => ?_)
  obtain ⟨F_49, hB1⟩ := hB
  obtain rfl : F = F_49 := (funext (fun a => hB1.2.2.2 a List.not_mem_nil)).symm
  obtain ⟨hP, hD, hO, hR⟩ := QTm.back hB1 ht hFc hR (fun q h => absurd h List.not_mem_nil)
  generalize H1 = H at hP hS ⊢
  have hw : r_48 = (if (-1) ≤ x1.toInt64 ∧ x1.toInt64 ≤ (nI zo - 1).toInt64 then 1 else 0) := hw
  have hw_50 := hw
  refine lv_if_ne (tgt := 21) hx hb dX15_octet_15 (by decide) (fun c_51 => ?_) (fun c_51 => ?_)
  ·
    refine lv_iload_n hx hb dX15_octet_21 rfl (lv_at hl 1 rfl) ?_
    refine lv_if_ge (tgt := 32) hx hb dX15_octet_22 (by decide) (fun c_52 => ?_) (fun c_52 => ?_)
    ·
      have hin := in_int hw_50 c_51
      rw [Int32.toInt_toInt64, show (1 : Int32) = nI 1 from rfl, pk_sub_toInt (by omega) (by omega)] at hin
      obtain ⟨k, hk, rfl⟩ := nI_of (Int32.not_lt.mpr c_52)
      rw [nI_toInt hk] at hin
      have hkz : k < zo := by omega
      refine lv_aload_n hx hb dX15_octet_32 rfl (lv_at hl 0 rfl) ?_
      refine pg_get (ci := 15) (v := .ref ou) (C := RX15) (T := TX15) (N := 59) hx hb hts it_15 hown hK hP hL_h0 hF_41 rfl 4 (by decide) (hts _ kt_1120) (fun _ h9 => h9) rfl dX15_octet_33 ?_
      refine lv_iload_n hx hb dX15_octet_36 rfl (lv_at hl 1 rfl) ?_
      obtain ⟨hi_53, ht_54⟩ := hW.f_ou hL_h0 hT_h0
      obtain ⟨hq_55, hq_56⟩ := hW.octs hi_53 ht_54
      refine pg_bald hx hb hK hP hi_53 1 hFo rfl (vp_in_nI (by omega) (by omega)) dX15_octet_37 ?_
      refine lv_topi (fun x_57 ex_57 => ?_)
      obtain rfl : x_57 = go k := ex_57.trans (congrArg go (show ((nI k) : Int32).toNatClampNeg = k from nI_clamp (by omega)))
      refine lv_sipush (v := 255) hx hb dX15_octet_38 (by decide) ?_
      refine lv_iand hx hb dX15_octet_41 ?_
      refine lv_topi (fun x_58 ex_58 => ?_)
      obtain rfl : x_58 = (go k &&& 255) := ex_58.trans (rfl)
      refine W.widen (k := 0) (n := 0) (by omega) (by omega) ?_
      exact W.iret (v := (go k &&& 255)) hx hb hr (fun t ht hWm => ⟨⟨(go k &&& 255), (), rfl, (oct_y hkz (by omega)), ⟨F, QTm.mk ht hP hD hO hR⟩⟩, hS.F ht⟩) hS.2.2 dX15_octet_42
    ·
      refine lv_aload_n hx hb dX15_octet_25 rfl (lv_at hl 0 rfl) ?_
      refine pg_get (ci := 15) (v := .int (nI zo)) (C := RX15) (T := TX15) (N := 59) hx hb hts it_15 hown hK hP hL_h0 hF_41 rfl 2 (by decide) (hts _ kt_1139) (fun _ h9 => h9) rfl dX15_octet_26 ?_
      refine lv_goto (tgt := 42) hx hb dX15_octet_29 (by decide) ?_
      refine W.widen (k := 0) (n := 0) (by omega) (by omega) ?_
      exact W.iret (v := (nI zo)) hx hb hr (fun t ht hWm => ⟨⟨(nI zo), (), rfl, (oct_m hw_50 c_51 (Int32.not_le.mp c_52)), ⟨F, QTm.mk ht hP hD hO hR⟩⟩, hS.F ht⟩) hS.2.2 dX15_octet_42
  ·
    refine lv_bipush (v := (-2)) hx hb dX15_octet_18 (by decide) ?_
    refine W.widen (k := 0) (n := 0) (by omega) (by omega) ?_
    exact W.iret (v := (-2)) hx hb hr (fun t ht hWm => ⟨⟨(-2), (), rfl, (oct_no (by omega) hw_50 c_51), ⟨F, QTm.mk ht hP hD hO hR⟩⟩, hS.F ht⟩) hS.2.2 dX15_octet_20
theorem hsc_y {f fc fh go : Nat → Int32} {z y2 : Nat} {D : Nat → ETY} {ze : Nat} (hc : ∀ j, j < z - 0 → fc j = f (0 + j)) (hy : y2 = z - 0 - HST (UNM fc (z - 0)) fc (z - 0) D ze) (h3 : ∀ j, j < y2 → fh j = fc (HST (UNM fc (z - 0)) fc (z - 0) D ze + j)) (h4 : ∀ j, j < y2 → go j = fh j) : y2 = z - HST (UNM f z) f z D ze ∧ ∀ j, j < y2 → go j = f (HST (UNM f z) f z D ze + j) := by
  have e1 : ∀ j, j < z → fc j = f j := fun j hj => by
    have h9 := hc j (by omega)
    rw [Nat.zero_add] at h9
    exact h9
  have e2 := hst_same (D := D) (ze := ze) e1
  have hy2 : y2 = z - HST (UNM fc z) fc z D ze := hy
  have h5 : ∀ j, j < y2 → fh j = fc (HST (UNM fc z) fc z D ze + j) := h3
  rw [e2] at hy2 h5
  refine ⟨hy2, fun j hj => ?_⟩
  rw [h4 j hj, h5 j hj]
  exact e1 _ (by omega)
set_option maxHeartbeats 4000000 in
set_option maxRecDepth 100000 in
theorem s_X15_house_c (l : Launch) (dC : Nat → ClassId) (dI : Nat → Nat → Nat) (cs : Nat → ClassId) (ty : TyM) (gm : Nat → Nat → Nat) (L : List Nat) (sz : Nat) (F : Nat → va_E) (h0 : Nat) (ρ : Nat) (ta : Nat) (ou : Nat) (so : Nat) (ad : Nat) (na : Nat) (va : Nat) (lc : Nat) (dm : Nat) (tg : Nat) (pe : Nat) (ml : Nat) (bg : Nat) (co : Nat) (sp : Nat) (nb0 : Nat) (nb1 : Nat) (nb2 : Nat) (pl : Nat) (se : Nat) (ke : Nat) (wi : Nat) (hs : Nat) (mo : Nat) (po : Nat) (nu : Nat) (pr : Nat) (sq : Nat) (xa : Nat) (sa : Nat) (n64 : Nat) (m64 : Nat) (ex : Nat) (wh : Nat) (sd : Nat) (tk : Nat) (hd : Nat) (ak : Nat) (ho : Nat) (ot : Nat) (sx : Nat) (s0 : Nat) (s1 : Nat) (s2 : Nat) (nf : Nat) (bd : Nat) (mm : Nat) (zo : Nat) (fm : Nat) (sn : Nat) (hg : Nat) (gc : Nat) (gv : Nat) (ze : Nat) (zt : Nat) (gt : Nat → Int32) (D : Nat → ETY) (go0 : Nat → Int32) (hW : WTm ty gm L) (hL_h0 : h0 ∈ L) (hT_h0 : ty h0 = (15, ρ, [ta, ou, so, ad, na, va, lc, dm, tg, pe, ml, bg, co, sp, nb0, nb1, nb2, pl, se, ke, wi, hs, mo, po, nu, pr, sq, xa, sa, n64, m64, ex, wh, sd, tk, hd, ak, ho, ot, sx, s0, s1, s2, nf, bd, mm, zo, fm, sn, hg, gc, gv, ze, zt])) (hFta : F ta = .inl (cs 17, 3000, .inl gt)) (hDM : DIRM cs F so ad na va ze D) (hFo0 : F ou = .inl (cs 17, 6000, .inl go0)) : Met l yX15_house (.code yX15_house cX15_house 2 (some .int) :: tb) ({ frames := 4, cells := 0, slots := 0, locals := 119 }) (va_Pc [.ref h0] (PTm (dC, dI) cs ty gm L F sz)) (va_Qi (fun (r : Int32) (c2 : Nat) => r = HSM gt zt D ze) (fun (c2 : Nat) T9 => ∃ F2 : Nat → va_E, ∃ ty2 : TyM, ∃ go : Nat → Int32, ty2 = rtf ty h0 (15, ρ, [ta, ou, so, ad, na, va, lc, dm, tg, pe, ml, bg, co, sp, nb0, nb1, nb2, pl, se, ke, wi, hs, mo, po, nu, pr, sq, xa, sa, n64, m64, ex, wh, sd, tk, hd, ak, ho, ot, sx, s0, s1, s2, nf, bd, mm, c2, fm, sn, hg, gc, gv, ze, 0]) ∧ QTm (dC, dI) cs ty2 gm L [ρ, ρ + 2, ρ + 28, ρ + 29] F F2 (va_A (va_pl L F) sz) T9 ∧ WTm ty2 gm L ∧ F2 ou = .inl (cs 17, 6000, .inl go) ∧ ((¬ NM gt 0 zt = true ∧ c2 = zo ∧ go = go0) ∨ (NM gt 0 zt = true ∧ c2 = zt - HST (UNM gt zt) gt zt D ze ∧ ∀ j, j < c2 → go j = gt (HST (UNM gt zt) gt zt D ze + j)))) (va_A (va_pl L F) sz)) 0 0 (va_A (va_pl L F) sz) := by
  refine Met.ofW (cc := cX15_house) (maxL := 2) (ret := (some .int)) (by decide) rfl ?_
  intro p e s m args below meth c s₁ B hml hv
  obtain ⟨rfl, hsz, hP, hK, hD0, hE, hO⟩ := hv
  have hx := B.exec
  have hb := B.bytes
  have hr := B.returns
  have hts : ∀ w ∈ tb, w.before _ s = true := fun w h => atoms_spec (ws := .code yX15_house cX15_house 2 (some .int) :: tb) B.pre w (List.mem_cons_of_mem _ h)
  have hown : s.vm.findClass RX15 = some m.cls := findClass_of_methodNamed B.named
  have hlocks := B.notSynchronized
  subst hsz
  have hD := hD0.self (sz := s.heap.size)
  generalize hAe : va_A (va_pl L F) s.heap.size = A at hD ⊢
  have hA : ∀ q : Nat, s.heap.size ≤ q → A q := fun q h => by rw [← hAe]; exact Or.inr h
  have hS : va_S A s.heap s.heap [] := va_S.rf
  have hR : FR ty [ρ, ρ + 2, ρ + 28, ρ + 29] F F := FR.refl
  have hl := lv_entry ([.ref h0]) (n := 2) (Nat.le_of_ble_eq_true rfl)
  rw [lg_entry_eq]
  generalize (lg_sl ([.ref h0]) ++ List.replicate (2 - (lg_sl ([.ref h0])).length) Slot.unset).toArray = ls at hl ⊢
  have hl : lv_has ls 2 [(0, .ref h0)] := hl
  obtain ⟨hq_23, hq_24, hq_25, hq_26, hq_27, hgO, hgA, hgB, hq_28⟩ := hW.sc hL_h0 hT_h0
  have hO0 := hO
  have hW0 := hW
  have hT00 := hT_h0
  obtain ⟨hLs0, hTs0⟩ := hW.f_so hL_h0 hT_h0
  obtain ⟨hLd0, hTd0⟩ := hW.f_ad hL_h0 hT_h0
  obtain ⟨hLn0, hTn0⟩ := hW.f_na hL_h0 hT_h0
  obtain ⟨hLv0, hTv0⟩ := hW.f_va hL_h0 hT_h0
  obtain ⟨fs, fd, fn, fv, hd1, hd2, hd3, hd4, hd5⟩ := id hDM
  refine lv_aload_n hx hb dX15_house_0 rfl (lv_at hl 0 rfl) ?_
  obtain ⟨v14_29, v15_30, v17_31, v18_32, v19_33, v20_34, v21_35, v22_36, v33_37, v52_38, v53_39, v54_40, hF_41, hq_42, hq_43, hq_44, hq_45, hq_46⟩ := hO.mod hL_h0 hT_h0
  have hFc := pg_free hD hS hA
  refine va_calli (va_runV (As := []) (rest := []) ⟨hx, hb, hml, hown, hts⟩ (s_X15_used l dC dI cs ty gm L s.heap.size F h0 ρ ta ou so ad na va lc dm tg pe ml bg co sp nb0 nb1 nb2 pl se ke wi hs mo po nu pr sq xa sa n64 m64 ex wh sd tk hd ak ho ot sx s0 s1 s2 nf bd mm zo fm sn hg gc gv ze zt v14_29 v15_30 v17_31 v18_32 v19_33 v20_34 v21_35 v22_36 v33_37 v52_38 v53_39 v54_40 hW hL_h0 hT_h0 hF_41 (by first | omega | assumption | exact Or.inl rfl) (by first | omega | assumption | exact Or.inl rfl) (by first | omega | assumption | exact Or.inl rfl) (by first | omega | assumption | exact Or.inl rfl) (by first | omega | assumption | exact Or.inl rfl)) ⟨callB_of 0 hts (gi kt_999) rfl rfl rfl (hts _ kt_669) (hts _ kt_1000) (by decide +kernel) ⟨Nat.le_of_ble_eq_true rfl, Nat.le_of_ble_eq_true rfl⟩, (hts _ kt_1001), (hts _ kt_1002)⟩ ⟨fun a U g mk q => ⟨q.1, PTm.calling q.2⟩, pg_recv hK hP hL_h0 hF_41 (q := (RX15, TX15, 59)) rfl, fun U hU hWm => ⟨rfl, PTm.mk hU hWm hP hK hD hE hO⟩⟩ rfl rfl hl.1 rfl (lv_room (Nat.le_of_ble_eq_true rfl)) dX15_house_1 ⟨by show _ + 0 ≤ 0; omega, by show _ + 0 ≤ 0; omega⟩) hS (fun q _ h => hFc q h) hFc (fun r_47 u t H1 locs ht hvm hw hB hz1 hk1 hS => ?_)
  obtain ⟨F_48, ty9, hty9, hB1, hW9, hq_49⟩ := hB
  subst hty9
  have hR9 := FR.retype (im2 := [ta, ou, so, ad, na, va, lc, dm, tg, pe, ml, bg, co, sp, nb0, nb1, nb2, pl, se, ke, wi, hs, mo, po, nu, pr, sq, xa, sa, n64, m64, ex, wh, sd, tk, hd, ak, ho, ot, sx, s0, s1, s2, nf, bd, mm, zo, fm, sn, hg, gc, gv, ze, 0]) hT_h0 hR
  obtain ⟨hP, hD, hO, hR⟩ := QTm.back hB1 ht hFc hR9 (fun q h => by simp only [List.mem_cons, List.not_mem_nil, or_false] at h ⊢; omega)
  obtain ⟨ty, hty, hT_h0, hW, hO, hR⟩ : ∃ t9 : TyM, t9 = rtf ty h0 (15, ρ, [ta, ou, so, ad, na, va, lc, dm, tg, pe, ml, bg, co, sp, nb0, nb1, nb2, pl, se, ke, wi, hs, mo, po, nu, pr, sq, xa, sa, n64, m64, ex, wh, sd, tk, hd, ak, ho, ot, sx, s0, s1, s2, nf, bd, mm, zo, fm, sn, hg, gc, gv, ze, 0]) ∧ t9 h0 = (15, ρ, [ta, ou, so, ad, na, va, lc, dm, tg, pe, ml, bg, co, sp, nb0, nb1, nb2, pl, se, ke, wi, hs, mo, po, nu, pr, sq, xa, sa, n64, m64, ex, wh, sd, tk, hd, ak, ho, ot, sx, s0, s1, s2, nf, bd, mm, zo, fm, sn, hg, gc, gv, ze, 0]) ∧ WTm t9 gm L ∧ OKm cs t9 gm L F_48 ∧ FR t9 [ρ, ρ + 2, ρ + 28, ρ + 29] F F_48 := ⟨_, rfl, rtf_self, hW9, hO, hR⟩
  generalize H1 = H at hP hS ⊢
  have hw : r_47 = nI zt := hw
  subst hw
  obtain ⟨hq_72, hq_73, hq_74, hq_75, hq_76, hgO, hgA, hgB, hq_77⟩ := hW.sc hL_h0 hT_h0
  obtain ⟨hi_79, ht_80⟩ := hW.f_ta hL_h0 hT_h0
  have hF_78 : F_48 ta = .inl (cs 17, 3000, .inl gt) := (hB1.2.2.2 ta (by rw [← hty, ht_80]; simp)).trans hFta
  obtain ⟨hi_82, ht_83⟩ := hW.f_ou hL_h0 hT_h0
  have hF_81 : F_48 ou = .inl (cs 17, 6000, .inl go0) := (hB1.2.2.2 ou (by rw [← hty, ht_83]; simp)).trans hFo0
  refine lv_istore_n (lv' := [(1, .int (nI zt)), (0, .ref h0)]) hx hb dX15_house_4 rfl hl (by decide) rfl (fun ls hl => ?_)
  refine lv_aload_n hx hb dX15_house_5 rfl (lv_at hl 1 rfl) ?_
  refine pg_get (ci := 15) (v := .ref ta) (C := RX15) (T := TX15) (N := 59) hx hb hts it_15 hown hK hP hL_h0 hq_49 rfl 0 (by decide) (hts _ kt_1006) (fun _ h9 => h9) rfl dX15_house_6 ?_
  refine lv_iconst (v := 0) hx hb dX15_house_9 (by decide) ?_
  refine lv_iload_n hx hb dX15_house_10 rfl (lv_at hl 0 rfl) ?_
  refine W.eq (g2 := F0 m 11 ls [.int (nI zt), .int (nI 0), .ref ta]) rfl ?_
  obtain ⟨hq_84, hq_85⟩ := hW.octs hi_79 ht_80
  have hFc := pg_free hD hS hA
  refine va_calli (va_runS (As := [.ref ta, .int (nI 0), .int (nI zt)]) (rest := []) ⟨hx, hb, hml, hown, hts⟩ (s_X14_isName_e l dC dI cs ty gm L H.size F_48 ta (ρ + 1) 3000 0 zt gt hW hi_79 ht_80 hF_78 (by first | omega | assumption | exact Or.inl rfl) (by first | omega | assumption | exact Or.inl rfl)) ⟨callB_of 3 hts (gi kt_689) rfl rfl rfl (hts _ kt_676) (hts _ kt_848) (by decide +kernel) ⟨Nat.le_of_ble_eq_true rfl, Nat.le_of_ble_eq_true rfl⟩, (hts _ kt_691)⟩ ⟨fun a U g mk q => ⟨q.1, PTm.calling q.2⟩, fun U hU hWm => ⟨rfl, PTm.mk hU hWm hP hK hD hE hO⟩⟩ rfl rfl hl.1 rfl (lv_room (Nat.le_of_ble_eq_true rfl)) dX15_house_11 ⟨by show _ + 0 ≤ 0; omega, by show _ + 0 ≤ 0; omega⟩) hS (fun q _ h => hFc q h) hFc (fun r_86 u t H1 locs ht hvm hw hB hz1 hk1 hS => ?_)
  obtain ⟨F_87, hB1⟩ := hB
  obtain rfl : F_48 = F_87 := (funext (fun a => hB1.2.2.2 a List.not_mem_nil)).symm
  obtain ⟨hP, hD, hO, hR⟩ := QTm.back hB1 ht hFc hR (fun q h => absurd h List.not_mem_nil)
  generalize H1 = H at hP hS ⊢
  have hw : r_86 = (if NM gt 0 zt = true then 1 else 0) := hw
  have hw_88 := hw
  refine lv_if_ne (tgt := 19) hx hb dX15_house_14 (by decide) (fun c_89 => ?_) (fun c_89 => ?_)
  ·
    refine lv_aload_n hx hb dX15_house_19 rfl (lv_at hl 1 rfl) ?_
    refine pg_get (ci := 15) (v := .ref ak) (C := RX15) (T := TX15) (N := 59) hx hb hts it_15 hown hK hP hL_h0 hq_49 rfl 56 (by decide) (hts _ kt_993) (fun _ h9 => h9) rfl dX15_house_20 ?_
    refine lv_aload_n hx hb dX15_house_23 rfl (lv_at hl 1 rfl) ?_
    refine pg_get (ci := 15) (v := .ref ta) (C := RX15) (T := TX15) (N := 59) hx hb hts it_15 hown hK hP hL_h0 hq_49 rfl 0 (by decide) (hts _ kt_1006) (fun _ h9 => h9) rfl dX15_house_24 ?_
    refine lv_iconst (v := 0) hx hb dX15_house_27 (by decide) ?_
    refine lv_iload_n hx hb dX15_house_28 rfl (lv_at hl 0 rfl) ?_
    refine W.eq (g2 := F0 m 29 ls [.int (nI zt), .int (nI 0), .ref ta, .ref ak]) rfl ?_
    obtain ⟨hi_90, r_69, ht_91⟩ := hW.f_ak hL_h0 hT_h0
    obtain ⟨hi_92, ht_93, hq_94⟩ := hW.txt hi_90 ht_91
    have hFc := pg_free hD hS hA
    obtain ⟨z_95, hF_96, hq_97⟩ := hO.txt hi_90 ht_91
    refine va_callv (va_runV (As := [.ref ta, .int (nI 0), .int (nI zt)]) (rest := []) ⟨hx, hb, hml, hown, hts⟩ (s_X14_set_e l dC dI cs ty gm L H.size F_48 ak (ρ + 28) r_69 6000 ta (ρ + 1) 3000 0 zt gt hW hi_90 ht_91 hi_79 ht_80 hF_78 (Nat.zero_le _) (by omega) (by omega)) ⟨callB_of 3 hts (gi kt_941) rfl rfl rfl (hts _ kt_676) (hts _ kt_942) (by decide +kernel) ⟨Nat.le_of_ble_eq_true rfl, Nat.le_of_ble_eq_true rfl⟩, (hts _ kt_943), (hts _ kt_944)⟩ ⟨fun a U g mk q => ⟨q.1, PTm.calling q.2⟩, pg_recv hK hP hi_90 hF_96 (q := (RX14, TX14, 2)) rfl, fun U hU hWm => ⟨rfl, PTm.mk hU hWm hP hK hD hE hO⟩⟩ rfl rfl hl.1 rfl (lv_room (Nat.le_of_ble_eq_true rfl)) dX15_house_29 ⟨by show _ + 0 ≤ 0; omega, by show _ + 0 ≤ 0; omega⟩) hS (fun q _ h => hFc q h) hFc (fun u t H1 locs ht hvm hw hB hz1 hk1 hS => ?_)
    obtain ⟨F_99, fc_100, hB1, hq_101, hq_102, hq_103⟩ := hB
    obtain ⟨hP, hD, hO, hR⟩ := QTm.back hB1 ht hFc hR (fun q h => by simp only [List.mem_cons, List.not_mem_nil, or_false] at h ⊢; omega)
    have hF_104 : F_99 h0 = .inr (15, (.ref ta) :: (.int 0) :: (.int (nI zo)) :: (.int (nI ze)) :: (.ref ou) :: (.ref so) :: (.ref ad) :: (.ref na) :: (.ref va) :: (.ref lc) :: (.ref dm) :: (.int (nI fm)) :: (.int (nI sn)) :: (.ref tg) :: (.int v14_29) :: (.int v15_30) :: (.ref pe) :: (.int v17_31) :: (.int v18_32) :: (.int v19_33) :: (.int v20_34) :: (.int v21_35) :: (.int v22_36) :: (.ref ml) :: (.ref bg) :: (.ref co) :: (.ref sp) :: (.ref nb0) :: (.ref nb1) :: (.ref nb2) :: (.int (nI nf)) :: (.int (nI bd)) :: (.int (nI mm)) :: (.int v33_37) :: (.ref pl) :: (.ref se) :: (.ref ke) :: (.ref wi) :: (.ref hs) :: (.ref mo) :: (.ref po) :: (.ref nu) :: (.ref pr) :: (.ref sq) :: (.ref xa) :: (.ref sa) :: (.ref n64) :: (.ref m64) :: (.ref ex) :: (.ref wh) :: (.ref sd) :: (.ref tk) :: (.int v52_38) :: (.int v53_39) :: (.int v54_40) :: (.ref hd) :: (.ref ak) :: (.ref ho) :: (.ref ot) :: []) := (hB1.2.2.2 h0 (by rw [hT_h0]; simp)).trans hq_49
    have hF_105 : F_99 ta = .inl (cs 17, 3000, .inl gt) := (hB1.2.2.2 ta (by rw [ht_80]; simp)).trans hF_78
    have hF_106 : F_99 ou = .inl (cs 17, 6000, .inl go0) := (hB1.2.2.2 ou (by rw [ht_83]; simp)).trans hF_81
    generalize H1 = H at hP hS ⊢
    refine lv_aload_n hx hb dX15_house_32 rfl (lv_at hl 1 rfl) ?_
    refine lv_aload_n hx hb dX15_house_33 rfl (lv_at hl 1 rfl) ?_
    refine pg_get (ci := 15) (v := .ref ak) (C := RX15) (T := TX15) (N := 59) hx hb hts it_15 hown hK hP hL_h0 hF_104 rfl 56 (by decide) (hts _ kt_993) (fun _ h9 => h9) rfl dX15_house_34 ?_
    refine lv_aload_n hx hb dX15_house_37 rfl (lv_at hl 1 rfl) ?_
    refine pg_get (ci := 15) (v := .ref ho) (C := RX15) (T := TX15) (N := 59) hx hb hts it_15 hown hK hP hL_h0 hF_104 rfl 57 (by decide) (hts _ kt_950) (fun _ h9 => h9) rfl dX15_house_38 ?_
    have hR0 := FR.unre hT00 hty hR
    have hQna := hR0 na (by rw [hTn0]; simp only [List.mem_cons, List.not_mem_nil, or_false]; omega)
    have hQva := hR0 va (by rw [hTv0]; simp only [List.mem_cons, List.not_mem_nil, or_false]; omega)
    have hQso := hR0 so (by rw [hTs0]; simp only [List.mem_cons, List.not_mem_nil, or_false]; omega)
    have hQad := hR0 ad (by rw [hTd0]; simp only [List.mem_cons, List.not_mem_nil, or_false]; omega)
    have hDM5 := DIRM.fr hDM hO0 hW0 hLn0 hTn0 hLv0 hTv0 (by omega) hR0 hQso hQad hQna hQva (fun k hk => ⟨by simp only [List.mem_cons, List.not_mem_nil, or_false]; omega, by simp only [List.mem_cons, List.not_mem_nil, or_false]; omega⟩)
    obtain ⟨hi_107, r_70, ht_108⟩ := hW.f_ho hL_h0 hT_h0
    obtain ⟨hi_109, ht_110, hq_111⟩ := hW.txt hi_107 ht_108
    obtain ⟨hq_112, hq_113⟩ := hW.octs hi_92 ht_93
    have hFc := pg_free hD hS hA
    refine va_callv (va_runV (As := [.ref ak, .ref ho]) (rest := []) ⟨hx, hb, hml, hown, hts⟩ (s_X15_houseOf_e l dC dI cs ty gm L H.size F_99 h0 ρ ta ou so ad na va lc dm tg pe ml bg co sp nb0 nb1 nb2 pl se ke wi hs mo po nu pr sq xa sa n64 m64 ex wh sd tk hd ak ho ot sx s0 s1 s2 nf bd mm zo fm sn hg gc gv ze 0 ak (ρ + 28) r_69 6000 ho (ρ + 29) r_70 6000 (zt - 0) fc_100 D hW hL_h0 hT_h0 hi_90 ht_91 hi_107 ht_108 hq_101 hq_102 (by first | omega | assumption | exact Or.inl rfl) (by first | omega | assumption | exact Or.inl rfl) (hDM5)) ⟨callB_of 2 hts (gi kt_951) rfl rfl rfl (hts _ kt_669) (hts _ kt_952) (by decide +kernel) ⟨Nat.le_of_ble_eq_true rfl, Nat.le_of_ble_eq_true rfl⟩, (hts _ kt_953), (hts _ kt_954)⟩ ⟨fun a U g mk q => ⟨q.1, PTm.calling q.2⟩, pg_recv hK hP hL_h0 hF_104 (q := (RX15, TX15, 59)) rfl, fun U hU hWm => ⟨rfl, PTm.mk hU hWm hP hK hD hE hO⟩⟩ rfl rfl hl.1 rfl (lv_room (Nat.le_of_ble_eq_true rfl)) dX15_house_41 ⟨by show _ + 0 ≤ 0; omega, by show _ + 0 ≤ 0; omega⟩) hS (fun q _ h => hFc q h) hFc (fun u t H1 locs ht hvm hw hB hz1 hk1 hS => ?_)
    obtain ⟨F_115, y2_116, fc_117, hB1, hq_118, hq_119, hq_120, hq_121⟩ := hB
    obtain ⟨hP, hD, hO, hR⟩ := QTm.back hB1 ht hFc hR (fun q h => by simp only [List.mem_cons, List.not_mem_nil, or_false] at h ⊢; omega)
    have hF_122 : F_115 h0 = .inr (15, (.ref ta) :: (.int 0) :: (.int (nI zo)) :: (.int (nI ze)) :: (.ref ou) :: (.ref so) :: (.ref ad) :: (.ref na) :: (.ref va) :: (.ref lc) :: (.ref dm) :: (.int (nI fm)) :: (.int (nI sn)) :: (.ref tg) :: (.int v14_29) :: (.int v15_30) :: (.ref pe) :: (.int v17_31) :: (.int v18_32) :: (.int v19_33) :: (.int v20_34) :: (.int v21_35) :: (.int v22_36) :: (.ref ml) :: (.ref bg) :: (.ref co) :: (.ref sp) :: (.ref nb0) :: (.ref nb1) :: (.ref nb2) :: (.int (nI nf)) :: (.int (nI bd)) :: (.int (nI mm)) :: (.int v33_37) :: (.ref pl) :: (.ref se) :: (.ref ke) :: (.ref wi) :: (.ref hs) :: (.ref mo) :: (.ref po) :: (.ref nu) :: (.ref pr) :: (.ref sq) :: (.ref xa) :: (.ref sa) :: (.ref n64) :: (.ref m64) :: (.ref ex) :: (.ref wh) :: (.ref sd) :: (.ref tk) :: (.int v52_38) :: (.int v53_39) :: (.int v54_40) :: (.ref hd) :: (.ref ak) :: (.ref ho) :: (.ref ot) :: []) := (hB1.2.2.2 h0 (by rw [hT_h0]; simp)).trans hF_104
    have hF_123 : F_115 ta = .inl (cs 17, 3000, .inl gt) := (hB1.2.2.2 ta (by rw [ht_80]; simp)).trans hF_105
    have hF_124 : F_115 ou = .inl (cs 17, 6000, .inl go0) := (hB1.2.2.2 ou (by rw [ht_83]; simp)).trans hF_106
    have hF_125 : F_115 ak = .inr (14, [.ref r_69, .int (nI (zt - 0))]) := (hB1.2.2.2 ak (by rw [ht_91]; simp)).trans hq_101
    have hF_126 : F_115 r_69 = .inl (cs 17, 6000, .inl fc_100) := (hB1.2.2.2 r_69 (by rw [ht_93]; simp)).trans hq_102
    generalize H1 = H at hP hS ⊢
    refine lv_aload_n hx hb dX15_house_44 rfl (lv_at hl 1 rfl) ?_
    refine lv_aload_n hx hb dX15_house_45 rfl (lv_at hl 1 rfl) ?_
    refine pg_get (ci := 15) (v := .ref ho) (C := RX15) (T := TX15) (N := 59) hx hb hts it_15 hown hK hP hL_h0 hF_122 rfl 57 (by decide) (hts _ kt_950) (fun _ h9 => h9) rfl dX15_house_46 ?_
    obtain ⟨hq_127, hq_128⟩ := hW.octs hi_109 ht_110
    have hFc := pg_free hD hS hA
    refine va_calli (va_runV (As := [.ref ho]) (rest := []) ⟨hx, hb, hml, hown, hts⟩ (s_X15_tell_c l dC dI cs ty gm L H.size F_115 h0 ρ ta ou so ad na va lc dm tg pe ml bg co sp nb0 nb1 nb2 pl se ke wi hs mo po nu pr sq xa sa n64 m64 ex wh sd tk hd ak ho ot sx s0 s1 s2 nf bd mm zo fm sn hg gc gv ze 0 ho (ρ + 29) r_70 y2_116 fc_117 hW hL_h0 hT_h0 hi_107 ht_108 hq_118 hq_119 (by omega)) ⟨callB_of 1 hts (gi kt_1140) rfl rfl rfl (hts _ kt_669) (hts _ kt_1141) (by decide +kernel) ⟨Nat.le_of_ble_eq_true rfl, Nat.le_of_ble_eq_true rfl⟩, (hts _ kt_1142), (hts _ kt_1143)⟩ ⟨fun a U g mk q => ⟨q.1, PTm.calling q.2⟩, pg_recv hK hP hL_h0 hF_122 (q := (RX15, TX15, 59)) rfl, fun U hU hWm => ⟨rfl, PTm.mk hU hWm hP hK hD hE hO⟩⟩ rfl rfl hl.1 rfl (lv_room (Nat.le_of_ble_eq_true rfl)) dX15_house_49 ⟨by show _ + 0 ≤ 0; omega, by show _ + 0 ≤ 0; omega⟩) hS (fun q _ h => hFc q h) hFc (fun r_129 u t H1 locs ht hvm hw hB hz1 hk1 hS => ?_)
    obtain ⟨F_130, ty9, go_131, hty9, hB1, hW9, hq_132, hq_133⟩ := hB
    subst hty9
    have hR9 := FR.retype (im2 := [ta, ou, so, ad, na, va, lc, dm, tg, pe, ml, bg, co, sp, nb0, nb1, nb2, pl, se, ke, wi, hs, mo, po, nu, pr, sq, xa, sa, n64, m64, ex, wh, sd, tk, hd, ak, ho, ot, sx, s0, s1, s2, nf, bd, mm, y2_116, fm, sn, hg, gc, gv, ze, 0]) hT_h0 hR
    have htyU := hty
    have hTU := hT_h0
    obtain ⟨hP, hD, hO, hR⟩ := QTm.back hB1 ht hFc hR9 (fun q h => by simp only [List.mem_cons, List.not_mem_nil, or_false] at h ⊢; omega)
    obtain ⟨ty, hty, hT_h0, hW, hO, hR⟩ : ∃ t9 : TyM, t9 = rtf ty h0 (15, ρ, [ta, ou, so, ad, na, va, lc, dm, tg, pe, ml, bg, co, sp, nb0, nb1, nb2, pl, se, ke, wi, hs, mo, po, nu, pr, sq, xa, sa, n64, m64, ex, wh, sd, tk, hd, ak, ho, ot, sx, s0, s1, s2, nf, bd, mm, y2_116, fm, sn, hg, gc, gv, ze, 0]) ∧ t9 h0 = (15, ρ, [ta, ou, so, ad, na, va, lc, dm, tg, pe, ml, bg, co, sp, nb0, nb1, nb2, pl, se, ke, wi, hs, mo, po, nu, pr, sq, xa, sa, n64, m64, ex, wh, sd, tk, hd, ak, ho, ot, sx, s0, s1, s2, nf, bd, mm, y2_116, fm, sn, hg, gc, gv, ze, 0]) ∧ WTm t9 gm L ∧ OKm cs t9 gm L F_130 ∧ FR t9 [ρ, ρ + 2, ρ + 28, ρ + 29] F F_130 := ⟨_, rfl, rtf_self, hW9, hO, hR⟩
    generalize H1 = H at hP hS ⊢
    have hw : r_129 = nI y2_116 := hw
    subst hw
    obtain ⟨hq_156, hq_157, hq_158, hq_159, hq_160, hgO, hgA, hgB, hq_161⟩ := hW.sc hL_h0 hT_h0
    refine W.widen (k := 0) (n := 0) (by omega) (by omega) ?_
    exact W.iret (v := (nI y2_116)) hx hb hr (fun t ht hWm => ⟨⟨(nI y2_116), y2_116, rfl, (hsm_y (ifb1 hw_88 c_89) hq_103 hq_120), ⟨F_130, ty, go_131, (by rw [hty, htyU, rtf_rtf2]), QTm.mk ht hP hD hO hR, hW, hq_132, (Or.inr ⟨ifb1 hw_88 c_89, hsc_y hq_103 hq_120 hq_121 hq_133⟩)⟩⟩, hS.F ht⟩) hS.2.2 dX15_house_52
  ·
    refine lv_iconst (v := (-1)) hx hb dX15_house_17 (by decide) ?_
    refine W.widen (k := 0) (n := 0) (by omega) (by omega) ?_
    exact W.iret (v := (-1)) hx hb hr (fun t ht hWm => ⟨⟨(-1), zo, rfl, ((if_neg (ifb0 hw_88 c_89)).symm), ⟨F_48, ty, go0, hty, QTm.mk ht hP hD hO hR, hW, hF_81, (Or.inl ⟨ifb0 hw_88 c_89, rfl, rfl⟩)⟩⟩, hS.F ht⟩) hS.2.2 dX15_house_18
theorem bd_get {f g : Nat → Int32} {a T9 : List (Nat × Nat)} {r9 : Nat} (h : OUTM f g a) (hl : r9 ≤ a.length) (ha : T9 = a ∨ a = T9 ++ [(2, 10)]) : ∀ (j : Nat) (y : Nat × Nat), j < r9 → (T9 ++ [(2, 10)])[j]? = some y → g j = nb8 (evs f y) := by
  intro j y hj hy
  rcases ha with q | q
  · rw [q, List.getElem?_append_left (by omega)] at hy
    exact h j y hy
  · rw [← q] at hy
    exact h j y hy
theorem bl_aa {T : Nat → Nat} {x : Int32} {mm j : Nat} {TT aa : List (Nat × Nat)} (hj : mm ≤ j) (h : (TT = aa ++ blx T x (mm - j) j 0) ∨ (j = mm ∧ aa = TT ++ [(2, 10)])) : TT = aa ∨ aa = TT ++ [(2, 10)] := by
  rcases h with q | q
  · rw [show mm - j = 0 by omega] at q
    exact Or.inl (q.trans (List.append_nil aa))
  · exact Or.inr q.2
set_option maxHeartbeats 4000000 in
set_option maxRecDepth 100000 in
theorem s_X15_bodyPlain_c (l : Launch) (dC : Nat → ClassId) (dI : Nat → Nat → Nat) (cs : Nat → ClassId) (ty : TyM) (gm : Nat → Nat → Nat) (L : List Nat) (sz : Nat) (F : Nat → va_E) (h0 : Nat) (ρ : Nat) (ta : Nat) (ou : Nat) (so : Nat) (ad : Nat) (na : Nat) (va : Nat) (lc : Nat) (dm : Nat) (tg : Nat) (pe : Nat) (ml : Nat) (bg : Nat) (co : Nat) (sp : Nat) (nb0 : Nat) (nb1 : Nat) (nb2 : Nat) (pl : Nat) (se : Nat) (ke : Nat) (wi : Nat) (hs : Nat) (mo : Nat) (po : Nat) (nu : Nat) (pr : Nat) (sq : Nat) (xa : Nat) (sa : Nat) (n64 : Nat) (m64 : Nat) (ex : Nat) (wh : Nat) (sd : Nat) (tk : Nat) (hd : Nat) (ak : Nat) (ho : Nat) (ot : Nat) (sx : Nat) (s0 : Nat) (s1 : Nat) (s2 : Nat) (nf : Nat) (bd : Nat) (mm : Nat) (zo : Nat) (fm : Nat) (sn : Nat) (hg : Nat) (gc : Nat) (gv : Nat) (ze : Nat) (zt : Nat) (rl : Nat) (gl : Nat → Int32) (x1 : Int32) (hW : WTm ty gm L) (hL_h0 : h0 ∈ L) (hT_h0 : ty h0 = (15, ρ, [ta, ou, so, ad, na, va, lc, dm, tg, pe, ml, bg, co, sp, nb0, nb1, nb2, pl, se, ke, wi, hs, mo, po, nu, pr, sq, xa, sa, n64, m64, ex, wh, sd, tk, hd, ak, ho, ot, sx, s0, s1, s2, nf, bd, mm, zo, fm, sn, hg, gc, gv, ze, zt])) (hL_pl : pl ∈ L) (hT_pl : ty pl = (14, ρ + 10, [rl, 6000])) (hFml : F ml = .inl (cs 17, 3000, .inl gl)) (hbd : 1 ≤ bd) : Met l yX15_bodyPlain (.code yX15_bodyPlain cX15_bodyPlain 9 none :: tb) ({ frames := 2, cells := 0, slots := 0, locals := 44 }) (va_Pc [.ref h0, .int x1] (PTm (dC, dI) cs ty gm L F sz)) (va_Qv (fun _ : Unit => True) (fun _ T9 => ∃ F2 : Nat → va_E, ∃ NN : Nat, ∃ f2 : Nat → Int32, QTm (dC, dI) cs ty gm L [ρ + 10] F F2 (va_A (va_pl L F) sz) T9 ∧ F2 pl = .inr (14, [.ref rl, .int (nI NN)]) ∧ BDN (clr gl) x1 bd mm (nI NN) ∧ NN ≤ 6000 ∧ F2 rl = .inl (cs 17, 6000, .inl f2) ∧ BDC (fun y => nb8 (evs gl y)) (clr gl) x1 bd mm NN f2) (va_A (va_pl L F) sz)) 0 0 (va_A (va_pl L F) sz) := by
  refine Met.ofW (cc := cX15_bodyPlain) (maxL := 9) (ret := none) (by decide) rfl ?_
  intro p e s m args below meth c s₁ B hml hv
  obtain ⟨rfl, hsz, hP, hK, hD0, hE, hO⟩ := hv
  have hx := B.exec
  have hb := B.bytes
  have hr := B.returns
  have hts : ∀ w ∈ tb, w.before _ s = true := fun w h => atoms_spec (ws := .code yX15_bodyPlain cX15_bodyPlain 9 none :: tb) B.pre w (List.mem_cons_of_mem _ h)
  have hown : s.vm.findClass RX15 = some m.cls := findClass_of_methodNamed B.named
  have hlocks := B.notSynchronized
  subst hsz
  have hD := hD0.self (sz := s.heap.size)
  generalize hAe : va_A (va_pl L F) s.heap.size = A at hD ⊢
  have hA : ∀ q : Nat, s.heap.size ≤ q → A q := fun q h => by rw [← hAe]; exact Or.inr h
  have hS : va_S A s.heap s.heap [] := va_S.rf
  have hR : FR ty [ρ + 10] F F := FR.refl
  have hl := lv_entry ([.ref h0, .int x1]) (n := 9) (Nat.le_of_ble_eq_true rfl)
  rw [lg_entry_eq]
  generalize (lg_sl ([.ref h0, .int x1]) ++ List.replicate (9 - (lg_sl ([.ref h0, .int x1])).length) Slot.unset).toArray = ls at hl ⊢
  have hl : lv_has ls 9 [(0, .ref h0), (1, .int x1)] := hl
  obtain ⟨hq_22, hq_23, hq_24, hq_25, hq_26, hgO, hgA, hgB, hq_27⟩ := hW.sc hL_h0 hT_h0
  obtain ⟨hi_28, ht_29, hq_30⟩ := hW.txt hL_pl hT_pl
  obtain ⟨hi_31, ht_32⟩ := hW.f_ml hL_h0 hT_h0
  obtain ⟨hq_33, hq_34⟩ := hW.octs hi_31 ht_32
  obtain ⟨TT, hTT⟩ : ∃ w, w = (blx (clr gl) x1 (mm - bd) bd 0) := ⟨_, rfl⟩
  obtain ⟨hq_35, hq_36⟩ := hW.octs hi_28 ht_29
  obtain ⟨f_37, hF_38, hq_39⟩ := hO.octs hi_28 ht_29
  refine lv_aload_n hx hb dX15_bodyPlain_0 rfl (lv_at hl 0 rfl) ?_
  obtain ⟨v14_40, v15_41, v17_42, v18_43, v19_44, v20_45, v21_46, v22_47, v33_48, v52_49, v53_50, v54_51, hF_52, hq_53, hq_54, hq_55, hq_56, hq_57⟩ := hO.mod hL_h0 hT_h0
  refine pg_get (ci := 15) (v := .ref pl) (C := RX15) (T := TX15) (N := 59) hx hb hts it_15 hown hK hP hL_h0 hF_52 rfl 34 (by decide) (hts _ kt_901) (fun _ h9 => h9) rfl dX15_bodyPlain_1 ?_
  refine lv_iconst (v := 0) hx hb dX15_bodyPlain_4 (by decide) ?_
  obtain ⟨z_58, hF_59, hq_60⟩ := hO.txt hL_pl hT_pl
  refine pg_put (ci := 14) (v := .int 0) (ty := .int) (C := RX14) (T := TX14) (N := 2) hx hb hts it_14 tyX14 tyX14_ok nmX14 hown hK hP hD hS hL_pl hF_59 rfl 1 (by decide) (hts _ kt_709) (fun _ h9 => h9) rfl (by decide +kernel) (rfl) (rfl) (Nat.le_of_ble_eq_true rfl) dX15_bodyPlain_5 (fun H locs hP hD hS => ?_)
  obtain ⟨F_61, he_62, hP, hD, hO, hR⟩ : ∃ G, G = va_up F pl (.inr (14, [.ref rl, .int 0])) ∧ va_P (dC, dI) vwCl (va_pl L G) H ∧ va_D A (va_pl L G) ∧ OKm cs ty gm L G ∧ FR ty [ρ + 10] F G := ⟨_, rfl, hP, hD, hO.up (shm.txt hT_pl ⟨0, rfl, (by first | omega | assumption | exact Or.inl rfl | exact Or.inr rfl)⟩), hR.up hT_pl (by simp)⟩
  have hF_63 : F_61 pl = .inr (14, [.ref rl, .int 0]) := by rw [he_62]; exact up_self
  have hF_64 : F_61 ml = .inl (cs 17, 3000, .inl gl) := by rw [he_62, up_ne (ne_ty ht_32 hT_pl (by simp))]; exact hFml
  have hF_65 : F_61 rl = .inl (cs 17, 6000, .inl f_37) := by rw [he_62, up_ne (ne_ty ht_29 hT_pl (by simp))]; exact hF_38
  have hF_66 : F_61 h0 = .inr (15, (.ref ta) :: (.int (nI zt)) :: (.int (nI zo)) :: (.int (nI ze)) :: (.ref ou) :: (.ref so) :: (.ref ad) :: (.ref na) :: (.ref va) :: (.ref lc) :: (.ref dm) :: (.int (nI fm)) :: (.int (nI sn)) :: (.ref tg) :: (.int v14_40) :: (.int v15_41) :: (.ref pe) :: (.int v17_42) :: (.int v18_43) :: (.int v19_44) :: (.int v20_45) :: (.int v21_46) :: (.int v22_47) :: (.ref ml) :: (.ref bg) :: (.ref co) :: (.ref sp) :: (.ref nb0) :: (.ref nb1) :: (.ref nb2) :: (.int (nI nf)) :: (.int (nI bd)) :: (.int (nI mm)) :: (.int v33_48) :: (.ref pl) :: (.ref se) :: (.ref ke) :: (.ref wi) :: (.ref hs) :: (.ref mo) :: (.ref po) :: (.ref nu) :: (.ref pr) :: (.ref sq) :: (.ref xa) :: (.ref sa) :: (.ref n64) :: (.ref m64) :: (.ref ex) :: (.ref wh) :: (.ref sd) :: (.ref tk) :: (.int v52_49) :: (.int v53_50) :: (.int v54_51) :: (.ref hd) :: (.ref ak) :: (.ref ho) :: (.ref ot) :: []) := by rw [he_62, up_ne (ne_ty hT_h0 hT_pl (by simp))]; exact hF_52
  refine lv_iconst (v := 0) hx hb dX15_bodyPlain_8 (by decide) ?_
  refine lv_istore_n (lv' := [(2, .int 0), (0, .ref h0), (1, .int x1)]) hx hb dX15_bodyPlain_9 rfl hl (by decide) rfl (fun ls hl => ?_)
  refine lv_aload_n hx hb dX15_bodyPlain_10 rfl (lv_at hl 1 rfl) ?_
  refine pg_get (ci := 15) (v := .int (nI bd)) (C := RX15) (T := TX15) (N := 59) hx hb hts it_15 hown hK hP hL_h0 hF_66 rfl 31 (by decide) (hts _ kt_902) (fun _ h9 => h9) rfl dX15_bodyPlain_11 ?_
  refine lv_istore_n (lv' := [(3, .int (nI bd)), (2, .int 0), (0, .ref h0), (1, .int x1)]) hx hb dX15_bodyPlain_14 rfl hl (by decide) rfl (fun ls hl => ?_)
  refine W.widen (k := 0) (n := 0) (by omega) (by omega) ?_
  have hF_68 : F ml = .inl (cs 17, 3000, .inl gl) := (hR ml (by rw [ht_32]; simp)).symm.trans hF_64
  have hF_69 : F h0 = .inr (15, (.ref ta) :: (.int (nI zt)) :: (.int (nI zo)) :: (.int (nI ze)) :: (.ref ou) :: (.ref so) :: (.ref ad) :: (.ref na) :: (.ref va) :: (.ref lc) :: (.ref dm) :: (.int (nI fm)) :: (.int (nI sn)) :: (.ref tg) :: (.int v14_40) :: (.int v15_41) :: (.ref pe) :: (.int v17_42) :: (.int v18_43) :: (.int v19_44) :: (.int v20_45) :: (.int v21_46) :: (.int v22_47) :: (.ref ml) :: (.ref bg) :: (.ref co) :: (.ref sp) :: (.ref nb0) :: (.ref nb1) :: (.ref nb2) :: (.int (nI nf)) :: (.int (nI bd)) :: (.int (nI mm)) :: (.int v33_48) :: (.ref pl) :: (.ref se) :: (.ref ke) :: (.ref wi) :: (.ref hs) :: (.ref mo) :: (.ref po) :: (.ref nu) :: (.ref pr) :: (.ref sq) :: (.ref xa) :: (.ref sa) :: (.ref n64) :: (.ref m64) :: (.ref ex) :: (.ref wh) :: (.ref sd) :: (.ref tk) :: (.int v52_49) :: (.int v53_50) :: (.int v54_51) :: (.ref hd) :: (.ref ak) :: (.ref ho) :: (.ref ot) :: []) := (hR h0 (by rw [hT_h0]; simp)).symm.trans hF_66
  refine pl_loopm (σ := Nat × Nat × (List (Nat × Nat))) A (dC, dI) cs ty gm L [ρ + 10] F 15 9 (fun (j, w2, aa) => [(3, .int (nI j)), (2, .int (nI w2)), (0, .ref h0), (1, .int x1)]) (fun (j, w2, aa) => []) (fun (j, w2, aa) FF => ((bd ≤ j ∧ j ≤ mm) ∧ ((TT = aa ++ blx (clr gl) x1 (mm - j) j 0) ∨ (j = mm ∧ aa = TT ++ [(2, 10)])) ∧ STL aa w2 ∧ (j = mm ∨ aa.length ≤ j - bd) ∧ aa.length ≤ j - bd + 1 ∧ FF pl = .inr (14, [.ref rl, .int (nI aa.length)])) ∧ ∃ fq : Nat → Int32, FF rl = .inl (cs 17, 6000, .inl fq) ∧ OUTM gl fq aa) (fun (j, w2, aa) => mm - j) ?_ (bd, 0, []) F_61 (⟨⟨⟨by omega, by omega⟩, Or.inl hTT, STL.nil, Or.inr (Nat.zero_le _), Nat.zero_le _, hF_63⟩, _, hF_65, OUTM.nil⟩) hO hR _ _ hP hD hS ls (lv_sub hl [0, 1, 2, 3] rfl)
  rintro ⟨j, w2, aa⟩ F_67 hv_70 hO hR ih_71 H locs hP hD hS ls hl
  have hl : lv_has ls 9 [(3, .int (nI j)), (2, .int (nI w2)), (0, .ref h0), (1, .int x1)] := hl
  have hv_70 : ((bd ≤ j ∧ j ≤ mm) ∧ ((TT = aa ++ blx (clr gl) x1 (mm - j) j 0) ∨ (j = mm ∧ aa = TT ++ [(2, 10)])) ∧ STL aa w2 ∧ (j = mm ∨ aa.length ≤ j - bd) ∧ aa.length ≤ j - bd + 1 ∧ F_67 pl = .inr (14, [.ref rl, .int (nI aa.length)])) ∧ ∃ fq : Nat → Int32, F_67 rl = .inl (cs 17, 6000, .inl fq) ∧ OUTM gl fq aa := hv_70
  refine W.eq (g2 := F0 m 15 ls []) rfl ?_
  have hF_72 : F_67 ml = .inl (cs 17, 3000, .inl gl) := (hR ml (by rw [ht_32]; simp)).trans hF_68
  have hF_73 : F_67 h0 = .inr (15, (.ref ta) :: (.int (nI zt)) :: (.int (nI zo)) :: (.int (nI ze)) :: (.ref ou) :: (.ref so) :: (.ref ad) :: (.ref na) :: (.ref va) :: (.ref lc) :: (.ref dm) :: (.int (nI fm)) :: (.int (nI sn)) :: (.ref tg) :: (.int v14_40) :: (.int v15_41) :: (.ref pe) :: (.int v17_42) :: (.int v18_43) :: (.int v19_44) :: (.int v20_45) :: (.int v21_46) :: (.int v22_47) :: (.ref ml) :: (.ref bg) :: (.ref co) :: (.ref sp) :: (.ref nb0) :: (.ref nb1) :: (.ref nb2) :: (.int (nI nf)) :: (.int (nI bd)) :: (.int (nI mm)) :: (.int v33_48) :: (.ref pl) :: (.ref se) :: (.ref ke) :: (.ref wi) :: (.ref hs) :: (.ref mo) :: (.ref po) :: (.ref nu) :: (.ref pr) :: (.ref sq) :: (.ref xa) :: (.ref sa) :: (.ref n64) :: (.ref m64) :: (.ref ex) :: (.ref wh) :: (.ref sd) :: (.ref tk) :: (.int v52_49) :: (.int v53_50) :: (.int v54_51) :: (.ref hd) :: (.ref ak) :: (.ref ho) :: (.ref ot) :: []) := (hR h0 (by rw [hT_h0]; simp)).trans hF_69
  obtain ⟨hv9, fq, hq1, hq2⟩ := id hv_70
  obtain ⟨ha1, ha2, ha3, ha5, ha6, ha4⟩ := id hv9
  refine lv_iload_n hx hb dX15_bodyPlain_15 rfl (lv_at hl 0 rfl) ?_
  refine lv_aload_n hx hb dX15_bodyPlain_16 rfl (lv_at hl 2 rfl) ?_
  refine pg_get (ci := 15) (v := .int (nI mm)) (C := RX15) (T := TX15) (N := 59) hx hb hts it_15 hown hK hP hL_h0 hF_73 rfl 32 (by decide) (hts _ kt_903) (fun _ h9 => h9) rfl dX15_bodyPlain_17 ?_
  refine lv_icmp_ge (tgt := 218) hx hb dX15_bodyPlain_20 (by decide) (fun c_74 => ?_) (fun c_74 => ?_)
  ·
    have hi_75 : mm ≤ j := leN (N := mm) c_74
    have hw6 := ha3.1
    have hfi : STL ((blx (clr gl) x1 (mm - bd) bd 0) ++ [(2, 10)]) w2 := by rw [← hTT]; exact bl_fin (by omega) ha2 ha3
    refine lv_aload_n hx hb dX15_bodyPlain_218 rfl (lv_at hl 2 rfl) ?_
    refine pg_get (ci := 15) (v := .ref pl) (C := RX15) (T := TX15) (N := 59) hx hb hts it_15 hown hK hP hL_h0 hF_73 rfl 34 (by decide) (hts _ kt_901) (fun _ h9 => h9) rfl dX15_bodyPlain_219 ?_
    refine lv_iload_n hx hb dX15_bodyPlain_222 rfl (lv_at hl 1 rfl) ?_
    refine pg_put (ci := 14) (v := .int (nI w2)) (ty := .int) (C := RX14) (T := TX14) (N := 2) hx hb hts it_14 tyX14 tyX14_ok nmX14 hown hK hP hD hS hL_pl ha4 rfl 1 (by decide) (hts _ kt_709) (fun _ h9 => h9) rfl (by decide +kernel) (rfl) (rfl) (Nat.le_of_ble_eq_true rfl) dX15_bodyPlain_223 (fun H locs hP hD hS => ?_)
    obtain ⟨F_76, he_77, hP, hD, hO, hR⟩ : ∃ G, G = va_up F_67 pl (.inr (14, [.ref rl, .int (nI w2)])) ∧ va_P (dC, dI) vwCl (va_pl L G) H ∧ va_D A (va_pl L G) ∧ OKm cs ty gm L G ∧ FR ty [ρ + 10] F G := ⟨_, rfl, hP, hD, hO.up (shm.txt hT_pl ⟨w2, rfl, (by first | omega | assumption | exact Or.inl rfl | exact Or.inr rfl)⟩), hR.up hT_pl (by simp)⟩
    have hF_78 : F_76 pl = .inr (14, [.ref rl, .int (nI w2)]) := by rw [he_77]; exact up_self
    have hF_79 : F_76 ml = .inl (cs 17, 3000, .inl gl) := by rw [he_77, up_ne (ne_ty ht_32 hT_pl (by simp))]; exact hF_72
    have hF_80 : F_76 h0 = .inr (15, (.ref ta) :: (.int (nI zt)) :: (.int (nI zo)) :: (.int (nI ze)) :: (.ref ou) :: (.ref so) :: (.ref ad) :: (.ref na) :: (.ref va) :: (.ref lc) :: (.ref dm) :: (.int (nI fm)) :: (.int (nI sn)) :: (.ref tg) :: (.int v14_40) :: (.int v15_41) :: (.ref pe) :: (.int v17_42) :: (.int v18_43) :: (.int v19_44) :: (.int v20_45) :: (.int v21_46) :: (.int v22_47) :: (.ref ml) :: (.ref bg) :: (.ref co) :: (.ref sp) :: (.ref nb0) :: (.ref nb1) :: (.ref nb2) :: (.int (nI nf)) :: (.int (nI bd)) :: (.int (nI mm)) :: (.int v33_48) :: (.ref pl) :: (.ref se) :: (.ref ke) :: (.ref wi) :: (.ref hs) :: (.ref mo) :: (.ref po) :: (.ref nu) :: (.ref pr) :: (.ref sq) :: (.ref xa) :: (.ref sa) :: (.ref n64) :: (.ref m64) :: (.ref ex) :: (.ref wh) :: (.ref sd) :: (.ref tk) :: (.int v52_49) :: (.int v53_50) :: (.int v54_51) :: (.ref hd) :: (.ref ak) :: (.ref ho) :: (.ref ot) :: []) := by rw [he_77, up_ne (ne_ty hT_h0 hT_pl (by simp))]; exact hF_73
    have hF_81 : F_76 rl = .inl (cs 17, 6000, .inl fq) := by rw [he_77, up_ne (ne_ty ht_29 hT_pl (by simp))]; exact hq1
    refine lv_iload_n hx hb dX15_bodyPlain_226 rfl (lv_at hl 1 rfl) ?_
    refine lv_if_ne (tgt := 243) hx hb dX15_bodyPlain_227 (by decide) (fun c_82 => ?_) (fun c_82 => ?_)
    ·
      have hi_83 : w2 ≠ 0 := fun q => c_82 (by rw [q]; rfl)
      have hw0 : w2 ≠ 0 := by omega
      refine W.widen (k := 0) (n := 0) (by omega) (by omega) ?_
      exact W.vret hx hb hr (fun t ht hWm => ⟨⟨(), rfl, trivial, ⟨F_76, w2, fq, QTm.mk ht hP hD hO hR, hF_78, (bdn_n hfi (fun q => hw0 q.1)), (by have h9 := hfi.1; rw [len1] at h9; have h8 := blx_len (clr gl) x1 (mm - bd) bd 0; rw [if_pos rfl] at h8; omega), hF_81, ⟨w2, hfi, Or.inr ⟨(fun q => hw0 q.1), rfl, bd_get hq2 ha3.1 (by rw [← hTT]; exact bl_aa (by omega) ha2)⟩⟩⟩⟩, hS.F ht⟩) hS.2.2 dX15_bodyPlain_243
    ·
      have hi_84 : w2 = 0 := (nI_eq (a := w2) (b := 0) (by omega) (by omega)).mp c_82
      have hw0 : w2 = 0 := by omega
      refine lv_iload_n hx hb dX15_bodyPlain_230 rfl (lv_at hl 3 rfl) ?_
      refine lv_if_ne (tgt := 243) hx hb dX15_bodyPlain_231 (by decide) (fun c_85 => ?_) (fun c_85 => ?_)
      ·
        refine W.widen (k := 0) (n := 0) (by omega) (by omega) ?_
        exact W.vret hx hb hr (fun t ht hWm => ⟨⟨(), rfl, trivial, ⟨F_76, w2, fq, QTm.mk ht hP hD hO hR, hF_78, (bdn_n hfi (fun q => c_85 q.2)), (by have h9 := hfi.1; rw [len1] at h9; have h8 := blx_len (clr gl) x1 (mm - bd) bd 0; rw [if_pos rfl] at h8; omega), hF_81, ⟨w2, hfi, Or.inr ⟨(fun q => c_85 q.2), rfl, bd_get hq2 ha3.1 (by rw [← hTT]; exact bl_aa (by omega) ha2)⟩⟩⟩⟩, hS.F ht⟩) hS.2.2 dX15_bodyPlain_243
      ·
        refine lv_aload_n hx hb dX15_bodyPlain_234 rfl (lv_at hl 2 rfl) ?_
        refine pg_get (ci := 15) (v := .ref pl) (C := RX15) (T := TX15) (N := 59) hx hb hts it_15 hown hK hP hL_h0 hF_80 rfl 34 (by decide) (hts _ kt_901) (fun _ h9 => h9) rfl dX15_bodyPlain_235 ?_
        refine lv_bipush (v := 10) hx hb dX15_bodyPlain_238 (by decide) ?_
        have hFc := pg_free hD hS hA
        refine va_callv (va_runV (As := [.int 10]) (rest := []) ⟨hx, hb, hml, hown, hts⟩ (s_X14_add_c l dC dI cs ty gm L H.size F_76 pl (ρ + 10) rl 6000 w2 10 fq hW hL_pl hT_pl hF_78 hF_81 (by first | omega | assumption | exact Or.inl rfl)) ⟨callB_of 1 hts (gi kt_711) rfl rfl rfl (hts _ kt_676) (hts _ kt_712) (by decide +kernel) ⟨Nat.le_of_ble_eq_true rfl, Nat.le_of_ble_eq_true rfl⟩, (hts _ kt_713), (hts _ kt_714)⟩ ⟨fun a U g mk q => ⟨q.1, PTm.calling q.2⟩, pg_recv hK hP hL_pl hF_78 (q := (RX14, TX14, 2)) rfl, fun U hU hWm => ⟨rfl, PTm.mk hU hWm hP hK hD hE hO⟩⟩ rfl rfl hl.1 rfl (lv_room (Nat.le_of_ble_eq_true rfl)) dX15_bodyPlain_240 ⟨by show _ + 0 ≤ 0; omega, by show _ + 0 ≤ 0; omega⟩) hS (fun q _ h => hFc q h) hFc (fun u t H1 locs ht hvm hw hB hz1 hk1 hS => ?_)
        obtain ⟨F_87, f2_88, hB1, hq_89, hq_90, hq_91⟩ := hB
        obtain ⟨hP, hD, hO, hR⟩ := QTm.back hB1 ht hFc hR (fun q h => by simp only [List.mem_cons, List.not_mem_nil, or_false] at h ⊢; omega)
        have hF_92 : F_87 ml = .inl (cs 17, 3000, .inl gl) := (hB1.2.2.2 ml (by rw [ht_32]; simp)).trans hF_79
        have hF_93 : F_87 h0 = .inr (15, (.ref ta) :: (.int (nI zt)) :: (.int (nI zo)) :: (.int (nI ze)) :: (.ref ou) :: (.ref so) :: (.ref ad) :: (.ref na) :: (.ref va) :: (.ref lc) :: (.ref dm) :: (.int (nI fm)) :: (.int (nI sn)) :: (.ref tg) :: (.int v14_40) :: (.int v15_41) :: (.ref pe) :: (.int v17_42) :: (.int v18_43) :: (.int v19_44) :: (.int v20_45) :: (.int v21_46) :: (.int v22_47) :: (.ref ml) :: (.ref bg) :: (.ref co) :: (.ref sp) :: (.ref nb0) :: (.ref nb1) :: (.ref nb2) :: (.int (nI nf)) :: (.int (nI bd)) :: (.int (nI mm)) :: (.int v33_48) :: (.ref pl) :: (.ref se) :: (.ref ke) :: (.ref wi) :: (.ref hs) :: (.ref mo) :: (.ref po) :: (.ref nu) :: (.ref pr) :: (.ref sq) :: (.ref xa) :: (.ref sa) :: (.ref n64) :: (.ref m64) :: (.ref ex) :: (.ref wh) :: (.ref sd) :: (.ref tk) :: (.int v52_49) :: (.int v53_50) :: (.int v54_51) :: (.ref hd) :: (.ref ak) :: (.ref ho) :: (.ref ot) :: []) := (hB1.2.2.2 h0 (by rw [hT_h0]; simp)).trans hF_80
        generalize H1 = H at hP hS ⊢
        refine W.widen (k := 0) (n := 0) (by omega) (by omega) ?_
        exact W.vret hx hb hr (fun t ht hWm => ⟨⟨(), rfl, trivial, ⟨F_87, 1, f2_88, QTm.mk ht hP hD hO hR, (by have h9 := hq_89; rw [hw0] at h9; exact h9), (bdn_0 hfi hw0 c_85), (by omega), hq_90, ⟨w2, hfi, Or.inl ⟨hw0, c_85, rfl, (by rw [hq_91, hw0]; exact upd_at)⟩⟩⟩⟩, hS.F ht⟩) hS.2.2 dX15_bodyPlain_243
  ·
    have hi_94 : j < mm := ltN (N := mm) c_74
    have hjm : j < mm := by omega
    have hT5 := ha2.resolve_right (fun q => absurd q.1 (by omega))
    have ha7 : aa.length ≤ j - bd := ha5.resolve_left (by omega)
    refine lv_aload_n hx hb dX15_bodyPlain_23 rfl (lv_at hl 2 rfl) ?_
    refine pg_get (ci := 15) (v := .ref ml) (C := RX15) (T := TX15) (N := 59) hx hb hts it_15 hown hK hP hL_h0 hF_73 rfl 23 (by decide) (hts _ kt_887) (fun _ h9 => h9) rfl dX15_bodyPlain_24 ?_
    refine lv_iload_n hx hb dX15_bodyPlain_27 rfl (lv_at hl 0 rfl) ?_
    refine lv_aload_n hx hb dX15_bodyPlain_28 rfl (lv_at hl 2 rfl) ?_
    refine pg_get (ci := 15) (v := .int (nI mm)) (C := RX15) (T := TX15) (N := 59) hx hb hts it_15 hown hK hP hL_h0 hF_73 rfl 32 (by decide) (hts _ kt_903) (fun _ h9 => h9) rfl dX15_bodyPlain_29 ?_
    have hFc := pg_free hD hS hA
    refine va_calli (va_runS (As := [.ref ml, .int (nI j), .int (nI mm)]) (rest := []) ⟨hx, hb, hml, hown, hts⟩ (s_X15_lineEnd_e l dC dI cs ty gm L H.size F_67 ml (ρ + 8) 3000 j mm gl hW hi_31 ht_32 hF_72 (by first | omega | assumption | exact Or.inl rfl) (by first | omega | assumption | exact Or.inl rfl)) ⟨callB_of 3 hts (gi kt_904) rfl rfl rfl (hts _ kt_669) (hts _ kt_905) (by decide +kernel) ⟨Nat.le_of_ble_eq_true rfl, Nat.le_of_ble_eq_true rfl⟩, (hts _ kt_906)⟩ ⟨fun a U g mk q => ⟨q.1, PTm.calling q.2⟩, fun U hU hWm => ⟨rfl, PTm.mk hU hWm hP hK hD hE hO⟩⟩ rfl rfl hl.1 rfl (lv_room (Nat.le_of_ble_eq_true rfl)) dX15_bodyPlain_32 ⟨by show _ + 0 ≤ 0; omega, by show _ + 0 ≤ 0; omega⟩) hS (fun q _ h => hFc q h) hFc (fun r_95 u t H1 locs ht hvm hw hB hz1 hk1 hS => ?_)
    obtain ⟨F_96, hB1⟩ := hB
    obtain rfl : F_67 = F_96 := (funext (fun a => hB1.2.2.2 a List.not_mem_nil)).symm
    obtain ⟨hP, hD, hO, hR⟩ := QTm.back hB1 ht hFc hR (fun q h => absurd h List.not_mem_nil)
    generalize H1 = H at hP hS ⊢
    have hw : (∃ e9 : Nat, r_95 = nI (min mm (e9 + 1)) ∧ FSF (clr gl) 0 j mm e9) := hw
    have hw_97 := hw
    obtain ⟨e9, eke, hfe⟩ := hw_97
    obtain ⟨kend, hkd⟩ : ∃ k, k = min mm (e9 + 1) := ⟨_, rfl⟩
    rw [← hkd] at eke
    subst eke
    have hfe1 := hfe.1
    have hfe2 := hfe.2.1
    refine lv_istore (lv' := [(4, .int (nI kend)), (3, .int (nI j)), (2, .int (nI w2)), (0, .ref h0), (1, .int x1)]) hx hb dX15_bodyPlain_35 hl (by decide) rfl (fun ls hl => ?_)
    have hF_100 : F ml = .inl (cs 17, 3000, .inl gl) := (hR ml (by rw [ht_32]; simp)).symm.trans hF_72
    have hF_101 : F h0 = .inr (15, (.ref ta) :: (.int (nI zt)) :: (.int (nI zo)) :: (.int (nI ze)) :: (.ref ou) :: (.ref so) :: (.ref ad) :: (.ref na) :: (.ref va) :: (.ref lc) :: (.ref dm) :: (.int (nI fm)) :: (.int (nI sn)) :: (.ref tg) :: (.int v14_40) :: (.int v15_41) :: (.ref pe) :: (.int v17_42) :: (.int v18_43) :: (.int v19_44) :: (.int v20_45) :: (.int v21_46) :: (.int v22_47) :: (.ref ml) :: (.ref bg) :: (.ref co) :: (.ref sp) :: (.ref nb0) :: (.ref nb1) :: (.ref nb2) :: (.int (nI nf)) :: (.int (nI bd)) :: (.int (nI mm)) :: (.int v33_48) :: (.ref pl) :: (.ref se) :: (.ref ke) :: (.ref wi) :: (.ref hs) :: (.ref mo) :: (.ref po) :: (.ref nu) :: (.ref pr) :: (.ref sq) :: (.ref xa) :: (.ref sa) :: (.ref n64) :: (.ref m64) :: (.ref ex) :: (.ref wh) :: (.ref sd) :: (.ref tk) :: (.int v52_49) :: (.int v53_50) :: (.int v54_51) :: (.ref hd) :: (.ref ak) :: (.ref ho) :: (.ref ot) :: []) := (hR h0 (by rw [hT_h0]; simp)).symm.trans hF_73
    refine W.widen (k := 0) (n := 0) (by omega) (by omega) ?_
    refine pl_cutm (σ := Int32) A (dC, dI) cs ty gm L [ρ + 10] F 60 9 (fun s5 => [(4, .int (nI kend)), (3, .int (nI j)), (2, .int (nI w2)), (0, .ref h0), (1, .int x1)]) (fun s5 => [.int s5]) (fun s5 FF => (s5 = nI e9 ∧ FF pl = .inr (14, [.ref rl, .int (nI aa.length)])) ∧ ∃ fq : Nat → Int32, FF rl = .inl (cs 17, 6000, .inl fq) ∧ OUTM gl fq aa) ?_ (fun jn_98 => ?_)
    ·
      rintro s5 F_99 hv_102 hO hR H locs hP hD hS ls hl
      have hl : lv_has ls 9 [(4, .int (nI kend)), (3, .int (nI j)), (2, .int (nI w2)), (0, .ref h0), (1, .int x1)] := hl
      have hv_102 : (s5 = nI e9 ∧ F_99 pl = .inr (14, [.ref rl, .int (nI aa.length)])) ∧ ∃ fq : Nat → Int32, F_99 rl = .inl (cs 17, 6000, .inl fq) ∧ OUTM gl fq aa := hv_102
      refine W.eq (g2 := F0 m 60 ls [.int s5]) rfl ?_
      have hF_103 : F_99 ml = .inl (cs 17, 3000, .inl gl) := (hR ml (by rw [ht_32]; simp)).trans hF_100
      have hF_104 : F_99 h0 = .inr (15, (.ref ta) :: (.int (nI zt)) :: (.int (nI zo)) :: (.int (nI ze)) :: (.ref ou) :: (.ref so) :: (.ref ad) :: (.ref na) :: (.ref va) :: (.ref lc) :: (.ref dm) :: (.int (nI fm)) :: (.int (nI sn)) :: (.ref tg) :: (.int v14_40) :: (.int v15_41) :: (.ref pe) :: (.int v17_42) :: (.int v18_43) :: (.int v19_44) :: (.int v20_45) :: (.int v21_46) :: (.int v22_47) :: (.ref ml) :: (.ref bg) :: (.ref co) :: (.ref sp) :: (.ref nb0) :: (.ref nb1) :: (.ref nb2) :: (.int (nI nf)) :: (.int (nI bd)) :: (.int (nI mm)) :: (.int v33_48) :: (.ref pl) :: (.ref se) :: (.ref ke) :: (.ref wi) :: (.ref hs) :: (.ref mo) :: (.ref po) :: (.ref nu) :: (.ref pr) :: (.ref sq) :: (.ref xa) :: (.ref sa) :: (.ref n64) :: (.ref m64) :: (.ref ex) :: (.ref wh) :: (.ref sd) :: (.ref tk) :: (.int v52_49) :: (.int v53_50) :: (.int v54_51) :: (.ref hd) :: (.ref ak) :: (.ref ho) :: (.ref ot) :: []) := (hR h0 (by rw [hT_h0]; simp)).trans hF_101
      obtain ⟨hv9, fq, hq1, hq2⟩ := id hv_102
      obtain ⟨es5, hks3⟩ := id hv9
      subst es5
      refine W.eq (g2 := F0 m 60 ls [.int (nI e9)]) rfl ?_
      refine lv_istore (lv' := [(5, .int (nI e9)), (4, .int (nI kend)), (3, .int (nI j)), (2, .int (nI w2)), (0, .ref h0), (1, .int x1)]) hx hb dX15_bodyPlain_60 hl (by decide) rfl (fun ls hl => ?_)
      have hF_107 : F ml = .inl (cs 17, 3000, .inl gl) := (hR ml (by rw [ht_32]; simp)).symm.trans hF_103
      have hF_108 : F h0 = .inr (15, (.ref ta) :: (.int (nI zt)) :: (.int (nI zo)) :: (.int (nI ze)) :: (.ref ou) :: (.ref so) :: (.ref ad) :: (.ref na) :: (.ref va) :: (.ref lc) :: (.ref dm) :: (.int (nI fm)) :: (.int (nI sn)) :: (.ref tg) :: (.int v14_40) :: (.int v15_41) :: (.ref pe) :: (.int v17_42) :: (.int v18_43) :: (.int v19_44) :: (.int v20_45) :: (.int v21_46) :: (.int v22_47) :: (.ref ml) :: (.ref bg) :: (.ref co) :: (.ref sp) :: (.ref nb0) :: (.ref nb1) :: (.ref nb2) :: (.int (nI nf)) :: (.int (nI bd)) :: (.int (nI mm)) :: (.int v33_48) :: (.ref pl) :: (.ref se) :: (.ref ke) :: (.ref wi) :: (.ref hs) :: (.ref mo) :: (.ref po) :: (.ref nu) :: (.ref pr) :: (.ref sq) :: (.ref xa) :: (.ref sa) :: (.ref n64) :: (.ref m64) :: (.ref ex) :: (.ref wh) :: (.ref sd) :: (.ref tk) :: (.int v52_49) :: (.int v53_50) :: (.int v54_51) :: (.ref hd) :: (.ref ak) :: (.ref ho) :: (.ref ot) :: []) := (hR h0 (by rw [hT_h0]; simp)).symm.trans hF_104
      refine W.widen (k := 0) (n := 0) (by omega) (by omega) ?_
      refine pl_cutm (σ := Int32) A (dC, dI) cs ty gm L [ρ + 10] F 93 9 (fun s6 => [(5, .int s6), (4, .int (nI kend)), (3, .int (nI j)), (2, .int (nI w2)), (0, .ref h0), (1, .int x1)]) (fun s6 => []) (fun s6 FF => ((∃ k : Nat, j ≤ k ∧ k ≤ e9 ∧ s6 = nI k ∧ (k = e9 ∨ (¬ x1 = 0 ∧ ∀ i, k ≤ i → i < e9 → clr gl i = 1)) ∧ (x1 = 0 ∨ k = j ∨ ¬ clr gl (k - 1) = 1)) ∧ FF pl = .inr (14, [.ref rl, .int (nI aa.length)])) ∧ ∃ fq : Nat → Int32, FF rl = .inl (cs 17, 6000, .inl fq) ∧ OUTM gl fq aa) ?_ (fun jn_105 => ?_)
      ·
        rintro s6 F_106 hv_109 hO hR H locs hP hD hS ls hl
        have hl : lv_has ls 9 [(5, .int s6), (4, .int (nI kend)), (3, .int (nI j)), (2, .int (nI w2)), (0, .ref h0), (1, .int x1)] := hl
        have hv_109 : ((∃ k : Nat, j ≤ k ∧ k ≤ e9 ∧ s6 = nI k ∧ (k = e9 ∨ (¬ x1 = 0 ∧ ∀ i, k ≤ i → i < e9 → clr gl i = 1)) ∧ (x1 = 0 ∨ k = j ∨ ¬ clr gl (k - 1) = 1)) ∧ F_106 pl = .inr (14, [.ref rl, .int (nI aa.length)])) ∧ ∃ fq : Nat → Int32, F_106 rl = .inl (cs 17, 6000, .inl fq) ∧ OUTM gl fq aa := hv_109
        refine W.eq (g2 := F0 m 93 ls []) rfl ?_
        have hF_110 : F_106 ml = .inl (cs 17, 3000, .inl gl) := (hR ml (by rw [ht_32]; simp)).trans hF_107
        have hF_111 : F_106 h0 = .inr (15, (.ref ta) :: (.int (nI zt)) :: (.int (nI zo)) :: (.int (nI ze)) :: (.ref ou) :: (.ref so) :: (.ref ad) :: (.ref na) :: (.ref va) :: (.ref lc) :: (.ref dm) :: (.int (nI fm)) :: (.int (nI sn)) :: (.ref tg) :: (.int v14_40) :: (.int v15_41) :: (.ref pe) :: (.int v17_42) :: (.int v18_43) :: (.int v19_44) :: (.int v20_45) :: (.int v21_46) :: (.int v22_47) :: (.ref ml) :: (.ref bg) :: (.ref co) :: (.ref sp) :: (.ref nb0) :: (.ref nb1) :: (.ref nb2) :: (.int (nI nf)) :: (.int (nI bd)) :: (.int (nI mm)) :: (.int v33_48) :: (.ref pl) :: (.ref se) :: (.ref ke) :: (.ref wi) :: (.ref hs) :: (.ref mo) :: (.ref po) :: (.ref nu) :: (.ref pr) :: (.ref sq) :: (.ref xa) :: (.ref sa) :: (.ref n64) :: (.ref m64) :: (.ref ex) :: (.ref wh) :: (.ref sd) :: (.ref tk) :: (.int v52_49) :: (.int v53_50) :: (.int v54_51) :: (.ref hd) :: (.ref ak) :: (.ref ho) :: (.ref ot) :: []) := (hR h0 (by rw [hT_h0]; simp)).trans hF_108
        obtain ⟨hv9, fq, hq1, hq2⟩ := id hv_109
        obtain ⟨⟨kt, hkt1, hkt2, ekt, hsk, hk5⟩, hkt3⟩ := id hv9
        subst ekt
        have hF_114 : F ml = .inl (cs 17, 3000, .inl gl) := (hR ml (by rw [ht_32]; simp)).symm.trans hF_110
        have hF_115 : F h0 = .inr (15, (.ref ta) :: (.int (nI zt)) :: (.int (nI zo)) :: (.int (nI ze)) :: (.ref ou) :: (.ref so) :: (.ref ad) :: (.ref na) :: (.ref va) :: (.ref lc) :: (.ref dm) :: (.int (nI fm)) :: (.int (nI sn)) :: (.ref tg) :: (.int v14_40) :: (.int v15_41) :: (.ref pe) :: (.int v17_42) :: (.int v18_43) :: (.int v19_44) :: (.int v20_45) :: (.int v21_46) :: (.int v22_47) :: (.ref ml) :: (.ref bg) :: (.ref co) :: (.ref sp) :: (.ref nb0) :: (.ref nb1) :: (.ref nb2) :: (.int (nI nf)) :: (.int (nI bd)) :: (.int (nI mm)) :: (.int v33_48) :: (.ref pl) :: (.ref se) :: (.ref ke) :: (.ref wi) :: (.ref hs) :: (.ref mo) :: (.ref po) :: (.ref nu) :: (.ref pr) :: (.ref sq) :: (.ref xa) :: (.ref sa) :: (.ref n64) :: (.ref m64) :: (.ref ex) :: (.ref wh) :: (.ref sd) :: (.ref tk) :: (.int v52_49) :: (.int v53_50) :: (.int v54_51) :: (.ref hd) :: (.ref ak) :: (.ref ho) :: (.ref ot) :: []) := (hR h0 (by rw [hT_h0]; simp)).symm.trans hF_111
        refine W.widen (k := 0) (n := 0) (by omega) (by omega) ?_
        refine pl_cutm (σ := Int32) A (dC, dI) cs ty gm L [ρ + 10] F 104 9 (fun s7 => [(5, .int (nI kt)), (4, .int (nI kend)), (3, .int (nI j)), (2, .int (nI w2)), (0, .ref h0), (1, .int x1)]) (fun s7 => [.int s7]) (fun s7 FF => (((s7 = 0 ∧ kt = j) ∨ (s7 = 1 ∧ j < kt)) ∧ FF pl = .inr (14, [.ref rl, .int (nI aa.length)])) ∧ ∃ fq : Nat → Int32, FF rl = .inl (cs 17, 6000, .inl fq) ∧ OUTM gl fq aa) ?_ (fun jn_112 => ?_)
        ·
          rintro s7 F_113 hv_116 hO hR H locs hP hD hS ls hl
          have hl : lv_has ls 9 [(5, .int (nI kt)), (4, .int (nI kend)), (3, .int (nI j)), (2, .int (nI w2)), (0, .ref h0), (1, .int x1)] := hl
          have hv_116 : (((s7 = 0 ∧ kt = j) ∨ (s7 = 1 ∧ j < kt)) ∧ F_113 pl = .inr (14, [.ref rl, .int (nI aa.length)])) ∧ ∃ fq : Nat → Int32, F_113 rl = .inl (cs 17, 6000, .inl fq) ∧ OUTM gl fq aa := hv_116
          refine W.eq (g2 := F0 m 104 ls [.int s7]) rfl ?_
          have hF_117 : F_113 ml = .inl (cs 17, 3000, .inl gl) := (hR ml (by rw [ht_32]; simp)).trans hF_114
          have hF_118 : F_113 h0 = .inr (15, (.ref ta) :: (.int (nI zt)) :: (.int (nI zo)) :: (.int (nI ze)) :: (.ref ou) :: (.ref so) :: (.ref ad) :: (.ref na) :: (.ref va) :: (.ref lc) :: (.ref dm) :: (.int (nI fm)) :: (.int (nI sn)) :: (.ref tg) :: (.int v14_40) :: (.int v15_41) :: (.ref pe) :: (.int v17_42) :: (.int v18_43) :: (.int v19_44) :: (.int v20_45) :: (.int v21_46) :: (.int v22_47) :: (.ref ml) :: (.ref bg) :: (.ref co) :: (.ref sp) :: (.ref nb0) :: (.ref nb1) :: (.ref nb2) :: (.int (nI nf)) :: (.int (nI bd)) :: (.int (nI mm)) :: (.int v33_48) :: (.ref pl) :: (.ref se) :: (.ref ke) :: (.ref wi) :: (.ref hs) :: (.ref mo) :: (.ref po) :: (.ref nu) :: (.ref pr) :: (.ref sq) :: (.ref xa) :: (.ref sa) :: (.ref n64) :: (.ref m64) :: (.ref ex) :: (.ref wh) :: (.ref sd) :: (.ref tk) :: (.int v52_49) :: (.int v53_50) :: (.int v54_51) :: (.ref hd) :: (.ref ak) :: (.ref ho) :: (.ref ot) :: []) := (hR h0 (by rw [hT_h0]; simp)).trans hF_115
          obtain ⟨hv9, fq, hq1, hq2⟩ := id hv_116
          obtain ⟨hs7, hsk4⟩ := id hv9
          refine lv_istore (lv' := [(6, .int s7), (5, .int (nI kt)), (4, .int (nI kend)), (3, .int (nI j)), (2, .int (nI w2)), (0, .ref h0), (1, .int x1)]) hx hb dX15_bodyPlain_104 hl (by decide) rfl (fun ls hl => ?_)
          refine lv_iload_n hx hb dX15_bodyPlain_106 rfl (lv_at hl 3 rfl) ?_
          refine lv_istore (lv' := [(7, .int (nI j)), (6, .int s7), (5, .int (nI kt)), (4, .int (nI kend)), (3, .int (nI j)), (2, .int (nI w2)), (0, .ref h0), (1, .int x1)]) hx hb dX15_bodyPlain_107 hl (by decide) rfl (fun ls hl => ?_)
          refine W.widen (k := 0) (n := 0) (by omega) (by omega) ?_
          have hF_120 : F ml = .inl (cs 17, 3000, .inl gl) := (hR ml (by rw [ht_32]; simp)).symm.trans hF_117
          have hF_121 : F h0 = .inr (15, (.ref ta) :: (.int (nI zt)) :: (.int (nI zo)) :: (.int (nI ze)) :: (.ref ou) :: (.ref so) :: (.ref ad) :: (.ref na) :: (.ref va) :: (.ref lc) :: (.ref dm) :: (.int (nI fm)) :: (.int (nI sn)) :: (.ref tg) :: (.int v14_40) :: (.int v15_41) :: (.ref pe) :: (.int v17_42) :: (.int v18_43) :: (.int v19_44) :: (.int v20_45) :: (.int v21_46) :: (.int v22_47) :: (.ref ml) :: (.ref bg) :: (.ref co) :: (.ref sp) :: (.ref nb0) :: (.ref nb1) :: (.ref nb2) :: (.int (nI nf)) :: (.int (nI bd)) :: (.int (nI mm)) :: (.int v33_48) :: (.ref pl) :: (.ref se) :: (.ref ke) :: (.ref wi) :: (.ref hs) :: (.ref mo) :: (.ref po) :: (.ref nu) :: (.ref pr) :: (.ref sq) :: (.ref xa) :: (.ref sa) :: (.ref n64) :: (.ref m64) :: (.ref ex) :: (.ref wh) :: (.ref sd) :: (.ref tk) :: (.int v52_49) :: (.int v53_50) :: (.int v54_51) :: (.ref hd) :: (.ref ak) :: (.ref ho) :: (.ref ot) :: []) := (hR h0 (by rw [hT_h0]; simp)).symm.trans hF_118
          refine pl_loopm (σ := Nat × (List (Nat × Nat)) × Int32) A (dC, dI) cs ty gm L [ρ + 10] F 109 9 (fun (i, a2, ww) => [(7, .int (nI i)), (6, .int s7), (5, .int (nI kt)), (4, .int (nI kend)), (3, .int (nI j)), (2, .int (nI w2)), (0, .ref h0), (1, .int x1)]) (fun (i, a2, ww) => []) (fun (i, a2, ww) FF => ((j ≤ i ∧ i ≤ kt) ∧ TT = a2 ++ blx (clr gl) x1 (mm - i) i ww ∧ a2.length ≤ i - bd ∧ (ww = 0 ∨ a2.length + 1 ≤ i - bd) ∧ ((ww = 0 ∧ (x1 = 0 ∨ i = j ∨ ¬ clr gl (i - 1) = 1)) ∨ (ww = 1 ∧ j < i ∧ clr gl (i - 1) = 1 ∧ ¬ x1 = 0)) ∧ ((i = j ∧ a2 = aa) ∨ ww = 1 ∨ (j < i ∧ ∃ B, a2 = B ++ [(0, i - 1)])) ∧ FF pl = .inr (14, [.ref rl, .int (nI (a2 ++ pdd ww).length)])) ∧ ∃ fq : Nat → Int32, FF rl = .inl (cs 17, 6000, .inl fq) ∧ OUTM gl fq (a2 ++ pdd ww)) (fun (i, a2, ww) => kt - i) ?_ (j, aa, 0) F_113 (⟨⟨⟨by omega, by omega⟩, hT5, by omega, Or.inl rfl, Or.inl ⟨rfl, Or.inr (Or.inl rfl)⟩, Or.inl ⟨rfl, rfl⟩, (by rw [pd_0, List.append_nil]; exact hsk4)⟩, _, hq1, (by rw [pd_0, List.append_nil]; exact hq2)⟩) hO hR _ _ hP hD hS ls (lv_sub hl [0, 1, 2, 3, 4, 5, 6, 7] rfl)
          rintro ⟨i, a2, ww⟩ F_119 hv_122 hO hR ih_123 H locs hP hD hS ls hl
          have hl : lv_has ls 9 [(7, .int (nI i)), (6, .int s7), (5, .int (nI kt)), (4, .int (nI kend)), (3, .int (nI j)), (2, .int (nI w2)), (0, .ref h0), (1, .int x1)] := hl
          have hv_122 : ((j ≤ i ∧ i ≤ kt) ∧ TT = a2 ++ blx (clr gl) x1 (mm - i) i ww ∧ a2.length ≤ i - bd ∧ (ww = 0 ∨ a2.length + 1 ≤ i - bd) ∧ ((ww = 0 ∧ (x1 = 0 ∨ i = j ∨ ¬ clr gl (i - 1) = 1)) ∨ (ww = 1 ∧ j < i ∧ clr gl (i - 1) = 1 ∧ ¬ x1 = 0)) ∧ ((i = j ∧ a2 = aa) ∨ ww = 1 ∨ (j < i ∧ ∃ B, a2 = B ++ [(0, i - 1)])) ∧ F_119 pl = .inr (14, [.ref rl, .int (nI (a2 ++ pdd ww).length)])) ∧ ∃ fq : Nat → Int32, F_119 rl = .inl (cs 17, 6000, .inl fq) ∧ OUTM gl fq (a2 ++ pdd ww) := hv_122
          refine W.eq (g2 := F0 m 109 ls []) rfl ?_
          have hF_124 : F_119 ml = .inl (cs 17, 3000, .inl gl) := (hR ml (by rw [ht_32]; simp)).trans hF_120
          have hF_125 : F_119 h0 = .inr (15, (.ref ta) :: (.int (nI zt)) :: (.int (nI zo)) :: (.int (nI ze)) :: (.ref ou) :: (.ref so) :: (.ref ad) :: (.ref na) :: (.ref va) :: (.ref lc) :: (.ref dm) :: (.int (nI fm)) :: (.int (nI sn)) :: (.ref tg) :: (.int v14_40) :: (.int v15_41) :: (.ref pe) :: (.int v17_42) :: (.int v18_43) :: (.int v19_44) :: (.int v20_45) :: (.int v21_46) :: (.int v22_47) :: (.ref ml) :: (.ref bg) :: (.ref co) :: (.ref sp) :: (.ref nb0) :: (.ref nb1) :: (.ref nb2) :: (.int (nI nf)) :: (.int (nI bd)) :: (.int (nI mm)) :: (.int v33_48) :: (.ref pl) :: (.ref se) :: (.ref ke) :: (.ref wi) :: (.ref hs) :: (.ref mo) :: (.ref po) :: (.ref nu) :: (.ref pr) :: (.ref sq) :: (.ref xa) :: (.ref sa) :: (.ref n64) :: (.ref m64) :: (.ref ex) :: (.ref wh) :: (.ref sd) :: (.ref tk) :: (.int v52_49) :: (.int v53_50) :: (.int v54_51) :: (.ref hd) :: (.ref ak) :: (.ref ho) :: (.ref ot) :: []) := (hR h0 (by rw [hT_h0]; simp)).trans hF_121
          obtain ⟨hv9, fq, hq1, hq2⟩ := id hv_122
          obtain ⟨hc1, hc2, hc3, hc4, hc5, hc6, hc7⟩ := id hv9
          rcases hc5 with ⟨ew, hc8⟩ | ⟨ew, hc8, hc9, hcx⟩
          ·
            subst ew
            have hz7 : F_119 pl = .inr (14, [.ref rl, .int (nI a2.length)]) := by have h9 := hc7; rw [pd_0, List.append_nil] at h9; exact h9
            have hom0 : OUTM gl fq a2 := by have h9 := hq2; rw [pd_0, List.append_nil] at h9; exact h9
            refine lv_iload hx hb dX15_bodyPlain_109 (lv_at hl 0 rfl) ?_
            refine lv_iload hx hb dX15_bodyPlain_111 (lv_at hl 2 rfl) ?_
            refine lv_icmp_ge (tgt := 190) hx hb dX15_bodyPlain_113 (by decide) (fun c_126 => ?_) (fun c_126 => ?_)
            ·
              have hi_127 : kt ≤ i := leN (N := kt) c_126
              have hik : i = kt := by omega
              refine lv_aload_n hx hb dX15_bodyPlain_190 rfl (lv_at hl 6 rfl) ?_
              refine pg_get (ci := 15) (v := .ref pl) (C := RX15) (T := TX15) (N := 59) hx hb hts it_15 hown hK hP hL_h0 hF_125 rfl 34 (by decide) (hts _ kt_901) (fun _ h9 => h9) rfl dX15_bodyPlain_191 ?_
              refine lv_bipush (v := 10) hx hb dX15_bodyPlain_194 (by decide) ?_
              have hFc := pg_free hD hS hA
              refine va_callv (va_runV (As := [.int 10]) (rest := []) ⟨hx, hb, hml, hown, hts⟩ (s_X14_add_c l dC dI cs ty gm L H.size F_119 pl (ρ + 10) rl 6000 a2.length 10 fq hW hL_pl hT_pl hz7 hq1 (by first | omega | assumption | exact Or.inl rfl)) ⟨callB_of 1 hts (gi kt_711) rfl rfl rfl (hts _ kt_676) (hts _ kt_712) (by decide +kernel) ⟨Nat.le_of_ble_eq_true rfl, Nat.le_of_ble_eq_true rfl⟩, (hts _ kt_713), (hts _ kt_714)⟩ ⟨fun a U g mk q => ⟨q.1, PTm.calling q.2⟩, pg_recv hK hP hL_pl hz7 (q := (RX14, TX14, 2)) rfl, fun U hU hWm => ⟨rfl, PTm.mk hU hWm hP hK hD hE hO⟩⟩ rfl rfl hl.1 rfl (lv_room (Nat.le_of_ble_eq_true rfl)) dX15_bodyPlain_196 ⟨by show _ + 0 ≤ 0; omega, by show _ + 0 ≤ 0; omega⟩) hS (fun q _ h => hFc q h) hFc (fun u t H1 locs ht hvm hw hB hz1 hk1 hS => ?_)
              obtain ⟨F_129, f2_130, hB1, hq_131, hq_132, hq_133⟩ := hB
              obtain ⟨hP, hD, hO, hR⟩ := QTm.back hB1 ht hFc hR (fun q h => by simp only [List.mem_cons, List.not_mem_nil, or_false] at h ⊢; omega)
              have hF_134 : F_129 ml = .inl (cs 17, 3000, .inl gl) := (hB1.2.2.2 ml (by rw [ht_32]; simp)).trans hF_124
              have hF_135 : F_129 h0 = .inr (15, (.ref ta) :: (.int (nI zt)) :: (.int (nI zo)) :: (.int (nI ze)) :: (.ref ou) :: (.ref so) :: (.ref ad) :: (.ref na) :: (.ref va) :: (.ref lc) :: (.ref dm) :: (.int (nI fm)) :: (.int (nI sn)) :: (.ref tg) :: (.int v14_40) :: (.int v15_41) :: (.ref pe) :: (.int v17_42) :: (.int v18_43) :: (.int v19_44) :: (.int v20_45) :: (.int v21_46) :: (.int v22_47) :: (.ref ml) :: (.ref bg) :: (.ref co) :: (.ref sp) :: (.ref nb0) :: (.ref nb1) :: (.ref nb2) :: (.int (nI nf)) :: (.int (nI bd)) :: (.int (nI mm)) :: (.int v33_48) :: (.ref pl) :: (.ref se) :: (.ref ke) :: (.ref wi) :: (.ref hs) :: (.ref mo) :: (.ref po) :: (.ref nu) :: (.ref pr) :: (.ref sq) :: (.ref xa) :: (.ref sa) :: (.ref n64) :: (.ref m64) :: (.ref ex) :: (.ref wh) :: (.ref sd) :: (.ref tk) :: (.int v52_49) :: (.int v53_50) :: (.int v54_51) :: (.ref hd) :: (.ref ak) :: (.ref ho) :: (.ref ot) :: []) := (hB1.2.2.2 h0 (by rw [hT_h0]; simp)).trans hF_125
              generalize H1 = H at hP hS ⊢
              have hom_136 := OUTM.add (y := (2, 10)) hom0 hq_133 rfl rfl
              have hnx := bl_nx hfe1 hfe hkd (bl_end (k := i) (by omega) hfe2 hc2 (by rw [hik]; exact hsk))
              refine lv_iload hx hb dX15_bodyPlain_199 (lv_at hl 1 rfl) ?_
              refine lv_if_eq (tgt := 212) hx hb dX15_bodyPlain_201 (by decide) (fun c_137 => ?_) (fun c_137 => ?_)
              ·
                have hs8 : kt = j := (hs7.resolve_right (fun q => absurd (q.1.symm.trans c_137) (by decide))).2
                have ha9 : a2 = aa := by
                  rcases hc6 with q | q | ⟨q9, B, q⟩
                  · exact q.2
                  · exact absurd q (by decide)
                  · omega
                refine lv_iload hx hb dX15_bodyPlain_212 (lv_at hl 3 rfl) ?_
                refine lv_istore_n (lv' := [(3, .int (nI kend)), (7, .int (nI i)), (6, .int s7), (5, .int (nI kt)), (4, .int (nI kend)), (2, .int (nI w2)), (0, .ref h0), (1, .int x1)]) hx hb dX15_bodyPlain_214 rfl hl (by decide) rfl (fun ls hl => ?_)
                refine lv_goto (tgt := 15) hx hb dX15_bodyPlain_215 (by decide) ?_
                refine W.widen (k := 0) (n := 0) (by omega) (by omega) ?_
                exact ih_71 (kend, w2, (a2 ++ [(2, 10)])) F_129 (⟨⟨⟨by omega, by omega⟩, hnx, (by rw [ha9]; exact ha3.nl), by rw [len1]; omega, by rw [len1]; omega, (by rw [len1]; exact hq_131)⟩, _, hq_132, hom_136⟩) (by show mm - kend < mm - j; omega) hO hR _ _ hP hD hS ls (lv_sub hl [0, 5, 6, 7] rfl)
              ·
                have hs8 : j < kt := (hs7.resolve_left (fun q => c_137 q.1)).2
                have hsl : STL (a2 ++ [(2, 10)]) (a2.length + 1) := by
                  rcases hc6 with q | q | ⟨q9, B, q⟩
                  · omega
                  · exact absurd q (by decide)
                  · rw [q, len1]
                    exact STL.line (fun w => absurd (congrArg Prod.fst w) (show ¬ (0 : Nat) = 2 by decide))
                refine lv_aload_n hx hb dX15_bodyPlain_204 rfl (lv_at hl 6 rfl) ?_
                refine pg_get (ci := 15) (v := .ref pl) (C := RX15) (T := TX15) (N := 59) hx hb hts it_15 hown hK hP hL_h0 hF_135 rfl 34 (by decide) (hts _ kt_901) (fun _ h9 => h9) rfl dX15_bodyPlain_205 ?_
                refine pg_get (ci := 14) (v := .int (nI (a2.length + 1))) (C := RX14) (T := TX14) (N := 2) hx hb hts it_14 hown hK hP hL_pl hq_131 rfl 1 (by decide) (hts _ kt_709) (fun _ h9 => h9) rfl dX15_bodyPlain_208 ?_
                refine lv_istore_n (lv' := [(2, .int (nI (a2.length + 1))), (7, .int (nI i)), (6, .int s7), (5, .int (nI kt)), (4, .int (nI kend)), (3, .int (nI j)), (0, .ref h0), (1, .int x1)]) hx hb dX15_bodyPlain_211 rfl hl (by decide) rfl (fun ls hl => ?_)
                refine lv_iload hx hb dX15_bodyPlain_212 (lv_at hl 4 rfl) ?_
                refine lv_istore_n (lv' := [(3, .int (nI kend)), (2, .int (nI (a2.length + 1))), (7, .int (nI i)), (6, .int s7), (5, .int (nI kt)), (4, .int (nI kend)), (0, .ref h0), (1, .int x1)]) hx hb dX15_bodyPlain_214 rfl hl (by decide) rfl (fun ls hl => ?_)
                refine lv_goto (tgt := 15) hx hb dX15_bodyPlain_215 (by decide) ?_
                refine W.widen (k := 0) (n := 0) (by omega) (by omega) ?_
                exact ih_71 (kend, (a2.length + 1), (a2 ++ [(2, 10)])) F_129 (⟨⟨⟨by omega, by omega⟩, hnx, hsl, by rw [len1]; omega, by rw [len1]; omega, (by rw [len1]; exact hq_131)⟩, _, hq_132, hom_136⟩) (by show mm - kend < mm - j; omega) hO hR _ _ hP hD hS ls (lv_sub hl [0, 1, 6, 7] rfl)
            ·
              have hi_138 : i < kt := ltN (N := kt) c_126
              refine lv_aload_n hx hb dX15_bodyPlain_116 rfl (lv_at hl 6 rfl) ?_
              refine pg_get (ci := 15) (v := .ref ml) (C := RX15) (T := TX15) (N := 59) hx hb hts it_15 hown hK hP hL_h0 hF_125 rfl 23 (by decide) (hts _ kt_887) (fun _ h9 => h9) rfl dX15_bodyPlain_117 ?_
              refine lv_iload hx hb dX15_bodyPlain_120 (lv_at hl 0 rfl) ?_
              refine pg_bald hx hb hK hP hi_31 1 hF_124 rfl (vp_in_nI (by omega) (by omega)) dX15_bodyPlain_122 ?_
              refine lv_topi (fun x_139 ex_139 => ?_)
              obtain rfl : x_139 = gl i := ex_139.trans (congrArg gl (show ((nI i) : Int32).toNatClampNeg = i from nI_clamp (by omega)))
              have hFc := pg_free hD hS hA
              refine va_calli (va_runS (As := [.int (gl i)]) (rest := []) ⟨hx, hb, hml, hown, hts⟩ (s_X15_isWhite_e l dC dI cs ty gm L H.size F_119 (gl i) hW ) ⟨callB_of 1 hts (gi kt_715) rfl rfl rfl (hts _ kt_669) (hts _ kt_716) (by decide +kernel) ⟨Nat.le_of_ble_eq_true rfl, Nat.le_of_ble_eq_true rfl⟩, (hts _ kt_717)⟩ ⟨fun a U g mk q => ⟨q.1, PTm.calling q.2⟩, fun U hU hWm => ⟨rfl, PTm.mk hU hWm hP hK hD hE hO⟩⟩ rfl rfl hl.1 rfl (lv_room (Nat.le_of_ble_eq_true rfl)) dX15_bodyPlain_123 ⟨by show _ + 0 ≤ 0; omega, by show _ + 0 ≤ 0; omega⟩) hS (fun q _ h => hFc q h) hFc (fun r_140 u t H1 locs ht hvm hw hB hz1 hk1 hS => ?_)
              obtain ⟨F_141, hB1⟩ := hB
              obtain rfl : F_119 = F_141 := (funext (fun a => hB1.2.2.2 a List.not_mem_nil)).symm
              obtain ⟨hP, hD, hO, hR⟩ := QTm.back hB1 ht hFc hR (fun q h => absurd h List.not_mem_nil)
              generalize H1 = H at hP hS ⊢
              have hw : r_140 = (if (gl i) = 32 ∨ (gl i) = 9 then 1 else 0) := hw
              have hw_142 := hw
              refine lv_istore (lv' := [(8, .int r_140), (7, .int (nI i)), (6, .int s7), (5, .int (nI kt)), (4, .int (nI kend)), (3, .int (nI j)), (2, .int (nI w2)), (0, .ref h0), (1, .int x1)]) hx hb dX15_bodyPlain_126 hl (by decide) rfl (fun ls hl => ?_)
              refine lv_iload_n hx hb dX15_bodyPlain_128 rfl (lv_at hl 8 rfl) ?_
              refine lv_if_eq (tgt := 137) hx hb dX15_bodyPlain_129 (by decide) (fun c_143 => ?_) (fun c_143 => ?_)
              ·
                refine lv_aload_n hx hb dX15_bodyPlain_137 rfl (lv_at hl 7 rfl) ?_
                refine pg_get (ci := 15) (v := .ref pl) (C := RX15) (T := TX15) (N := 59) hx hb hts it_15 hown hK hP hL_h0 hF_125 rfl 34 (by decide) (hts _ kt_901) (fun _ h9 => h9) rfl dX15_bodyPlain_138 ?_
                refine lv_aload_n hx hb dX15_bodyPlain_141 rfl (lv_at hl 7 rfl) ?_
                refine pg_get (ci := 15) (v := .ref ml) (C := RX15) (T := TX15) (N := 59) hx hb hts it_15 hown hK hP hL_h0 hF_125 rfl 23 (by decide) (hts _ kt_887) (fun _ h9 => h9) rfl dX15_bodyPlain_142 ?_
                refine lv_iload hx hb dX15_bodyPlain_145 (lv_at hl 1 rfl) ?_
                refine pg_bald hx hb hK hP hi_31 1 hF_124 rfl (vp_in_nI (by omega) (by omega)) dX15_bodyPlain_147 ?_
                refine lv_topi (fun x_144 ex_144 => ?_)
                obtain rfl : x_144 = gl i := ex_144.trans (congrArg gl (show ((nI i) : Int32).toNatClampNeg = i from nI_clamp (by omega)))
                have hFc := pg_free hD hS hA
                refine va_callv (va_runV (As := [.int (gl i)]) (rest := []) ⟨hx, hb, hml, hown, hts⟩ (s_X14_add_c l dC dI cs ty gm L H.size F_119 pl (ρ + 10) rl 6000 a2.length (gl i) fq hW hL_pl hT_pl hz7 hq1 (by first | omega | assumption | exact Or.inl rfl)) ⟨callB_of 1 hts (gi kt_711) rfl rfl rfl (hts _ kt_676) (hts _ kt_712) (by decide +kernel) ⟨Nat.le_of_ble_eq_true rfl, Nat.le_of_ble_eq_true rfl⟩, (hts _ kt_713), (hts _ kt_714)⟩ ⟨fun a U g mk q => ⟨q.1, PTm.calling q.2⟩, pg_recv hK hP hL_pl hz7 (q := (RX14, TX14, 2)) rfl, fun U hU hWm => ⟨rfl, PTm.mk hU hWm hP hK hD hE hO⟩⟩ rfl rfl hl.1 rfl (lv_room (Nat.le_of_ble_eq_true rfl)) dX15_bodyPlain_148 ⟨by show _ + 0 ≤ 0; omega, by show _ + 0 ≤ 0; omega⟩) hS (fun q _ h => hFc q h) hFc (fun u t H1 locs ht hvm hw hB hz1 hk1 hS => ?_)
                obtain ⟨F_146, f2_147, hB1, hq_148, hq_149, hq_150⟩ := hB
                obtain ⟨hP, hD, hO, hR⟩ := QTm.back hB1 ht hFc hR (fun q h => by simp only [List.mem_cons, List.not_mem_nil, or_false] at h ⊢; omega)
                have hF_151 : F_146 ml = .inl (cs 17, 3000, .inl gl) := (hB1.2.2.2 ml (by rw [ht_32]; simp)).trans hF_124
                have hF_152 : F_146 h0 = .inr (15, (.ref ta) :: (.int (nI zt)) :: (.int (nI zo)) :: (.int (nI ze)) :: (.ref ou) :: (.ref so) :: (.ref ad) :: (.ref na) :: (.ref va) :: (.ref lc) :: (.ref dm) :: (.int (nI fm)) :: (.int (nI sn)) :: (.ref tg) :: (.int v14_40) :: (.int v15_41) :: (.ref pe) :: (.int v17_42) :: (.int v18_43) :: (.int v19_44) :: (.int v20_45) :: (.int v21_46) :: (.int v22_47) :: (.ref ml) :: (.ref bg) :: (.ref co) :: (.ref sp) :: (.ref nb0) :: (.ref nb1) :: (.ref nb2) :: (.int (nI nf)) :: (.int (nI bd)) :: (.int (nI mm)) :: (.int v33_48) :: (.ref pl) :: (.ref se) :: (.ref ke) :: (.ref wi) :: (.ref hs) :: (.ref mo) :: (.ref po) :: (.ref nu) :: (.ref pr) :: (.ref sq) :: (.ref xa) :: (.ref sa) :: (.ref n64) :: (.ref m64) :: (.ref ex) :: (.ref wh) :: (.ref sd) :: (.ref tk) :: (.int v52_49) :: (.int v53_50) :: (.int v54_51) :: (.ref hd) :: (.ref ak) :: (.ref ho) :: (.ref ot) :: []) := (hB1.2.2.2 h0 (by rw [hT_h0]; simp)).trans hF_125
                generalize H1 = H at hP hS ⊢
                have hom_153 := OUTM.add (y := (0, i)) hom0 hq_150 rfl rfl
                refine lv_goto (tgt := 184) hx hb dX15_bodyPlain_151 (by decide) ?_
                refine lv_iinc (v := (nI (i + 1))) (lv' := [(7, .int (nI (i + 1))), (8, .int r_140), (6, .int s7), (5, .int (nI kt)), (4, .int (nI kend)), (3, .int (nI j)), (2, .int (nI w2)), (0, .ref h0), (1, .int x1)]) hx hb dX15_bodyPlain_184 hl (k := 1) rfl (nI_1 _) (by decide) rfl (fun ls hl => ?_)
                refine lv_goto (tgt := 109) hx hb dX15_bodyPlain_187 (by decide) ?_
                refine W.widen (k := 0) (n := 0) (by omega) (by omega) ?_
                exact ih_123 ((i + 1), (a2 ++ [(0, i)]), 0) F_146 (⟨⟨⟨by omega, by omega⟩, bl_a hc2 (by omega) (hfe.2.2.1 i (by omega) (by omega)) (fun q => q.1 c_143) rfl, by rw [len1]; omega, Or.inl rfl, Or.inl ⟨rfl, Or.inl c_143⟩, Or.inr (Or.inr ⟨by omega, a2, by rw [Nat.add_sub_cancel]⟩), (by rw [pd_0, List.append_nil, len1]; exact hq_148)⟩, _, hq_149, (by rw [pd_0, List.append_nil]; exact hom_153)⟩) (by show kt - (i + 1) < kt - i; omega) hO hR _ _ hP hD hS ls (lv_sub hl [0, 2, 3, 4, 5, 6, 7, 8] rfl)
              ·
                refine lv_iload hx hb dX15_bodyPlain_132 (lv_at hl 0 rfl) ?_
                refine lv_if_ne (tgt := 154) hx hb dX15_bodyPlain_134 (by decide) (fun c_154 => ?_) (fun c_154 => ?_)
                ·
                  refine lv_aload_n hx hb dX15_bodyPlain_154 rfl (lv_at hl 7 rfl) ?_
                  refine pg_get (ci := 15) (v := .ref ml) (C := RX15) (T := TX15) (N := 59) hx hb hts it_15 hown hK hP hL_h0 hF_125 rfl 23 (by decide) (hts _ kt_887) (fun _ h9 => h9) rfl dX15_bodyPlain_155 ?_
                  refine lv_iload hx hb dX15_bodyPlain_158 (lv_at hl 1 rfl) ?_
                  refine lv_iconst (v := 1) hx hb dX15_bodyPlain_160 (by decide) ?_
                  refine lv_isub hx hb dX15_bodyPlain_161 ?_
                  refine lv_topi (fun x_155 ex_155 => ?_)
                  obtain rfl : x_155 = (nI (i - 1)) := ex_155.trans (pk_sub (a := i) (b := 1) (by omega))
                  refine pg_bald hx hb hK hP hi_31 1 hF_124 rfl (vp_in_nI (by omega) (by omega)) dX15_bodyPlain_162 ?_
                  refine lv_topi (fun x_156 ex_156 => ?_)
                  obtain rfl : x_156 = gl (i - 1) := ex_156.trans (congrArg gl (show ((nI (i - 1)) : Int32).toNatClampNeg = (i - 1) from nI_clamp (by omega)))
                  have hFc := pg_free hD hS hA
                  refine va_calli (va_runS (As := [.int (gl (i - 1))]) (rest := []) ⟨hx, hb, hml, hown, hts⟩ (s_X15_isWhite_e l dC dI cs ty gm L H.size F_119 (gl (i - 1)) hW ) ⟨callB_of 1 hts (gi kt_715) rfl rfl rfl (hts _ kt_669) (hts _ kt_716) (by decide +kernel) ⟨Nat.le_of_ble_eq_true rfl, Nat.le_of_ble_eq_true rfl⟩, (hts _ kt_717)⟩ ⟨fun a U g mk q => ⟨q.1, PTm.calling q.2⟩, fun U hU hWm => ⟨rfl, PTm.mk hU hWm hP hK hD hE hO⟩⟩ rfl rfl hl.1 rfl (lv_room (Nat.le_of_ble_eq_true rfl)) dX15_bodyPlain_163 ⟨by show _ + 0 ≤ 0; omega, by show _ + 0 ≤ 0; omega⟩) hS (fun q _ h => hFc q h) hFc (fun r_157 u t H1 locs ht hvm hw hB hz1 hk1 hS => ?_)
                  obtain ⟨F_158, hB1⟩ := hB
                  obtain rfl : F_119 = F_158 := (funext (fun a => hB1.2.2.2 a List.not_mem_nil)).symm
                  obtain ⟨hP, hD, hO, hR⟩ := QTm.back hB1 ht hFc hR (fun q h => absurd h List.not_mem_nil)
                  generalize H1 = H at hP hS ⊢
                  have hw : r_157 = (if (gl (i - 1)) = 32 ∨ (gl (i - 1)) = 9 then 1 else 0) := hw
                  have hw_159 := hw
                  refine lv_if_eq (tgt := 175) hx hb dX15_bodyPlain_166 (by decide) (fun c_160 => ?_) (fun c_160 => ?_)
                  ·
                    refine lv_aload_n hx hb dX15_bodyPlain_175 rfl (lv_at hl 7 rfl) ?_
                    refine pg_get (ci := 15) (v := .ref pl) (C := RX15) (T := TX15) (N := 59) hx hb hts it_15 hown hK hP hL_h0 hF_125 rfl 34 (by decide) (hts _ kt_901) (fun _ h9 => h9) rfl dX15_bodyPlain_176 ?_
                    refine lv_bipush (v := 32) hx hb dX15_bodyPlain_179 (by decide) ?_
                    have hFc := pg_free hD hS hA
                    refine va_callv (va_runV (As := [.int 32]) (rest := []) ⟨hx, hb, hml, hown, hts⟩ (s_X14_add_c l dC dI cs ty gm L H.size F_119 pl (ρ + 10) rl 6000 a2.length 32 fq hW hL_pl hT_pl hz7 hq1 (by first | omega | assumption | exact Or.inl rfl)) ⟨callB_of 1 hts (gi kt_711) rfl rfl rfl (hts _ kt_676) (hts _ kt_712) (by decide +kernel) ⟨Nat.le_of_ble_eq_true rfl, Nat.le_of_ble_eq_true rfl⟩, (hts _ kt_713), (hts _ kt_714)⟩ ⟨fun a U g mk q => ⟨q.1, PTm.calling q.2⟩, pg_recv hK hP hL_pl hz7 (q := (RX14, TX14, 2)) rfl, fun U hU hWm => ⟨rfl, PTm.mk hU hWm hP hK hD hE hO⟩⟩ rfl rfl hl.1 rfl (lv_room (Nat.le_of_ble_eq_true rfl)) dX15_bodyPlain_181 ⟨by show _ + 0 ≤ 0; omega, by show _ + 0 ≤ 0; omega⟩) hS (fun q _ h => hFc q h) hFc (fun u t H1 locs ht hvm hw hB hz1 hk1 hS => ?_)
                    obtain ⟨F_162, f2_163, hB1, hq_164, hq_165, hq_166⟩ := hB
                    obtain ⟨hP, hD, hO, hR⟩ := QTm.back hB1 ht hFc hR (fun q h => by simp only [List.mem_cons, List.not_mem_nil, or_false] at h ⊢; omega)
                    have hF_167 : F_162 ml = .inl (cs 17, 3000, .inl gl) := (hB1.2.2.2 ml (by rw [ht_32]; simp)).trans hF_124
                    have hF_168 : F_162 h0 = .inr (15, (.ref ta) :: (.int (nI zt)) :: (.int (nI zo)) :: (.int (nI ze)) :: (.ref ou) :: (.ref so) :: (.ref ad) :: (.ref na) :: (.ref va) :: (.ref lc) :: (.ref dm) :: (.int (nI fm)) :: (.int (nI sn)) :: (.ref tg) :: (.int v14_40) :: (.int v15_41) :: (.ref pe) :: (.int v17_42) :: (.int v18_43) :: (.int v19_44) :: (.int v20_45) :: (.int v21_46) :: (.int v22_47) :: (.ref ml) :: (.ref bg) :: (.ref co) :: (.ref sp) :: (.ref nb0) :: (.ref nb1) :: (.ref nb2) :: (.int (nI nf)) :: (.int (nI bd)) :: (.int (nI mm)) :: (.int v33_48) :: (.ref pl) :: (.ref se) :: (.ref ke) :: (.ref wi) :: (.ref hs) :: (.ref mo) :: (.ref po) :: (.ref nu) :: (.ref pr) :: (.ref sq) :: (.ref xa) :: (.ref sa) :: (.ref n64) :: (.ref m64) :: (.ref ex) :: (.ref wh) :: (.ref sd) :: (.ref tk) :: (.int v52_49) :: (.int v53_50) :: (.int v54_51) :: (.ref hd) :: (.ref ak) :: (.ref ho) :: (.ref ot) :: []) := (hB1.2.2.2 h0 (by rw [hT_h0]; simp)).trans hF_125
                    generalize H1 = H at hP hS ⊢
                    have hom_169 := OUTM.add (y := (2, 32)) hom0 hq_166 rfl rfl
                    refine lv_iinc (v := (nI (i + 1))) (lv' := [(7, .int (nI (i + 1))), (8, .int r_140), (6, .int s7), (5, .int (nI kt)), (4, .int (nI kend)), (3, .int (nI j)), (2, .int (nI w2)), (0, .ref h0), (1, .int x1)]) hx hb dX15_bodyPlain_184 hl (k := 1) rfl (nI_1 _) (by decide) rfl (fun ls hl => ?_)
                    refine lv_goto (tgt := 109) hx hb dX15_bodyPlain_187 (by decide) ?_
                    refine W.widen (k := 0) (n := 0) (by omega) (by omega) ?_
                    exact ih_123 ((i + 1), a2, 1) F_162 (⟨⟨⟨by omega, by omega⟩, bl_1 hc2 (by omega) c_143 (clg1 (ifb1 hw_142 c_154)), by omega, Or.inr (by omega), Or.inr ⟨rfl, by omega, by rw [Nat.add_sub_cancel]; exact clg1 (ifb1 hw_142 c_154), c_143⟩, Or.inr (Or.inl rfl), (by rw [len_pd]; exact hq_164)⟩, _, hq_165, hom_169⟩) (by show kt - (i + 1) < kt - i; omega) hO hR _ _ hP hD hS ls (lv_sub hl [0, 2, 3, 4, 5, 6, 7, 8] rfl)
                  ·
                    refine lv_iload hx hb dX15_bodyPlain_169 (lv_at hl 1 rfl) ?_
                    refine lv_iload_n hx hb dX15_bodyPlain_171 rfl (lv_at hl 5 rfl) ?_
                    refine lv_icmp_ne (tgt := 184) hx hb dX15_bodyPlain_172 (by decide) (fun c_170 => ?_) (fun c_170 => ?_)
                    ·
                      have hi_171 : i ≠ j := fun q => c_170 (by rw [q])
                      rcases hc8 with q | q | q; exact absurd q c_143; omega; exact absurd (clg1 (ifb1 hw_159 c_160)) q
                    ·
                      have hi_172 : i = j := (nI_eq (a := i) (b := j) (by omega) (by omega)).mp c_170
                      refine lv_aload_n hx hb dX15_bodyPlain_175 rfl (lv_at hl 7 rfl) ?_
                      refine pg_get (ci := 15) (v := .ref pl) (C := RX15) (T := TX15) (N := 59) hx hb hts it_15 hown hK hP hL_h0 hF_125 rfl 34 (by decide) (hts _ kt_901) (fun _ h9 => h9) rfl dX15_bodyPlain_176 ?_
                      refine lv_bipush (v := 32) hx hb dX15_bodyPlain_179 (by decide) ?_
                      have hFc := pg_free hD hS hA
                      refine va_callv (va_runV (As := [.int 32]) (rest := []) ⟨hx, hb, hml, hown, hts⟩ (s_X14_add_c l dC dI cs ty gm L H.size F_119 pl (ρ + 10) rl 6000 a2.length 32 fq hW hL_pl hT_pl hz7 hq1 (by first | omega | assumption | exact Or.inl rfl)) ⟨callB_of 1 hts (gi kt_711) rfl rfl rfl (hts _ kt_676) (hts _ kt_712) (by decide +kernel) ⟨Nat.le_of_ble_eq_true rfl, Nat.le_of_ble_eq_true rfl⟩, (hts _ kt_713), (hts _ kt_714)⟩ ⟨fun a U g mk q => ⟨q.1, PTm.calling q.2⟩, pg_recv hK hP hL_pl hz7 (q := (RX14, TX14, 2)) rfl, fun U hU hWm => ⟨rfl, PTm.mk hU hWm hP hK hD hE hO⟩⟩ rfl rfl hl.1 rfl (lv_room (Nat.le_of_ble_eq_true rfl)) dX15_bodyPlain_181 ⟨by show _ + 0 ≤ 0; omega, by show _ + 0 ≤ 0; omega⟩) hS (fun q _ h => hFc q h) hFc (fun u t H1 locs ht hvm hw hB hz1 hk1 hS => ?_)
                      obtain ⟨F_174, f2_175, hB1, hq_176, hq_177, hq_178⟩ := hB
                      obtain ⟨hP, hD, hO, hR⟩ := QTm.back hB1 ht hFc hR (fun q h => by simp only [List.mem_cons, List.not_mem_nil, or_false] at h ⊢; omega)
                      have hF_179 : F_174 ml = .inl (cs 17, 3000, .inl gl) := (hB1.2.2.2 ml (by rw [ht_32]; simp)).trans hF_124
                      have hF_180 : F_174 h0 = .inr (15, (.ref ta) :: (.int (nI zt)) :: (.int (nI zo)) :: (.int (nI ze)) :: (.ref ou) :: (.ref so) :: (.ref ad) :: (.ref na) :: (.ref va) :: (.ref lc) :: (.ref dm) :: (.int (nI fm)) :: (.int (nI sn)) :: (.ref tg) :: (.int v14_40) :: (.int v15_41) :: (.ref pe) :: (.int v17_42) :: (.int v18_43) :: (.int v19_44) :: (.int v20_45) :: (.int v21_46) :: (.int v22_47) :: (.ref ml) :: (.ref bg) :: (.ref co) :: (.ref sp) :: (.ref nb0) :: (.ref nb1) :: (.ref nb2) :: (.int (nI nf)) :: (.int (nI bd)) :: (.int (nI mm)) :: (.int v33_48) :: (.ref pl) :: (.ref se) :: (.ref ke) :: (.ref wi) :: (.ref hs) :: (.ref mo) :: (.ref po) :: (.ref nu) :: (.ref pr) :: (.ref sq) :: (.ref xa) :: (.ref sa) :: (.ref n64) :: (.ref m64) :: (.ref ex) :: (.ref wh) :: (.ref sd) :: (.ref tk) :: (.int v52_49) :: (.int v53_50) :: (.int v54_51) :: (.ref hd) :: (.ref ak) :: (.ref ho) :: (.ref ot) :: []) := (hB1.2.2.2 h0 (by rw [hT_h0]; simp)).trans hF_125
                      generalize H1 = H at hP hS ⊢
                      have hom_181 := OUTM.add (y := (2, 32)) hom0 hq_178 rfl rfl
                      refine lv_iinc (v := (nI (i + 1))) (lv' := [(7, .int (nI (i + 1))), (8, .int r_140), (6, .int s7), (5, .int (nI kt)), (4, .int (nI kend)), (3, .int (nI j)), (2, .int (nI w2)), (0, .ref h0), (1, .int x1)]) hx hb dX15_bodyPlain_184 hl (k := 1) rfl (nI_1 _) (by decide) rfl (fun ls hl => ?_)
                      refine lv_goto (tgt := 109) hx hb dX15_bodyPlain_187 (by decide) ?_
                      refine W.widen (k := 0) (n := 0) (by omega) (by omega) ?_
                      exact ih_123 ((i + 1), a2, 1) F_174 (⟨⟨⟨by omega, by omega⟩, bl_1 hc2 (by omega) c_143 (clg1 (ifb1 hw_142 c_154)), by omega, Or.inr (by omega), Or.inr ⟨rfl, by omega, by rw [Nat.add_sub_cancel]; exact clg1 (ifb1 hw_142 c_154), c_143⟩, Or.inr (Or.inl rfl), (by rw [len_pd]; exact hq_176)⟩, _, hq_177, hom_181⟩) (by show kt - (i + 1) < kt - i; omega) hO hR _ _ hP hD hS ls (lv_sub hl [0, 2, 3, 4, 5, 6, 7, 8] rfl)
                ·
                  refine lv_aload_n hx hb dX15_bodyPlain_137 rfl (lv_at hl 7 rfl) ?_
                  refine pg_get (ci := 15) (v := .ref pl) (C := RX15) (T := TX15) (N := 59) hx hb hts it_15 hown hK hP hL_h0 hF_125 rfl 34 (by decide) (hts _ kt_901) (fun _ h9 => h9) rfl dX15_bodyPlain_138 ?_
                  refine lv_aload_n hx hb dX15_bodyPlain_141 rfl (lv_at hl 7 rfl) ?_
                  refine pg_get (ci := 15) (v := .ref ml) (C := RX15) (T := TX15) (N := 59) hx hb hts it_15 hown hK hP hL_h0 hF_125 rfl 23 (by decide) (hts _ kt_887) (fun _ h9 => h9) rfl dX15_bodyPlain_142 ?_
                  refine lv_iload hx hb dX15_bodyPlain_145 (lv_at hl 1 rfl) ?_
                  refine pg_bald hx hb hK hP hi_31 1 hF_124 rfl (vp_in_nI (by omega) (by omega)) dX15_bodyPlain_147 ?_
                  refine lv_topi (fun x_182 ex_182 => ?_)
                  obtain rfl : x_182 = gl i := ex_182.trans (congrArg gl (show ((nI i) : Int32).toNatClampNeg = i from nI_clamp (by omega)))
                  have hFc := pg_free hD hS hA
                  refine va_callv (va_runV (As := [.int (gl i)]) (rest := []) ⟨hx, hb, hml, hown, hts⟩ (s_X14_add_c l dC dI cs ty gm L H.size F_119 pl (ρ + 10) rl 6000 a2.length (gl i) fq hW hL_pl hT_pl hz7 hq1 (by first | omega | assumption | exact Or.inl rfl)) ⟨callB_of 1 hts (gi kt_711) rfl rfl rfl (hts _ kt_676) (hts _ kt_712) (by decide +kernel) ⟨Nat.le_of_ble_eq_true rfl, Nat.le_of_ble_eq_true rfl⟩, (hts _ kt_713), (hts _ kt_714)⟩ ⟨fun a U g mk q => ⟨q.1, PTm.calling q.2⟩, pg_recv hK hP hL_pl hz7 (q := (RX14, TX14, 2)) rfl, fun U hU hWm => ⟨rfl, PTm.mk hU hWm hP hK hD hE hO⟩⟩ rfl rfl hl.1 rfl (lv_room (Nat.le_of_ble_eq_true rfl)) dX15_bodyPlain_148 ⟨by show _ + 0 ≤ 0; omega, by show _ + 0 ≤ 0; omega⟩) hS (fun q _ h => hFc q h) hFc (fun u t H1 locs ht hvm hw hB hz1 hk1 hS => ?_)
                  obtain ⟨F_184, f2_185, hB1, hq_186, hq_187, hq_188⟩ := hB
                  obtain ⟨hP, hD, hO, hR⟩ := QTm.back hB1 ht hFc hR (fun q h => by simp only [List.mem_cons, List.not_mem_nil, or_false] at h ⊢; omega)
                  have hF_189 : F_184 ml = .inl (cs 17, 3000, .inl gl) := (hB1.2.2.2 ml (by rw [ht_32]; simp)).trans hF_124
                  have hF_190 : F_184 h0 = .inr (15, (.ref ta) :: (.int (nI zt)) :: (.int (nI zo)) :: (.int (nI ze)) :: (.ref ou) :: (.ref so) :: (.ref ad) :: (.ref na) :: (.ref va) :: (.ref lc) :: (.ref dm) :: (.int (nI fm)) :: (.int (nI sn)) :: (.ref tg) :: (.int v14_40) :: (.int v15_41) :: (.ref pe) :: (.int v17_42) :: (.int v18_43) :: (.int v19_44) :: (.int v20_45) :: (.int v21_46) :: (.int v22_47) :: (.ref ml) :: (.ref bg) :: (.ref co) :: (.ref sp) :: (.ref nb0) :: (.ref nb1) :: (.ref nb2) :: (.int (nI nf)) :: (.int (nI bd)) :: (.int (nI mm)) :: (.int v33_48) :: (.ref pl) :: (.ref se) :: (.ref ke) :: (.ref wi) :: (.ref hs) :: (.ref mo) :: (.ref po) :: (.ref nu) :: (.ref pr) :: (.ref sq) :: (.ref xa) :: (.ref sa) :: (.ref n64) :: (.ref m64) :: (.ref ex) :: (.ref wh) :: (.ref sd) :: (.ref tk) :: (.int v52_49) :: (.int v53_50) :: (.int v54_51) :: (.ref hd) :: (.ref ak) :: (.ref ho) :: (.ref ot) :: []) := (hB1.2.2.2 h0 (by rw [hT_h0]; simp)).trans hF_125
                  generalize H1 = H at hP hS ⊢
                  have hom_191 := OUTM.add (y := (0, i)) hom0 hq_188 rfl rfl
                  refine lv_goto (tgt := 184) hx hb dX15_bodyPlain_151 (by decide) ?_
                  refine lv_iinc (v := (nI (i + 1))) (lv' := [(7, .int (nI (i + 1))), (8, .int r_140), (6, .int s7), (5, .int (nI kt)), (4, .int (nI kend)), (3, .int (nI j)), (2, .int (nI w2)), (0, .ref h0), (1, .int x1)]) hx hb dX15_bodyPlain_184 hl (k := 1) rfl (nI_1 _) (by decide) rfl (fun ls hl => ?_)
                  refine lv_goto (tgt := 109) hx hb dX15_bodyPlain_187 (by decide) ?_
                  refine W.widen (k := 0) (n := 0) (by omega) (by omega) ?_
                  exact ih_123 ((i + 1), (a2 ++ [(0, i)]), 0) F_184 (⟨⟨⟨by omega, by omega⟩, bl_a hc2 (by omega) (hfe.2.2.1 i (by omega) (by omega)) (fun q => clg1n (ifb0 hw_142 c_154) q.2) rfl, by rw [len1]; omega, Or.inl rfl, Or.inl ⟨rfl, Or.inr (Or.inr (by rw [Nat.add_sub_cancel]; exact clg1n (ifb0 hw_142 c_154)))⟩, Or.inr (Or.inr ⟨by omega, a2, by rw [Nat.add_sub_cancel]⟩), (by rw [pd_0, List.append_nil, len1]; exact hq_186)⟩, _, hq_187, (by rw [pd_0, List.append_nil]; exact hom_191)⟩) (by show kt - (i + 1) < kt - i; omega) hO hR _ _ hP hD hS ls (lv_sub hl [0, 2, 3, 4, 5, 6, 7, 8] rfl)
          ·
            subst ew
            have hz7 : F_119 pl = .inr (14, [.ref rl, .int (nI (a2.length + 1))]) := by have h9 := hc7; rw [len_pd] at h9; exact h9
            have hcy : a2.length + 1 ≤ i - bd := hc4.resolve_left (by decide)
            have hom0 : OUTM gl fq (a2 ++ [(2, 32)]) := hq2
            refine lv_iload hx hb dX15_bodyPlain_109 (lv_at hl 0 rfl) ?_
            refine lv_iload hx hb dX15_bodyPlain_111 (lv_at hl 2 rfl) ?_
            refine lv_icmp_ge (tgt := 190) hx hb dX15_bodyPlain_113 (by decide) (fun c_192 => ?_) (fun c_192 => ?_)
            ·
              have hi_193 : kt ≤ i := leN (N := kt) c_192
              rcases hk5 with q | q | q; exact absurd q hcx; omega; exact absurd hc9 (by rw [show i - 1 = kt - 1 by omega]; exact q)
            ·
              have hi_194 : i < kt := ltN (N := kt) c_192
              refine lv_aload_n hx hb dX15_bodyPlain_116 rfl (lv_at hl 6 rfl) ?_
              refine pg_get (ci := 15) (v := .ref ml) (C := RX15) (T := TX15) (N := 59) hx hb hts it_15 hown hK hP hL_h0 hF_125 rfl 23 (by decide) (hts _ kt_887) (fun _ h9 => h9) rfl dX15_bodyPlain_117 ?_
              refine lv_iload hx hb dX15_bodyPlain_120 (lv_at hl 0 rfl) ?_
              refine pg_bald hx hb hK hP hi_31 1 hF_124 rfl (vp_in_nI (by omega) (by omega)) dX15_bodyPlain_122 ?_
              refine lv_topi (fun x_195 ex_195 => ?_)
              obtain rfl : x_195 = gl i := ex_195.trans (congrArg gl (show ((nI i) : Int32).toNatClampNeg = i from nI_clamp (by omega)))
              have hFc := pg_free hD hS hA
              refine va_calli (va_runS (As := [.int (gl i)]) (rest := []) ⟨hx, hb, hml, hown, hts⟩ (s_X15_isWhite_e l dC dI cs ty gm L H.size F_119 (gl i) hW ) ⟨callB_of 1 hts (gi kt_715) rfl rfl rfl (hts _ kt_669) (hts _ kt_716) (by decide +kernel) ⟨Nat.le_of_ble_eq_true rfl, Nat.le_of_ble_eq_true rfl⟩, (hts _ kt_717)⟩ ⟨fun a U g mk q => ⟨q.1, PTm.calling q.2⟩, fun U hU hWm => ⟨rfl, PTm.mk hU hWm hP hK hD hE hO⟩⟩ rfl rfl hl.1 rfl (lv_room (Nat.le_of_ble_eq_true rfl)) dX15_bodyPlain_123 ⟨by show _ + 0 ≤ 0; omega, by show _ + 0 ≤ 0; omega⟩) hS (fun q _ h => hFc q h) hFc (fun r_196 u t H1 locs ht hvm hw hB hz1 hk1 hS => ?_)
              obtain ⟨F_197, hB1⟩ := hB
              obtain rfl : F_119 = F_197 := (funext (fun a => hB1.2.2.2 a List.not_mem_nil)).symm
              obtain ⟨hP, hD, hO, hR⟩ := QTm.back hB1 ht hFc hR (fun q h => absurd h List.not_mem_nil)
              generalize H1 = H at hP hS ⊢
              have hw : r_196 = (if (gl i) = 32 ∨ (gl i) = 9 then 1 else 0) := hw
              have hw_198 := hw
              refine lv_istore (lv' := [(8, .int r_196), (7, .int (nI i)), (6, .int s7), (5, .int (nI kt)), (4, .int (nI kend)), (3, .int (nI j)), (2, .int (nI w2)), (0, .ref h0), (1, .int x1)]) hx hb dX15_bodyPlain_126 hl (by decide) rfl (fun ls hl => ?_)
              refine lv_iload_n hx hb dX15_bodyPlain_128 rfl (lv_at hl 8 rfl) ?_
              refine lv_if_eq (tgt := 137) hx hb dX15_bodyPlain_129 (by decide) (fun c_199 => ?_) (fun c_199 => ?_)
              ·
                refine lv_aload_n hx hb dX15_bodyPlain_137 rfl (lv_at hl 7 rfl) ?_
                refine pg_get (ci := 15) (v := .ref pl) (C := RX15) (T := TX15) (N := 59) hx hb hts it_15 hown hK hP hL_h0 hF_125 rfl 34 (by decide) (hts _ kt_901) (fun _ h9 => h9) rfl dX15_bodyPlain_138 ?_
                refine lv_aload_n hx hb dX15_bodyPlain_141 rfl (lv_at hl 7 rfl) ?_
                refine pg_get (ci := 15) (v := .ref ml) (C := RX15) (T := TX15) (N := 59) hx hb hts it_15 hown hK hP hL_h0 hF_125 rfl 23 (by decide) (hts _ kt_887) (fun _ h9 => h9) rfl dX15_bodyPlain_142 ?_
                refine lv_iload hx hb dX15_bodyPlain_145 (lv_at hl 1 rfl) ?_
                refine pg_bald hx hb hK hP hi_31 1 hF_124 rfl (vp_in_nI (by omega) (by omega)) dX15_bodyPlain_147 ?_
                refine lv_topi (fun x_200 ex_200 => ?_)
                obtain rfl : x_200 = gl i := ex_200.trans (congrArg gl (show ((nI i) : Int32).toNatClampNeg = i from nI_clamp (by omega)))
                have hFc := pg_free hD hS hA
                refine va_callv (va_runV (As := [.int (gl i)]) (rest := []) ⟨hx, hb, hml, hown, hts⟩ (s_X14_add_c l dC dI cs ty gm L H.size F_119 pl (ρ + 10) rl 6000 (a2.length + 1) (gl i) fq hW hL_pl hT_pl hz7 hq1 (by first | omega | assumption | exact Or.inl rfl)) ⟨callB_of 1 hts (gi kt_711) rfl rfl rfl (hts _ kt_676) (hts _ kt_712) (by decide +kernel) ⟨Nat.le_of_ble_eq_true rfl, Nat.le_of_ble_eq_true rfl⟩, (hts _ kt_713), (hts _ kt_714)⟩ ⟨fun a U g mk q => ⟨q.1, PTm.calling q.2⟩, pg_recv hK hP hL_pl hz7 (q := (RX14, TX14, 2)) rfl, fun U hU hWm => ⟨rfl, PTm.mk hU hWm hP hK hD hE hO⟩⟩ rfl rfl hl.1 rfl (lv_room (Nat.le_of_ble_eq_true rfl)) dX15_bodyPlain_148 ⟨by show _ + 0 ≤ 0; omega, by show _ + 0 ≤ 0; omega⟩) hS (fun q _ h => hFc q h) hFc (fun u t H1 locs ht hvm hw hB hz1 hk1 hS => ?_)
                obtain ⟨F_202, f2_203, hB1, hq_204, hq_205, hq_206⟩ := hB
                obtain ⟨hP, hD, hO, hR⟩ := QTm.back hB1 ht hFc hR (fun q h => by simp only [List.mem_cons, List.not_mem_nil, or_false] at h ⊢; omega)
                have hF_207 : F_202 ml = .inl (cs 17, 3000, .inl gl) := (hB1.2.2.2 ml (by rw [ht_32]; simp)).trans hF_124
                have hF_208 : F_202 h0 = .inr (15, (.ref ta) :: (.int (nI zt)) :: (.int (nI zo)) :: (.int (nI ze)) :: (.ref ou) :: (.ref so) :: (.ref ad) :: (.ref na) :: (.ref va) :: (.ref lc) :: (.ref dm) :: (.int (nI fm)) :: (.int (nI sn)) :: (.ref tg) :: (.int v14_40) :: (.int v15_41) :: (.ref pe) :: (.int v17_42) :: (.int v18_43) :: (.int v19_44) :: (.int v20_45) :: (.int v21_46) :: (.int v22_47) :: (.ref ml) :: (.ref bg) :: (.ref co) :: (.ref sp) :: (.ref nb0) :: (.ref nb1) :: (.ref nb2) :: (.int (nI nf)) :: (.int (nI bd)) :: (.int (nI mm)) :: (.int v33_48) :: (.ref pl) :: (.ref se) :: (.ref ke) :: (.ref wi) :: (.ref hs) :: (.ref mo) :: (.ref po) :: (.ref nu) :: (.ref pr) :: (.ref sq) :: (.ref xa) :: (.ref sa) :: (.ref n64) :: (.ref m64) :: (.ref ex) :: (.ref wh) :: (.ref sd) :: (.ref tk) :: (.int v52_49) :: (.int v53_50) :: (.int v54_51) :: (.ref hd) :: (.ref ak) :: (.ref ho) :: (.ref ot) :: []) := (hB1.2.2.2 h0 (by rw [hT_h0]; simp)).trans hF_125
                generalize H1 = H at hP hS ⊢
                have hom_209 := OUTM.add (y := (0, i)) hom0 hq_206 (by rw [len1]) rfl
                refine lv_goto (tgt := 184) hx hb dX15_bodyPlain_151 (by decide) ?_
                refine lv_iinc (v := (nI (i + 1))) (lv' := [(7, .int (nI (i + 1))), (8, .int r_196), (6, .int s7), (5, .int (nI kt)), (4, .int (nI kend)), (3, .int (nI j)), (2, .int (nI w2)), (0, .ref h0), (1, .int x1)]) hx hb dX15_bodyPlain_184 hl (k := 1) rfl (nI_1 _) (by decide) rfl (fun ls hl => ?_)
                refine lv_goto (tgt := 109) hx hb dX15_bodyPlain_187 (by decide) ?_
                refine W.widen (k := 0) (n := 0) (by omega) (by omega) ?_
                exact ih_123 ((i + 1), (a2 ++ [(2, 32)] ++ [(0, i)]), 0) F_202 (⟨⟨⟨by omega, by omega⟩, bl_b hc2 (by omega) (hfe.2.2.1 i (by omega) (by omega)) (fun q => q.1 c_199) (by decide), by rw [len1, len1]; omega, Or.inl rfl, Or.inl ⟨rfl, Or.inl c_199⟩, Or.inr (Or.inr ⟨by omega, a2 ++ [(2, 32)], by rw [Nat.add_sub_cancel]⟩), (by rw [pd_0, List.append_nil, len1, len1]; exact hq_204)⟩, _, hq_205, (by rw [pd_0, List.append_nil]; exact hom_209)⟩) (by show kt - (i + 1) < kt - i; omega) hO hR _ _ hP hD hS ls (lv_sub hl [0, 2, 3, 4, 5, 6, 7, 8] rfl)
              ·
                refine lv_iload hx hb dX15_bodyPlain_132 (lv_at hl 0 rfl) ?_
                refine lv_if_ne (tgt := 154) hx hb dX15_bodyPlain_134 (by decide) (fun c_210 => ?_) (fun c_210 => ?_)
                ·
                  refine lv_aload_n hx hb dX15_bodyPlain_154 rfl (lv_at hl 7 rfl) ?_
                  refine pg_get (ci := 15) (v := .ref ml) (C := RX15) (T := TX15) (N := 59) hx hb hts it_15 hown hK hP hL_h0 hF_125 rfl 23 (by decide) (hts _ kt_887) (fun _ h9 => h9) rfl dX15_bodyPlain_155 ?_
                  refine lv_iload hx hb dX15_bodyPlain_158 (lv_at hl 1 rfl) ?_
                  refine lv_iconst (v := 1) hx hb dX15_bodyPlain_160 (by decide) ?_
                  refine lv_isub hx hb dX15_bodyPlain_161 ?_
                  refine lv_topi (fun x_211 ex_211 => ?_)
                  obtain rfl : x_211 = (nI (i - 1)) := ex_211.trans (pk_sub (a := i) (b := 1) (by omega))
                  refine pg_bald hx hb hK hP hi_31 1 hF_124 rfl (vp_in_nI (by omega) (by omega)) dX15_bodyPlain_162 ?_
                  refine lv_topi (fun x_212 ex_212 => ?_)
                  obtain rfl : x_212 = gl (i - 1) := ex_212.trans (congrArg gl (show ((nI (i - 1)) : Int32).toNatClampNeg = (i - 1) from nI_clamp (by omega)))
                  have hFc := pg_free hD hS hA
                  refine va_calli (va_runS (As := [.int (gl (i - 1))]) (rest := []) ⟨hx, hb, hml, hown, hts⟩ (s_X15_isWhite_e l dC dI cs ty gm L H.size F_119 (gl (i - 1)) hW ) ⟨callB_of 1 hts (gi kt_715) rfl rfl rfl (hts _ kt_669) (hts _ kt_716) (by decide +kernel) ⟨Nat.le_of_ble_eq_true rfl, Nat.le_of_ble_eq_true rfl⟩, (hts _ kt_717)⟩ ⟨fun a U g mk q => ⟨q.1, PTm.calling q.2⟩, fun U hU hWm => ⟨rfl, PTm.mk hU hWm hP hK hD hE hO⟩⟩ rfl rfl hl.1 rfl (lv_room (Nat.le_of_ble_eq_true rfl)) dX15_bodyPlain_163 ⟨by show _ + 0 ≤ 0; omega, by show _ + 0 ≤ 0; omega⟩) hS (fun q _ h => hFc q h) hFc (fun r_213 u t H1 locs ht hvm hw hB hz1 hk1 hS => ?_)
                  obtain ⟨F_214, hB1⟩ := hB
                  obtain rfl : F_119 = F_214 := (funext (fun a => hB1.2.2.2 a List.not_mem_nil)).symm
                  obtain ⟨hP, hD, hO, hR⟩ := QTm.back hB1 ht hFc hR (fun q h => absurd h List.not_mem_nil)
                  generalize H1 = H at hP hS ⊢
                  have hw : r_213 = (if (gl (i - 1)) = 32 ∨ (gl (i - 1)) = 9 then 1 else 0) := hw
                  have hw_215 := hw
                  refine lv_if_eq (tgt := 175) hx hb dX15_bodyPlain_166 (by decide) (fun c_216 => ?_) (fun c_216 => ?_)
                  ·
                    exact absurd hc9 (clg1n (ifb0 hw_215 c_216))
                  ·
                    refine lv_iload hx hb dX15_bodyPlain_169 (lv_at hl 1 rfl) ?_
                    refine lv_iload_n hx hb dX15_bodyPlain_171 rfl (lv_at hl 5 rfl) ?_
                    refine lv_icmp_ne (tgt := 184) hx hb dX15_bodyPlain_172 (by decide) (fun c_217 => ?_) (fun c_217 => ?_)
                    ·
                      have hi_218 : i ≠ j := fun q => c_217 (by rw [q])
                      refine lv_iinc (v := (nI (i + 1))) (lv' := [(7, .int (nI (i + 1))), (8, .int r_196), (6, .int s7), (5, .int (nI kt)), (4, .int (nI kend)), (3, .int (nI j)), (2, .int (nI w2)), (0, .ref h0), (1, .int x1)]) hx hb dX15_bodyPlain_184 hl (k := 1) rfl (nI_1 _) (by decide) rfl (fun ls hl => ?_)
                      refine lv_goto (tgt := 109) hx hb dX15_bodyPlain_187 (by decide) ?_
                      refine W.widen (k := 0) (n := 0) (by omega) (by omega) ?_
                      exact ih_123 ((i + 1), a2, 1) F_119 (⟨⟨⟨by omega, by omega⟩, bl_1 hc2 (by omega) c_199 (clg1 (ifb1 hw_198 c_210)), by omega, Or.inr (by omega), Or.inr ⟨rfl, by omega, by rw [Nat.add_sub_cancel]; exact clg1 (ifb1 hw_198 c_210), c_199⟩, Or.inr (Or.inl rfl), (by rw [len_pd]; exact hz7)⟩, _, hq1, hom0⟩) (by show kt - (i + 1) < kt - i; omega) hO hR _ _ hP hD hS ls (lv_sub hl [0, 2, 3, 4, 5, 6, 7, 8] rfl)
                    ·
                      have hi_219 : i = j := (nI_eq (a := i) (b := j) (by omega) (by omega)).mp c_217
                      exact absurd hc8 (by omega)
                ·
                  refine lv_aload_n hx hb dX15_bodyPlain_137 rfl (lv_at hl 7 rfl) ?_
                  refine pg_get (ci := 15) (v := .ref pl) (C := RX15) (T := TX15) (N := 59) hx hb hts it_15 hown hK hP hL_h0 hF_125 rfl 34 (by decide) (hts _ kt_901) (fun _ h9 => h9) rfl dX15_bodyPlain_138 ?_
                  refine lv_aload_n hx hb dX15_bodyPlain_141 rfl (lv_at hl 7 rfl) ?_
                  refine pg_get (ci := 15) (v := .ref ml) (C := RX15) (T := TX15) (N := 59) hx hb hts it_15 hown hK hP hL_h0 hF_125 rfl 23 (by decide) (hts _ kt_887) (fun _ h9 => h9) rfl dX15_bodyPlain_142 ?_
                  refine lv_iload hx hb dX15_bodyPlain_145 (lv_at hl 1 rfl) ?_
                  refine pg_bald hx hb hK hP hi_31 1 hF_124 rfl (vp_in_nI (by omega) (by omega)) dX15_bodyPlain_147 ?_
                  refine lv_topi (fun x_220 ex_220 => ?_)
                  obtain rfl : x_220 = gl i := ex_220.trans (congrArg gl (show ((nI i) : Int32).toNatClampNeg = i from nI_clamp (by omega)))
                  have hFc := pg_free hD hS hA
                  refine va_callv (va_runV (As := [.int (gl i)]) (rest := []) ⟨hx, hb, hml, hown, hts⟩ (s_X14_add_c l dC dI cs ty gm L H.size F_119 pl (ρ + 10) rl 6000 (a2.length + 1) (gl i) fq hW hL_pl hT_pl hz7 hq1 (by first | omega | assumption | exact Or.inl rfl)) ⟨callB_of 1 hts (gi kt_711) rfl rfl rfl (hts _ kt_676) (hts _ kt_712) (by decide +kernel) ⟨Nat.le_of_ble_eq_true rfl, Nat.le_of_ble_eq_true rfl⟩, (hts _ kt_713), (hts _ kt_714)⟩ ⟨fun a U g mk q => ⟨q.1, PTm.calling q.2⟩, pg_recv hK hP hL_pl hz7 (q := (RX14, TX14, 2)) rfl, fun U hU hWm => ⟨rfl, PTm.mk hU hWm hP hK hD hE hO⟩⟩ rfl rfl hl.1 rfl (lv_room (Nat.le_of_ble_eq_true rfl)) dX15_bodyPlain_148 ⟨by show _ + 0 ≤ 0; omega, by show _ + 0 ≤ 0; omega⟩) hS (fun q _ h => hFc q h) hFc (fun u t H1 locs ht hvm hw hB hz1 hk1 hS => ?_)
                  obtain ⟨F_222, f2_223, hB1, hq_224, hq_225, hq_226⟩ := hB
                  obtain ⟨hP, hD, hO, hR⟩ := QTm.back hB1 ht hFc hR (fun q h => by simp only [List.mem_cons, List.not_mem_nil, or_false] at h ⊢; omega)
                  have hF_227 : F_222 ml = .inl (cs 17, 3000, .inl gl) := (hB1.2.2.2 ml (by rw [ht_32]; simp)).trans hF_124
                  have hF_228 : F_222 h0 = .inr (15, (.ref ta) :: (.int (nI zt)) :: (.int (nI zo)) :: (.int (nI ze)) :: (.ref ou) :: (.ref so) :: (.ref ad) :: (.ref na) :: (.ref va) :: (.ref lc) :: (.ref dm) :: (.int (nI fm)) :: (.int (nI sn)) :: (.ref tg) :: (.int v14_40) :: (.int v15_41) :: (.ref pe) :: (.int v17_42) :: (.int v18_43) :: (.int v19_44) :: (.int v20_45) :: (.int v21_46) :: (.int v22_47) :: (.ref ml) :: (.ref bg) :: (.ref co) :: (.ref sp) :: (.ref nb0) :: (.ref nb1) :: (.ref nb2) :: (.int (nI nf)) :: (.int (nI bd)) :: (.int (nI mm)) :: (.int v33_48) :: (.ref pl) :: (.ref se) :: (.ref ke) :: (.ref wi) :: (.ref hs) :: (.ref mo) :: (.ref po) :: (.ref nu) :: (.ref pr) :: (.ref sq) :: (.ref xa) :: (.ref sa) :: (.ref n64) :: (.ref m64) :: (.ref ex) :: (.ref wh) :: (.ref sd) :: (.ref tk) :: (.int v52_49) :: (.int v53_50) :: (.int v54_51) :: (.ref hd) :: (.ref ak) :: (.ref ho) :: (.ref ot) :: []) := (hB1.2.2.2 h0 (by rw [hT_h0]; simp)).trans hF_125
                  generalize H1 = H at hP hS ⊢
                  have hom_229 := OUTM.add (y := (0, i)) hom0 hq_226 (by rw [len1]) rfl
                  refine lv_goto (tgt := 184) hx hb dX15_bodyPlain_151 (by decide) ?_
                  refine lv_iinc (v := (nI (i + 1))) (lv' := [(7, .int (nI (i + 1))), (8, .int r_196), (6, .int s7), (5, .int (nI kt)), (4, .int (nI kend)), (3, .int (nI j)), (2, .int (nI w2)), (0, .ref h0), (1, .int x1)]) hx hb dX15_bodyPlain_184 hl (k := 1) rfl (nI_1 _) (by decide) rfl (fun ls hl => ?_)
                  refine lv_goto (tgt := 109) hx hb dX15_bodyPlain_187 (by decide) ?_
                  refine W.widen (k := 0) (n := 0) (by omega) (by omega) ?_
                  exact ih_123 ((i + 1), (a2 ++ [(2, 32)] ++ [(0, i)]), 0) F_222 (⟨⟨⟨by omega, by omega⟩, bl_b hc2 (by omega) (hfe.2.2.1 i (by omega) (by omega)) (fun q => clg1n (ifb0 hw_198 c_210) q.2) (by decide), by rw [len1, len1]; omega, Or.inl rfl, Or.inl ⟨rfl, Or.inr (Or.inr (by rw [Nat.add_sub_cancel]; exact clg1n (ifb0 hw_198 c_210)))⟩, Or.inr (Or.inr ⟨by omega, a2 ++ [(2, 32)], by rw [Nat.add_sub_cancel]⟩), (by rw [pd_0, List.append_nil, len1, len1]; exact hq_224)⟩, _, hq_225, (by rw [pd_0, List.append_nil]; exact hom_229)⟩) (by show kt - (i + 1) < kt - i; omega) hO hR _ _ hP hD hS ls (lv_sub hl [0, 2, 3, 4, 5, 6, 7, 8] rfl)
        ·
          refine lv_iload hx hb dX15_bodyPlain_93 (lv_at hl 0 rfl) ?_
          refine lv_iload_n hx hb dX15_bodyPlain_95 rfl (lv_at hl 2 rfl) ?_
          refine lv_icmp_le (tgt := 103) hx hb dX15_bodyPlain_96 (by decide) (fun c_230 => ?_) (fun c_230 => ?_)
          ·
            have hi_231 : kt ≤ j := (nI_leI (a := kt) (b := j) (by omega) (by omega)).mp c_230
            refine lv_iconst (v := 0) hx hb dX15_bodyPlain_103 (by decide) ?_
            refine W.widen (k := 0) (n := 0) (by omega) (by omega) ?_
            exact jn_112 0 F_106 (⟨⟨Or.inl ⟨rfl, by omega⟩, hkt3⟩, _, hq1, hq2⟩) hO hR _ _ hP hD hS ls (lv_sub hl [0, 1, 2, 3, 4, 5] rfl)
          ·
            have hi_232 : j < kt := Nat.not_le.mp (fun q => c_230 ((nI_leI (a := kt) (b := j) (by omega) (by omega)).mpr q))
            refine lv_iconst (v := 1) hx hb dX15_bodyPlain_99 (by decide) ?_
            refine lv_goto (tgt := 104) hx hb dX15_bodyPlain_100 (by decide) ?_
            refine W.widen (k := 0) (n := 0) (by omega) (by omega) ?_
            exact jn_112 1 F_106 (⟨⟨Or.inr ⟨rfl, by omega⟩, hkt3⟩, _, hq1, hq2⟩) hO hR _ _ hP hD hS ls (lv_sub hl [0, 1, 2, 3, 4, 5] rfl)
      ·
        refine lv_iload_n hx hb dX15_bodyPlain_62 rfl (lv_at hl 5 rfl) ?_
        refine lv_if_eq (tgt := 93) hx hb dX15_bodyPlain_63 (by decide) (fun c_233 => ?_) (fun c_233 => ?_)
        ·
          refine W.widen (k := 0) (n := 0) (by omega) (by omega) ?_
          exact jn_105 (nI e9) F_99 (⟨⟨⟨e9, hfe1, Nat.le_refl _, rfl, Or.inl rfl, Or.inl c_233⟩, hks3⟩, _, hq1, hq2⟩) hO hR _ _ hP hD hS ls (lv_sub hl [0, 1, 2, 3, 4, 5] rfl)
        ·
          refine W.widen (k := 0) (n := 0) (by omega) (by omega) ?_
          have hF_235 : F ml = .inl (cs 17, 3000, .inl gl) := (hR ml (by rw [ht_32]; simp)).symm.trans hF_103
          have hF_236 : F h0 = .inr (15, (.ref ta) :: (.int (nI zt)) :: (.int (nI zo)) :: (.int (nI ze)) :: (.ref ou) :: (.ref so) :: (.ref ad) :: (.ref na) :: (.ref va) :: (.ref lc) :: (.ref dm) :: (.int (nI fm)) :: (.int (nI sn)) :: (.ref tg) :: (.int v14_40) :: (.int v15_41) :: (.ref pe) :: (.int v17_42) :: (.int v18_43) :: (.int v19_44) :: (.int v20_45) :: (.int v21_46) :: (.int v22_47) :: (.ref ml) :: (.ref bg) :: (.ref co) :: (.ref sp) :: (.ref nb0) :: (.ref nb1) :: (.ref nb2) :: (.int (nI nf)) :: (.int (nI bd)) :: (.int (nI mm)) :: (.int v33_48) :: (.ref pl) :: (.ref se) :: (.ref ke) :: (.ref wi) :: (.ref hs) :: (.ref mo) :: (.ref po) :: (.ref nu) :: (.ref pr) :: (.ref sq) :: (.ref xa) :: (.ref sa) :: (.ref n64) :: (.ref m64) :: (.ref ex) :: (.ref wh) :: (.ref sd) :: (.ref tk) :: (.int v52_49) :: (.int v53_50) :: (.int v54_51) :: (.ref hd) :: (.ref ak) :: (.ref ho) :: (.ref ot) :: []) := (hR h0 (by rw [hT_h0]; simp)).symm.trans hF_104
          refine pl_loopm (σ := Nat) A (dC, dI) cs ty gm L [ρ + 10] F 66 9 (fun kx => [(5, .int (nI kx)), (4, .int (nI kend)), (3, .int (nI j)), (2, .int (nI w2)), (0, .ref h0), (1, .int x1)]) (fun kx => []) (fun kx FF => (j ≤ kx ∧ kx ≤ e9 ∧ (∀ i, kx ≤ i → i < e9 → clr gl i = 1) ∧ FF pl = .inr (14, [.ref rl, .int (nI aa.length)])) ∧ ∃ fq : Nat → Int32, FF rl = .inl (cs 17, 6000, .inl fq) ∧ OUTM gl fq aa) (fun kx => kx) ?_ e9 F_99 (⟨⟨by omega, by omega, fun i h1 h2 => absurd h2 (by omega), hks3⟩, _, hq1, hq2⟩) hO hR _ _ hP hD hS ls (lv_sub hl [0, 1, 2, 3, 4, 5] rfl)
          rintro kx F_234 hv_237 hO hR ih_238 H locs hP hD hS ls hl
          have hl : lv_has ls 9 [(5, .int (nI kx)), (4, .int (nI kend)), (3, .int (nI j)), (2, .int (nI w2)), (0, .ref h0), (1, .int x1)] := hl
          have hv_237 : (j ≤ kx ∧ kx ≤ e9 ∧ (∀ i, kx ≤ i → i < e9 → clr gl i = 1) ∧ F_234 pl = .inr (14, [.ref rl, .int (nI aa.length)])) ∧ ∃ fq : Nat → Int32, F_234 rl = .inl (cs 17, 6000, .inl fq) ∧ OUTM gl fq aa := hv_237
          refine W.eq (g2 := F0 m 66 ls []) rfl ?_
          have hF_239 : F_234 ml = .inl (cs 17, 3000, .inl gl) := (hR ml (by rw [ht_32]; simp)).trans hF_235
          have hF_240 : F_234 h0 = .inr (15, (.ref ta) :: (.int (nI zt)) :: (.int (nI zo)) :: (.int (nI ze)) :: (.ref ou) :: (.ref so) :: (.ref ad) :: (.ref na) :: (.ref va) :: (.ref lc) :: (.ref dm) :: (.int (nI fm)) :: (.int (nI sn)) :: (.ref tg) :: (.int v14_40) :: (.int v15_41) :: (.ref pe) :: (.int v17_42) :: (.int v18_43) :: (.int v19_44) :: (.int v20_45) :: (.int v21_46) :: (.int v22_47) :: (.ref ml) :: (.ref bg) :: (.ref co) :: (.ref sp) :: (.ref nb0) :: (.ref nb1) :: (.ref nb2) :: (.int (nI nf)) :: (.int (nI bd)) :: (.int (nI mm)) :: (.int v33_48) :: (.ref pl) :: (.ref se) :: (.ref ke) :: (.ref wi) :: (.ref hs) :: (.ref mo) :: (.ref po) :: (.ref nu) :: (.ref pr) :: (.ref sq) :: (.ref xa) :: (.ref sa) :: (.ref n64) :: (.ref m64) :: (.ref ex) :: (.ref wh) :: (.ref sd) :: (.ref tk) :: (.int v52_49) :: (.int v53_50) :: (.int v54_51) :: (.ref hd) :: (.ref ak) :: (.ref ho) :: (.ref ot) :: []) := (hR h0 (by rw [hT_h0]; simp)).trans hF_236
          obtain ⟨hv9, fq, hq1, hq2⟩ := id hv_237
          obtain ⟨hb1, hb2, hb3, hb4⟩ := id hv9
          refine lv_iload hx hb dX15_bodyPlain_66 (lv_at hl 0 rfl) ?_
          refine lv_iload_n hx hb dX15_bodyPlain_68 rfl (lv_at hl 2 rfl) ?_
          refine lv_icmp_le (tgt := 93) hx hb dX15_bodyPlain_69 (by decide) (fun c_241 => ?_) (fun c_241 => ?_)
          ·
            have hi_242 : kx ≤ j := (nI_leI (a := kx) (b := j) (by omega) (by omega)).mp c_241
            refine W.widen (k := 0) (n := 0) (by omega) (by omega) ?_
            exact jn_105 (nI kx) F_234 (⟨⟨⟨kx, by omega, by omega, rfl, Or.inr ⟨c_233, hb3⟩, Or.inr (Or.inl (by omega))⟩, hb4⟩, _, hq1, hq2⟩) hO hR _ _ hP hD hS ls (lv_sub hl [0, 1, 2, 3, 4, 5] rfl)
          ·
            have hi_243 : j < kx := Nat.not_le.mp (fun q => c_241 ((nI_leI (a := kx) (b := j) (by omega) (by omega)).mpr q))
            refine lv_aload_n hx hb dX15_bodyPlain_72 rfl (lv_at hl 4 rfl) ?_
            refine pg_get (ci := 15) (v := .ref ml) (C := RX15) (T := TX15) (N := 59) hx hb hts it_15 hown hK hP hL_h0 hF_240 rfl 23 (by decide) (hts _ kt_887) (fun _ h9 => h9) rfl dX15_bodyPlain_73 ?_
            refine lv_iload hx hb dX15_bodyPlain_76 (lv_at hl 0 rfl) ?_
            refine lv_iconst (v := 1) hx hb dX15_bodyPlain_78 (by decide) ?_
            refine lv_isub hx hb dX15_bodyPlain_79 ?_
            refine lv_topi (fun x_244 ex_244 => ?_)
            obtain rfl : x_244 = (nI (kx - 1)) := ex_244.trans (pk_sub (a := kx) (b := 1) (by omega))
            refine pg_bald hx hb hK hP hi_31 1 hF_239 rfl (vp_in_nI (by omega) (by omega)) dX15_bodyPlain_80 ?_
            refine lv_topi (fun x_245 ex_245 => ?_)
            obtain rfl : x_245 = gl (kx - 1) := ex_245.trans (congrArg gl (show ((nI (kx - 1)) : Int32).toNatClampNeg = (kx - 1) from nI_clamp (by omega)))
            have hFc := pg_free hD hS hA
            refine va_calli (va_runS (As := [.int (gl (kx - 1))]) (rest := []) ⟨hx, hb, hml, hown, hts⟩ (s_X15_isWhite_e l dC dI cs ty gm L H.size F_234 (gl (kx - 1)) hW ) ⟨callB_of 1 hts (gi kt_715) rfl rfl rfl (hts _ kt_669) (hts _ kt_716) (by decide +kernel) ⟨Nat.le_of_ble_eq_true rfl, Nat.le_of_ble_eq_true rfl⟩, (hts _ kt_717)⟩ ⟨fun a U g mk q => ⟨q.1, PTm.calling q.2⟩, fun U hU hWm => ⟨rfl, PTm.mk hU hWm hP hK hD hE hO⟩⟩ rfl rfl hl.1 rfl (lv_room (Nat.le_of_ble_eq_true rfl)) dX15_bodyPlain_81 ⟨by show _ + 0 ≤ 0; omega, by show _ + 0 ≤ 0; omega⟩) hS (fun q _ h => hFc q h) hFc (fun r_246 u t H1 locs ht hvm hw hB hz1 hk1 hS => ?_)
            obtain ⟨F_247, hB1⟩ := hB
            obtain rfl : F_234 = F_247 := (funext (fun a => hB1.2.2.2 a List.not_mem_nil)).symm
            obtain ⟨hP, hD, hO, hR⟩ := QTm.back hB1 ht hFc hR (fun q h => absurd h List.not_mem_nil)
            generalize H1 = H at hP hS ⊢
            have hw : r_246 = (if (gl (kx - 1)) = 32 ∨ (gl (kx - 1)) = 9 then 1 else 0) := hw
            have hw_248 := hw
            refine lv_if_eq (tgt := 93) hx hb dX15_bodyPlain_84 (by decide) (fun c_249 => ?_) (fun c_249 => ?_)
            ·
              refine W.widen (k := 0) (n := 0) (by omega) (by omega) ?_
              exact jn_105 (nI kx) F_234 (⟨⟨⟨kx, by omega, by omega, rfl, Or.inr ⟨c_233, hb3⟩, Or.inr (Or.inr (clg1n (ifb0 hw_248 c_249)))⟩, hb4⟩, _, hq1, hq2⟩) hO hR _ _ hP hD hS ls (lv_sub hl [0, 1, 2, 3, 4, 5] rfl)
            ·
              refine lv_iinc (v := (nI (kx - 1))) (lv' := [(5, .int (nI (kx - 1))), (4, .int (nI kend)), (3, .int (nI j)), (2, .int (nI w2)), (0, .ref h0), (1, .int x1)]) hx hb dX15_bodyPlain_87 hl (k := 0) rfl (m1N (by omega)) (by decide) rfl (fun ls hl => ?_)
              refine lv_goto (tgt := 66) hx hb dX15_bodyPlain_90 (by decide) ?_
              refine W.widen (k := 0) (n := 0) (by omega) (by omega) ?_
              exact ih_238 (kx - 1) F_234 (⟨⟨by omega, by omega, fun i h1 h2 => by rcases Nat.lt_or_ge i kx with q | q; rw [show i = kx - 1 by omega]; exact clg1 (ifb1 hw_248 c_249); exact hb3 i q h2, hb4⟩, _, hq1, hq2⟩) (by show (kx - 1) < kx; omega) hO hR _ _ hP hD hS ls (lv_sub hl [0, 1, 2, 3, 4, 5] rfl)
    ·
      refine lv_aload_n hx hb dX15_bodyPlain_37 rfl (lv_at hl 3 rfl) ?_
      refine pg_get (ci := 15) (v := .ref ml) (C := RX15) (T := TX15) (N := 59) hx hb hts it_15 hown hK hP hL_h0 hF_73 rfl 23 (by decide) (hts _ kt_887) (fun _ h9 => h9) rfl dX15_bodyPlain_38 ?_
      refine lv_iload hx hb dX15_bodyPlain_41 (lv_at hl 0 rfl) ?_
      refine lv_iconst (v := 1) hx hb dX15_bodyPlain_43 (by decide) ?_
      refine lv_isub hx hb dX15_bodyPlain_44 ?_
      refine lv_topi (fun x_250 ex_250 => ?_)
      obtain rfl : x_250 = (nI (kend - 1)) := ex_250.trans (pk_sub (a := kend) (b := 1) (by omega))
      refine pg_bald hx hb hK hP hi_31 1 hF_72 rfl (vp_in_nI (by omega) (by omega)) dX15_bodyPlain_45 ?_
      refine lv_topi (fun x_251 ex_251 => ?_)
      obtain rfl : x_251 = gl (kend - 1) := ex_251.trans (congrArg gl (show ((nI (kend - 1)) : Int32).toNatClampNeg = (kend - 1) from nI_clamp (by omega)))
      refine lv_bipush (v := 10) hx hb dX15_bodyPlain_46 (by decide) ?_
      refine lv_icmp_ne (tgt := 58) hx hb dX15_bodyPlain_48 (by decide) (fun c_252 => ?_) (fun c_252 => ?_)
      ·
        refine lv_iload hx hb dX15_bodyPlain_58 (lv_at hl 0 rfl) ?_
        refine W.widen (k := 0) (n := 0) (by omega) (by omega) ?_
        exact jn_98 (nI kend) F_67 (⟨⟨by rw [show kend = e9 by (rcases Nat.lt_or_ge e9 mm with q | q; exact absurd (clg_0 (hfe.2.2.2.resolve_left (by omega))) (by rw [show e9 = kend - 1 by omega]; exact c_252); omega)], ha4⟩, _, hq1, hq2⟩) hO hR _ _ hP hD hS ls (lv_sub hl [0, 1, 2, 3, 4] rfl)
      ·
        refine lv_iload hx hb dX15_bodyPlain_51 (lv_at hl 0 rfl) ?_
        refine lv_iconst (v := 1) hx hb dX15_bodyPlain_53 (by decide) ?_
        refine lv_isub hx hb dX15_bodyPlain_54 ?_
        refine lv_topi (fun x_253 ex_253 => ?_)
        obtain rfl : x_253 = (nI (kend - 1)) := ex_253.trans (pk_sub (a := kend) (b := 1) (by omega))
        refine lv_goto (tgt := 60) hx hb dX15_bodyPlain_55 (by decide) ?_
        refine W.widen (k := 0) (n := 0) (by omega) (by omega) ?_
        exact jn_98 (nI (kend - 1)) F_67 (⟨⟨by rw [show kend - 1 = e9 by (rcases Nat.lt_or_ge e9 mm with q | q; omega; exact absurd (clg0 (S := FSR) c_252) (hfe.2.2.1 (kend - 1) (by omega) (by omega)))], ha4⟩, _, hq1, hq2⟩) hO hR _ _ hP hD hS ls (lv_sub hl [0, 1, 2, 3, 4] rfl)
theorem BDC.cg {E : Nat × Nat → Int32} {T : Nat → Nat} {x : Int32} {b z N : Nat} {fo f2 : Nat → Int32} (h : BDC E T x b z N fo) (he : ∀ j, j < N → f2 j = fo j) : BDC E T x b z N f2 := by
  obtain ⟨q, a1, a2⟩ := h
  refine ⟨q, a1, ?_⟩
  rcases a2 with ⟨c1, c2, c3, c4⟩ | ⟨c1, c2, c3⟩
  · exact Or.inl ⟨c1, c2, c3, (he 0 (by omega)).trans c4⟩
  · exact Or.inr ⟨c1, c2, fun j y hj hy => (he j (by omega)).trans (c3 j y hj hy)⟩
set_option maxHeartbeats 4000000 in
set_option maxRecDepth 100000 in
theorem s_X15_plainBody_c (l : Launch) (dC : Nat → ClassId) (dI : Nat → Nat → Nat) (cs : Nat → ClassId) (ty : TyM) (gm : Nat → Nat → Nat) (L : List Nat) (sz : Nat) (F : Nat → va_E) (h0 : Nat) (ρ : Nat) (ta : Nat) (ou : Nat) (so : Nat) (ad : Nat) (na : Nat) (va : Nat) (lc : Nat) (dm : Nat) (tg : Nat) (pe : Nat) (ml : Nat) (bg : Nat) (co : Nat) (sp : Nat) (nb0 : Nat) (nb1 : Nat) (nb2 : Nat) (pl : Nat) (se : Nat) (ke : Nat) (wi : Nat) (hs : Nat) (mo : Nat) (po : Nat) (nu : Nat) (pr : Nat) (sq : Nat) (xa : Nat) (sa : Nat) (n64 : Nat) (m64 : Nat) (ex : Nat) (wh : Nat) (sd : Nat) (tk : Nat) (hd : Nat) (ak : Nat) (ho : Nat) (ot : Nat) (sx : Nat) (s0 : Nat) (s1 : Nat) (s2 : Nat) (nf : Nat) (bd : Nat) (mm : Nat) (zo : Nat) (fm : Nat) (sn : Nat) (hg : Nat) (gc : Nat) (gv : Nat) (ze : Nat) (zt : Nat) (rl : Nat) (gl : Nat → Int32) (x1 : Int32) (go0 : Nat → Int32) (hW : WTm ty gm L) (hL_h0 : h0 ∈ L) (hT_h0 : ty h0 = (15, ρ, [ta, ou, so, ad, na, va, lc, dm, tg, pe, ml, bg, co, sp, nb0, nb1, nb2, pl, se, ke, wi, hs, mo, po, nu, pr, sq, xa, sa, n64, m64, ex, wh, sd, tk, hd, ak, ho, ot, sx, s0, s1, s2, nf, bd, mm, zo, fm, sn, hg, gc, gv, ze, zt])) (hL_pl : pl ∈ L) (hT_pl : ty pl = (14, ρ + 10, [rl, 6000])) (hFml : F ml = .inl (cs 17, 3000, .inl gl)) (hFo0 : F ou = .inl (cs 17, 6000, .inl go0)) : Met l yX15_plainBody (.code yX15_plainBody cX15_plainBody 2 (some .int) :: tb) ({ frames := 3, cells := 0, slots := 0, locals := 72 }) (va_Pc [.ref h0, .int x1] (PTm (dC, dI) cs ty gm L F sz)) (va_Qi (fun (r : Int32) (c2 : Nat) => PBR (clr gl) nf bd mm x1 r) (fun (c2 : Nat) T9 => ∃ F2 : Nat → va_E, ∃ ty2 : TyM, ∃ go : Nat → Int32, ty2 = rtf ty h0 (15, ρ, [ta, ou, so, ad, na, va, lc, dm, tg, pe, ml, bg, co, sp, nb0, nb1, nb2, pl, se, ke, wi, hs, mo, po, nu, pr, sq, xa, sa, n64, m64, ex, wh, sd, tk, hd, ak, ho, ot, sx, s0, s1, s2, nf, bd, mm, c2, fm, sn, hg, gc, gv, ze, zt]) ∧ QTm (dC, dI) cs ty2 gm L [ρ, ρ + 2, ρ + 10] F F2 (va_A (va_pl L F) sz) T9 ∧ WTm ty2 gm L ∧ F2 ou = .inl (cs 17, 6000, .inl go) ∧ ((nf = 0 ∧ c2 = zo ∧ go = go0) ∨ (¬ nf = 0 ∧ BDC (fun y => nb8 (evs gl y)) (clr gl) x1 bd mm c2 go))) (va_A (va_pl L F) sz)) 0 0 (va_A (va_pl L F) sz) := by
  refine Met.ofW (cc := cX15_plainBody) (maxL := 2) (ret := (some .int)) (by decide) rfl ?_
  intro p e s m args below meth c s₁ B hml hv
  obtain ⟨rfl, hsz, hP, hK, hD0, hE, hO⟩ := hv
  have hx := B.exec
  have hb := B.bytes
  have hr := B.returns
  have hts : ∀ w ∈ tb, w.before _ s = true := fun w h => atoms_spec (ws := .code yX15_plainBody cX15_plainBody 2 (some .int) :: tb) B.pre w (List.mem_cons_of_mem _ h)
  have hown : s.vm.findClass RX15 = some m.cls := findClass_of_methodNamed B.named
  have hlocks := B.notSynchronized
  subst hsz
  have hD := hD0.self (sz := s.heap.size)
  generalize hAe : va_A (va_pl L F) s.heap.size = A at hD ⊢
  have hA : ∀ q : Nat, s.heap.size ≤ q → A q := fun q h => by rw [← hAe]; exact Or.inr h
  have hS : va_S A s.heap s.heap [] := va_S.rf
  have hR : FR ty [ρ, ρ + 2, ρ + 10] F F := FR.refl
  have hl := lv_entry ([.ref h0, .int x1]) (n := 2) (Nat.le_of_ble_eq_true rfl)
  rw [lg_entry_eq]
  generalize (lg_sl ([.ref h0, .int x1]) ++ List.replicate (2 - (lg_sl ([.ref h0, .int x1])).length) Slot.unset).toArray = ls at hl ⊢
  have hl : lv_has ls 2 [(0, .ref h0), (1, .int x1)] := hl
  obtain ⟨hq_22, hq_23, hq_24, hq_25, hq_26, hgO, hgA, hgB, hq_27⟩ := hW.sc hL_h0 hT_h0
  obtain ⟨hi_28, ht_29, hq_30⟩ := hW.txt hL_pl hT_pl
  obtain ⟨v14_31, v15_32, v17_33, v18_34, v19_35, v20_36, v21_37, v22_38, v33_39, v52_40, v53_41, v54_42, hF_43, hq_44, hq_45, hq_46, hq_47, hq_48⟩ := hO.mod hL_h0 hT_h0
  refine lv_aload_n hx hb dX15_plainBody_0 rfl (lv_at hl 0 rfl) ?_
  refine pg_get (ci := 15) (v := .int v33_39) (C := RX15) (T := TX15) (N := 59) hx hb hts it_15 hown hK hP hL_h0 hF_43 rfl 33 (by decide) (hts _ kt_891) (fun _ h9 => h9) rfl dX15_plainBody_1 ?_
  refine lv_if_ne (tgt := 10) hx hb dX15_plainBody_4 (by decide) (fun c_49 => ?_) (fun c_49 => ?_)
  ·
    have hnf1 := (hq_46.resolve_left (fun q => c_49 q.1)).2
    have hbd1 : 1 ≤ bd := by omega
    refine lv_aload_n hx hb dX15_plainBody_10 rfl (lv_at hl 0 rfl) ?_
    refine lv_iload_n hx hb dX15_plainBody_11 rfl (lv_at hl 1 rfl) ?_
    obtain ⟨hi_50, ht_51⟩ := hW.f_ml hL_h0 hT_h0
    obtain ⟨hq_52, hq_53⟩ := hW.octs hi_50 ht_51
    have hFc := pg_free hD hS hA
    refine va_callv (va_runV (As := [.int x1]) (rest := []) ⟨hx, hb, hml, hown, hts⟩ (s_X15_bodyPlain_c l dC dI cs ty gm L s.heap.size F h0 ρ ta ou so ad na va lc dm tg pe ml bg co sp nb0 nb1 nb2 pl se ke wi hs mo po nu pr sq xa sa n64 m64 ex wh sd tk hd ak ho ot sx s0 s1 s2 nf bd mm zo fm sn hg gc gv ze zt rl gl x1 hW hL_h0 hT_h0 hL_pl hT_pl hFml (hbd1)) ⟨callB_of 1 hts (gi kt_966) rfl rfl rfl (hts _ kt_669) (hts _ kt_967) (by decide +kernel) ⟨Nat.le_of_ble_eq_true rfl, Nat.le_of_ble_eq_true rfl⟩, (hts _ kt_968), (hts _ kt_969)⟩ ⟨fun a U g mk q => ⟨q.1, PTm.calling q.2⟩, pg_recv hK hP hL_h0 hF_43 (q := (RX15, TX15, 59)) rfl, fun U hU hWm => ⟨rfl, PTm.mk hU hWm hP hK hD hE hO⟩⟩ rfl rfl hl.1 rfl (lv_room (Nat.le_of_ble_eq_true rfl)) dX15_plainBody_12 ⟨by show _ + 0 ≤ 0; omega, by show _ + 0 ≤ 0; omega⟩) hS (fun q _ h => hFc q h) hFc (fun u t H1 locs ht hvm hw hB hz1 hk1 hS => ?_)
    obtain ⟨F_55, NN_56, f2_57, hB1, hq_58, hq_59, hq_60, hq_61, hq_62⟩ := hB
    obtain ⟨hP, hD, hO, hR⟩ := QTm.back hB1 ht hFc hR (fun q h => by simp only [List.mem_cons, List.not_mem_nil, or_false] at h ⊢; omega)
    have hF_63 : F_55 ml = .inl (cs 17, 3000, .inl gl) := (hB1.2.2.2 ml (by rw [ht_51]; simp)).trans hFml
    obtain ⟨hi_65, ht_66⟩ := hW.f_ou hL_h0 hT_h0
    have hF_64 : F_55 ou = .inl (cs 17, 6000, .inl go0) := (hB1.2.2.2 ou (by rw [ht_66]; simp)).trans hFo0
    have hF_67 : F_55 h0 = .inr (15, (.ref ta) :: (.int (nI zt)) :: (.int (nI zo)) :: (.int (nI ze)) :: (.ref ou) :: (.ref so) :: (.ref ad) :: (.ref na) :: (.ref va) :: (.ref lc) :: (.ref dm) :: (.int (nI fm)) :: (.int (nI sn)) :: (.ref tg) :: (.int v14_31) :: (.int v15_32) :: (.ref pe) :: (.int v17_33) :: (.int v18_34) :: (.int v19_35) :: (.int v20_36) :: (.int v21_37) :: (.int v22_38) :: (.ref ml) :: (.ref bg) :: (.ref co) :: (.ref sp) :: (.ref nb0) :: (.ref nb1) :: (.ref nb2) :: (.int (nI nf)) :: (.int (nI bd)) :: (.int (nI mm)) :: (.int v33_39) :: (.ref pl) :: (.ref se) :: (.ref ke) :: (.ref wi) :: (.ref hs) :: (.ref mo) :: (.ref po) :: (.ref nu) :: (.ref pr) :: (.ref sq) :: (.ref xa) :: (.ref sa) :: (.ref n64) :: (.ref m64) :: (.ref ex) :: (.ref wh) :: (.ref sd) :: (.ref tk) :: (.int v52_40) :: (.int v53_41) :: (.int v54_42) :: (.ref hd) :: (.ref ak) :: (.ref ho) :: (.ref ot) :: []) := (hB1.2.2.2 h0 (by rw [hT_h0]; simp)).trans hF_43
    generalize H1 = H at hP hS ⊢
    have hle6 := hq_60
    refine lv_aload_n hx hb dX15_plainBody_15 rfl (lv_at hl 0 rfl) ?_
    refine lv_aload_n hx hb dX15_plainBody_16 rfl (lv_at hl 0 rfl) ?_
    refine pg_get (ci := 15) (v := .ref pl) (C := RX15) (T := TX15) (N := 59) hx hb hts it_15 hown hK hP hL_h0 hF_67 rfl 34 (by decide) (hts _ kt_901) (fun _ h9 => h9) rfl dX15_plainBody_17 ?_
    obtain ⟨hq_68, hq_69⟩ := hW.octs hi_28 ht_29
    have hFc := pg_free hD hS hA
    refine va_calli (va_runV (As := [.ref pl]) (rest := []) ⟨hx, hb, hml, hown, hts⟩ (s_X15_tell_c l dC dI cs ty gm L H.size F_55 h0 ρ ta ou so ad na va lc dm tg pe ml bg co sp nb0 nb1 nb2 pl se ke wi hs mo po nu pr sq xa sa n64 m64 ex wh sd tk hd ak ho ot sx s0 s1 s2 nf bd mm zo fm sn hg gc gv ze zt pl (ρ + 10) rl NN_56 f2_57 hW hL_h0 hT_h0 hL_pl hT_pl hq_58 hq_61 (hle6)) ⟨callB_of 1 hts (gi kt_1140) rfl rfl rfl (hts _ kt_669) (hts _ kt_1141) (by decide +kernel) ⟨Nat.le_of_ble_eq_true rfl, Nat.le_of_ble_eq_true rfl⟩, (hts _ kt_1142), (hts _ kt_1143)⟩ ⟨fun a U g mk q => ⟨q.1, PTm.calling q.2⟩, pg_recv hK hP hL_h0 hF_67 (q := (RX15, TX15, 59)) rfl, fun U hU hWm => ⟨rfl, PTm.mk hU hWm hP hK hD hE hO⟩⟩ rfl rfl hl.1 rfl (lv_room (Nat.le_of_ble_eq_true rfl)) dX15_plainBody_20 ⟨by show _ + 0 ≤ 0; omega, by show _ + 0 ≤ 0; omega⟩) hS (fun q _ h => hFc q h) hFc (fun r_70 u t H1 locs ht hvm hw hB hz1 hk1 hS => ?_)
    obtain ⟨F_71, ty9, go_72, hty9, hB1, hW9, hq_73, hq_74⟩ := hB
    subst hty9
    have hR9 := FR.retype (im2 := [ta, ou, so, ad, na, va, lc, dm, tg, pe, ml, bg, co, sp, nb0, nb1, nb2, pl, se, ke, wi, hs, mo, po, nu, pr, sq, xa, sa, n64, m64, ex, wh, sd, tk, hd, ak, ho, ot, sx, s0, s1, s2, nf, bd, mm, NN_56, fm, sn, hg, gc, gv, ze, zt]) hT_h0 hR
    have hTU := hT_h0
    obtain ⟨hP, hD, hO, hR⟩ := QTm.back hB1 ht hFc hR9 (fun q h => by simp only [List.mem_cons, List.not_mem_nil, or_false] at h ⊢; omega)
    obtain ⟨ty, hty, hT_h0, hW, hO, hR⟩ : ∃ t9 : TyM, t9 = rtf ty h0 (15, ρ, [ta, ou, so, ad, na, va, lc, dm, tg, pe, ml, bg, co, sp, nb0, nb1, nb2, pl, se, ke, wi, hs, mo, po, nu, pr, sq, xa, sa, n64, m64, ex, wh, sd, tk, hd, ak, ho, ot, sx, s0, s1, s2, nf, bd, mm, NN_56, fm, sn, hg, gc, gv, ze, zt]) ∧ t9 h0 = (15, ρ, [ta, ou, so, ad, na, va, lc, dm, tg, pe, ml, bg, co, sp, nb0, nb1, nb2, pl, se, ke, wi, hs, mo, po, nu, pr, sq, xa, sa, n64, m64, ex, wh, sd, tk, hd, ak, ho, ot, sx, s0, s1, s2, nf, bd, mm, NN_56, fm, sn, hg, gc, gv, ze, zt]) ∧ WTm t9 gm L ∧ OKm cs t9 gm L F_71 ∧ FR t9 [ρ, ρ + 2, ρ + 10] F F_71 := ⟨_, rfl, rtf_self, hW9, hO, hR⟩
    generalize H1 = H at hP hS ⊢
    have hw : r_70 = nI NN_56 := hw
    subst hw
    obtain ⟨hq_97, hq_98, hq_99, hq_100, hq_101, hgO, hgA, hgB, hq_102⟩ := hW.sc hL_h0 hT_h0
    refine W.widen (k := 0) (n := 0) (by omega) (by omega) ?_
    exact W.iret (v := (nI NN_56)) hx hb hr (fun t ht hWm => ⟨⟨(nI NN_56), NN_56, rfl, (Or.inr ⟨by omega, hq_59⟩), ⟨F_71, ty, go_72, hty, QTm.mk ht hP hD hO hR, hW, hq_73, (Or.inr ⟨by omega, BDC.cg hq_62 hq_74⟩)⟩⟩, hS.F ht⟩) hS.2.2 dX15_plainBody_23
  ·
    have hn0 : nf = 0 := (hq_46.resolve_right (fun q => absurd (q.1.symm.trans c_49) (by decide))).2
    refine lv_bipush (v := (-2)) hx hb dX15_plainBody_7 (by decide) ?_
    refine W.widen (k := 0) (n := 0) (by omega) (by omega) ?_
    exact W.iret (v := (-2)) hx hb hr (fun t ht hWm => ⟨⟨(-2), zo, rfl, (Or.inl ⟨hn0, rfl⟩), ⟨F, ty, go0, (rtf_id hT_h0).symm, QTm.mk ht hP hD hO hR, hW, hFo0, (Or.inl ⟨hn0, rfl, rfl⟩)⟩⟩, hS.F ht⟩) hS.2.2 dX15_plainBody_9
