theorem kt_1126 : Cond.fieldLink RX15 67 "PostGateModel" "piece" "LPostGateModel$Text;" ∈ tb := tb_at (i := 1305) (by decide +kernel) (by decide +kernel)
theorem dX15_part_0 : decode cX15_part 0 = .ok (.iconst 0, 1) := by decide +kernel
theorem dX15_part_1 : decode cX15_part 1 = .ok (.istore_n 3, 1) := by decide +kernel
theorem dX15_part_2 : decode cX15_part 2 = .ok (.iconst 0, 1) := by decide +kernel
theorem dX15_part_3 : decode cX15_part 3 = .ok (.istore 4, 2) := by decide +kernel
theorem dX15_part_5 : decode cX15_part 5 = .ok (.iload 4, 2) := by decide +kernel
theorem dX15_part_7 : decode cX15_part 7 = .ok (.iload_n 1, 1) := by decide +kernel
theorem dX15_part_8 : decode cX15_part 8 = .ok (.if_icmp .ge 26, 3) := by decide +kernel
theorem dX15_part_11 : decode cX15_part 11 = .ok (.aload_n 0, 1) := by decide +kernel
theorem dX15_part_12 : decode cX15_part 12 = .ok (.getfield 67, 3) := by decide +kernel
theorem dX15_part_15 : decode cX15_part 15 = .ok (.getfield 295, 3) := by decide +kernel
theorem dX15_part_18 : decode cX15_part 18 = .ok (.iload_n 3, 1) := by decide +kernel
theorem dX15_part_19 : decode cX15_part 19 = .ok (.baload, 1) := by decide +kernel
theorem dX15_part_20 : decode cX15_part 20 = .ok (.bipush 46, 2) := by decide +kernel
theorem dX15_part_22 : decode cX15_part 22 = .ok (.if_icmp .ne 6, 3) := by decide +kernel
theorem dX15_part_25 : decode cX15_part 25 = .ok (.iinc 4 1, 3) := by decide +kernel
theorem dX15_part_28 : decode cX15_part 28 = .ok (.iinc 3 1, 3) := by decide +kernel
theorem dX15_part_31 : decode cX15_part 31 = .ok (.goto (-26), 3) := by decide +kernel
theorem dX15_part_34 : decode cX15_part 34 = .ok (.iload_n 3, 1) := by decide +kernel
theorem dX15_part_35 : decode cX15_part 35 = .ok (.aload_n 0, 1) := by decide +kernel
theorem dX15_part_36 : decode cX15_part 36 = .ok (.getfield 67, 3) := by decide +kernel
theorem dX15_part_39 : decode cX15_part 39 = .ok (.getfield 190, 3) := by decide +kernel
theorem dX15_part_42 : decode cX15_part 42 = .ok (.if_icmp .ge 36, 3) := by decide +kernel
theorem dX15_part_45 : decode cX15_part 45 = .ok (.aload_n 0, 1) := by decide +kernel
theorem dX15_part_46 : decode cX15_part 46 = .ok (.getfield 67, 3) := by decide +kernel
theorem dX15_part_49 : decode cX15_part 49 = .ok (.getfield 295, 3) := by decide +kernel
theorem dX15_part_52 : decode cX15_part 52 = .ok (.iload_n 3, 1) := by decide +kernel
theorem dX15_part_53 : decode cX15_part 53 = .ok (.baload, 1) := by decide +kernel
theorem dX15_part_54 : decode cX15_part 54 = .ok (.bipush 46, 2) := by decide +kernel
theorem dX15_part_56 : decode cX15_part 56 = .ok (.if_icmp .eq 22, 3) := by decide +kernel
theorem dX15_part_59 : decode cX15_part 59 = .ok (.aload_n 2, 1) := by decide +kernel
theorem dX15_part_60 : decode cX15_part 60 = .ok (.aload_n 0, 1) := by decide +kernel
theorem dX15_part_61 : decode cX15_part 61 = .ok (.getfield 67, 3) := by decide +kernel
theorem dX15_part_64 : decode cX15_part 64 = .ok (.getfield 295, 3) := by decide +kernel
theorem dX15_part_67 : decode cX15_part 67 = .ok (.iload_n 3, 1) := by decide +kernel
theorem dX15_part_68 : decode cX15_part 68 = .ok (.baload, 1) := by decide +kernel
theorem dX15_part_69 : decode cX15_part 69 = .ok (.invokestatic 284, 3) := by decide +kernel
theorem dX15_part_72 : decode cX15_part 72 = .ok (.iinc 3 1, 3) := by decide +kernel
theorem dX15_part_75 : decode cX15_part 75 = .ok (.goto (-41), 3) := by decide +kernel
theorem dX15_part_78 : decode cX15_part 78 = .ok (.return_, 1) := by decide +kernel
theorem kt_1145 : Cond.code yX15_put cX15_put 2 none ∈ tb := tb_at (i := 1610) (by decide +kernel) (by decide +kernel)
theorem kt_1146 : Cond.methodLink RX15 284 yX15_put ∈ tb := tb_at (i := 1608) (by decide +kernel) (by decide +kernel)
theorem kt_1147 : Cond.static yX15_put ∈ tb := tb_at (i := 1609) (by decide +kernel) (by decide +kernel)
theorem n128 : ∀ c, c < 128 → vp_nar .byte ((nI c).toInt8.toInt32) = nI c := by decide +kernel
theorem tgm_a {U : List Nat} {y c : Nat} {f : Nat → Int32} (h : TGM U y f) (hy : y < 61) : TGM (U ++ [c]) (y + 1) (upd f y (nI c)) := by
  obtain ⟨h1, h3⟩ := h
  have hl : (U ++ [c]).length = U.length + 1 := by rw [List.length_append]; rfl
  have hu : U.length = y := by omega
  refine ⟨by rw [hl]; omega, fun j hj => ?_⟩
  by_cases e : j = y
  · subst e
    rw [updc_at]
    have h9 := apl_r (W := [c]) U 0
    rw [Nat.add_zero, hu] at h9
    rw [h9]
    rfl
  · rw [updc_ne e, h3 j (by omega), apl_l U j (by omega)]
theorem tgm_o {U : List Nat} {y c : Nat} {f : Nat → Int32} (h : TGM U y f) (hy : 61 ≤ y) : TGM (U ++ [c]) y f := by
  obtain ⟨h1, h3⟩ := h
  have hl : (U ++ [c]).length = U.length + 1 := by rw [List.length_append]; rfl
  exact ⟨by rw [hl]; omega, fun j hj => by rw [h3 j hj, apl_l U j (by omega)]⟩
theorem tgm_nil {f : Nat → Int32} : TGM [] 0 f := ⟨rfl, fun j hj => absurd hj (Nat.not_lt_zero _)⟩
theorem tgm_le {U : List Nat} {y : Nat} {f : Nat → Int32} (h : TGM U y f) : y ≤ 61 := by
  have h9 := h.1
  omega
theorem dtc_mo {V : List Nat} {a : Nat} : ∀ b, a ≤ b → dtc V a ≤ dtc V b := by
  intro b
  induction b with
  | zero => intro h; rw [Nat.le_zero.mp h]; exact Nat.le_refl _
  | succ b ih =>
    intro h
    rcases Nat.lt_or_ge b a with q | q
    · rw [show a = b + 1 by omega]
      exact Nat.le_refl _
    · exact Nat.le_trans (ih q) (Nat.le_add_right _ _)
theorem rgL_app {V : List Nat} : ∀ (k a : Nat), rgL V a k ++ [V.getD (a + k) 0] = rgL V a (k + 1)
  | 0, a => rfl
  | k + 1, a => by
    have h9 := rgL_app (V := V) k (a + 1)
    rw [show a + 1 + k = a + (k + 1) by omega] at h9
    exact congrArg (List.cons (V.getD a 0)) h9
def PTI (V : List Nat) (z k j w : Nat) : Prop := (w < k ∧ psw V (z - j) j (k - w) = psT V k) ∨ (w = k ∧ j = psT V k)
theorem pti_0 {V : List Nat} {z k : Nat} (hz : V.length = z) : PTI V z k 0 0 := by
  rcases Nat.eq_zero_or_pos k with q | q
  · subst q
    exact Or.inr ⟨rfl, (psw_z _ _).symm⟩
  · refine Or.inl ⟨q, ?_⟩
    unfold psT
    rw [hz]
    rfl
theorem pti_y {V : List Nat} {z k j w : Nat} (h : PTI V z k j w) (hw : w < k) (hj : j < z) (h1 : V.getD j 0 = 46) : PTI V z k (j + 1) (w + 1) := by
  rcases h with ⟨-, h⟩ | h
  · by_cases c : k - w - 1 = 0
    · exact Or.inr ⟨by omega, (psw_r h hj (by omega) h1 c).symm⟩
    · refine Or.inl ⟨by omega, ?_⟩
      rw [show k - (w + 1) = k - w - 1 by omega]
      exact psw_y h hj (by omega) h1 c
  · omega
theorem pti_n {V : List Nat} {z k j w : Nat} (h : PTI V z k j w) (hw : w < k) (hj : j < z) (h1 : ¬ V.getD j 0 = 46) : PTI V z k (j + 1) w := by
  rcases h with ⟨-, h⟩ | h
  · exact Or.inl ⟨hw, psw_n h hj (by omega) h1⟩
  · omega
theorem pti_e {V : List Nat} {z k j w : Nat} (h : PTI V z k j w) (hw : k ≤ w) : j = psT V k := by
  rcases h with h | h
  · omega
  · exact h.2
theorem ptl_e {V : List Nat} {z k i : Nat} (hz : V.length = z) (h1 : psT V k ≤ i) (h2 : i ≤ z) (h3 : ∀ m, psT V k ≤ m → m < i → ¬ V.getD m 0 = 46) (h4 : z ≤ i ∨ V.getD i 0 = 46) : rgL V (psT V k) (i - psT V k) = ptL V k := by
  have e : fdT (gV V) 46 (psT V k) V.length = i := by
    rw [hz]
    exact fdw_of (z - psT V k) (psT V k) h1 (by omega) h3 (h4.imp (fun q => by omega) id)
  unfold ptL
  rw [e]
set_option maxHeartbeats 4000000 in
set_option maxRecDepth 100000 in
theorem s_X14_add_8 (l : Launch) (dC : Nat → ClassId) (dI : Nat → Nat → Nat) (cs : Nat → ClassId) (ty : TyM) (gm : Nat → Nat → Nat) (L : List Nat) (sz : Nat) (F : Nat → va_E) (h0 : Nat) (ρ : Nat) (r0 : Nat) (n : Nat) (z : Nat) (cc : Nat) (fq : Nat → Int32) (hW : WTm ty gm L) (hL_h0 : h0 ∈ L) (hT_h0 : ty h0 = (14, ρ, [r0, n])) (hF0 : F h0 = .inr (14, [.ref r0, .int (nI z)])) (hFr : F r0 = .inl (cs 17, n, .inl fq)) (hz : z < n) (hcc : cc < 128) : Met l yX14_add (.code yX14_add cX14_add 2 none :: tb) ({ frames := 0, cells := 0, slots := 0, locals := 0 }) (va_Pc [.ref h0, .int (nI cc)] (PTm (dC, dI) cs ty gm L F sz)) (va_Qv (fun _ : Unit => True) (fun _ T9 => ∃ F2 : Nat → va_E, QTm (dC, dI) cs ty gm L [ρ] F F2 (va_A (va_pl L F) sz) T9 ∧ F2 h0 = .inr (14, [.ref r0, .int (nI (z + 1))]) ∧ F2 r0 = .inl (cs 17, n, .inl (upd fq z (nI cc)))) (va_A (va_pl L F) sz)) 0 0 (va_A (va_pl L F) sz) := by
  refine Met.ofW (cc := cX14_add) (maxL := 2) (ret := none) (by decide) rfl ?_
  intro p e s m args below meth c s₁ B hml hv
  obtain ⟨rfl, hsz, hP, hK, hD0, hE, hO⟩ := hv
  have hx := B.exec
  have hb := B.bytes
  have hr := B.returns
  have hts : ∀ w ∈ tb, w.before _ s = true := fun w h => atoms_spec (ws := .code yX14_add cX14_add 2 none :: tb) B.pre w (List.mem_cons_of_mem _ h)
  have hown : s.vm.findClass RX14 = some m.cls := findClass_of_methodNamed B.named
  have hlocks := B.notSynchronized
  subst hsz
  have hD := hD0.self (sz := s.heap.size)
  generalize hAe : va_A (va_pl L F) s.heap.size = A at hD ⊢
  have hA : ∀ q : Nat, s.heap.size ≤ q → A q := fun q h => by rw [← hAe]; exact Or.inr h
  have hS : va_S A s.heap s.heap [] := va_S.rf
  have hR : FR ty [ρ] F F := FR.refl
  have hl := lv_entry ([.ref h0, .int (nI cc)]) (n := 2) (Nat.le_of_ble_eq_true rfl)
  rw [lg_entry_eq]
  generalize (lg_sl ([.ref h0, .int (nI cc)]) ++ List.replicate (2 - (lg_sl ([.ref h0, .int (nI cc)])).length) Slot.unset).toArray = ls at hl ⊢
  have hl : lv_has ls 2 [(0, .ref h0), (1, .int (nI cc))] := hl
  obtain ⟨hi_1, ht_2, hq_3⟩ := hW.txt hL_h0 hT_h0
  have hBF := bfmo hFr (hO.octs hi_1 ht_2)
  refine lv_aload_n hx hb dX14_add_0 rfl (lv_at hl 0 rfl) ?_
  refine pg_get (ci := 14) (v := .ref r0) (C := RX14) (T := TX14) (N := 2) hx hb hts it_14 hown hK hP hL_h0 hF0 rfl 0 (by decide) (hts _ kt_672) (fun _ h9 => h9) rfl dX14_add_1 ?_
  refine lv_aload_n hx hb dX14_add_4 rfl (lv_at hl 0 rfl) ?_
  refine pg_get (ci := 14) (v := .int (nI z)) (C := RX14) (T := TX14) (N := 2) hx hb hts it_14 hown hK hP hL_h0 hF0 rfl 1 (by decide) (hts _ kt_673) (fun _ h9 => h9) rfl dX14_add_5 ?_
  refine lv_iload_n hx hb dX14_add_8 rfl (lv_at hl 1 rfl) ?_
  refine lv_i2b hx hb dX14_add_9 rfl ?_
  refine lv_topi (fun x_4 ex_4 => ?_)
  obtain rfl : x_4 = ((nI cc).toInt8.toInt32) := ex_4.trans (rfl)
  obtain ⟨hq_5, hq_6⟩ := hW.octs hi_1 ht_2
  refine pg_bast hx hb hK hP hD hS hi_1 1 hFr rfl (vp_in_nI (by omega) (by omega)) dX14_add_10 (fun H locs hP hD hS => ?_)
  obtain ⟨F_7, he_8, hP, hD, hO, hR⟩ : ∃ G, G = va_up F r0 (.inl (cs 17, n, .inl (upd fq ((nI z)).toNatClampNeg (vp_nar .byte (((nI cc).toInt8.toInt32)))))) ∧ va_P (dC, dI) vwCl (va_pl L G) H ∧ va_D A (va_pl L G) ∧ OKm cs ty gm L G ∧ FR ty [ρ] F G := ⟨_, rfl, hP, hD, hO.up (shm.octs ht_2 ⟨_, rfl, bfm_upd hBF _ _⟩), hR.up ht_2 (by simp)⟩
  have hF_9 : F_7 r0 = .inl (cs 17, n, .inl (upd fq ((nI z)).toNatClampNeg (vp_nar .byte (((nI cc).toInt8.toInt32))))) := by rw [he_8]; exact up_self
  have hF_10 : F_7 h0 = .inr (14, [.ref r0, .int (nI z)]) := by rw [he_8, up_ne (ne_ty hT_h0 ht_2 (by simp))]; exact hF0
  obtain ⟨f_11, hF_9, hq_12, hfe_13⟩ : ∃ f : Nat → Int32, F_7 r0 = .inl (cs 17, n, .inl f) ∧ BFm f ∧ f = upd fq ((nI z)).toNatClampNeg (vp_nar .byte (((nI cc).toInt8.toInt32))) := ⟨_, hF_9, bfm_upd hBF _ _, rfl⟩
  refine lv_aload_n hx hb dX14_add_11 rfl (lv_at hl 0 rfl) ?_
  refine lv_dup hx hb dX14_add_12 rfl ?_
  refine pg_get (ci := 14) (v := .int (nI z)) (C := RX14) (T := TX14) (N := 2) hx hb hts it_14 hown hK hP hL_h0 hF_10 rfl 1 (by decide) (hts _ kt_673) (fun _ h9 => h9) rfl dX14_add_13 ?_
  refine lv_iconst (v := 1) hx hb dX14_add_16 (by decide) ?_
  refine lv_iadd hx hb dX14_add_17 ?_
  refine lv_topi (fun x_14 ex_14 => ?_)
  obtain rfl : x_14 = (nI (z + 1)) := ex_14.trans (nI_add z 1)
  refine pg_put (ci := 14) (v := .int (nI (z + 1))) (ty := .int) (C := RX14) (T := TX14) (N := 2) hx hb hts it_14 tyX14 tyX14_ok nmX14 hown hK hP hD hS hL_h0 hF_10 rfl 1 (by decide) (hts _ kt_673) (fun _ h9 => h9) rfl (by decide +kernel) (rfl) (rfl) (Nat.le_of_ble_eq_true rfl) dX14_add_18 (fun H locs hP hD hS => ?_)
  obtain ⟨F_15, he_16, hP, hD, hO, hR⟩ : ∃ G, G = va_up F_7 h0 (.inr (14, [.ref r0, .int (nI (z + 1))])) ∧ va_P (dC, dI) vwCl (va_pl L G) H ∧ va_D A (va_pl L G) ∧ OKm cs ty gm L G ∧ FR ty [ρ] F G := ⟨_, rfl, hP, hD, hO.up (shm.txt hT_h0 ⟨(z + 1), rfl, (by first | omega | assumption | exact Or.inl rfl | exact Or.inr rfl)⟩), hR.up hT_h0 (by simp)⟩
  have hF_17 : F_15 h0 = .inr (14, [.ref r0, .int (nI (z + 1))]) := by rw [he_16]; exact up_self
  have hF_18 : F_15 r0 = .inl (cs 17, n, .inl f_11) := by rw [he_16, up_ne (ne_ty ht_2 hT_h0 (by simp))]; exact hF_9
  refine W.widen (k := 0) (n := 0) (by omega) (by omega) ?_
  exact W.vret hx hb hr (fun t ht hWm => ⟨⟨(), rfl, trivial, ⟨F_15, QTm.mk ht hP hD hO hR, hF_17, (by rw [hF_18, hfe_13, nI_clamp (by omega), n128 cc hcc])⟩⟩, hS.F ht⟩) hS.2.2 dX14_add_21
set_option maxHeartbeats 4000000 in
set_option maxRecDepth 100000 in
theorem s_X15_put_x (l : Launch) (dC : Nat → ClassId) (dI : Nat → Nat → Nat) (cs : Nat → ClassId) (ty : TyM) (gm : Nat → Nat → Nat) (L : List Nat) (sz : Nat) (F : Nat → va_E) (h0 : Nat) (ρ : Nat) (r0 : Nat) (n : Nat) (z : Nat) (cc : Nat) (fq : Nat → Int32) (U : List Nat) (hW : WTm ty gm L) (hL_h0 : h0 ∈ L) (hT_h0 : ty h0 = (14, ρ, [r0, n])) (hF0 : F h0 = .inr (14, [.ref r0, .int (nI z)])) (hFr : F r0 = .inl (cs 17, n, .inl fq)) (hTU : TGM U z fq) (hn61 : 61 ≤ n) (hcc : cc < 128) : Met l yX15_put (.code yX15_put cX15_put 2 none :: tb) ({ frames := 1, cells := 0, slots := 0, locals := 21 }) (va_Pc [.ref h0, .int (nI cc)] (PTm (dC, dI) cs ty gm L F sz)) (va_Qv (fun _ : Unit => True) (fun _ T9 => ∃ F2 : Nat → va_E, ∃ y2 : Nat, ∃ f2 : Nat → Int32, QTm (dC, dI) cs ty gm L [ρ] F F2 (va_A (va_pl L F) sz) T9 ∧ F2 h0 = .inr (14, [.ref r0, .int (nI y2)]) ∧ F2 r0 = .inl (cs 17, n, .inl f2) ∧ TGM (U ++ [cc]) y2 f2) (va_A (va_pl L F) sz)) 0 0 (va_A (va_pl L F) sz) := by
  refine Met.ofW (cc := cX15_put) (maxL := 2) (ret := none) (by decide) rfl ?_
  intro p e s m args below meth c s₁ B hml hv
  obtain ⟨rfl, hsz, hP, hK, hD0, hE, hO⟩ := hv
  have hx := B.exec
  have hb := B.bytes
  have hr := B.returns
  have hts : ∀ w ∈ tb, w.before _ s = true := fun w h => atoms_spec (ws := .code yX15_put cX15_put 2 none :: tb) B.pre w (List.mem_cons_of_mem _ h)
  have hown : s.vm.findClass RX15 = some m.cls := findClass_of_methodNamed B.named
  have hlocks := B.notSynchronized
  subst hsz
  have hD := hD0.self (sz := s.heap.size)
  generalize hAe : va_A (va_pl L F) s.heap.size = A at hD ⊢
  have hA : ∀ q : Nat, s.heap.size ≤ q → A q := fun q h => by rw [← hAe]; exact Or.inr h
  have hS : va_S A s.heap s.heap [] := va_S.rf
  have hR : FR ty [ρ] F F := FR.refl
  have hl := lv_entry ([.ref h0, .int (nI cc)]) (n := 2) (Nat.le_of_ble_eq_true rfl)
  rw [lg_entry_eq]
  generalize (lg_sl ([.ref h0, .int (nI cc)]) ++ List.replicate (2 - (lg_sl ([.ref h0, .int (nI cc)])).length) Slot.unset).toArray = ls at hl ⊢
  have hl : lv_has ls 2 [(0, .ref h0), (1, .int (nI cc))] := hl
  obtain ⟨hi_1, ht_2, hq_3⟩ := hW.txt hL_h0 hT_h0
  have hz61 := tgm_le hTU
  refine lv_aload_n hx hb dX15_put_0 rfl (lv_at hl 0 rfl) ?_
  refine pg_get (ci := 14) (v := .int (nI z)) (C := RX14) (T := TX14) (N := 2) hx hb hts it_14 hown hK hP hL_h0 hF0 rfl 1 (by decide) (hts _ kt_709) (fun _ h9 => h9) rfl dX15_put_1 ?_
  refine lv_bipush (v := 60) hx hb dX15_put_4 (by decide) ?_
  refine lv_icmp_gt (tgt := 14) hx hb dX15_put_6 (by decide) (fun c_4 => ?_) (fun c_4 => ?_)
  ·
    have hi_5 : 60 < z := (nI_ltI (a := 60) (b := z) (by omega) (by omega)).mp c_4
    refine W.widen (k := 0) (n := 0) (by omega) (by omega) ?_
    exact W.vret hx hb hr (fun t ht hWm => ⟨⟨(), rfl, trivial, ⟨F, z, fq, QTm.mk ht hP hD hO hR, hF0, hFr, (tgm_o hTU (by omega))⟩⟩, hS.F ht⟩) hS.2.2 dX15_put_14
  ·
    have hi_6 : z ≤ 60 := Nat.not_lt.mp (fun q => c_4 ((nI_ltI (a := 60) (b := z) (by omega) (by omega)).mpr q))
    refine lv_aload_n hx hb dX15_put_9 rfl (lv_at hl 0 rfl) ?_
    refine lv_iload_n hx hb dX15_put_10 rfl (lv_at hl 1 rfl) ?_
    obtain ⟨hq_7, hq_8⟩ := hW.octs hi_1 ht_2
    have hFc := pg_free hD hS hA
    refine va_callv (va_runV (As := [.int (nI cc)]) (rest := []) ⟨hx, hb, hml, hown, hts⟩ (s_X14_add_8 l dC dI cs ty gm L s.heap.size F h0 ρ r0 n z cc fq hW hL_h0 hT_h0 hF0 hFr (by omega) (hcc)) ⟨callB_of 1 hts (gi kt_711) rfl rfl rfl (hts _ kt_676) (hts _ kt_712) (by decide +kernel) ⟨Nat.le_of_ble_eq_true rfl, Nat.le_of_ble_eq_true rfl⟩, (hts _ kt_713), (hts _ kt_714)⟩ ⟨fun a U g mk q => ⟨q.1, PTm.calling q.2⟩, pg_recv hK hP hL_h0 hF0 (q := (RX14, TX14, 2)) rfl, fun U hU hWm => ⟨rfl, PTm.mk hU hWm hP hK hD hE hO⟩⟩ rfl rfl hl.1 rfl (lv_room (Nat.le_of_ble_eq_true rfl)) dX15_put_11 ⟨by show _ + 0 ≤ 0; omega, by show _ + 0 ≤ 0; omega⟩) hS (fun q _ h => hFc q h) hFc (fun u t H1 locs ht hvm hw hB hz1 hk1 hS => ?_)
    obtain ⟨F_10, hB1, hq_11, hq_12⟩ := hB
    obtain ⟨hP, hD, hO, hR⟩ := QTm.back hB1 ht hFc hR (fun q h => by simp only [List.mem_cons, List.not_mem_nil, or_false] at h ⊢; omega)
    generalize H1 = H at hP hS ⊢
    refine W.widen (k := 0) (n := 0) (by omega) (by omega) ?_
    exact W.vret hx hb hr (fun t ht hWm => ⟨⟨(), rfl, trivial, ⟨F_10, (z + 1), (upd fq z (nI cc)), QTm.mk ht hP hD hO hR, hq_11, hq_12, (tgm_a hTU (by omega))⟩⟩, hS.F ht⟩) hS.2.2 dX15_put_14
set_option maxHeartbeats 4000000 in
set_option maxRecDepth 100000 in
theorem s_X15_part_x (l : Launch) (dC : Nat → ClassId) (dI : Nat → Nat → Nat) (cs : Nat → ClassId) (ty : TyM) (gm : Nat → Nat → Nat) (L : List Nat) (sz : Nat) (F : Nat → va_E) (h0 : Nat) (ρ : Nat) (ta : Nat) (ou : Nat) (so : Nat) (ad : Nat) (na : Nat) (va : Nat) (lc : Nat) (dm : Nat) (tg : Nat) (pe : Nat) (ml : Nat) (bg : Nat) (co : Nat) (sp : Nat) (nb0 : Nat) (nb1 : Nat) (nb2 : Nat) (pl : Nat) (se : Nat) (ke : Nat) (wi : Nat) (hs : Nat) (mo : Nat) (po : Nat) (nu : Nat) (pr : Nat) (sq : Nat) (xa : Nat) (sa : Nat) (n64 : Nat) (m64 : Nat) (ex : Nat) (wh : Nat) (sd : Nat) (tk : Nat) (hd : Nat) (ak : Nat) (ho : Nat) (ot : Nat) (sx : Nat) (s0 : Nat) (s1 : Nat) (s2 : Nat) (nf : Nat) (bd : Nat) (mm : Nat) (zo : Nat) (fm : Nat) (sn : Nat) (hg : Nat) (gc : Nat) (gv : Nat) (ze : Nat) (zt : Nat) (rp : Nat) (g2 : Nat) (κ : Nat) (r2 : Nat) (k : Nat) (z : Nat) (y : Nat) (fp : Nat → Int32) (fi : Nat → Int32) (V : List Nat) (U : List Nat) (hW : WTm ty gm L) (hL_h0 : h0 ∈ L) (hT_h0 : ty h0 = (15, ρ, [ta, ou, so, ad, na, va, lc, dm, tg, pe, ml, bg, co, sp, nb0, nb1, nb2, pl, se, ke, wi, hs, mo, po, nu, pr, sq, xa, sa, n64, m64, ex, wh, sd, tk, hd, ak, ho, ot, sx, s0, s1, s2, nf, bd, mm, zo, fm, sn, hg, gc, gv, ze, zt])) (hL_pe : pe ∈ L) (hT_pe : ty pe = (14, ρ + 7, [rp, 100])) (hL_g2 : g2 ∈ L) (hT_g2 : ty g2 = (14, κ, [r2, 61])) (hFp : F pe = .inr (14, [.ref rp, .int (nI z)])) (hFr : F rp = .inl (cs 17, 100, .inl fp)) (hFi : F g2 = .inr (14, [.ref r2, .int (nI y)])) (hFj : F r2 = .inl (cs 17, 61, .inl fi)) (hTU : TGM U y fi) (hkr : ρ + 300 ≤ κ) (hz : z ≤ 100) (hV : SRC V z fp) (hk : k ≤ dtc V z) : Met l yX15_part (.code yX15_part cX15_part 5 none :: tb) ({ frames := 2, cells := 0, slots := 0, locals := 42 }) (va_Pc [.ref h0, .int (nI k), .ref g2] (PTm (dC, dI) cs ty gm L F sz)) (va_Qv (fun _ : Unit => True) (fun _ T9 => ∃ F2 : Nat → va_E, ∃ y2 : Nat, ∃ f2 : Nat → Int32, QTm (dC, dI) cs ty gm L [κ] F F2 (va_A (va_pl L F) sz) T9 ∧ F2 g2 = .inr (14, [.ref r2, .int (nI y2)]) ∧ F2 r2 = .inl (cs 17, 61, .inl f2) ∧ TGM (U ++ ptL V k) y2 f2) (va_A (va_pl L F) sz)) 0 0 (va_A (va_pl L F) sz) := by
  refine Met.ofW (cc := cX15_part) (maxL := 5) (ret := none) (by decide) rfl ?_
  intro p e s m args below meth c s₁ B hml hv
  obtain ⟨rfl, hsz, hP, hK, hD0, hE, hO⟩ := hv
  have hx := B.exec
  have hb := B.bytes
  have hr := B.returns
  have hts : ∀ w ∈ tb, w.before _ s = true := fun w h => atoms_spec (ws := .code yX15_part cX15_part 5 none :: tb) B.pre w (List.mem_cons_of_mem _ h)
  have hown : s.vm.findClass RX15 = some m.cls := findClass_of_methodNamed B.named
  have hlocks := B.notSynchronized
  subst hsz
  have hD := hD0.self (sz := s.heap.size)
  generalize hAe : va_A (va_pl L F) s.heap.size = A at hD ⊢
  have hA : ∀ q : Nat, s.heap.size ≤ q → A q := fun q h => by rw [← hAe]; exact Or.inr h
  have hS : va_S A s.heap s.heap [] := va_S.rf
  have hR : FR ty [κ] F F := FR.refl
  have hl := lv_entry ([.ref h0, .int (nI k), .ref g2]) (n := 5) (Nat.le_of_ble_eq_true rfl)
  rw [lg_entry_eq]
  generalize (lg_sl ([.ref h0, .int (nI k), .ref g2]) ++ List.replicate (5 - (lg_sl ([.ref h0, .int (nI k), .ref g2])).length) Slot.unset).toArray = ls at hl ⊢
  have hl : lv_has ls 5 [(0, .ref h0), (1, .int (nI k)), (2, .ref g2)] := hl
  obtain ⟨hq_22, hq_23, hq_24, hq_25, hq_26, hgO, hgA, hgB, hq_27⟩ := hW.sc hL_h0 hT_h0
  obtain ⟨hi_28, ht_29, hq_30⟩ := hW.txt hL_pe hT_pe
  obtain ⟨hi_31, ht_32, hq_33⟩ := hW.txt hL_g2 hT_g2
  obtain ⟨v14_34, v15_35, v17_36, v18_37, v19_38, v20_39, v21_40, v22_41, v33_42, v52_43, v53_44, v54_45, hF_46, hq_47, hq_48, hq_49, hq_50, hq_51⟩ := hO.mod hL_h0 hT_h0
  obtain ⟨hq_52, hq_53⟩ := hW.octs hi_28 ht_29
  have hdb := dtc_le (V := V) z
  refine lv_iconst (v := 0) hx hb dX15_part_0 (by decide) ?_
  refine lv_istore_n (lv' := [(3, .int 0), (0, .ref h0), (1, .int (nI k)), (2, .ref g2)]) hx hb dX15_part_1 rfl hl (by decide) rfl (fun ls hl => ?_)
  refine lv_iconst (v := 0) hx hb dX15_part_2 (by decide) ?_
  refine lv_istore (lv' := [(4, .int 0), (3, .int 0), (0, .ref h0), (1, .int (nI k)), (2, .ref g2)]) hx hb dX15_part_3 hl (by decide) rfl (fun ls hl => ?_)
  refine W.widen (k := 0) (n := 0) (by omega) (by omega) ?_
  have hF_55 : F pe = .inr (14, [.ref rp, .int (nI z)]) := (hR pe (by rw [hT_pe]; simp only [List.mem_cons, List.not_mem_nil, or_false]; omega)).symm.trans hFp
  have hF_56 : F rp = .inl (cs 17, 100, .inl fp) := (hR rp (by rw [ht_29]; simp only [List.mem_cons, List.not_mem_nil, or_false]; omega)).symm.trans hFr
  have hF_57 : F h0 = .inr (15, (.ref ta) :: (.int (nI zt)) :: (.int (nI zo)) :: (.int (nI ze)) :: (.ref ou) :: (.ref so) :: (.ref ad) :: (.ref na) :: (.ref va) :: (.ref lc) :: (.ref dm) :: (.int (nI fm)) :: (.int (nI sn)) :: (.ref tg) :: (.int v14_34) :: (.int v15_35) :: (.ref pe) :: (.int v17_36) :: (.int v18_37) :: (.int v19_38) :: (.int v20_39) :: (.int v21_40) :: (.int v22_41) :: (.ref ml) :: (.ref bg) :: (.ref co) :: (.ref sp) :: (.ref nb0) :: (.ref nb1) :: (.ref nb2) :: (.int (nI nf)) :: (.int (nI bd)) :: (.int (nI mm)) :: (.int v33_42) :: (.ref pl) :: (.ref se) :: (.ref ke) :: (.ref wi) :: (.ref hs) :: (.ref mo) :: (.ref po) :: (.ref nu) :: (.ref pr) :: (.ref sq) :: (.ref xa) :: (.ref sa) :: (.ref n64) :: (.ref m64) :: (.ref ex) :: (.ref wh) :: (.ref sd) :: (.ref tk) :: (.int v52_43) :: (.int v53_44) :: (.int v54_45) :: (.ref hd) :: (.ref ak) :: (.ref ho) :: (.ref ot) :: []) := (hR h0 (by rw [hT_h0]; simp only [List.mem_cons, List.not_mem_nil, or_false]; omega)).symm.trans hF_46
  refine pl_loopm (σ := Nat × Nat) A (dC, dI) cs ty gm L [κ] F 5 5 (fun (j, w) => [(4, .int (nI w)), (3, .int (nI j)), (0, .ref h0), (1, .int (nI k)), (2, .ref g2)]) (fun (j, w) => []) (fun (j, w) FF => w = dtc V j ∧ j ≤ z ∧ PTI V z k j w ∧ FF g2 = .inr (14, [.ref r2, .int (nI y)]) ∧ FF r2 = .inl (cs 17, 61, .inl fi)) (fun (j, w) => z - j) ?_ (0, 0) F (⟨rfl, Nat.zero_le _, pti_0 hV.1, hFi, hFj⟩) hO hR _ _ hP hD hS ls (lv_sub hl [0, 1, 2, 3, 4] rfl)
  rintro ⟨j, w⟩ F_54 hv_58 hO hR ih_59 H locs hP hD hS ls hl
  have hl : lv_has ls 5 [(4, .int (nI w)), (3, .int (nI j)), (0, .ref h0), (1, .int (nI k)), (2, .ref g2)] := hl
  have hv_58 : w = dtc V j ∧ j ≤ z ∧ PTI V z k j w ∧ F_54 g2 = .inr (14, [.ref r2, .int (nI y)]) ∧ F_54 r2 = .inl (cs 17, 61, .inl fi) := hv_58
  refine W.eq (g2 := F0 m 5 ls []) rfl ?_
  have hF_60 : F_54 pe = .inr (14, [.ref rp, .int (nI z)]) := (hR pe (by rw [hT_pe]; simp only [List.mem_cons, List.not_mem_nil, or_false]; omega)).trans hF_55
  have hF_61 : F_54 rp = .inl (cs 17, 100, .inl fp) := (hR rp (by rw [ht_29]; simp only [List.mem_cons, List.not_mem_nil, or_false]; omega)).trans hF_56
  have hF_62 : F_54 h0 = .inr (15, (.ref ta) :: (.int (nI zt)) :: (.int (nI zo)) :: (.int (nI ze)) :: (.ref ou) :: (.ref so) :: (.ref ad) :: (.ref na) :: (.ref va) :: (.ref lc) :: (.ref dm) :: (.int (nI fm)) :: (.int (nI sn)) :: (.ref tg) :: (.int v14_34) :: (.int v15_35) :: (.ref pe) :: (.int v17_36) :: (.int v18_37) :: (.int v19_38) :: (.int v20_39) :: (.int v21_40) :: (.int v22_41) :: (.ref ml) :: (.ref bg) :: (.ref co) :: (.ref sp) :: (.ref nb0) :: (.ref nb1) :: (.ref nb2) :: (.int (nI nf)) :: (.int (nI bd)) :: (.int (nI mm)) :: (.int v33_42) :: (.ref pl) :: (.ref se) :: (.ref ke) :: (.ref wi) :: (.ref hs) :: (.ref mo) :: (.ref po) :: (.ref nu) :: (.ref pr) :: (.ref sq) :: (.ref xa) :: (.ref sa) :: (.ref n64) :: (.ref m64) :: (.ref ex) :: (.ref wh) :: (.ref sd) :: (.ref tk) :: (.int v52_43) :: (.int v53_44) :: (.int v54_45) :: (.ref hd) :: (.ref ak) :: (.ref ho) :: (.ref ot) :: []) := (hR h0 (by rw [hT_h0]; simp only [List.mem_cons, List.not_mem_nil, or_false]; omega)).trans hF_57
  obtain ⟨hv1, hv2, hv3, hv4, hv5⟩ := hv_58
  have hdj := dtc_le (V := V) j
  refine lv_iload hx hb dX15_part_5 (lv_at hl 0 rfl) ?_
  refine lv_iload_n hx hb dX15_part_7 rfl (lv_at hl 3 rfl) ?_
  refine lv_icmp_ge (tgt := 34) hx hb dX15_part_8 (by decide) (fun c_63 => ?_) (fun c_63 => ?_)
  ·
    have hi_64 : k ≤ w := leN (N := k) c_63
    have hjp : j = (psT V k) := pti_e hv3 (by omega)
    refine W.widen (k := 0) (n := 0) (by omega) (by omega) ?_
    have hF_66 : F pe = .inr (14, [.ref rp, .int (nI z)]) := (hR pe (by rw [hT_pe]; simp only [List.mem_cons, List.not_mem_nil, or_false]; omega)).symm.trans hF_60
    have hF_67 : F rp = .inl (cs 17, 100, .inl fp) := (hR rp (by rw [ht_29]; simp only [List.mem_cons, List.not_mem_nil, or_false]; omega)).symm.trans hF_61
    have hF_68 : F h0 = .inr (15, (.ref ta) :: (.int (nI zt)) :: (.int (nI zo)) :: (.int (nI ze)) :: (.ref ou) :: (.ref so) :: (.ref ad) :: (.ref na) :: (.ref va) :: (.ref lc) :: (.ref dm) :: (.int (nI fm)) :: (.int (nI sn)) :: (.ref tg) :: (.int v14_34) :: (.int v15_35) :: (.ref pe) :: (.int v17_36) :: (.int v18_37) :: (.int v19_38) :: (.int v20_39) :: (.int v21_40) :: (.int v22_41) :: (.ref ml) :: (.ref bg) :: (.ref co) :: (.ref sp) :: (.ref nb0) :: (.ref nb1) :: (.ref nb2) :: (.int (nI nf)) :: (.int (nI bd)) :: (.int (nI mm)) :: (.int v33_42) :: (.ref pl) :: (.ref se) :: (.ref ke) :: (.ref wi) :: (.ref hs) :: (.ref mo) :: (.ref po) :: (.ref nu) :: (.ref pr) :: (.ref sq) :: (.ref xa) :: (.ref sa) :: (.ref n64) :: (.ref m64) :: (.ref ex) :: (.ref wh) :: (.ref sd) :: (.ref tk) :: (.int v52_43) :: (.int v53_44) :: (.int v54_45) :: (.ref hd) :: (.ref ak) :: (.ref ho) :: (.ref ot) :: []) := (hR h0 (by rw [hT_h0]; simp only [List.mem_cons, List.not_mem_nil, or_false]; omega)).symm.trans hF_62
    refine pl_loopm (σ := Nat × Nat × (Nat → Int32)) A (dC, dI) cs ty gm L [κ] F 34 5 (fun (i, yy, fq) => [(3, .int (nI i)), (0, .ref h0), (1, .int (nI k)), (2, .ref g2)]) (fun (i, yy, fq) => []) (fun (i, yy, fq) FF => (psT V k) ≤ i ∧ i ≤ z ∧ (∀ m, (psT V k) ≤ m → m < i → ¬ V.getD m 0 = 46) ∧ FF g2 = .inr (14, [.ref r2, .int (nI yy)]) ∧ FF r2 = .inl (cs 17, 61, .inl fq) ∧ TGM (U ++ rgL V (psT V k) (i - (psT V k))) yy fq) (fun (i, yy, fq) => z - i) ?_ (j, y, fi) F_54 (⟨by omega, by omega, fun m h1 h2 => absurd h2 (by omega), hv4, hv5, by rw [show j - (psT V k) = 0 by omega]; show TGM (U ++ []) y fi; rw [List.append_nil]; exact hTU⟩) hO hR _ _ hP hD hS ls (lv_sub hl [1, 2, 3, 4] rfl)
    rintro ⟨i, yy, fq⟩ F_65 hv_69 hO hR ih_70 H locs hP hD hS ls hl
    have hl : lv_has ls 5 [(3, .int (nI i)), (0, .ref h0), (1, .int (nI k)), (2, .ref g2)] := hl
    have hv_69 : (psT V k) ≤ i ∧ i ≤ z ∧ (∀ m, (psT V k) ≤ m → m < i → ¬ V.getD m 0 = 46) ∧ F_65 g2 = .inr (14, [.ref r2, .int (nI yy)]) ∧ F_65 r2 = .inl (cs 17, 61, .inl fq) ∧ TGM (U ++ rgL V (psT V k) (i - (psT V k))) yy fq := hv_69
    refine W.eq (g2 := F0 m 34 ls []) rfl ?_
    have hF_71 : F_65 pe = .inr (14, [.ref rp, .int (nI z)]) := (hR pe (by rw [hT_pe]; simp only [List.mem_cons, List.not_mem_nil, or_false]; omega)).trans hF_66
    have hF_72 : F_65 rp = .inl (cs 17, 100, .inl fp) := (hR rp (by rw [ht_29]; simp only [List.mem_cons, List.not_mem_nil, or_false]; omega)).trans hF_67
    have hF_73 : F_65 h0 = .inr (15, (.ref ta) :: (.int (nI zt)) :: (.int (nI zo)) :: (.int (nI ze)) :: (.ref ou) :: (.ref so) :: (.ref ad) :: (.ref na) :: (.ref va) :: (.ref lc) :: (.ref dm) :: (.int (nI fm)) :: (.int (nI sn)) :: (.ref tg) :: (.int v14_34) :: (.int v15_35) :: (.ref pe) :: (.int v17_36) :: (.int v18_37) :: (.int v19_38) :: (.int v20_39) :: (.int v21_40) :: (.int v22_41) :: (.ref ml) :: (.ref bg) :: (.ref co) :: (.ref sp) :: (.ref nb0) :: (.ref nb1) :: (.ref nb2) :: (.int (nI nf)) :: (.int (nI bd)) :: (.int (nI mm)) :: (.int v33_42) :: (.ref pl) :: (.ref se) :: (.ref ke) :: (.ref wi) :: (.ref hs) :: (.ref mo) :: (.ref po) :: (.ref nu) :: (.ref pr) :: (.ref sq) :: (.ref xa) :: (.ref sa) :: (.ref n64) :: (.ref m64) :: (.ref ex) :: (.ref wh) :: (.ref sd) :: (.ref tk) :: (.int v52_43) :: (.int v53_44) :: (.int v54_45) :: (.ref hd) :: (.ref ak) :: (.ref ho) :: (.ref ot) :: []) := (hR h0 (by rw [hT_h0]; simp only [List.mem_cons, List.not_mem_nil, or_false]; omega)).trans hF_68
    obtain ⟨hu1, hu2, hu3, hu4, hu5, hu6⟩ := hv_69
    refine lv_iload_n hx hb dX15_part_34 rfl (lv_at hl 0 rfl) ?_
    refine lv_aload_n hx hb dX15_part_35 rfl (lv_at hl 1 rfl) ?_
    refine pg_get (ci := 15) (v := .ref pe) (C := RX15) (T := TX15) (N := 59) hx hb hts it_15 hown hK hP hL_h0 hF_73 rfl 16 (by decide) (hts _ kt_1126) (fun _ h9 => h9) rfl dX15_part_36 ?_
    refine pg_get (ci := 14) (v := .int (nI z)) (C := RX14) (T := TX14) (N := 2) hx hb hts it_14 hown hK hP hL_pe hF_71 rfl 1 (by decide) (hts _ kt_709) (fun _ h9 => h9) rfl dX15_part_39 ?_
    refine lv_icmp_ge (tgt := 78) hx hb dX15_part_42 (by decide) (fun c_74 => ?_) (fun c_74 => ?_)
    ·
      have hi_75 : z ≤ i := leN (N := z) c_74
      refine W.widen (k := 0) (n := 0) (by omega) (by omega) ?_
      exact W.vret hx hb hr (fun t ht hWm => ⟨⟨(), rfl, trivial, ⟨F_65, yy, fq, QTm.mk ht hP hD hO hR, hu4, hu5, (by have h9 := hu6; rw [ptl_e hV.1 hu1 hu2 hu3 (Or.inl (by omega))] at h9; exact h9)⟩⟩, hS.F ht⟩) hS.2.2 dX15_part_78
    ·
      have hi_76 : i < z := ltN (N := z) c_74
      refine lv_aload_n hx hb dX15_part_45 rfl (lv_at hl 1 rfl) ?_
      refine pg_get (ci := 15) (v := .ref pe) (C := RX15) (T := TX15) (N := 59) hx hb hts it_15 hown hK hP hL_h0 hF_73 rfl 16 (by decide) (hts _ kt_1126) (fun _ h9 => h9) rfl dX15_part_46 ?_
      refine pg_get (ci := 14) (v := .ref rp) (C := RX14) (T := TX14) (N := 2) hx hb hts it_14 hown hK hP hL_pe hF_71 rfl 0 (by decide) (hts _ kt_710) (fun _ h9 => h9) rfl dX15_part_49 ?_
      refine lv_iload_n hx hb dX15_part_52 rfl (lv_at hl 0 rfl) ?_
      refine pg_bald hx hb hK hP hi_28 1 hF_72 rfl (vp_in_nI (by omega) (by omega)) dX15_part_53 ?_
      refine lv_topi (fun x_77 ex_77 => ?_)
      obtain rfl : x_77 = (nI (V.getD i 0)) := ex_77.trans ((congrArg fp (nI_clamp (by omega))).trans (hV.2.1 i (by omega)))
      have hcd := hV.2.2 i (by omega)
      refine lv_bipush (v := 46) hx hb dX15_part_54 (by decide) ?_
      refine lv_icmp_eq (tgt := 78) hx hb dX15_part_56 (by decide) (fun c_78 => ?_) (fun c_78 => ?_)
      ·
        have hi_79 : (V.getD i 0) = 46 := (nI_eq (a := (V.getD i 0)) (b := 46) (by omega) (by omega)).mp c_78
        have hd2 : V.getD i 0 = 46 := (nI_eq (b := 46) (by omega) (by omega)).mp c_78
        refine W.widen (k := 0) (n := 0) (by omega) (by omega) ?_
        exact W.vret hx hb hr (fun t ht hWm => ⟨⟨(), rfl, trivial, ⟨F_65, yy, fq, QTm.mk ht hP hD hO hR, hu4, hu5, (by have h9 := hu6; rw [ptl_e hV.1 hu1 hu2 hu3 (Or.inr hd2)] at h9; exact h9)⟩⟩, hS.F ht⟩) hS.2.2 dX15_part_78
      ·
        have hi_80 : (V.getD i 0) ≠ 46 := fun q => c_78 (by rw [q]; rfl)
        have hd2 : ¬ V.getD i 0 = 46 := fun q => c_78 (by rw [q]; rfl)
        refine lv_aload_n hx hb dX15_part_59 rfl (lv_at hl 3 rfl) ?_
        refine lv_aload_n hx hb dX15_part_60 rfl (lv_at hl 1 rfl) ?_
        refine pg_get (ci := 15) (v := .ref pe) (C := RX15) (T := TX15) (N := 59) hx hb hts it_15 hown hK hP hL_h0 hF_73 rfl 16 (by decide) (hts _ kt_1126) (fun _ h9 => h9) rfl dX15_part_61 ?_
        refine pg_get (ci := 14) (v := .ref rp) (C := RX14) (T := TX14) (N := 2) hx hb hts it_14 hown hK hP hL_pe hF_71 rfl 0 (by decide) (hts _ kt_710) (fun _ h9 => h9) rfl dX15_part_64 ?_
        refine lv_iload_n hx hb dX15_part_67 rfl (lv_at hl 0 rfl) ?_
        refine pg_bald hx hb hK hP hi_28 1 hF_72 rfl (vp_in_nI (by omega) (by omega)) dX15_part_68 ?_
        refine lv_topi (fun x_81 ex_81 => ?_)
        obtain rfl : x_81 = (nI (V.getD i 0)) := ex_81.trans ((congrArg fp (nI_clamp (by omega))).trans (hV.2.1 i (by omega)))
        obtain ⟨hq_82, hq_83⟩ := hW.octs hi_31 ht_32
        have hFc := pg_free hD hS hA
        refine va_callv (va_runS (As := [.ref g2, .int (nI (V.getD i 0))]) (rest := []) ⟨hx, hb, hml, hown, hts⟩ (s_X15_put_x l dC dI cs ty gm L H.size F_65 g2 κ r2 61 yy (V.getD i 0) fq (U ++ rgL V (psT V k) (i - (psT V k))) hW hL_g2 hT_g2 hu4 hu5 (hu6) (by omega) (hcd)) ⟨callB_of 2 hts (gi kt_1145) rfl rfl rfl (hts _ kt_669) (hts _ kt_1146) (by decide +kernel) ⟨Nat.le_of_ble_eq_true rfl, Nat.le_of_ble_eq_true rfl⟩, (hts _ kt_1147)⟩ ⟨fun a U g mk q => ⟨q.1, PTm.calling q.2⟩, fun U hU hWm => ⟨rfl, PTm.mk hU hWm hP hK hD hE hO⟩⟩ rfl rfl hl.1 rfl (lv_room (Nat.le_of_ble_eq_true rfl)) dX15_part_69 ⟨by show _ + 0 ≤ 0; omega, by show _ + 0 ≤ 0; omega⟩) hS (fun q _ h => hFc q h) hFc (fun u t H1 locs ht hvm hw hB hz1 hk1 hS => ?_)
        obtain ⟨F_85, y2_86, f2_87, hB1, hq_88, hq_89, hq_90⟩ := hB
        obtain ⟨hP, hD, hO, hR⟩ := QTm.back hB1 ht hFc hR (fun q h => by simp only [List.mem_cons, List.not_mem_nil, or_false] at h ⊢; omega)
        have hF_91 : F_85 pe = .inr (14, [.ref rp, .int (nI z)]) := (hB1.2.2.2 pe (by rw [hT_pe]; simp only [List.mem_cons, List.not_mem_nil, or_false]; omega)).trans hF_71
        have hF_92 : F_85 rp = .inl (cs 17, 100, .inl fp) := (hB1.2.2.2 rp (by rw [ht_29]; simp only [List.mem_cons, List.not_mem_nil, or_false]; omega)).trans hF_72
        have hF_93 : F_85 h0 = .inr (15, (.ref ta) :: (.int (nI zt)) :: (.int (nI zo)) :: (.int (nI ze)) :: (.ref ou) :: (.ref so) :: (.ref ad) :: (.ref na) :: (.ref va) :: (.ref lc) :: (.ref dm) :: (.int (nI fm)) :: (.int (nI sn)) :: (.ref tg) :: (.int v14_34) :: (.int v15_35) :: (.ref pe) :: (.int v17_36) :: (.int v18_37) :: (.int v19_38) :: (.int v20_39) :: (.int v21_40) :: (.int v22_41) :: (.ref ml) :: (.ref bg) :: (.ref co) :: (.ref sp) :: (.ref nb0) :: (.ref nb1) :: (.ref nb2) :: (.int (nI nf)) :: (.int (nI bd)) :: (.int (nI mm)) :: (.int v33_42) :: (.ref pl) :: (.ref se) :: (.ref ke) :: (.ref wi) :: (.ref hs) :: (.ref mo) :: (.ref po) :: (.ref nu) :: (.ref pr) :: (.ref sq) :: (.ref xa) :: (.ref sa) :: (.ref n64) :: (.ref m64) :: (.ref ex) :: (.ref wh) :: (.ref sd) :: (.ref tk) :: (.int v52_43) :: (.int v53_44) :: (.int v54_45) :: (.ref hd) :: (.ref ak) :: (.ref ho) :: (.ref ot) :: []) := (hB1.2.2.2 h0 (by rw [hT_h0]; simp only [List.mem_cons, List.not_mem_nil, or_false]; omega)).trans hF_73
        generalize H1 = H at hP hS ⊢
        refine lv_iinc (v := (nI (i + 1))) (lv' := [(3, .int (nI (i + 1))), (0, .ref h0), (1, .int (nI k)), (2, .ref g2)]) hx hb dX15_part_72 hl (k := 0) rfl (nI_1 _) (by decide) rfl (fun ls hl => ?_)
        refine lv_goto (tgt := 34) hx hb dX15_part_75 (by decide) ?_
        refine W.widen (k := 0) (n := 0) (by omega) (by omega) ?_
        exact ih_70 ((i + 1), y2_86, f2_87) F_85 (⟨by omega, by omega, fun m h1 h2 => by rcases Nat.lt_or_ge m i with q | q; exact hu3 m h1 q; rw [show m = i by omega]; exact hd2, hq_88, hq_89, by have h9 := hq_90; rw [List.append_assoc, show V.getD i 0 = V.getD ((psT V k) + (i - (psT V k))) 0 by rw [show (psT V k) + (i - (psT V k)) = i by omega], rgL_app, show i - (psT V k) + 1 = i + 1 - (psT V k) by omega] at h9; exact h9⟩) (by show z - (i + 1) < z - i; omega) hO hR _ _ hP hD hS ls (lv_sub hl [0, 1, 2, 3] rfl)
  ·
    have hi_94 : w < k := ltN (N := k) c_63
    have hjz : j < z := by rcases Nat.lt_or_ge j z with q | q; exact q; have h9 := dtc_mo (V := V) j q; omega
    refine lv_aload_n hx hb dX15_part_11 rfl (lv_at hl 2 rfl) ?_
    refine pg_get (ci := 15) (v := .ref pe) (C := RX15) (T := TX15) (N := 59) hx hb hts it_15 hown hK hP hL_h0 hF_62 rfl 16 (by decide) (hts _ kt_1126) (fun _ h9 => h9) rfl dX15_part_12 ?_
    refine pg_get (ci := 14) (v := .ref rp) (C := RX14) (T := TX14) (N := 2) hx hb hts it_14 hown hK hP hL_pe hF_60 rfl 0 (by decide) (hts _ kt_710) (fun _ h9 => h9) rfl dX15_part_15 ?_
    refine lv_iload_n hx hb dX15_part_18 rfl (lv_at hl 1 rfl) ?_
    refine pg_bald hx hb hK hP hi_28 1 hF_61 rfl (vp_in_nI (by omega) (by omega)) dX15_part_19 ?_
    refine lv_topi (fun x_95 ex_95 => ?_)
    obtain rfl : x_95 = (nI (V.getD j 0)) := ex_95.trans ((congrArg fp (nI_clamp (by omega))).trans (hV.2.1 j hjz))
    have hcd := hV.2.2 j hjz
    refine lv_bipush (v := 46) hx hb dX15_part_20 (by decide) ?_
    refine lv_icmp_ne (tgt := 28) hx hb dX15_part_22 (by decide) (fun c_96 => ?_) (fun c_96 => ?_)
    ·
      have hi_97 : (V.getD j 0) ≠ 46 := fun q => c_96 (by rw [q]; rfl)
      have hdt : ¬ V.getD j 0 = 46 := fun q => c_96 (by rw [q]; rfl)
      refine lv_iinc (v := (nI (j + 1))) (lv' := [(3, .int (nI (j + 1))), (4, .int (nI w)), (0, .ref h0), (1, .int (nI k)), (2, .ref g2)]) hx hb dX15_part_28 hl (k := 1) rfl (nI_1 _) (by decide) rfl (fun ls hl => ?_)
      refine lv_goto (tgt := 5) hx hb dX15_part_31 (by decide) ?_
      refine W.widen (k := 0) (n := 0) (by omega) (by omega) ?_
      exact ih_59 ((j + 1), w) F_54 (⟨by show _ = dtc V j + (if V.getD j 0 = 46 then 1 else 0); rw [if_neg hdt]; omega, by omega, pti_n hv3 (by omega) hjz hdt, hv4, hv5⟩) (by show z - (j + 1) < z - j; omega) hO hR _ _ hP hD hS ls (lv_sub hl [1, 0, 2, 3, 4] rfl)
    ·
      have hi_98 : (V.getD j 0) = 46 := (nI_eq (a := (V.getD j 0)) (b := 46) (by omega) (by omega)).mp c_96
      have hdt : V.getD j 0 = 46 := (nI_eq (b := 46) (by omega) (by omega)).mp c_96
      refine lv_iinc (v := (nI (w + 1))) (lv' := [(4, .int (nI (w + 1))), (3, .int (nI j)), (0, .ref h0), (1, .int (nI k)), (2, .ref g2)]) hx hb dX15_part_25 hl (k := 0) rfl (nI_1 _) (by decide) rfl (fun ls hl => ?_)
      refine lv_iinc (v := (nI (j + 1))) (lv' := [(3, .int (nI (j + 1))), (4, .int (nI (w + 1))), (0, .ref h0), (1, .int (nI k)), (2, .ref g2)]) hx hb dX15_part_28 hl (k := 1) rfl (nI_1 _) (by decide) rfl (fun ls hl => ?_)
      refine lv_goto (tgt := 5) hx hb dX15_part_31 (by decide) ?_
      refine W.widen (k := 0) (n := 0) (by omega) (by omega) ?_
      exact ih_59 ((j + 1), (w + 1)) F_54 (⟨by show _ = dtc V j + (if V.getD j 0 = 46 then 1 else 0); rw [if_pos hdt]; omega, by omega, pti_y hv3 (by omega) hjz hdt, hv4, hv5⟩) (by show z - (j + 1) < z - j; omega) hO hR _ _ hP hD hS ls (lv_sub hl [1, 0, 2, 3, 4] rfl)
