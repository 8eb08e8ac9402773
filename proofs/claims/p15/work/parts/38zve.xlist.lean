def ctT (T : Nat → Nat) (s e : Nat) : Nat → Nat := fun i => if s ≤ i ∧ i < e then 0 else T i
theorem ctT_y {T : Nat → Nat} {s e i : Nat} (h : s ≤ i ∧ i < e) : ctT T s e i = 0 := if_pos h
theorem ctT_n {T : Nat → Nat} {s e i : Nat} (h : ¬ (s ≤ i ∧ i < e)) : ctT T s e i = T i := if_neg h
theorem ctT_z {T : Nat → Nat} {s e i : Nat} (h : T i = 0) : ctT T s e i = 0 := by
  by_cases c : s ≤ i ∧ i < e
  · exact ctT_y c
  · rw [ctT_n c]
    exact h
theorem ctT_0 (T : Nat → Nat) : ctT T 0 0 = T := by
  funext i
  exact ctT_n (by omega)
def FPW (T : Nat → Nat) (x : Int32) (b c d s e : Nat) : List (Nat × Nat) := if x = 0 then (if s = e then rng 0 b (d - b) else rng 0 b (s - b) ++ rng 0 e (d - e)) else rng 1 b (c - b) ++ [(2, 58)] ++ rvl (ctT T s e) (d - (c + 1)) (c + 1) 0 0
theorem FPW_r {T : Nat → Nat} {x : Int32} {b c d s e : Nat} (h : ¬ x = 0) : FPW T x b c d s e = rng 1 b (c - b) ++ [(2, 58)] ++ rvl (ctT T s e) (d - (c + 1)) (c + 1) 0 0 := if_neg h
theorem FPW_s {T : Nat → Nat} {x : Int32} {b c d s e : Nat} (h : x = 0) (hs : s = e) : FPW T x b c d s e = rng 0 b (d - b) := (if_pos h).trans (if_pos hs)
theorem FPW_t {T : Nat → Nat} {x : Int32} {b c d s e : Nat} (h : x = 0) (hs : ¬ s = e) : FPW T x b c d s e = rng 0 b (s - b) ++ rng 0 e (d - e) := (if_pos h).trans (if_neg hs)
theorem FPW_0 (T : Nat → Nat) (x : Int32) (b c d : Nat) : FPW T x b c d 0 0 = FPL T x b c d := by
  unfold FPW FPL
  rw [ctT_0, if_pos rfl]
theorem rvl_lenw (T : Nat → Nat) : ∀ (k i : Nat) (x w : Int32), (rvl T k i x w).length ≤ k + (if w = 0 then 0 else 1) := by
  intro k
  induction k with
  | zero => intro i x w; exact Nat.zero_le _
  | succ k ih =>
    intro i x w
    rw [rvl_s]
    have a1 := ih (i + 1) x w
    have a2 := ih (i + 1) x x
    have a3 := ih (i + 1) 1 0
    rw [if_pos rfl] at a3
    by_cases c0 : T i = 0
    · rw [if_pos c0]
      omega
    rw [if_neg c0]
    by_cases c1 : T i = 1
    · rw [if_pos c1]
      have a4 : (if x = 0 then 0 else 1) ≤ 1 := by split <;> omega
      omega
    rw [if_neg c1, List.length_append, List.length_cons]
    by_cases c2 : w = 0
    · rw [if_pos c2, if_pos c2]
      show 0 + _ ≤ _
      omega
    · rw [if_neg c2, if_neg c2]
      show 1 + _ ≤ _
      omega
theorem FPW_len {T : Nat → Nat} {x : Int32} {b c d s e : Nat} (h1 : b < c) (h2 : c < d) (h3 : s = e ∨ (c < s ∧ s ≤ e ∧ e ≤ d)) : (FPW T x b c d s e).length ≤ d - b := by
  by_cases h : x = 0
  · by_cases q : s = e
    · rw [FPW_s h q, rng_len]
      omega
    · rw [FPW_t h q, List.length_append, rng_len, rng_len]
      omega
  · rw [FPW_r h, List.length_append, len1, rng_len]
    have a1 := rvl_lenw (ctT T s e) (d - (c + 1)) (c + 1) 0 0
    rw [if_pos rfl] at a1
    omega
theorem OUTS.app {f g g2 : Nat → Int32} {w v : List (Nat × Nat)} (h : OUTS f g w) (h1 : ∀ j, j < w.length → g2 j = g j) (h2 : ∀ (j : Nat) (y : Nat × Nat), v[j]? = some y → g2 (w.length + j) = evs f y) : OUTS f g2 (w ++ v) := by
  intro j y hj
  rcases Nat.lt_or_ge j w.length with c | c
  · rw [List.getElem?_append_left c] at hj
    rw [h1 j c]
    exact h j y hj
  · rw [List.getElem?_append_right c] at hj
    have h9 := h2 (j - w.length) y hj
    rw [show w.length + (j - w.length) = j by omega] at h9
    exact h9
theorem OUTS.apr {f g g2 : Nat → Int32} {w : List (Nat × Nat)} {b n : Nat} (h : OUTS f g w) (h1 : ∀ j, j < w.length → g2 j = g j) (h2 : ∀ j, j < n → g2 (w.length + j) = f (b + j)) : OUTS f g2 (w ++ rng 0 b n) := h.app h1 (fun j y hj => by
  obtain ⟨a1, a2⟩ := rng_at hj
  rw [a2]
  exact h2 j a1)
theorem OUTS.rsa {f g : Nat → Int32} {ac : List (Nat × Nat)} {k b i : Nat} {x : Int32} (h : OUTS f g (ac ++ rng k b (i - b))) (hb : b ≤ i) (hx : x = evs f (k, i)) : OUTS f (upd g (ac.length + (i - b)) x) (ac ++ rng k b (i + 1 - b)) := by
  have e := OUTS.add h (y := (k, b + (i - b))) (x := x) (by rw [show b + (i - b) = i by omega]; exact hx)
  rw [List.length_append, rng_len] at e
  rw [show i + 1 - b = i - b + 1 by omega, rng_s, ← List.append_assoc]
  exact e
theorem apn_y {f fr : Nat → Int32} {a y k : Nat} (ha : a ≤ 20000) (hy : y ≤ 20000) (hk : k ≤ 20000) : ∀ j, j < k → va_cpy f fr (nI a).toNatClampNeg (nI y).toNatClampNeg (nI k).toNatClampNeg (y + j) = f (a + j) := by
  intro j h
  have h9 := cpy_y (f := f) (fr := fr) ha hy hk (y + j) (by omega) (by omega)
  rw [show y + j - y = j by omega] at h9
  exact h9
set_option maxHeartbeats 4000000 in
set_option maxRecDepth 100000 in
theorem s_X0_addRange_p (l : Launch) (dC : Nat → ClassId) (dI : Nat → Nat → Nat) (cs : Nat → ClassId) (ty : TyM) (L : List Nat) (sz : Nat) (F : Nat → va_E) (h0 : Nat) (ρ : Nat) (r0 : Nat) (n : Nat) (g1 : Nat) (σ : Nat) (r1 : Nat) (n1 : Nat) (y : Nat) (z : Nat) (a : Nat) (b : Nat) (f : Nat → Int32) (fo : Nat → Int32) (os : Int32) (hW : WT ty L) (hL_h0 : h0 ∈ L) (hT_h0 : ty h0 = (0, ρ, [r0, n])) (hL_g1 : g1 ∈ L) (hT_g1 : ty g1 = (0, σ, [r1, n1])) (hF0 : F h0 = .inr (0, [.ref r0, .int (nI y), .int 0])) (hFo : F r0 = .inl (cs 16, n, .inl fo)) (hFg : F g1 = .inr (0, [.ref r1, .int (nI z), .int os])) (hFr : F r1 = .inl (cs 16, n1, .inl f)) (hzn : z ≤ n1) (hn9 : n1 ≤ 10000) (hm9 : n ≤ 10000) (hab : a ≤ b) (hbz : b ≤ z) (hfit : y + (b - a) ≤ n) : Met l yX0_addRange (.code yX0_addRange cX0_addRange 7 none :: tb) ({ frames := 1, cells := 0, slots := 0, locals := 48 }) (va_Pc [.ref h0, .ref g1, .int (nI a), .int (nI b)] (PT (dC, dI) cs ty L F sz)) (va_Qv (fun _ : Unit => True) (fun _ T9 => ∃ F2 : Nat → va_E, ∃ fc : Nat → Int32, QT (dC, dI) cs ty L [ρ] F F2 (va_A (va_pl L F) sz) T9 ∧ F2 h0 = .inr (0, [.ref r0, .int (nI (y + (b - a))), .int 0]) ∧ F2 r0 = .inl (cs 16, n, .inl fc) ∧ (∀ j, j < y → fc j = fo j) ∧ (∀ j, j < b - a → fc (y + j) = f (a + j))) (va_A (va_pl L F) sz)) 0 0 (va_A (va_pl L F) sz) := by
  refine Met.ofW (cc := cX0_addRange) (maxL := 7) (ret := none) (by decide) rfl ?_
  intro p e s m args below meth c s₁ B hml hv
  obtain ⟨rfl, hsz, hP, hK, hD0, hE, hO⟩ := hv
  have hx := B.exec
  have hb := B.bytes
  have hr := B.returns
  have hts : ∀ w ∈ tb, w.before _ s = true := fun w h => atoms_spec (ws := .code yX0_addRange cX0_addRange 7 none :: tb) B.pre w (List.mem_cons_of_mem _ h)
  have hown : s.vm.findClass RX0 = some m.cls := findClass_of_methodNamed B.named
  have hlocks := B.notSynchronized
  subst hsz
  have hD := hD0.self (sz := s.heap.size)
  generalize hAe : va_A (va_pl L F) s.heap.size = A at hD ⊢
  have hA : ∀ q : Nat, s.heap.size ≤ q → A q := fun q h => by rw [← hAe]; exact Or.inr h
  have hS : va_S A s.heap s.heap [] := va_S.rf
  have hR : FR ty [ρ] F F := FR.refl
  have hl := lv_entry ([.ref h0, .ref g1, .int (nI a), .int (nI b)]) (n := 7) (Nat.le_of_ble_eq_true rfl)
  rw [lg_entry_eq]
  generalize (lg_sl ([.ref h0, .ref g1, .int (nI a), .int (nI b)]) ++ List.replicate (7 - (lg_sl ([.ref h0, .ref g1, .int (nI a), .int (nI b)])).length) Slot.unset).toArray = ls at hl ⊢
  have hl : lv_has ls 7 [(0, .ref h0), (1, .ref g1), (2, .int (nI a)), (3, .int (nI b))] := hl
  refine lv_iconst (v := 0) hx hb dX0_addRange_0 (by decide) ?_
  refine lv_iload_n hx hb dX0_addRange_1 rfl (lv_at hl 2 rfl) ?_
  refine va_mmax hx hb (by rw [hml]; exact hl.1.symm) hown (hts _ kt_17) (hts _ kt_18) (hts _ kt_19) (hts _ kt_20) (Nat.le_of_ble_eq_true rfl) (Nat.le_of_ble_eq_true rfl) (by show _ ≤ 0; omega) (by show _ ≤ 0; omega) dX0_addRange_2 ?_
  refine lv_topi (fun x_1 ex_1 => ?_)
  obtain rfl : x_1 = (nI a) := ex_1.trans (max0n (by omega))
  refine lv_istore (lv' := [(4, .int (nI a)), (0, .ref h0), (1, .ref g1), (2, .int (nI a)), (3, .int (nI b))]) hx hb dX0_addRange_5 hl (by decide) rfl (fun ls hl => ?_)
  refine lv_iload_n hx hb dX0_addRange_7 rfl (lv_at hl 4 rfl) ?_
  refine lv_aload_n hx hb dX0_addRange_8 rfl (lv_at hl 2 rfl) ?_
  obtain ⟨hi_2, ht_3, hq_4⟩ := hW.bytes hL_g1 hT_g1
  refine pg_get (ci := 0) (v := .int (nI z)) (C := RX0) (T := TX0) (N := 3) hx hb hts it_0 hown hK hP hL_g1 hFg rfl 1 (by decide) (hts _ kt_10) (fun _ h9 => h9) rfl dX0_addRange_9 ?_
  refine va_mmin hx hb (by rw [hml]; exact hl.1.symm) hown (hts _ kt_25) (hts _ kt_26) (hts _ kt_19) (hts _ kt_27) (Nat.le_of_ble_eq_true rfl) (Nat.le_of_ble_eq_true rfl) (by show _ ≤ 0; omega) (by show _ ≤ 0; omega) dX0_addRange_12 ?_
  refine lv_topi (fun x_5 ex_5 => ?_)
  obtain rfl : x_5 = (nI b) := ex_5.trans (mnI_le (by omega) (by omega))
  refine lv_iload hx hb dX0_addRange_15 (lv_at hl 0 rfl) ?_
  refine lv_isub hx hb dX0_addRange_17 ?_
  refine lv_topi (fun x_6 ex_6 => ?_)
  obtain rfl : x_6 = (nI (b - a)) := ex_6.trans (pk_sub hab)
  refine lv_istore (lv' := [(5, .int (nI (b - a))), (4, .int (nI a)), (0, .ref h0), (1, .ref g1), (2, .int (nI a)), (3, .int (nI b))]) hx hb dX0_addRange_18 hl (by decide) rfl (fun ls hl => ?_)
  refine lv_iload hx hb dX0_addRange_20 (lv_at hl 0 rfl) ?_
  refine lv_aload_n hx hb dX0_addRange_22 rfl (lv_at hl 2 rfl) ?_
  obtain ⟨hi_7, ht_8, hq_9⟩ := hW.bytes hL_h0 hT_h0
  refine pg_get (ci := 0) (v := .ref r0) (C := RX0) (T := TX0) (N := 3) hx hb hts it_0 hown hK hP hL_h0 hF0 rfl 0 (by decide) (hts _ kt_12) (fun _ h9 => h9) rfl dX0_addRange_23 ?_
  refine pg_alen (v := (nI n)) hx hb hK hP hi_7 0 hFo rfl rfl dX0_addRange_26 ?_
  refine lv_aload_n hx hb dX0_addRange_27 rfl (lv_at hl 2 rfl) ?_
  refine pg_get (ci := 0) (v := .int (nI y)) (C := RX0) (T := TX0) (N := 3) hx hb hts it_0 hown hK hP hL_h0 hF0 rfl 1 (by decide) (hts _ kt_10) (fun _ h9 => h9) rfl dX0_addRange_28 ?_
  refine lv_isub hx hb dX0_addRange_31 ?_
  refine lv_topi (fun x_10 ex_10 => ?_)
  obtain rfl : x_10 = (nI (n - y)) := ex_10.trans (pk_sub (by omega))
  refine va_mmin hx hb (by rw [hml]; exact hl.1.symm) hown (hts _ kt_25) (hts _ kt_26) (hts _ kt_19) (hts _ kt_27) (Nat.le_of_ble_eq_true rfl) (Nat.le_of_ble_eq_true rfl) (by show _ ≤ 0; omega) (by show _ ≤ 0; omega) dX0_addRange_32 ?_
  refine lv_topi (fun x_11 ex_11 => ?_)
  obtain rfl : x_11 = (nI (b - a)) := ex_11.trans (mnI_le (by omega) (by omega))
  refine lv_istore (lv' := [(6, .int (nI (b - a))), (5, .int (nI (b - a))), (4, .int (nI a)), (0, .ref h0), (1, .ref g1), (2, .int (nI a)), (3, .int (nI b))]) hx hb dX0_addRange_35 hl (by decide) rfl (fun ls hl => ?_)
  refine lv_iload hx hb dX0_addRange_37 (lv_at hl 0 rfl) ?_
  refine lv_if_le (tgt := 72) hx hb dX0_addRange_39 (by decide) (fun c_12 => ?_) (fun c_12 => ?_)
  ·
    have hz0 : b - a = 0 := by have h9 : b - a ≤ 0 := (nI_leI (b := 0) (by omega) (by omega)).mp c_12; omega
    refine lv_aload_n hx hb dX0_addRange_72 rfl (lv_at hl 3 rfl) ?_
    refine lv_aload_n hx hb dX0_addRange_73 rfl (lv_at hl 3 rfl) ?_
    refine pg_get (ci := 0) (v := .int 0) (C := RX0) (T := TX0) (N := 3) hx hb hts it_0 hown hK hP hL_h0 hF0 rfl 2 (by decide) (hts _ kt_11) (fun _ h9 => h9) rfl dX0_addRange_74 ?_
    refine lv_if_ne (tgt := 87) hx hb dX0_addRange_77 (by decide) (fun c_14 => absurd (by decide) c_14) (fun c_14 => ?_)
    refine lv_iload hx hb dX0_addRange_80 (lv_at hl 0 rfl) ?_
    refine lv_iload hx hb dX0_addRange_82 (lv_at hl 1 rfl) ?_
    refine lv_icmp_ge (tgt := 91) hx hb dX0_addRange_84 (by decide) (fun c_15 => ?_) (fun c_15 => absurd (Int32.le_refl _) c_15)
    refine lv_iconst (v := 0) hx hb dX0_addRange_91 (by decide) ?_
    refine pg_put (ci := 0) (v := .int 0) (ty := .boolean) (C := RX0) (T := TX0) (N := 3) hx hb hts it_0 tyX0 tyX0_ok nmX0 hown hK hP hD hS hL_h0 hF0 rfl 2 (by decide) (hts _ kt_11) (fun _ h9 => h9) rfl (by decide +kernel) (rfl) (rfl) (Nat.le_of_ble_eq_true rfl) dX0_addRange_92 (fun H locs hP hD hS => ?_)
    obtain ⟨F_16, he_17, hP, hD, hO, hR⟩ : ∃ G, G = va_up F h0 (.inr (0, [.ref r0, .int (nI y), .int 0])) ∧ va_P (dC, dI) vwCl (va_pl L G) H ∧ va_D A (va_pl L G) ∧ OK cs ty L G ∧ FR ty [ρ] F G := ⟨_, rfl, hP, hD, hO.up (sh.bytes hT_h0 ⟨y, 0, rfl, (by first | omega | assumption | exact Or.inl rfl | exact Or.inr rfl), (by first | omega | assumption | exact Or.inl rfl | exact Or.inr rfl)⟩), hR.up hT_h0 (by simp)⟩
    have hF_18 : F_16 h0 = .inr (0, [.ref r0, .int (nI y), .int 0]) := by rw [he_17]; exact up_self
    have hF_19 : F_16 r0 = .inl (cs 16, n, .inl fo) := by rw [he_17, up_ne (ne_ty ht_8 hT_h0 (by simp))]; exact hFo
    have hF_20 : F_16 r1 = .inl (cs 16, n1, .inl f) := by rw [he_17, up_ne (ne_ty ht_3 hT_h0 (by simp))]; exact hFr
    refine W.widen (k := 0) (n := 0) (by omega) (by omega) ?_
    exact W.vret hx hb hr (fun t ht hWm => ⟨⟨(), rfl, trivial, ⟨F_16, fo, QT.mk ht hP hD hO hR, (by rw [hz0, Nat.add_zero]; exact hF_18), hF_19, (fun j _ => rfl), (fun j hj => absurd hj (by omega))⟩⟩, hS.F ht⟩) hS.2.2 dX0_addRange_95
  ·
    have hp0 : 0 < b - a := posN c_12
    refine lv_aload_n hx hb dX0_addRange_42 rfl (lv_at hl 4 rfl) ?_
    refine pg_get (ci := 0) (v := .ref r1) (C := RX0) (T := TX0) (N := 3) hx hb hts it_0 hown hK hP hL_g1 hFg rfl 0 (by decide) (hts _ kt_12) (fun _ h9 => h9) rfl dX0_addRange_43 ?_
    refine lv_iload hx hb dX0_addRange_46 (lv_at hl 2 rfl) ?_
    refine lv_aload_n hx hb dX0_addRange_48 rfl (lv_at hl 3 rfl) ?_
    refine pg_get (ci := 0) (v := .ref r0) (C := RX0) (T := TX0) (N := 3) hx hb hts it_0 hown hK hP hL_h0 hF0 rfl 0 (by decide) (hts _ kt_12) (fun _ h9 => h9) rfl dX0_addRange_49 ?_
    refine lv_aload_n hx hb dX0_addRange_52 rfl (lv_at hl 3 rfl) ?_
    refine pg_get (ci := 0) (v := .int (nI y)) (C := RX0) (T := TX0) (N := 3) hx hb hts it_0 hown hK hP hL_h0 hF0 rfl 1 (by decide) (hts _ kt_10) (fun _ h9 => h9) rfl dX0_addRange_53 ?_
    refine lv_iload hx hb dX0_addRange_56 (lv_at hl 0 rfl) ?_
    refine pg_copyi hx hb (by rw [hml]; exact hl.1.symm) hown (hts _ kt_28) (hts _ kt_29) (hts _ kt_30) (hts _ kt_31) hK hP hD hS hi_2 hi_7 0 0 hFr hFo rfl rfl rfl (nI_pos (by omega)) (nI_pos (by omega)) (nI_pos (by omega)) (by rw [nI_clamp (by omega), nI_clamp (by omega)]; omega) (by rw [nI_clamp (by omega), nI_clamp (by omega)]; omega) (fun _ _ => rfl) (Nat.le_of_ble_eq_true rfl) (by decide) dX0_addRange_58 (fun H locs hP hD hS => ?_)
    obtain ⟨F_22, he_23, hP, hD, hO, hR⟩ : ∃ G, G = va_up F r0 (.inl (cs 16, n, .inl (va_cpy f fo ((nI a)).toNatClampNeg ((nI y)).toNatClampNeg ((nI (b - a))).toNatClampNeg))) ∧ va_P (dC, dI) vwCl (va_pl L G) H ∧ va_D A (va_pl L G) ∧ OK cs ty L G ∧ FR ty [ρ] F G := ⟨_, rfl, hP, hD, hO.up (sh.ints ht_8 ⟨_, rfl⟩), hR.up ht_8 (by simp)⟩
    have hF_24 : F_22 r0 = .inl (cs 16, n, .inl (va_cpy f fo ((nI a)).toNatClampNeg ((nI y)).toNatClampNeg ((nI (b - a))).toNatClampNeg)) := by rw [he_23]; exact up_self
    have hF_25 : F_22 h0 = .inr (0, [.ref r0, .int (nI y), .int 0]) := by rw [he_23, up_ne (ne_ty hT_h0 ht_8 (by simp))]; exact hF0
    have hF_26 : F_22 g1 = .inr (0, [.ref r1, .int (nI z), .int os]) := by rw [he_23, up_ne (ne_ty hT_g1 ht_8 (by simp))]; exact hFg
    refine lv_aload_n hx hb dX0_addRange_61 rfl (lv_at hl 3 rfl) ?_
    refine lv_dup hx hb dX0_addRange_62 rfl ?_
    refine pg_get (ci := 0) (v := .int (nI y)) (C := RX0) (T := TX0) (N := 3) hx hb hts it_0 hown hK hP hL_h0 hF_25 rfl 1 (by decide) (hts _ kt_10) (fun _ h9 => h9) rfl dX0_addRange_63 ?_
    refine lv_iload hx hb dX0_addRange_66 (lv_at hl 0 rfl) ?_
    refine lv_iadd hx hb dX0_addRange_68 ?_
    refine lv_topi (fun x_27 ex_27 => ?_)
    obtain rfl : x_27 = (nI (y + (b - a))) := ex_27.trans (nI_add _ _)
    refine pg_put (ci := 0) (v := .int (nI (y + (b - a)))) (ty := .int) (C := RX0) (T := TX0) (N := 3) hx hb hts it_0 tyX0 tyX0_ok nmX0 hown hK hP hD hS hL_h0 hF_25 rfl 1 (by decide) (hts _ kt_10) (fun _ h9 => h9) rfl (by decide +kernel) (rfl) (rfl) (Nat.le_of_ble_eq_true rfl) dX0_addRange_69 (fun H locs hP hD hS => ?_)
    obtain ⟨F_28, he_29, hP, hD, hO, hR⟩ : ∃ G, G = va_up F_22 h0 (.inr (0, [.ref r0, .int (nI (y + (b - a))), .int 0])) ∧ va_P (dC, dI) vwCl (va_pl L G) H ∧ va_D A (va_pl L G) ∧ OK cs ty L G ∧ FR ty [ρ] F G := ⟨_, rfl, hP, hD, hO.up (sh.bytes hT_h0 ⟨(y + (b - a)), 0, rfl, (by first | omega | assumption | exact Or.inl rfl | exact Or.inr rfl), (by first | omega | assumption | exact Or.inl rfl | exact Or.inr rfl)⟩), hR.up hT_h0 (by simp)⟩
    have hF_30 : F_28 h0 = .inr (0, [.ref r0, .int (nI (y + (b - a))), .int 0]) := by rw [he_29]; exact up_self
    have hF_31 : F_28 r0 = .inl (cs 16, n, .inl (va_cpy f fo ((nI a)).toNatClampNeg ((nI y)).toNatClampNeg ((nI (b - a))).toNatClampNeg)) := by rw [he_29, up_ne (ne_ty ht_8 hT_h0 (by simp))]; exact hF_24
    refine lv_aload_n hx hb dX0_addRange_72 rfl (lv_at hl 3 rfl) ?_
    refine lv_aload_n hx hb dX0_addRange_73 rfl (lv_at hl 3 rfl) ?_
    refine pg_get (ci := 0) (v := .int 0) (C := RX0) (T := TX0) (N := 3) hx hb hts it_0 hown hK hP hL_h0 hF_30 rfl 2 (by decide) (hts _ kt_11) (fun _ h9 => h9) rfl dX0_addRange_74 ?_
    refine lv_if_ne (tgt := 87) hx hb dX0_addRange_77 (by decide) (fun c_32 => absurd (by decide) c_32) (fun c_32 => ?_)
    refine lv_iload hx hb dX0_addRange_80 (lv_at hl 0 rfl) ?_
    refine lv_iload hx hb dX0_addRange_82 (lv_at hl 1 rfl) ?_
    refine lv_icmp_ge (tgt := 91) hx hb dX0_addRange_84 (by decide) (fun c_33 => ?_) (fun c_33 => absurd (Int32.le_refl _) c_33)
    refine lv_iconst (v := 0) hx hb dX0_addRange_91 (by decide) ?_
    refine pg_put (ci := 0) (v := .int 0) (ty := .boolean) (C := RX0) (T := TX0) (N := 3) hx hb hts it_0 tyX0 tyX0_ok nmX0 hown hK hP hD hS hL_h0 hF_30 rfl 2 (by decide) (hts _ kt_11) (fun _ h9 => h9) rfl (by decide +kernel) (rfl) (rfl) (Nat.le_of_ble_eq_true rfl) dX0_addRange_92 (fun H locs hP hD hS => ?_)
    obtain ⟨F_34, he_35, hP, hD, hO, hR⟩ : ∃ G, G = va_up F_28 h0 (.inr (0, [.ref r0, .int (nI (y + (b - a))), .int 0])) ∧ va_P (dC, dI) vwCl (va_pl L G) H ∧ va_D A (va_pl L G) ∧ OK cs ty L G ∧ FR ty [ρ] F G := ⟨_, rfl, hP, hD, hO.up (sh.bytes hT_h0 ⟨(y + (b - a)), 0, rfl, (by first | omega | assumption | exact Or.inl rfl | exact Or.inr rfl), (by first | omega | assumption | exact Or.inl rfl | exact Or.inr rfl)⟩), hR.up hT_h0 (by simp)⟩
    have hF_36 : F_34 h0 = .inr (0, [.ref r0, .int (nI (y + (b - a))), .int 0]) := by rw [he_35]; exact up_self
    have hF_37 : F_34 r0 = .inl (cs 16, n, .inl (va_cpy f fo ((nI a)).toNatClampNeg ((nI y)).toNatClampNeg ((nI (b - a))).toNatClampNeg)) := by rw [he_35, up_ne (ne_ty ht_8 hT_h0 (by simp))]; exact hF_31
    refine W.widen (k := 0) (n := 0) (by omega) (by omega) ?_
    exact W.vret hx hb hr (fun t ht hWm => ⟨⟨(), rfl, trivial, ⟨F_34, (va_cpy f fo ((nI a)).toNatClampNeg ((nI y)).toNatClampNeg ((nI (b - a))).toNatClampNeg), QT.mk ht hP hD hO hR, hF_36, hF_37, (cpy_n (by omega) (by omega) (by omega)), (apn_y (by omega) (by omega) (by omega))⟩⟩, hS.F ht⟩) hS.2.2 dX0_addRange_95
set_option maxHeartbeats 4000000 in
set_option maxRecDepth 100000 in
theorem s_X4_addRelaxedValue_w (l : Launch) (dC : Nat → ClassId) (dI : Nat → Nat → Nat) (cs : Nat → ClassId) (ty : TyM) (L : List Nat) (sz : Nat) (F : Nat → va_E) (h0 : Nat) (ρ : Nat) (tx : Nat) (y0 : Nat) (y1 : Nat) (y2 : Nat) (g1 : Nat) (σ : Nat) (r1 : Nat) (n1 : Nat) (rx : Nat) (zm : Nat) (nn : Nat) (jk : Nat) (kb : Nat) (kc : Nat) (kd : Nat) (f : Nat → Int32) (e0 : Nat → Int32) (e1 : Nat → Int32) (e2 : Nat → Int32) (fo : Nat → Int32) (bb : Int32) (oo : Int32) (la : Nat) (ks : Nat) (ke : Nat) (ac : List (Nat × Nat)) (ZZ : List (Nat × Nat)) (hW : WT ty L) (hL_h0 : h0 ∈ L) (hT_h0 : ty h0 = (4, ρ, [tx, y0, y1, y2])) (hL_tx : tx ∈ L) (hT_tx : ty tx = (0, ρ + 1, [rx, 3000])) (hL_g1 : g1 ∈ L) (hT_g1 : ty g1 = (0, σ, [r1, n1])) (hF0 : F h0 = .inr (4, [.ref tx, .ref y0, .ref y1, .ref y2, .int (nI nn), .int bb])) (hFx : F tx = .inr (0, [.ref rx, .int (nI zm), .int oo])) (hFr : F rx = .inl (cs 16, 3000, .inl f)) (hFy1 : F y1 = .inl (cs 16, 20, .inl e1)) (hFy2 : F y2 = .inl (cs 16, 20, .inl e2)) (hFg : F g1 = .inr (0, [.ref r1, .int (nI ac.length), .int 0])) (hFo : F r1 = .inl (cs 16, n1, .inl fo)) (hjk : jk < nn) (hn20 : nn ≤ 20) (hbc : kb < kc) (hcd : kc < kd) (hdz : kd ≤ zm) (hz3 : zm ≤ 3000) (hroom : la + (kd - kb) ≤ n1) (hn9 : n1 ≤ 10000) (hse : ks = ke ∨ (kc < ks ∧ ks ≤ ke ∧ ke ≤ kd)) (hke4 : ks ≤ 10000 ∧ ke ≤ 10000) (hfar : ρ + 10 ≤ σ ∨ σ + 10 ≤ ρ) (hec : e1 jk = nI kc) (hed : e2 jk = nI kd) (hac : ac.length ≤ la + (kc + 1 - kb)) (hZ : ZZ = ac ++ rvl (ctT (clf f) ks ke) (kd - (kc + 1)) (kc + 1) 0 0) (hou : OUTS f fo ac) : Met l yX4_addRelaxedValue (.code yX4_addRelaxedValue cX4_addRelaxedValue 9 none :: tb) ({ frames := 1, cells := 0, slots := 0, locals := 21 }) (va_Pc [.ref h0, .ref g1, .int (nI jk), .int (nI ks), .int (nI ke)] (PT (dC, dI) cs ty L F sz)) (va_Qv (fun _ : Unit => True) (fun _ T9 => ∃ F2 : Nat → va_E, ∃ fo2 : Nat → Int32, QT (dC, dI) cs ty L [σ] F F2 (va_A (va_pl L F) sz) T9 ∧ F2 g1 = .inr (0, [.ref r1, .int (nI ZZ.length), .int 0]) ∧ F2 r1 = .inl (cs 16, n1, .inl fo2) ∧ OUTS f fo2 ZZ) (va_A (va_pl L F) sz)) 0 0 (va_A (va_pl L F) sz) := by
  refine Met.ofW (cc := cX4_addRelaxedValue) (maxL := 9) (ret := none) (by decide) rfl ?_
  intro p e s m args below meth c s₁ B hml hv
  obtain ⟨rfl, hsz, hP, hK, hD0, hE, hO⟩ := hv
  have hx := B.exec
  have hb := B.bytes
  have hr := B.returns
  have hts : ∀ w ∈ tb, w.before _ s = true := fun w h => atoms_spec (ws := .code yX4_addRelaxedValue cX4_addRelaxedValue 9 none :: tb) B.pre w (List.mem_cons_of_mem _ h)
  have hown : s.vm.findClass RX4 = some m.cls := findClass_of_methodNamed B.named
  have hlocks := B.notSynchronized
  subst hsz
  have hD := hD0.self (sz := s.heap.size)
  generalize hAe : va_A (va_pl L F) s.heap.size = A at hD ⊢
  have hA : ∀ q : Nat, s.heap.size ≤ q → A q := fun q h => by rw [← hAe]; exact Or.inr h
  have hS : va_S A s.heap s.heap [] := va_S.rf
  have hR : FR ty [σ] F F := FR.refl
  have hl := lv_entry ([.ref h0, .ref g1, .int (nI jk), .int (nI ks), .int (nI ke)]) (n := 9) (Nat.le_of_ble_eq_true rfl)
  rw [lg_entry_eq]
  generalize (lg_sl ([.ref h0, .ref g1, .int (nI jk), .int (nI ks), .int (nI ke)]) ++ List.replicate (9 - (lg_sl ([.ref h0, .ref g1, .int (nI jk), .int (nI ks), .int (nI ke)])).length) Slot.unset).toArray = ls at hl ⊢
  have hl : lv_has ls 9 [(0, .ref h0), (1, .ref g1), (2, .int (nI jk)), (3, .int (nI ks)), (4, .int (nI ke))] := hl
  obtain ⟨_, hi_1, hi_2, hi_3, _, ht_4, ht_5, ht_6⟩ := hW.msg hL_h0 hT_h0
  obtain ⟨hi_7, ht_8, hq_9⟩ := hW.bytes hL_tx hT_tx
  obtain ⟨hi_10, ht_11, hq_12⟩ := hW.bytes hL_g1 hT_g1
  refine lv_iconst (v := 0) hx hb dX4_addRelaxedValue_0 (by decide) ?_
  refine lv_istore (lv' := [(5, .int 0), (0, .ref h0), (1, .ref g1), (2, .int (nI jk)), (3, .int (nI ks)), (4, .int (nI ke))]) hx hb dX4_addRelaxedValue_1 hl (by decide) rfl (fun ls hl => ?_)
  refine lv_iconst (v := 0) hx hb dX4_addRelaxedValue_3 (by decide) ?_
  refine lv_istore (lv' := [(6, .int 0), (5, .int 0), (0, .ref h0), (1, .ref g1), (2, .int (nI jk)), (3, .int (nI ks)), (4, .int (nI ke))]) hx hb dX4_addRelaxedValue_4 hl (by decide) rfl (fun ls hl => ?_)
  refine lv_aload_n hx hb dX4_addRelaxedValue_6 rfl (lv_at hl 2 rfl) ?_
  refine pg_get (ci := 4) (v := .ref y1) (C := RX4) (T := TX4) (N := 6) hx hb hts it_4 hown hK hP hL_h0 hF0 rfl 2 (by decide) (hts _ kt_204) (fun _ h9 => h9) rfl dX4_addRelaxedValue_7 ?_
  refine lv_iload_n hx hb dX4_addRelaxedValue_10 rfl (lv_at hl 4 rfl) ?_
  refine pg_iald hx hb hK hP hi_2 0 hFy1 rfl (vp_in_nI (by omega) (by omega)) dX4_addRelaxedValue_11 ?_
  refine lv_topi (fun x_13 ex_13 => ?_)
  obtain rfl : x_13 = (nI kc) := ex_13.trans ((congrArg e1 (nI_clamp (by omega))).trans hec)
  refine lv_iconst (v := 1) hx hb dX4_addRelaxedValue_12 (by decide) ?_
  refine lv_iadd hx hb dX4_addRelaxedValue_13 ?_
  refine lv_topi (fun x_14 ex_14 => ?_)
  obtain rfl : x_14 = (nI (kc + 1)) := ex_14.trans (nI_1 kc)
  refine lv_istore (lv' := [(7, .int (nI (kc + 1))), (6, .int 0), (5, .int 0), (0, .ref h0), (1, .ref g1), (2, .int (nI jk)), (3, .int (nI ks)), (4, .int (nI ke))]) hx hb dX4_addRelaxedValue_14 hl (by decide) rfl (fun ls hl => ?_)
  refine W.widen (k := 0) (n := 0) (by omega) (by omega) ?_
  have hF_16 : F h0 = .inr (4, [.ref tx, .ref y0, .ref y1, .ref y2, .int (nI nn), .int bb]) := (hR h0 (by rw [hT_h0]; simp only [List.mem_cons, List.not_mem_nil, or_false]; omega)).symm.trans hF0
  have hF_17 : F tx = .inr (0, [.ref rx, .int (nI zm), .int oo]) := (hR tx (by rw [hT_tx]; simp only [List.mem_cons, List.not_mem_nil, or_false]; omega)).symm.trans hFx
  have hF_18 : F rx = .inl (cs 16, 3000, .inl f) := (hR rx (by rw [ht_8]; simp only [List.mem_cons, List.not_mem_nil, or_false]; omega)).symm.trans hFr
  have hF_19 : F y1 = .inl (cs 16, 20, .inl e1) := (hR y1 (by rw [ht_5]; simp only [List.mem_cons, List.not_mem_nil, or_false]; omega)).symm.trans hFy1
  have hF_20 : F y2 = .inl (cs 16, 20, .inl e2) := (hR y2 (by rw [ht_6]; simp only [List.mem_cons, List.not_mem_nil, or_false]; omega)).symm.trans hFy2
  refine pl_loop (σ := Nat × Int32 × Int32 × (List (Nat × Nat)) × (Nat → Int32)) A (dC, dI) cs ty L [σ] F 16 9 (fun (i1, w5, w6, aa, fq) => [(7, .int (nI i1)), (6, .int w6), (5, .int w5), (0, .ref h0), (1, .ref g1), (2, .int (nI jk)), (3, .int (nI ks)), (4, .int (nI ke))]) (fun (i1, w5, w6, aa, fq) => []) (fun (i1, w5, w6, aa, fq) FF => kc + 1 ≤ i1 ∧ i1 ≤ kd ∧ (w5 = 0 ∨ w5 = 1) ∧ aa.length ≤ la + (i1 - kb) ∧ (w6 = 0 ∨ aa.length + 1 ≤ la + (i1 - kb)) ∧ ZZ = aa ++ rvl (ctT (clf f) ks ke) (kd - i1) i1 w5 w6 ∧ FF g1 = .inr (0, [.ref r1, .int (nI aa.length), .int 0]) ∧ FF r1 = .inl (cs 16, n1, .inl fq) ∧ OUTS f fq aa) (fun (i1, w5, w6, aa, fq) => kd - i1) ?_ ((kc + 1), 0, 0, ac, fo) F (⟨by omega, by omega, Or.inl rfl, by omega, Or.inl rfl, hZ, hFg, hFo, hou⟩) hO hR _ _ hP hD hS ls (lv_sub hl [0, 1, 2, 3, 4, 5, 6, 7] rfl)
  rintro ⟨i1, w5, w6, aa, fq⟩ F_15 hv_21 hO hR ih_22 H locs hP hD hS ls hl
  have hl : lv_has ls 9 [(7, .int (nI i1)), (6, .int w6), (5, .int w5), (0, .ref h0), (1, .ref g1), (2, .int (nI jk)), (3, .int (nI ks)), (4, .int (nI ke))] := hl
  have hv_21 : kc + 1 ≤ i1 ∧ i1 ≤ kd ∧ (w5 = 0 ∨ w5 = 1) ∧ aa.length ≤ la + (i1 - kb) ∧ (w6 = 0 ∨ aa.length + 1 ≤ la + (i1 - kb)) ∧ ZZ = aa ++ rvl (ctT (clf f) ks ke) (kd - i1) i1 w5 w6 ∧ F_15 g1 = .inr (0, [.ref r1, .int (nI aa.length), .int 0]) ∧ F_15 r1 = .inl (cs 16, n1, .inl fq) ∧ OUTS f fq aa := hv_21
  refine W.eq (g2 := F0 m 16 ls []) rfl ?_
  have hF_23 : F_15 h0 = .inr (4, [.ref tx, .ref y0, .ref y1, .ref y2, .int (nI nn), .int bb]) := (hR h0 (by rw [hT_h0]; simp only [List.mem_cons, List.not_mem_nil, or_false]; omega)).trans hF_16
  have hF_24 : F_15 tx = .inr (0, [.ref rx, .int (nI zm), .int oo]) := (hR tx (by rw [hT_tx]; simp only [List.mem_cons, List.not_mem_nil, or_false]; omega)).trans hF_17
  have hF_25 : F_15 rx = .inl (cs 16, 3000, .inl f) := (hR rx (by rw [ht_8]; simp only [List.mem_cons, List.not_mem_nil, or_false]; omega)).trans hF_18
  have hF_26 : F_15 y1 = .inl (cs 16, 20, .inl e1) := (hR y1 (by rw [ht_5]; simp only [List.mem_cons, List.not_mem_nil, or_false]; omega)).trans hF_19
  have hF_27 : F_15 y2 = .inl (cs 16, 20, .inl e2) := (hR y2 (by rw [ht_6]; simp only [List.mem_cons, List.not_mem_nil, or_false]; omega)).trans hF_20
  obtain ⟨hv1, hv2, hv3, hv4, hv5, hv6, hN1, hN2, hN3⟩ := id hv_21
  refine lv_iload hx hb dX4_addRelaxedValue_16 (lv_at hl 0 rfl) ?_
  refine lv_aload_n hx hb dX4_addRelaxedValue_18 rfl (lv_at hl 3 rfl) ?_
  refine pg_get (ci := 4) (v := .ref y2) (C := RX4) (T := TX4) (N := 6) hx hb hts it_4 hown hK hP hL_h0 hF_23 rfl 3 (by decide) (hts _ kt_220) (fun _ h9 => h9) rfl dX4_addRelaxedValue_19 ?_
  refine lv_iload_n hx hb dX4_addRelaxedValue_22 rfl (lv_at hl 5 rfl) ?_
  refine pg_iald hx hb hK hP hi_3 0 hF_27 rfl (vp_in_nI (by omega) (by omega)) dX4_addRelaxedValue_23 ?_
  refine lv_topi (fun x_28 ex_28 => ?_)
  obtain rfl : x_28 = (nI kd) := ex_28.trans ((congrArg e2 (nI_clamp (by omega))).trans hed)
  refine lv_icmp_ge (tgt := 105) hx hb dX4_addRelaxedValue_24 (by decide) (fun c_29 => ?_) (fun c_29 => ?_)
  ·
    have hi_30 : kd ≤ i1 := leN (N := kd) c_29
    have hib : kd ≤ i1 := (nI_leI (by omega) (by omega)).mp c_29
    refine W.widen (k := 0) (n := 0) (by omega) (by omega) ?_
    exact W.vret hx hb hr (fun t ht hWm => ⟨⟨(), rfl, trivial, ⟨F_15, fq, QT.mk ht hP hD hO hR, (by rw [rv_e hv6 hib]; exact hN1), hN2, (by rw [rv_e hv6 hib]; exact hN3)⟩⟩, hS.F ht⟩) hS.2.2 dX4_addRelaxedValue_105
  ·
    have hi_31 : i1 < kd := ltN (N := kd) c_29
    have hib : i1 < kd := Nat.not_le.mp (fun q => c_29 ((nI_leI (by omega) (by omega)).mpr q))
    refine lv_aload_n hx hb dX4_addRelaxedValue_27 rfl (lv_at hl 3 rfl) ?_
    refine pg_get (ci := 4) (v := .ref tx) (C := RX4) (T := TX4) (N := 6) hx hb hts it_4 hown hK hP hL_h0 hF_23 rfl 0 (by decide) (hts _ kt_207) (fun _ h9 => h9) rfl dX4_addRelaxedValue_28 ?_
    refine lv_iload hx hb dX4_addRelaxedValue_31 (lv_at hl 0 rfl) ?_
    have hFc := pg_free hD hS hA
    refine va_calli (va_runV (As := [.int (nI i1)]) (rest := []) ⟨hx, hb, hml, hown, hts⟩ (s_X0_at_o l dC dI cs ty L H.size F_15 tx (ρ + 1) rx 3000 zm i1 f oo hW hL_tx hT_tx hF_24 hF_25 (by omega) (by omega) (by omega)) ⟨callB_of 1 hts (gi kt_21) rfl rfl rfl (hts _ kt_1) (hts _ kt_199) (by decide +kernel) ⟨Nat.le_of_ble_eq_true rfl, Nat.le_of_ble_eq_true rfl⟩, (hts _ kt_23), (hts _ kt_24)⟩ ⟨fun a U g mk q => ⟨q.1, PT.calling q.2⟩, pg_recv hK hP hL_tx hF_24 (q := (RX0, TX0, 3)) rfl, fun U hU hWm => ⟨rfl, PT.mk hU hWm hP hK hD hE hO⟩⟩ rfl rfl hl.1 rfl (lv_room (Nat.le_of_ble_eq_true rfl)) dX4_addRelaxedValue_33 ⟨by show _ + 0 ≤ 0; omega, by show _ + 0 ≤ 0; omega⟩) hS (fun q _ h => hFc q h) hFc (fun r_32 u t H1 locs ht hvm hw hB hz1 hk1 hS => ?_)
    obtain ⟨F_33, hB1⟩ := hB
    obtain rfl : F_15 = F_33 := (funext (fun a => hB1.2.2.2 a List.not_mem_nil)).symm
    obtain ⟨hP, hD, hO, hR⟩ := QT.back hB1 ht hFc hR (fun q h => absurd h List.not_mem_nil)
    generalize H1 = H at hP hS ⊢
    have hw : r_32 = f i1 := hw
    have hw_34 := hw
    subst hw_34
    refine lv_istore (lv' := [(8, .int (f i1)), (7, .int (nI i1)), (6, .int w6), (5, .int w5), (0, .ref h0), (1, .ref g1), (2, .int (nI jk)), (3, .int (nI ks)), (4, .int (nI ke))]) hx hb dX4_addRelaxedValue_36 hl (by decide) rfl (fun ls hl => ?_)
    refine lv_iload hx hb dX4_addRelaxedValue_38 (lv_at hl 0 rfl) ?_
    refine lv_bipush (v := 10) hx hb dX4_addRelaxedValue_40 (by decide) ?_
    refine lv_icmp_eq (tgt := 99) hx hb dX4_addRelaxedValue_42 (by decide) (fun c_35 => ?_) (fun c_35 => ?_)
    ·
      refine lv_iinc (v := (nI (i1 + 1))) (lv' := [(7, .int (nI (i1 + 1))), (8, .int (f i1)), (6, .int w6), (5, .int w5), (0, .ref h0), (1, .ref g1), (2, .int (nI jk)), (3, .int (nI ks)), (4, .int (nI ke))]) hx hb dX4_addRelaxedValue_99 hl (k := 1) rfl (nI_1 _) (by decide) rfl (fun ls hl => ?_)
      refine lv_goto (tgt := 16) hx hb dX4_addRelaxedValue_102 (by decide) ?_
      refine W.widen (k := 0) (n := 0) (by omega) (by omega) ?_
      exact ih_22 ((i1 + 1), w5, w6, aa, fq) F_15 (⟨by omega, by omega, hv3, by omega, by rcases hv5 with q | q; exact Or.inl q; exact Or.inr (by omega), rv_0 hv6 hib (ctT_z (clg0 c_35)), hN1, hN2, hN3⟩) (by show kd - (i1 + 1) < kd - i1; omega) hO hR _ _ hP hD hS ls (lv_sub hl [0, 2, 3, 4, 5, 6, 7, 8] rfl)
    ·
      refine lv_iload hx hb dX4_addRelaxedValue_45 (lv_at hl 1 rfl) ?_
      refine lv_iload_n hx hb dX4_addRelaxedValue_47 rfl (lv_at hl 7 rfl) ?_
      refine lv_icmp_lt (tgt := 61) hx hb dX4_addRelaxedValue_48 (by decide) (fun c_36 => ?_) (fun c_36 => ?_)
      ·
        have hi_37 : i1 < ks := ltN (N := ks) (Int32.not_le.mpr c_36)
        have hks : i1 < ks := (nI_ltI (by omega) (by omega)).mp c_36
        have hnc : ¬ (ks ≤ i1 ∧ i1 < ke) := by omega
        refine lv_iload hx hb dX4_addRelaxedValue_61 (lv_at hl 0 rfl) ?_
        have hFc := pg_free hD hS hA
        refine va_calli (va_runS (As := [.int (f i1)]) (rest := []) ⟨hx, hb, hml, hown, hts⟩ (s_X0_isWhite_e l dC dI cs ty L H.size F_15 (f i1) hW ) ⟨callB_of 1 hts (gi kt_195) rfl rfl rfl (hts _ kt_1) (hts _ kt_215) (by decide +kernel) ⟨Nat.le_of_ble_eq_true rfl, Nat.le_of_ble_eq_true rfl⟩, (hts _ kt_197)⟩ ⟨fun a U g mk q => ⟨q.1, PT.calling q.2⟩, fun U hU hWm => ⟨rfl, PT.mk hU hWm hP hK hD hE hO⟩⟩ rfl rfl hl.1 rfl (lv_room (Nat.le_of_ble_eq_true rfl)) dX4_addRelaxedValue_63 ⟨by show _ + 0 ≤ 0; omega, by show _ + 0 ≤ 0; omega⟩) hS (fun q _ h => hFc q h) hFc (fun r_38 u t H1 locs ht hvm hw hB hz1 hk1 hS => ?_)
        obtain ⟨F_39, hB1⟩ := hB
        obtain rfl : F_15 = F_39 := (funext (fun a => hB1.2.2.2 a List.not_mem_nil)).symm
        obtain ⟨hP, hD, hO, hR⟩ := QT.back hB1 ht hFc hR (fun q h => absurd h List.not_mem_nil)
        generalize H1 = H at hP hS ⊢
        have hw : r_38 = (if (f i1) = 32 ∨ (f i1) = 9 then 1 else 0) := hw
        have hw_40 := hw
        refine lv_if_eq (tgt := 76) hx hb dX4_addRelaxedValue_66 (by decide) (fun c_41 => ?_) (fun c_41 => ?_)
        ·
          refine lv_iload hx hb dX4_addRelaxedValue_76 (lv_at hl 2 rfl) ?_
          refine lv_if_eq (tgt := 87) hx hb dX4_addRelaxedValue_78 (by decide) (fun c_42 => ?_) (fun c_42 => ?_)
          ·
            refine lv_aload_n hx hb dX4_addRelaxedValue_87 rfl (lv_at hl 5 rfl) ?_
            refine lv_iload hx hb dX4_addRelaxedValue_88 (lv_at hl 0 rfl) ?_
            have hFc := pg_free hD hS hA
            refine va_callv (va_runV (As := [.int (f i1)]) (rest := []) ⟨hx, hb, hml, hown, hts⟩ (s_X0_add_e l dC dI cs ty L H.size F_15 g1 σ r1 n1 aa.length fq (f i1) hW hL_g1 hT_g1 hN1 hN2 (by omega) (by omega)) ⟨callB_of 1 hts (gi kt_13) rfl rfl rfl (hts _ kt_1) (hts _ kt_230) (by decide +kernel) ⟨Nat.le_of_ble_eq_true rfl, Nat.le_of_ble_eq_true rfl⟩, (hts _ kt_15), (hts _ kt_16)⟩ ⟨fun a U g mk q => ⟨q.1, PT.calling q.2⟩, pg_recv hK hP hL_g1 hN1 (q := (RX0, TX0, 3)) rfl, fun U hU hWm => ⟨rfl, PT.mk hU hWm hP hK hD hE hO⟩⟩ rfl rfl hl.1 rfl (lv_room (Nat.le_of_ble_eq_true rfl)) dX4_addRelaxedValue_90 ⟨by show _ + 0 ≤ 0; omega, by show _ + 0 ≤ 0; omega⟩) hS (fun q _ h => hFc q h) hFc (fun u t H1 locs ht hvm hw hB hz1 hk1 hS => ?_)
            obtain ⟨F_44, hB1, hq_45, hq_46⟩ := hB
            obtain ⟨hP, hD, hO, hR⟩ := QT.back hB1 ht hFc hR (fun q h => by simp only [List.mem_cons, List.not_mem_nil, or_false] at h ⊢; omega)
            have hF_47 : F_44 h0 = .inr (4, [.ref tx, .ref y0, .ref y1, .ref y2, .int (nI nn), .int bb]) := (hB1.2.2.2 h0 (by rw [hT_h0]; simp only [List.mem_cons, List.not_mem_nil, or_false]; omega)).trans hF_23
            have hF_48 : F_44 tx = .inr (0, [.ref rx, .int (nI zm), .int oo]) := (hB1.2.2.2 tx (by rw [hT_tx]; simp only [List.mem_cons, List.not_mem_nil, or_false]; omega)).trans hF_24
            have hF_49 : F_44 rx = .inl (cs 16, 3000, .inl f) := (hB1.2.2.2 rx (by rw [ht_8]; simp only [List.mem_cons, List.not_mem_nil, or_false]; omega)).trans hF_25
            have hF_50 : F_44 y1 = .inl (cs 16, 20, .inl e1) := (hB1.2.2.2 y1 (by rw [ht_5]; simp only [List.mem_cons, List.not_mem_nil, or_false]; omega)).trans hF_26
            have hF_51 : F_44 y2 = .inl (cs 16, 20, .inl e2) := (hB1.2.2.2 y2 (by rw [ht_6]; simp only [List.mem_cons, List.not_mem_nil, or_false]; omega)).trans hF_27
            generalize H1 = H at hP hS ⊢
            have hou_52 := OUTS.add (y := (0, i1)) hN3 ev_0
            have hF_53 : F_44 g1 = .inr (0, [.ref r1, .int (nI (aa ++ [(0, i1)]).length), .int 0]) := by rw [len1]; exact hq_45
            refine lv_iconst (v := 1) hx hb dX4_addRelaxedValue_93 (by decide) ?_
            refine lv_istore (lv' := [(5, .int 1), (8, .int (f i1)), (7, .int (nI i1)), (6, .int w6), (0, .ref h0), (1, .ref g1), (2, .int (nI jk)), (3, .int (nI ks)), (4, .int (nI ke))]) hx hb dX4_addRelaxedValue_94 hl (by decide) rfl (fun ls hl => ?_)
            refine lv_iconst (v := 0) hx hb dX4_addRelaxedValue_96 (by decide) ?_
            refine lv_istore (lv' := [(6, .int 0), (5, .int 1), (8, .int (f i1)), (7, .int (nI i1)), (0, .ref h0), (1, .ref g1), (2, .int (nI jk)), (3, .int (nI ks)), (4, .int (nI ke))]) hx hb dX4_addRelaxedValue_97 hl (by decide) rfl (fun ls hl => ?_)
            refine lv_iinc (v := (nI (i1 + 1))) (lv' := [(7, .int (nI (i1 + 1))), (6, .int 0), (5, .int 1), (8, .int (f i1)), (0, .ref h0), (1, .ref g1), (2, .int (nI jk)), (3, .int (nI ks)), (4, .int (nI ke))]) hx hb dX4_addRelaxedValue_99 hl (k := 3) rfl (nI_1 _) (by decide) rfl (fun ls hl => ?_)
            refine lv_goto (tgt := 16) hx hb dX4_addRelaxedValue_102 (by decide) ?_
            refine W.widen (k := 0) (n := 0) (by omega) (by omega) ?_
            exact ih_22 ((i1 + 1), 1, 0, (aa ++ [(0, i1)]), (upd fq aa.length (f i1))) F_44 (⟨by omega, by omega, Or.inr rfl, by rw [len1]; omega, Or.inl rfl, rv_a hv6 hib (by rw [ctT_n hnc]; exact clg0n c_35) (by rw [ctT_n hnc]; exact clg1n (ifb0 hw_40 c_41)) c_42, hF_53, hq_46, hou_52⟩) (by show kd - (i1 + 1) < kd - i1; omega) hO hR _ _ hP hD hS ls (lv_sub hl [0, 1, 2, 4, 5, 6, 7, 8] rfl)
          ·
            refine lv_aload_n hx hb dX4_addRelaxedValue_81 rfl (lv_at hl 5 rfl) ?_
            refine lv_bipush (v := 32) hx hb dX4_addRelaxedValue_82 (by decide) ?_
            have hFc := pg_free hD hS hA
            refine va_callv (va_runV (As := [.int 32]) (rest := []) ⟨hx, hb, hml, hown, hts⟩ (s_X0_add_e l dC dI cs ty L H.size F_15 g1 σ r1 n1 aa.length fq 32 hW hL_g1 hT_g1 hN1 hN2 (by have h9 := hv5.resolve_left c_42; omega) (by omega)) ⟨callB_of 1 hts (gi kt_13) rfl rfl rfl (hts _ kt_1) (hts _ kt_230) (by decide +kernel) ⟨Nat.le_of_ble_eq_true rfl, Nat.le_of_ble_eq_true rfl⟩, (hts _ kt_15), (hts _ kt_16)⟩ ⟨fun a U g mk q => ⟨q.1, PT.calling q.2⟩, pg_recv hK hP hL_g1 hN1 (q := (RX0, TX0, 3)) rfl, fun U hU hWm => ⟨rfl, PT.mk hU hWm hP hK hD hE hO⟩⟩ rfl rfl hl.1 rfl (lv_room (Nat.le_of_ble_eq_true rfl)) dX4_addRelaxedValue_84 ⟨by show _ + 0 ≤ 0; omega, by show _ + 0 ≤ 0; omega⟩) hS (fun q _ h => hFc q h) hFc (fun u t H1 locs ht hvm hw hB hz1 hk1 hS => ?_)
            obtain ⟨F_55, hB1, hq_56, hq_57⟩ := hB
            obtain ⟨hP, hD, hO, hR⟩ := QT.back hB1 ht hFc hR (fun q h => by simp only [List.mem_cons, List.not_mem_nil, or_false] at h ⊢; omega)
            have hF_58 : F_55 h0 = .inr (4, [.ref tx, .ref y0, .ref y1, .ref y2, .int (nI nn), .int bb]) := (hB1.2.2.2 h0 (by rw [hT_h0]; simp only [List.mem_cons, List.not_mem_nil, or_false]; omega)).trans hF_23
            have hF_59 : F_55 tx = .inr (0, [.ref rx, .int (nI zm), .int oo]) := (hB1.2.2.2 tx (by rw [hT_tx]; simp only [List.mem_cons, List.not_mem_nil, or_false]; omega)).trans hF_24
            have hF_60 : F_55 rx = .inl (cs 16, 3000, .inl f) := (hB1.2.2.2 rx (by rw [ht_8]; simp only [List.mem_cons, List.not_mem_nil, or_false]; omega)).trans hF_25
            have hF_61 : F_55 y1 = .inl (cs 16, 20, .inl e1) := (hB1.2.2.2 y1 (by rw [ht_5]; simp only [List.mem_cons, List.not_mem_nil, or_false]; omega)).trans hF_26
            have hF_62 : F_55 y2 = .inl (cs 16, 20, .inl e2) := (hB1.2.2.2 y2 (by rw [ht_6]; simp only [List.mem_cons, List.not_mem_nil, or_false]; omega)).trans hF_27
            generalize H1 = H at hP hS ⊢
            have hou_63 := OUTS.add (y := (2, 32)) hN3 (show (32 : Int32) = evs f (2, 32) from rfl)
            have hF_64 : F_55 g1 = .inr (0, [.ref r1, .int (nI (aa ++ [(2, 32)]).length), .int 0]) := by rw [len1]; exact hq_56
            refine lv_aload_n hx hb dX4_addRelaxedValue_87 rfl (lv_at hl 5 rfl) ?_
            refine lv_iload hx hb dX4_addRelaxedValue_88 (lv_at hl 0 rfl) ?_
            have hFc := pg_free hD hS hA
            refine va_callv (va_runV (As := [.int (f i1)]) (rest := []) ⟨hx, hb, hml, hown, hts⟩ (s_X0_add_e l dC dI cs ty L H.size F_55 g1 σ r1 n1 ((aa ++ [(2, 32)]).length) (upd fq aa.length 32) (f i1) hW hL_g1 hT_g1 hF_64 hq_57 (by rw [len1]; have h9 := hv5.resolve_left c_42; omega) (by omega)) ⟨callB_of 1 hts (gi kt_13) rfl rfl rfl (hts _ kt_1) (hts _ kt_230) (by decide +kernel) ⟨Nat.le_of_ble_eq_true rfl, Nat.le_of_ble_eq_true rfl⟩, (hts _ kt_15), (hts _ kt_16)⟩ ⟨fun a U g mk q => ⟨q.1, PT.calling q.2⟩, pg_recv hK hP hL_g1 hF_64 (q := (RX0, TX0, 3)) rfl, fun U hU hWm => ⟨rfl, PT.mk hU hWm hP hK hD hE hO⟩⟩ rfl rfl hl.1 rfl (lv_room (Nat.le_of_ble_eq_true rfl)) dX4_addRelaxedValue_90 ⟨by show _ + 0 ≤ 0; omega, by show _ + 0 ≤ 0; omega⟩) hS (fun q _ h => hFc q h) hFc (fun u t H1 locs ht hvm hw hB hz1 hk1 hS => ?_)
            obtain ⟨F_66, hB1, hq_67, hq_68⟩ := hB
            obtain ⟨hP, hD, hO, hR⟩ := QT.back hB1 ht hFc hR (fun q h => by simp only [List.mem_cons, List.not_mem_nil, or_false] at h ⊢; omega)
            have hF_69 : F_66 h0 = .inr (4, [.ref tx, .ref y0, .ref y1, .ref y2, .int (nI nn), .int bb]) := (hB1.2.2.2 h0 (by rw [hT_h0]; simp only [List.mem_cons, List.not_mem_nil, or_false]; omega)).trans hF_58
            have hF_70 : F_66 tx = .inr (0, [.ref rx, .int (nI zm), .int oo]) := (hB1.2.2.2 tx (by rw [hT_tx]; simp only [List.mem_cons, List.not_mem_nil, or_false]; omega)).trans hF_59
            have hF_71 : F_66 rx = .inl (cs 16, 3000, .inl f) := (hB1.2.2.2 rx (by rw [ht_8]; simp only [List.mem_cons, List.not_mem_nil, or_false]; omega)).trans hF_60
            have hF_72 : F_66 y1 = .inl (cs 16, 20, .inl e1) := (hB1.2.2.2 y1 (by rw [ht_5]; simp only [List.mem_cons, List.not_mem_nil, or_false]; omega)).trans hF_61
            have hF_73 : F_66 y2 = .inl (cs 16, 20, .inl e2) := (hB1.2.2.2 y2 (by rw [ht_6]; simp only [List.mem_cons, List.not_mem_nil, or_false]; omega)).trans hF_62
            generalize H1 = H at hP hS ⊢
            have hou_74 := OUTS.add (y := (0, i1)) hou_63 ev_0
            have hF_75 : F_66 g1 = .inr (0, [.ref r1, .int (nI ((aa ++ [(2, 32)]) ++ [(0, i1)]).length), .int 0]) := by rw [len1]; exact hq_67
            refine lv_iconst (v := 1) hx hb dX4_addRelaxedValue_93 (by decide) ?_
            refine lv_istore (lv' := [(5, .int 1), (8, .int (f i1)), (7, .int (nI i1)), (6, .int w6), (0, .ref h0), (1, .ref g1), (2, .int (nI jk)), (3, .int (nI ks)), (4, .int (nI ke))]) hx hb dX4_addRelaxedValue_94 hl (by decide) rfl (fun ls hl => ?_)
            refine lv_iconst (v := 0) hx hb dX4_addRelaxedValue_96 (by decide) ?_
            refine lv_istore (lv' := [(6, .int 0), (5, .int 1), (8, .int (f i1)), (7, .int (nI i1)), (0, .ref h0), (1, .ref g1), (2, .int (nI jk)), (3, .int (nI ks)), (4, .int (nI ke))]) hx hb dX4_addRelaxedValue_97 hl (by decide) rfl (fun ls hl => ?_)
            refine lv_iinc (v := (nI (i1 + 1))) (lv' := [(7, .int (nI (i1 + 1))), (6, .int 0), (5, .int 1), (8, .int (f i1)), (0, .ref h0), (1, .ref g1), (2, .int (nI jk)), (3, .int (nI ks)), (4, .int (nI ke))]) hx hb dX4_addRelaxedValue_99 hl (k := 3) rfl (nI_1 _) (by decide) rfl (fun ls hl => ?_)
            refine lv_goto (tgt := 16) hx hb dX4_addRelaxedValue_102 (by decide) ?_
            refine W.widen (k := 0) (n := 0) (by omega) (by omega) ?_
            exact ih_22 ((i1 + 1), 1, 0, ((aa ++ [(2, 32)]) ++ [(0, i1)]), (upd (upd fq aa.length 32) (aa ++ [(2, 32)]).length (f i1))) F_66 (⟨by omega, by omega, Or.inr rfl, by rw [len1, len1]; have h9 := hv5.resolve_left c_42; omega, Or.inl rfl, rv_b hv6 hib (by rw [ctT_n hnc]; exact clg0n c_35) (by rw [ctT_n hnc]; exact clg1n (ifb0 hw_40 c_41)) c_42, hF_75, hq_68, hou_74⟩) (by show kd - (i1 + 1) < kd - i1; omega) hO hR _ _ hP hD hS ls (lv_sub hl [0, 1, 2, 4, 5, 6, 7, 8] rfl)
        ·
          refine lv_iload hx hb dX4_addRelaxedValue_69 (lv_at hl 3 rfl) ?_
          refine lv_istore (lv' := [(6, .int w5), (8, .int (f i1)), (7, .int (nI i1)), (5, .int w5), (0, .ref h0), (1, .ref g1), (2, .int (nI jk)), (3, .int (nI ks)), (4, .int (nI ke))]) hx hb dX4_addRelaxedValue_71 hl (by decide) rfl (fun ls hl => ?_)
          refine lv_goto (tgt := 99) hx hb dX4_addRelaxedValue_73 (by decide) ?_
          refine lv_iinc (v := (nI (i1 + 1))) (lv' := [(7, .int (nI (i1 + 1))), (6, .int w5), (8, .int (f i1)), (5, .int w5), (0, .ref h0), (1, .ref g1), (2, .int (nI jk)), (3, .int (nI ks)), (4, .int (nI ke))]) hx hb dX4_addRelaxedValue_99 hl (k := 2) rfl (nI_1 _) (by decide) rfl (fun ls hl => ?_)
          refine lv_goto (tgt := 16) hx hb dX4_addRelaxedValue_102 (by decide) ?_
          refine W.widen (k := 0) (n := 0) (by omega) (by omega) ?_
          exact ih_22 ((i1 + 1), w5, w5, aa, fq) F_15 (⟨by omega, by omega, hv3, by omega, Or.inr (by omega), rv_1 hv6 hib ((ctT_n hnc).trans (clg1 (ifb1 hw_40 c_41))), hN1, hN2, hN3⟩) (by show kd - (i1 + 1) < kd - i1; omega) hO hR _ _ hP hD hS ls (lv_sub hl [0, 1, 3, 4, 5, 6, 7, 8] rfl)
      ·
        have hi_76 : ks ≤ i1 := leN (N := ks) (Int32.not_lt.mp c_36)
        have hks : ks ≤ i1 := Nat.not_lt.mp (fun q => c_36 ((nI_ltI (by omega) (by omega)).mpr q))
        refine lv_iload hx hb dX4_addRelaxedValue_51 (lv_at hl 1 rfl) ?_
        refine lv_iload hx hb dX4_addRelaxedValue_53 (lv_at hl 8 rfl) ?_
        refine lv_icmp_ge (tgt := 61) hx hb dX4_addRelaxedValue_55 (by decide) (fun c_77 => ?_) (fun c_77 => ?_)
        ·
          have hi_78 : ke ≤ i1 := leN (N := ke) c_77
          have hke : ke ≤ i1 := (nI_leI (by omega) (by omega)).mp c_77
          have hnc : ¬ (ks ≤ i1 ∧ i1 < ke) := by omega
          refine lv_iload hx hb dX4_addRelaxedValue_61 (lv_at hl 0 rfl) ?_
          have hFc := pg_free hD hS hA
          refine va_calli (va_runS (As := [.int (f i1)]) (rest := []) ⟨hx, hb, hml, hown, hts⟩ (s_X0_isWhite_e l dC dI cs ty L H.size F_15 (f i1) hW ) ⟨callB_of 1 hts (gi kt_195) rfl rfl rfl (hts _ kt_1) (hts _ kt_215) (by decide +kernel) ⟨Nat.le_of_ble_eq_true rfl, Nat.le_of_ble_eq_true rfl⟩, (hts _ kt_197)⟩ ⟨fun a U g mk q => ⟨q.1, PT.calling q.2⟩, fun U hU hWm => ⟨rfl, PT.mk hU hWm hP hK hD hE hO⟩⟩ rfl rfl hl.1 rfl (lv_room (Nat.le_of_ble_eq_true rfl)) dX4_addRelaxedValue_63 ⟨by show _ + 0 ≤ 0; omega, by show _ + 0 ≤ 0; omega⟩) hS (fun q _ h => hFc q h) hFc (fun r_79 u t H1 locs ht hvm hw hB hz1 hk1 hS => ?_)
          obtain ⟨F_80, hB1⟩ := hB
          obtain rfl : F_15 = F_80 := (funext (fun a => hB1.2.2.2 a List.not_mem_nil)).symm
          obtain ⟨hP, hD, hO, hR⟩ := QT.back hB1 ht hFc hR (fun q h => absurd h List.not_mem_nil)
          generalize H1 = H at hP hS ⊢
          have hw : r_79 = (if (f i1) = 32 ∨ (f i1) = 9 then 1 else 0) := hw
          have hw_81 := hw
          refine lv_if_eq (tgt := 76) hx hb dX4_addRelaxedValue_66 (by decide) (fun c_82 => ?_) (fun c_82 => ?_)
          ·
            refine lv_iload hx hb dX4_addRelaxedValue_76 (lv_at hl 2 rfl) ?_
            refine lv_if_eq (tgt := 87) hx hb dX4_addRelaxedValue_78 (by decide) (fun c_83 => ?_) (fun c_83 => ?_)
            ·
              refine lv_aload_n hx hb dX4_addRelaxedValue_87 rfl (lv_at hl 5 rfl) ?_
              refine lv_iload hx hb dX4_addRelaxedValue_88 (lv_at hl 0 rfl) ?_
              have hFc := pg_free hD hS hA
              refine va_callv (va_runV (As := [.int (f i1)]) (rest := []) ⟨hx, hb, hml, hown, hts⟩ (s_X0_add_e l dC dI cs ty L H.size F_15 g1 σ r1 n1 aa.length fq (f i1) hW hL_g1 hT_g1 hN1 hN2 (by omega) (by omega)) ⟨callB_of 1 hts (gi kt_13) rfl rfl rfl (hts _ kt_1) (hts _ kt_230) (by decide +kernel) ⟨Nat.le_of_ble_eq_true rfl, Nat.le_of_ble_eq_true rfl⟩, (hts _ kt_15), (hts _ kt_16)⟩ ⟨fun a U g mk q => ⟨q.1, PT.calling q.2⟩, pg_recv hK hP hL_g1 hN1 (q := (RX0, TX0, 3)) rfl, fun U hU hWm => ⟨rfl, PT.mk hU hWm hP hK hD hE hO⟩⟩ rfl rfl hl.1 rfl (lv_room (Nat.le_of_ble_eq_true rfl)) dX4_addRelaxedValue_90 ⟨by show _ + 0 ≤ 0; omega, by show _ + 0 ≤ 0; omega⟩) hS (fun q _ h => hFc q h) hFc (fun u t H1 locs ht hvm hw hB hz1 hk1 hS => ?_)
              obtain ⟨F_85, hB1, hq_86, hq_87⟩ := hB
              obtain ⟨hP, hD, hO, hR⟩ := QT.back hB1 ht hFc hR (fun q h => by simp only [List.mem_cons, List.not_mem_nil, or_false] at h ⊢; omega)
              have hF_88 : F_85 h0 = .inr (4, [.ref tx, .ref y0, .ref y1, .ref y2, .int (nI nn), .int bb]) := (hB1.2.2.2 h0 (by rw [hT_h0]; simp only [List.mem_cons, List.not_mem_nil, or_false]; omega)).trans hF_23
              have hF_89 : F_85 tx = .inr (0, [.ref rx, .int (nI zm), .int oo]) := (hB1.2.2.2 tx (by rw [hT_tx]; simp only [List.mem_cons, List.not_mem_nil, or_false]; omega)).trans hF_24
              have hF_90 : F_85 rx = .inl (cs 16, 3000, .inl f) := (hB1.2.2.2 rx (by rw [ht_8]; simp only [List.mem_cons, List.not_mem_nil, or_false]; omega)).trans hF_25
              have hF_91 : F_85 y1 = .inl (cs 16, 20, .inl e1) := (hB1.2.2.2 y1 (by rw [ht_5]; simp only [List.mem_cons, List.not_mem_nil, or_false]; omega)).trans hF_26
              have hF_92 : F_85 y2 = .inl (cs 16, 20, .inl e2) := (hB1.2.2.2 y2 (by rw [ht_6]; simp only [List.mem_cons, List.not_mem_nil, or_false]; omega)).trans hF_27
              generalize H1 = H at hP hS ⊢
              have hou_93 := OUTS.add (y := (0, i1)) hN3 ev_0
              have hF_94 : F_85 g1 = .inr (0, [.ref r1, .int (nI (aa ++ [(0, i1)]).length), .int 0]) := by rw [len1]; exact hq_86
              refine lv_iconst (v := 1) hx hb dX4_addRelaxedValue_93 (by decide) ?_
              refine lv_istore (lv' := [(5, .int 1), (8, .int (f i1)), (7, .int (nI i1)), (6, .int w6), (0, .ref h0), (1, .ref g1), (2, .int (nI jk)), (3, .int (nI ks)), (4, .int (nI ke))]) hx hb dX4_addRelaxedValue_94 hl (by decide) rfl (fun ls hl => ?_)
              refine lv_iconst (v := 0) hx hb dX4_addRelaxedValue_96 (by decide) ?_
              refine lv_istore (lv' := [(6, .int 0), (5, .int 1), (8, .int (f i1)), (7, .int (nI i1)), (0, .ref h0), (1, .ref g1), (2, .int (nI jk)), (3, .int (nI ks)), (4, .int (nI ke))]) hx hb dX4_addRelaxedValue_97 hl (by decide) rfl (fun ls hl => ?_)
              refine lv_iinc (v := (nI (i1 + 1))) (lv' := [(7, .int (nI (i1 + 1))), (6, .int 0), (5, .int 1), (8, .int (f i1)), (0, .ref h0), (1, .ref g1), (2, .int (nI jk)), (3, .int (nI ks)), (4, .int (nI ke))]) hx hb dX4_addRelaxedValue_99 hl (k := 3) rfl (nI_1 _) (by decide) rfl (fun ls hl => ?_)
              refine lv_goto (tgt := 16) hx hb dX4_addRelaxedValue_102 (by decide) ?_
              refine W.widen (k := 0) (n := 0) (by omega) (by omega) ?_
              exact ih_22 ((i1 + 1), 1, 0, (aa ++ [(0, i1)]), (upd fq aa.length (f i1))) F_85 (⟨by omega, by omega, Or.inr rfl, by rw [len1]; omega, Or.inl rfl, rv_a hv6 hib (by rw [ctT_n hnc]; exact clg0n c_35) (by rw [ctT_n hnc]; exact clg1n (ifb0 hw_81 c_82)) c_83, hF_94, hq_87, hou_93⟩) (by show kd - (i1 + 1) < kd - i1; omega) hO hR _ _ hP hD hS ls (lv_sub hl [0, 1, 2, 4, 5, 6, 7, 8] rfl)
            ·
              refine lv_aload_n hx hb dX4_addRelaxedValue_81 rfl (lv_at hl 5 rfl) ?_
              refine lv_bipush (v := 32) hx hb dX4_addRelaxedValue_82 (by decide) ?_
              have hFc := pg_free hD hS hA
              refine va_callv (va_runV (As := [.int 32]) (rest := []) ⟨hx, hb, hml, hown, hts⟩ (s_X0_add_e l dC dI cs ty L H.size F_15 g1 σ r1 n1 aa.length fq 32 hW hL_g1 hT_g1 hN1 hN2 (by have h9 := hv5.resolve_left c_83; omega) (by omega)) ⟨callB_of 1 hts (gi kt_13) rfl rfl rfl (hts _ kt_1) (hts _ kt_230) (by decide +kernel) ⟨Nat.le_of_ble_eq_true rfl, Nat.le_of_ble_eq_true rfl⟩, (hts _ kt_15), (hts _ kt_16)⟩ ⟨fun a U g mk q => ⟨q.1, PT.calling q.2⟩, pg_recv hK hP hL_g1 hN1 (q := (RX0, TX0, 3)) rfl, fun U hU hWm => ⟨rfl, PT.mk hU hWm hP hK hD hE hO⟩⟩ rfl rfl hl.1 rfl (lv_room (Nat.le_of_ble_eq_true rfl)) dX4_addRelaxedValue_84 ⟨by show _ + 0 ≤ 0; omega, by show _ + 0 ≤ 0; omega⟩) hS (fun q _ h => hFc q h) hFc (fun u t H1 locs ht hvm hw hB hz1 hk1 hS => ?_)
              obtain ⟨F_96, hB1, hq_97, hq_98⟩ := hB
              obtain ⟨hP, hD, hO, hR⟩ := QT.back hB1 ht hFc hR (fun q h => by simp only [List.mem_cons, List.not_mem_nil, or_false] at h ⊢; omega)
              have hF_99 : F_96 h0 = .inr (4, [.ref tx, .ref y0, .ref y1, .ref y2, .int (nI nn), .int bb]) := (hB1.2.2.2 h0 (by rw [hT_h0]; simp only [List.mem_cons, List.not_mem_nil, or_false]; omega)).trans hF_23
              have hF_100 : F_96 tx = .inr (0, [.ref rx, .int (nI zm), .int oo]) := (hB1.2.2.2 tx (by rw [hT_tx]; simp only [List.mem_cons, List.not_mem_nil, or_false]; omega)).trans hF_24
              have hF_101 : F_96 rx = .inl (cs 16, 3000, .inl f) := (hB1.2.2.2 rx (by rw [ht_8]; simp only [List.mem_cons, List.not_mem_nil, or_false]; omega)).trans hF_25
              have hF_102 : F_96 y1 = .inl (cs 16, 20, .inl e1) := (hB1.2.2.2 y1 (by rw [ht_5]; simp only [List.mem_cons, List.not_mem_nil, or_false]; omega)).trans hF_26
              have hF_103 : F_96 y2 = .inl (cs 16, 20, .inl e2) := (hB1.2.2.2 y2 (by rw [ht_6]; simp only [List.mem_cons, List.not_mem_nil, or_false]; omega)).trans hF_27
              generalize H1 = H at hP hS ⊢
              have hou_104 := OUTS.add (y := (2, 32)) hN3 (show (32 : Int32) = evs f (2, 32) from rfl)
              have hF_105 : F_96 g1 = .inr (0, [.ref r1, .int (nI (aa ++ [(2, 32)]).length), .int 0]) := by rw [len1]; exact hq_97
              refine lv_aload_n hx hb dX4_addRelaxedValue_87 rfl (lv_at hl 5 rfl) ?_
              refine lv_iload hx hb dX4_addRelaxedValue_88 (lv_at hl 0 rfl) ?_
              have hFc := pg_free hD hS hA
              refine va_callv (va_runV (As := [.int (f i1)]) (rest := []) ⟨hx, hb, hml, hown, hts⟩ (s_X0_add_e l dC dI cs ty L H.size F_96 g1 σ r1 n1 ((aa ++ [(2, 32)]).length) (upd fq aa.length 32) (f i1) hW hL_g1 hT_g1 hF_105 hq_98 (by rw [len1]; have h9 := hv5.resolve_left c_83; omega) (by omega)) ⟨callB_of 1 hts (gi kt_13) rfl rfl rfl (hts _ kt_1) (hts _ kt_230) (by decide +kernel) ⟨Nat.le_of_ble_eq_true rfl, Nat.le_of_ble_eq_true rfl⟩, (hts _ kt_15), (hts _ kt_16)⟩ ⟨fun a U g mk q => ⟨q.1, PT.calling q.2⟩, pg_recv hK hP hL_g1 hF_105 (q := (RX0, TX0, 3)) rfl, fun U hU hWm => ⟨rfl, PT.mk hU hWm hP hK hD hE hO⟩⟩ rfl rfl hl.1 rfl (lv_room (Nat.le_of_ble_eq_true rfl)) dX4_addRelaxedValue_90 ⟨by show _ + 0 ≤ 0; omega, by show _ + 0 ≤ 0; omega⟩) hS (fun q _ h => hFc q h) hFc (fun u t H1 locs ht hvm hw hB hz1 hk1 hS => ?_)
              obtain ⟨F_107, hB1, hq_108, hq_109⟩ := hB
              obtain ⟨hP, hD, hO, hR⟩ := QT.back hB1 ht hFc hR (fun q h => by simp only [List.mem_cons, List.not_mem_nil, or_false] at h ⊢; omega)
              have hF_110 : F_107 h0 = .inr (4, [.ref tx, .ref y0, .ref y1, .ref y2, .int (nI nn), .int bb]) := (hB1.2.2.2 h0 (by rw [hT_h0]; simp only [List.mem_cons, List.not_mem_nil, or_false]; omega)).trans hF_99
              have hF_111 : F_107 tx = .inr (0, [.ref rx, .int (nI zm), .int oo]) := (hB1.2.2.2 tx (by rw [hT_tx]; simp only [List.mem_cons, List.not_mem_nil, or_false]; omega)).trans hF_100
              have hF_112 : F_107 rx = .inl (cs 16, 3000, .inl f) := (hB1.2.2.2 rx (by rw [ht_8]; simp only [List.mem_cons, List.not_mem_nil, or_false]; omega)).trans hF_101
              have hF_113 : F_107 y1 = .inl (cs 16, 20, .inl e1) := (hB1.2.2.2 y1 (by rw [ht_5]; simp only [List.mem_cons, List.not_mem_nil, or_false]; omega)).trans hF_102
              have hF_114 : F_107 y2 = .inl (cs 16, 20, .inl e2) := (hB1.2.2.2 y2 (by rw [ht_6]; simp only [List.mem_cons, List.not_mem_nil, or_false]; omega)).trans hF_103
              generalize H1 = H at hP hS ⊢
              have hou_115 := OUTS.add (y := (0, i1)) hou_104 ev_0
              have hF_116 : F_107 g1 = .inr (0, [.ref r1, .int (nI ((aa ++ [(2, 32)]) ++ [(0, i1)]).length), .int 0]) := by rw [len1]; exact hq_108
              refine lv_iconst (v := 1) hx hb dX4_addRelaxedValue_93 (by decide) ?_
              refine lv_istore (lv' := [(5, .int 1), (8, .int (f i1)), (7, .int (nI i1)), (6, .int w6), (0, .ref h0), (1, .ref g1), (2, .int (nI jk)), (3, .int (nI ks)), (4, .int (nI ke))]) hx hb dX4_addRelaxedValue_94 hl (by decide) rfl (fun ls hl => ?_)
              refine lv_iconst (v := 0) hx hb dX4_addRelaxedValue_96 (by decide) ?_
              refine lv_istore (lv' := [(6, .int 0), (5, .int 1), (8, .int (f i1)), (7, .int (nI i1)), (0, .ref h0), (1, .ref g1), (2, .int (nI jk)), (3, .int (nI ks)), (4, .int (nI ke))]) hx hb dX4_addRelaxedValue_97 hl (by decide) rfl (fun ls hl => ?_)
              refine lv_iinc (v := (nI (i1 + 1))) (lv' := [(7, .int (nI (i1 + 1))), (6, .int 0), (5, .int 1), (8, .int (f i1)), (0, .ref h0), (1, .ref g1), (2, .int (nI jk)), (3, .int (nI ks)), (4, .int (nI ke))]) hx hb dX4_addRelaxedValue_99 hl (k := 3) rfl (nI_1 _) (by decide) rfl (fun ls hl => ?_)
              refine lv_goto (tgt := 16) hx hb dX4_addRelaxedValue_102 (by decide) ?_
              refine W.widen (k := 0) (n := 0) (by omega) (by omega) ?_
              exact ih_22 ((i1 + 1), 1, 0, ((aa ++ [(2, 32)]) ++ [(0, i1)]), (upd (upd fq aa.length 32) (aa ++ [(2, 32)]).length (f i1))) F_107 (⟨by omega, by omega, Or.inr rfl, by rw [len1, len1]; have h9 := hv5.resolve_left c_83; omega, Or.inl rfl, rv_b hv6 hib (by rw [ctT_n hnc]; exact clg0n c_35) (by rw [ctT_n hnc]; exact clg1n (ifb0 hw_81 c_82)) c_83, hF_116, hq_109, hou_115⟩) (by show kd - (i1 + 1) < kd - i1; omega) hO hR _ _ hP hD hS ls (lv_sub hl [0, 1, 2, 4, 5, 6, 7, 8] rfl)
          ·
            refine lv_iload hx hb dX4_addRelaxedValue_69 (lv_at hl 3 rfl) ?_
            refine lv_istore (lv' := [(6, .int w5), (8, .int (f i1)), (7, .int (nI i1)), (5, .int w5), (0, .ref h0), (1, .ref g1), (2, .int (nI jk)), (3, .int (nI ks)), (4, .int (nI ke))]) hx hb dX4_addRelaxedValue_71 hl (by decide) rfl (fun ls hl => ?_)
            refine lv_goto (tgt := 99) hx hb dX4_addRelaxedValue_73 (by decide) ?_
            refine lv_iinc (v := (nI (i1 + 1))) (lv' := [(7, .int (nI (i1 + 1))), (6, .int w5), (8, .int (f i1)), (5, .int w5), (0, .ref h0), (1, .ref g1), (2, .int (nI jk)), (3, .int (nI ks)), (4, .int (nI ke))]) hx hb dX4_addRelaxedValue_99 hl (k := 2) rfl (nI_1 _) (by decide) rfl (fun ls hl => ?_)
            refine lv_goto (tgt := 16) hx hb dX4_addRelaxedValue_102 (by decide) ?_
            refine W.widen (k := 0) (n := 0) (by omega) (by omega) ?_
            exact ih_22 ((i1 + 1), w5, w5, aa, fq) F_15 (⟨by omega, by omega, hv3, by omega, Or.inr (by omega), rv_1 hv6 hib ((ctT_n hnc).trans (clg1 (ifb1 hw_81 c_82))), hN1, hN2, hN3⟩) (by show kd - (i1 + 1) < kd - i1; omega) hO hR _ _ hP hD hS ls (lv_sub hl [0, 1, 3, 4, 5, 6, 7, 8] rfl)
        ·
          have hi_117 : i1 < ke := ltN (N := ke) c_77
          have hke : i1 < ke := Nat.not_le.mp (fun q => c_77 ((nI_leI (by omega) (by omega)).mpr q))
          refine lv_goto (tgt := 99) hx hb dX4_addRelaxedValue_58 (by decide) ?_
          refine lv_iinc (v := (nI (i1 + 1))) (lv' := [(7, .int (nI (i1 + 1))), (8, .int (f i1)), (6, .int w6), (5, .int w5), (0, .ref h0), (1, .ref g1), (2, .int (nI jk)), (3, .int (nI ks)), (4, .int (nI ke))]) hx hb dX4_addRelaxedValue_99 hl (k := 1) rfl (nI_1 _) (by decide) rfl (fun ls hl => ?_)
          refine lv_goto (tgt := 16) hx hb dX4_addRelaxedValue_102 (by decide) ?_
          refine W.widen (k := 0) (n := 0) (by omega) (by omega) ?_
          exact ih_22 ((i1 + 1), w5, w6, aa, fq) F_15 (⟨by omega, by omega, hv3, by omega, by rcases hv5 with q | q; exact Or.inl q; exact Or.inr (by omega), rv_0 hv6 hib (ctT_y ⟨hks, hke⟩), hN1, hN2, hN3⟩) (by show kd - (i1 + 1) < kd - i1; omega) hO hR _ _ hP hD hS ls (lv_sub hl [0, 2, 3, 4, 5, 6, 7, 8] rfl)
set_option maxHeartbeats 4000000 in
set_option maxRecDepth 100000 in
theorem s_X4_addFieldWithout_w (l : Launch) (dC : Nat → ClassId) (dI : Nat → Nat → Nat) (cs : Nat → ClassId) (ty : TyM) (L : List Nat) (sz : Nat) (F : Nat → va_E) (h0 : Nat) (ρ : Nat) (tx : Nat) (y0 : Nat) (y1 : Nat) (y2 : Nat) (g1 : Nat) (σ : Nat) (r1 : Nat) (n1 : Nat) (rx : Nat) (zm : Nat) (nn : Nat) (jk : Nat) (kb : Nat) (kc : Nat) (kd : Nat) (f : Nat → Int32) (e0 : Nat → Int32) (e1 : Nat → Int32) (e2 : Nat → Int32) (fo : Nat → Int32) (bb : Int32) (oo : Int32) (ks : Nat) (ke : Nat) (ac : List (Nat × Nat)) (x3 : Int32) (hW : WT ty L) (hL_h0 : h0 ∈ L) (hT_h0 : ty h0 = (4, ρ, [tx, y0, y1, y2])) (hL_tx : tx ∈ L) (hT_tx : ty tx = (0, ρ + 1, [rx, 3000])) (hL_g1 : g1 ∈ L) (hT_g1 : ty g1 = (0, σ, [r1, n1])) (hF0 : F h0 = .inr (4, [.ref tx, .ref y0, .ref y1, .ref y2, .int (nI nn), .int bb])) (hFx : F tx = .inr (0, [.ref rx, .int (nI zm), .int oo])) (hFr : F rx = .inl (cs 16, 3000, .inl f)) (hFy1 : F y1 = .inl (cs 16, 20, .inl e1)) (hFy2 : F y2 = .inl (cs 16, 20, .inl e2)) (hFy0 : F y0 = .inl (cs 16, 20, .inl e0)) (hFg : F g1 = .inr (0, [.ref r1, .int (nI ac.length), .int 0])) (hFo : F r1 = .inl (cs 16, n1, .inl fo)) (hjk : jk < nn) (hn20 : nn ≤ 20) (hbc : kb < kc) (hcd : kc < kd) (hdz : kd ≤ zm) (hz3 : zm ≤ 3000) (hroom : ac.length + (kd - kb) ≤ n1) (hn9 : n1 ≤ 10000) (hse : ks = ke ∨ (kc < ks ∧ ks ≤ ke ∧ ke ≤ kd)) (hke4 : ks ≤ 10000 ∧ ke ≤ 10000) (hfar : ρ + 10 ≤ σ ∨ σ + 10 ≤ ρ) (heb : e0 jk = nI kb) (hec : e1 jk = nI kc) (hed : e2 jk = nI kd) (hou : OUTS f fo ac) : Met l yX4_addFieldWithout (.code yX4_addFieldWithout cX4_addFieldWithout 7 none :: tb) ({ frames := 2, cells := 0, slots := 0, locals := 74 }) (va_Pc [.ref h0, .ref g1, .int (nI jk), .int x3, .int (nI ks), .int (nI ke)] (PT (dC, dI) cs ty L F sz)) (va_Qv (fun _ : Unit => True) (fun _ T9 => ∃ F2 : Nat → va_E, ∃ fo2 : Nat → Int32, QT (dC, dI) cs ty L [σ] F F2 (va_A (va_pl L F) sz) T9 ∧ F2 g1 = .inr (0, [.ref r1, .int (nI (ac ++ (FPW (clf f) x3 kb kc kd ks ke)).length), .int 0]) ∧ F2 r1 = .inl (cs 16, n1, .inl fo2) ∧ OUTS f fo2 (ac ++ (FPW (clf f) x3 kb kc kd ks ke))) (va_A (va_pl L F) sz)) 0 0 (va_A (va_pl L F) sz) := by
  refine Met.ofW (cc := cX4_addFieldWithout) (maxL := 7) (ret := none) (by decide) rfl ?_
  intro p e s m args below meth c s₁ B hml hv
  obtain ⟨rfl, hsz, hP, hK, hD0, hE, hO⟩ := hv
  have hx := B.exec
  have hb := B.bytes
  have hr := B.returns
  have hts : ∀ w ∈ tb, w.before _ s = true := fun w h => atoms_spec (ws := .code yX4_addFieldWithout cX4_addFieldWithout 7 none :: tb) B.pre w (List.mem_cons_of_mem _ h)
  have hown : s.vm.findClass RX4 = some m.cls := findClass_of_methodNamed B.named
  have hlocks := B.notSynchronized
  subst hsz
  have hD := hD0.self (sz := s.heap.size)
  generalize hAe : va_A (va_pl L F) s.heap.size = A at hD ⊢
  have hA : ∀ q : Nat, s.heap.size ≤ q → A q := fun q h => by rw [← hAe]; exact Or.inr h
  have hS : va_S A s.heap s.heap [] := va_S.rf
  have hR : FR ty [σ] F F := FR.refl
  have hl := lv_entry ([.ref h0, .ref g1, .int (nI jk), .int x3, .int (nI ks), .int (nI ke)]) (n := 7) (Nat.le_of_ble_eq_true rfl)
  rw [lg_entry_eq]
  generalize (lg_sl ([.ref h0, .ref g1, .int (nI jk), .int x3, .int (nI ks), .int (nI ke)]) ++ List.replicate (7 - (lg_sl ([.ref h0, .ref g1, .int (nI jk), .int x3, .int (nI ks), .int (nI ke)])).length) Slot.unset).toArray = ls at hl ⊢
  have hl : lv_has ls 7 [(0, .ref h0), (1, .ref g1), (2, .int (nI jk)), (3, .int x3), (4, .int (nI ks)), (5, .int (nI ke))] := hl
  obtain ⟨_, hi_1, hi_2, hi_3, _, ht_4, ht_5, ht_6⟩ := hW.msg hL_h0 hT_h0
  obtain ⟨hi_7, ht_8, hq_9⟩ := hW.bytes hL_tx hT_tx
  obtain ⟨hi_10, ht_11, hq_12⟩ := hW.bytes hL_g1 hT_g1
  refine lv_iload_n hx hb dX4_addFieldWithout_0 rfl (lv_at hl 2 rfl) ?_
  refine lv_if_lt (tgt := 12) hx hb dX4_addFieldWithout_1 (by decide) (fun c_13 => absurd c_13 (nI_pos (by omega))) (fun c_13 => ?_)
  refine lv_iload_n hx hb dX4_addFieldWithout_4 rfl (lv_at hl 2 rfl) ?_
  refine lv_aload_n hx hb dX4_addFieldWithout_5 rfl (lv_at hl 0 rfl) ?_
  refine pg_get (ci := 4) (v := .int (nI nn)) (C := RX4) (T := TX4) (N := 6) hx hb hts it_4 hown hK hP hL_h0 hF0 rfl 4 (by decide) (hts _ kt_203) (fun _ h9 => h9) rfl dX4_addFieldWithout_6 ?_
  refine lv_icmp_lt (tgt := 13) hx hb dX4_addFieldWithout_9 (by decide) (fun c_14 => ?_) (fun c_14 => absurd ((nI_ltI (by omega) (by omega)).mpr hjk) c_14)
  refine lv_iload_n hx hb dX4_addFieldWithout_13 rfl (lv_at hl 3 rfl) ?_
  refine lv_if_eq (tgt := 77) hx hb dX4_addFieldWithout_14 (by decide) (fun c_15 => ?_) (fun c_15 => ?_)
  ·
    refine lv_iload hx hb dX4_addFieldWithout_77 (lv_at hl 4 rfl) ?_
    refine lv_iload hx hb dX4_addFieldWithout_79 (lv_at hl 5 rfl) ?_
    refine lv_icmp_ne (tgt := 107) hx hb dX4_addFieldWithout_81 (by decide) (fun c_16 => ?_) (fun c_16 => ?_)
    ·
      have hkne : ¬ ks = ke := fun q => c_16 (by rw [q])
      refine lv_aload_n hx hb dX4_addFieldWithout_107 rfl (lv_at hl 1 rfl) ?_
      refine lv_aload_n hx hb dX4_addFieldWithout_108 rfl (lv_at hl 0 rfl) ?_
      refine pg_get (ci := 4) (v := .ref tx) (C := RX4) (T := TX4) (N := 6) hx hb hts it_4 hown hK hP hL_h0 hF0 rfl 0 (by decide) (hts _ kt_207) (fun _ h9 => h9) rfl dX4_addFieldWithout_109 ?_
      refine lv_aload_n hx hb dX4_addFieldWithout_112 rfl (lv_at hl 0 rfl) ?_
      refine pg_get (ci := 4) (v := .ref y0) (C := RX4) (T := TX4) (N := 6) hx hb hts it_4 hown hK hP hL_h0 hF0 rfl 1 (by decide) (hts _ kt_205) (fun _ h9 => h9) rfl dX4_addFieldWithout_113 ?_
      refine lv_iload_n hx hb dX4_addFieldWithout_116 rfl (lv_at hl 2 rfl) ?_
      refine pg_iald hx hb hK hP hi_1 0 hFy0 rfl (vp_in_nI (by omega) (by omega)) dX4_addFieldWithout_117 ?_
      refine lv_topi (fun x_18 ex_18 => ?_)
      obtain rfl : x_18 = (nI kb) := ex_18.trans ((congrArg e0 (nI_clamp (by omega))).trans heb)
      refine lv_iload hx hb dX4_addFieldWithout_118 (lv_at hl 4 rfl) ?_
      have hFc := pg_free hD hS hA
      refine va_callv (va_runV (As := [.ref tx, .int (nI kb), .int (nI ks)]) (rest := []) ⟨hx, hb, hml, hown, hts⟩ (s_X0_addRange_p l dC dI cs ty L s.heap.size F g1 σ r1 n1 tx (ρ + 1) rx 3000 ac.length zm kb ks f fo oo hW hL_g1 hT_g1 hL_tx hT_tx hFg hFo hFx hFr (by omega) (by omega) (by omega) (by omega) (by omega) (by omega)) ⟨callB_of 3 hts (gi kt_36) rfl rfl rfl (hts _ kt_1) (hts _ kt_231) (by decide +kernel) ⟨Nat.le_of_ble_eq_true rfl, Nat.le_of_ble_eq_true rfl⟩, (hts _ kt_38), (hts _ kt_39)⟩ ⟨fun a U g mk q => ⟨q.1, PT.calling q.2⟩, pg_recv hK hP hL_g1 hFg (q := (RX0, TX0, 3)) rfl, fun U hU hWm => ⟨rfl, PT.mk hU hWm hP hK hD hE hO⟩⟩ rfl rfl hl.1 rfl (lv_room (Nat.le_of_ble_eq_true rfl)) dX4_addFieldWithout_120 ⟨by show _ + 0 ≤ 0; omega, by show _ + 0 ≤ 0; omega⟩) hS (fun q _ h => hFc q h) hFc (fun u t H1 locs ht hvm hw hB hz1 hk1 hS => ?_)
      obtain ⟨F_20, fc_21, hB1, hq_22, hq_23, hq_24, hq_25⟩ := hB
      obtain ⟨hP, hD, hO, hR⟩ := QT.back hB1 ht hFc hR (fun q h => by simp only [List.mem_cons, List.not_mem_nil, or_false] at h ⊢; omega)
      have hF_26 : F_20 h0 = .inr (4, [.ref tx, .ref y0, .ref y1, .ref y2, .int (nI nn), .int bb]) := (hB1.2.2.2 h0 (by rw [hT_h0]; simp only [List.mem_cons, List.not_mem_nil, or_false]; omega)).trans hF0
      have hF_27 : F_20 tx = .inr (0, [.ref rx, .int (nI zm), .int oo]) := (hB1.2.2.2 tx (by rw [hT_tx]; simp only [List.mem_cons, List.not_mem_nil, or_false]; omega)).trans hFx
      have hF_28 : F_20 rx = .inl (cs 16, 3000, .inl f) := (hB1.2.2.2 rx (by rw [ht_8]; simp only [List.mem_cons, List.not_mem_nil, or_false]; omega)).trans hFr
      have hF_29 : F_20 y1 = .inl (cs 16, 20, .inl e1) := (hB1.2.2.2 y1 (by rw [ht_5]; simp only [List.mem_cons, List.not_mem_nil, or_false]; omega)).trans hFy1
      have hF_30 : F_20 y2 = .inl (cs 16, 20, .inl e2) := (hB1.2.2.2 y2 (by rw [ht_6]; simp only [List.mem_cons, List.not_mem_nil, or_false]; omega)).trans hFy2
      have hF_31 : F_20 y0 = .inl (cs 16, 20, .inl e0) := (hB1.2.2.2 y0 (by rw [ht_4]; simp only [List.mem_cons, List.not_mem_nil, or_false]; omega)).trans hFy0
      generalize H1 = H at hP hS ⊢
      refine lv_aload_n hx hb dX4_addFieldWithout_123 rfl (lv_at hl 1 rfl) ?_
      refine lv_aload_n hx hb dX4_addFieldWithout_124 rfl (lv_at hl 0 rfl) ?_
      refine pg_get (ci := 4) (v := .ref tx) (C := RX4) (T := TX4) (N := 6) hx hb hts it_4 hown hK hP hL_h0 hF_26 rfl 0 (by decide) (hts _ kt_207) (fun _ h9 => h9) rfl dX4_addFieldWithout_125 ?_
      refine lv_iload hx hb dX4_addFieldWithout_128 (lv_at hl 5 rfl) ?_
      refine lv_aload_n hx hb dX4_addFieldWithout_130 rfl (lv_at hl 0 rfl) ?_
      refine pg_get (ci := 4) (v := .ref y2) (C := RX4) (T := TX4) (N := 6) hx hb hts it_4 hown hK hP hL_h0 hF_26 rfl 3 (by decide) (hts _ kt_220) (fun _ h9 => h9) rfl dX4_addFieldWithout_131 ?_
      refine lv_iload_n hx hb dX4_addFieldWithout_134 rfl (lv_at hl 2 rfl) ?_
      refine pg_iald hx hb hK hP hi_3 0 hF_30 rfl (vp_in_nI (by omega) (by omega)) dX4_addFieldWithout_135 ?_
      refine lv_topi (fun x_32 ex_32 => ?_)
      obtain rfl : x_32 = (nI kd) := ex_32.trans ((congrArg e2 (nI_clamp (by omega))).trans hed)
      have hFc := pg_free hD hS hA
      refine va_callv (va_runV (As := [.ref tx, .int (nI ke), .int (nI kd)]) (rest := []) ⟨hx, hb, hml, hown, hts⟩ (s_X0_addRange_p l dC dI cs ty L H.size F_20 g1 σ r1 n1 tx (ρ + 1) rx 3000 (ac.length + (ks - kb)) zm ke kd f fc_21 oo hW hL_g1 hT_g1 hL_tx hT_tx hq_22 hq_23 hF_27 hF_28 (by omega) (by omega) (by omega) (by omega) (by omega) (by omega)) ⟨callB_of 3 hts (gi kt_36) rfl rfl rfl (hts _ kt_1) (hts _ kt_231) (by decide +kernel) ⟨Nat.le_of_ble_eq_true rfl, Nat.le_of_ble_eq_true rfl⟩, (hts _ kt_38), (hts _ kt_39)⟩ ⟨fun a U g mk q => ⟨q.1, PT.calling q.2⟩, pg_recv hK hP hL_g1 hq_22 (q := (RX0, TX0, 3)) rfl, fun U hU hWm => ⟨rfl, PT.mk hU hWm hP hK hD hE hO⟩⟩ rfl rfl hl.1 rfl (lv_room (Nat.le_of_ble_eq_true rfl)) dX4_addFieldWithout_136 ⟨by show _ + 0 ≤ 0; omega, by show _ + 0 ≤ 0; omega⟩) hS (fun q _ h => hFc q h) hFc (fun u t H1 locs ht hvm hw hB hz1 hk1 hS => ?_)
      obtain ⟨F_34, fc_35, hB1, hq_36, hq_37, hq_38, hq_39⟩ := hB
      obtain ⟨hP, hD, hO, hR⟩ := QT.back hB1 ht hFc hR (fun q h => by simp only [List.mem_cons, List.not_mem_nil, or_false] at h ⊢; omega)
      have hF_40 : F_34 h0 = .inr (4, [.ref tx, .ref y0, .ref y1, .ref y2, .int (nI nn), .int bb]) := (hB1.2.2.2 h0 (by rw [hT_h0]; simp only [List.mem_cons, List.not_mem_nil, or_false]; omega)).trans hF_26
      have hF_41 : F_34 tx = .inr (0, [.ref rx, .int (nI zm), .int oo]) := (hB1.2.2.2 tx (by rw [hT_tx]; simp only [List.mem_cons, List.not_mem_nil, or_false]; omega)).trans hF_27
      have hF_42 : F_34 rx = .inl (cs 16, 3000, .inl f) := (hB1.2.2.2 rx (by rw [ht_8]; simp only [List.mem_cons, List.not_mem_nil, or_false]; omega)).trans hF_28
      have hF_43 : F_34 y1 = .inl (cs 16, 20, .inl e1) := (hB1.2.2.2 y1 (by rw [ht_5]; simp only [List.mem_cons, List.not_mem_nil, or_false]; omega)).trans hF_29
      have hF_44 : F_34 y2 = .inl (cs 16, 20, .inl e2) := (hB1.2.2.2 y2 (by rw [ht_6]; simp only [List.mem_cons, List.not_mem_nil, or_false]; omega)).trans hF_30
      have hF_45 : F_34 y0 = .inl (cs 16, 20, .inl e0) := (hB1.2.2.2 y0 (by rw [ht_4]; simp only [List.mem_cons, List.not_mem_nil, or_false]; omega)).trans hF_31
      generalize H1 = H at hP hS ⊢
      refine W.widen (k := 0) (n := 0) (by omega) (by omega) ?_
      exact W.vret hx hb hr (fun t ht hWm => ⟨⟨(), rfl, trivial, ⟨F_34, fc_35, QT.mk ht hP hD hO hR, (by rw [FPW_t c_15 hkne, List.length_append, List.length_append, rng_len, rng_len, ← Nat.add_assoc]; exact hq_36), hq_37, (by rw [FPW_t c_15 hkne, ← List.append_assoc]; exact (hou.apr hq_24 hq_25).apr (by rw [List.length_append, rng_len]; exact hq_38) (by rw [List.length_append, rng_len]; exact hq_39))⟩⟩, hS.F ht⟩) hS.2.2 dX4_addFieldWithout_139
    ·
      have hkeq : ks = ke := (nI_eq (by omega) (by omega)).mp c_16
      refine lv_aload_n hx hb dX4_addFieldWithout_84 rfl (lv_at hl 1 rfl) ?_
      refine lv_aload_n hx hb dX4_addFieldWithout_85 rfl (lv_at hl 0 rfl) ?_
      refine pg_get (ci := 4) (v := .ref tx) (C := RX4) (T := TX4) (N := 6) hx hb hts it_4 hown hK hP hL_h0 hF0 rfl 0 (by decide) (hts _ kt_207) (fun _ h9 => h9) rfl dX4_addFieldWithout_86 ?_
      refine lv_aload_n hx hb dX4_addFieldWithout_89 rfl (lv_at hl 0 rfl) ?_
      refine pg_get (ci := 4) (v := .ref y0) (C := RX4) (T := TX4) (N := 6) hx hb hts it_4 hown hK hP hL_h0 hF0 rfl 1 (by decide) (hts _ kt_205) (fun _ h9 => h9) rfl dX4_addFieldWithout_90 ?_
      refine lv_iload_n hx hb dX4_addFieldWithout_93 rfl (lv_at hl 2 rfl) ?_
      refine pg_iald hx hb hK hP hi_1 0 hFy0 rfl (vp_in_nI (by omega) (by omega)) dX4_addFieldWithout_94 ?_
      refine lv_topi (fun x_47 ex_47 => ?_)
      obtain rfl : x_47 = (nI kb) := ex_47.trans ((congrArg e0 (nI_clamp (by omega))).trans heb)
      refine lv_aload_n hx hb dX4_addFieldWithout_95 rfl (lv_at hl 0 rfl) ?_
      refine pg_get (ci := 4) (v := .ref y2) (C := RX4) (T := TX4) (N := 6) hx hb hts it_4 hown hK hP hL_h0 hF0 rfl 3 (by decide) (hts _ kt_220) (fun _ h9 => h9) rfl dX4_addFieldWithout_96 ?_
      refine lv_iload_n hx hb dX4_addFieldWithout_99 rfl (lv_at hl 2 rfl) ?_
      refine pg_iald hx hb hK hP hi_3 0 hFy2 rfl (vp_in_nI (by omega) (by omega)) dX4_addFieldWithout_100 ?_
      refine lv_topi (fun x_48 ex_48 => ?_)
      obtain rfl : x_48 = (nI kd) := ex_48.trans ((congrArg e2 (nI_clamp (by omega))).trans hed)
      have hFc := pg_free hD hS hA
      refine va_callv (va_runV (As := [.ref tx, .int (nI kb), .int (nI kd)]) (rest := []) ⟨hx, hb, hml, hown, hts⟩ (s_X0_addRange_p l dC dI cs ty L s.heap.size F g1 σ r1 n1 tx (ρ + 1) rx 3000 ac.length zm kb kd f fo oo hW hL_g1 hT_g1 hL_tx hT_tx hFg hFo hFx hFr (by omega) (by omega) (by omega) (by omega) (by omega) (by omega)) ⟨callB_of 3 hts (gi kt_36) rfl rfl rfl (hts _ kt_1) (hts _ kt_231) (by decide +kernel) ⟨Nat.le_of_ble_eq_true rfl, Nat.le_of_ble_eq_true rfl⟩, (hts _ kt_38), (hts _ kt_39)⟩ ⟨fun a U g mk q => ⟨q.1, PT.calling q.2⟩, pg_recv hK hP hL_g1 hFg (q := (RX0, TX0, 3)) rfl, fun U hU hWm => ⟨rfl, PT.mk hU hWm hP hK hD hE hO⟩⟩ rfl rfl hl.1 rfl (lv_room (Nat.le_of_ble_eq_true rfl)) dX4_addFieldWithout_101 ⟨by show _ + 0 ≤ 0; omega, by show _ + 0 ≤ 0; omega⟩) hS (fun q _ h => hFc q h) hFc (fun u t H1 locs ht hvm hw hB hz1 hk1 hS => ?_)
      obtain ⟨F_50, fc_51, hB1, hq_52, hq_53, hq_54, hq_55⟩ := hB
      obtain ⟨hP, hD, hO, hR⟩ := QT.back hB1 ht hFc hR (fun q h => by simp only [List.mem_cons, List.not_mem_nil, or_false] at h ⊢; omega)
      have hF_56 : F_50 h0 = .inr (4, [.ref tx, .ref y0, .ref y1, .ref y2, .int (nI nn), .int bb]) := (hB1.2.2.2 h0 (by rw [hT_h0]; simp only [List.mem_cons, List.not_mem_nil, or_false]; omega)).trans hF0
      have hF_57 : F_50 tx = .inr (0, [.ref rx, .int (nI zm), .int oo]) := (hB1.2.2.2 tx (by rw [hT_tx]; simp only [List.mem_cons, List.not_mem_nil, or_false]; omega)).trans hFx
      have hF_58 : F_50 rx = .inl (cs 16, 3000, .inl f) := (hB1.2.2.2 rx (by rw [ht_8]; simp only [List.mem_cons, List.not_mem_nil, or_false]; omega)).trans hFr
      have hF_59 : F_50 y1 = .inl (cs 16, 20, .inl e1) := (hB1.2.2.2 y1 (by rw [ht_5]; simp only [List.mem_cons, List.not_mem_nil, or_false]; omega)).trans hFy1
      have hF_60 : F_50 y2 = .inl (cs 16, 20, .inl e2) := (hB1.2.2.2 y2 (by rw [ht_6]; simp only [List.mem_cons, List.not_mem_nil, or_false]; omega)).trans hFy2
      have hF_61 : F_50 y0 = .inl (cs 16, 20, .inl e0) := (hB1.2.2.2 y0 (by rw [ht_4]; simp only [List.mem_cons, List.not_mem_nil, or_false]; omega)).trans hFy0
      generalize H1 = H at hP hS ⊢
      refine lv_goto (tgt := 139) hx hb dX4_addFieldWithout_104 (by decide) ?_
      refine W.widen (k := 0) (n := 0) (by omega) (by omega) ?_
      exact W.vret hx hb hr (fun t ht hWm => ⟨⟨(), rfl, trivial, ⟨F_50, fc_51, QT.mk ht hP hD hO hR, (by rw [FPW_s c_15 hkeq, List.length_append, rng_len]; exact hq_52), hq_53, (by rw [FPW_s c_15 hkeq]; exact hou.apr hq_54 hq_55)⟩⟩, hS.F ht⟩) hS.2.2 dX4_addFieldWithout_139
  ·
    refine lv_aload_n hx hb dX4_addFieldWithout_17 rfl (lv_at hl 0 rfl) ?_
    refine pg_get (ci := 4) (v := .ref y0) (C := RX4) (T := TX4) (N := 6) hx hb hts it_4 hown hK hP hL_h0 hF0 rfl 1 (by decide) (hts _ kt_205) (fun _ h9 => h9) rfl dX4_addFieldWithout_18 ?_
    refine lv_iload_n hx hb dX4_addFieldWithout_21 rfl (lv_at hl 2 rfl) ?_
    refine pg_iald hx hb hK hP hi_1 0 hFy0 rfl (vp_in_nI (by omega) (by omega)) dX4_addFieldWithout_22 ?_
    refine lv_topi (fun x_62 ex_62 => ?_)
    obtain rfl : x_62 = (nI kb) := ex_62.trans ((congrArg e0 (nI_clamp (by omega))).trans heb)
    refine lv_istore (lv' := [(6, .int (nI kb)), (0, .ref h0), (1, .ref g1), (2, .int (nI jk)), (3, .int x3), (4, .int (nI ks)), (5, .int (nI ke))]) hx hb dX4_addFieldWithout_23 hl (by decide) rfl (fun ls hl => ?_)
    refine W.widen (k := 0) (n := 0) (by omega) (by omega) ?_
    have hF_64 : F h0 = .inr (4, [.ref tx, .ref y0, .ref y1, .ref y2, .int (nI nn), .int bb]) := (hR h0 (by rw [hT_h0]; simp only [List.mem_cons, List.not_mem_nil, or_false]; omega)).symm.trans hF0
    have hF_65 : F tx = .inr (0, [.ref rx, .int (nI zm), .int oo]) := (hR tx (by rw [hT_tx]; simp only [List.mem_cons, List.not_mem_nil, or_false]; omega)).symm.trans hFx
    have hF_66 : F rx = .inl (cs 16, 3000, .inl f) := (hR rx (by rw [ht_8]; simp only [List.mem_cons, List.not_mem_nil, or_false]; omega)).symm.trans hFr
    have hF_67 : F y1 = .inl (cs 16, 20, .inl e1) := (hR y1 (by rw [ht_5]; simp only [List.mem_cons, List.not_mem_nil, or_false]; omega)).symm.trans hFy1
    have hF_68 : F y2 = .inl (cs 16, 20, .inl e2) := (hR y2 (by rw [ht_6]; simp only [List.mem_cons, List.not_mem_nil, or_false]; omega)).symm.trans hFy2
    have hF_69 : F y0 = .inl (cs 16, 20, .inl e0) := (hR y0 (by rw [ht_4]; simp only [List.mem_cons, List.not_mem_nil, or_false]; omega)).symm.trans hFy0
    refine pl_loop (σ := Nat × (Nat → Int32)) A (dC, dI) cs ty L [σ] F 25 7 (fun (i1, fq) => [(6, .int (nI i1)), (0, .ref h0), (1, .ref g1), (2, .int (nI jk)), (3, .int x3), (4, .int (nI ks)), (5, .int (nI ke))]) (fun (i1, fq) => []) (fun (i1, fq) FF => kb ≤ i1 ∧ i1 ≤ kc ∧ FF g1 = .inr (0, [.ref r1, .int (nI (ac.length + (i1 - kb))), .int 0]) ∧ FF r1 = .inl (cs 16, n1, .inl fq) ∧ OUTS f fq (ac ++ rng 1 kb (i1 - kb))) (fun (i1, fq) => kc - i1) ?_ (kb, fo) F (⟨by omega, by omega, (by rw [Nat.sub_self, Nat.add_zero]; exact hFg), hFo, (by rw [Nat.sub_self]; show OUTS f fo (ac ++ []); rw [List.append_nil]; exact hou)⟩) hO hR _ _ hP hD hS ls (lv_sub hl [0, 1, 2, 3, 4, 5, 6] rfl)
    rintro ⟨i1, fq⟩ F_63 hv_70 hO hR ih_71 H locs hP hD hS ls hl
    have hl : lv_has ls 7 [(6, .int (nI i1)), (0, .ref h0), (1, .ref g1), (2, .int (nI jk)), (3, .int x3), (4, .int (nI ks)), (5, .int (nI ke))] := hl
    have hv_70 : kb ≤ i1 ∧ i1 ≤ kc ∧ F_63 g1 = .inr (0, [.ref r1, .int (nI (ac.length + (i1 - kb))), .int 0]) ∧ F_63 r1 = .inl (cs 16, n1, .inl fq) ∧ OUTS f fq (ac ++ rng 1 kb (i1 - kb)) := hv_70
    refine W.eq (g2 := F0 m 25 ls []) rfl ?_
    have hF_72 : F_63 h0 = .inr (4, [.ref tx, .ref y0, .ref y1, .ref y2, .int (nI nn), .int bb]) := (hR h0 (by rw [hT_h0]; simp only [List.mem_cons, List.not_mem_nil, or_false]; omega)).trans hF_64
    have hF_73 : F_63 tx = .inr (0, [.ref rx, .int (nI zm), .int oo]) := (hR tx (by rw [hT_tx]; simp only [List.mem_cons, List.not_mem_nil, or_false]; omega)).trans hF_65
    have hF_74 : F_63 rx = .inl (cs 16, 3000, .inl f) := (hR rx (by rw [ht_8]; simp only [List.mem_cons, List.not_mem_nil, or_false]; omega)).trans hF_66
    have hF_75 : F_63 y1 = .inl (cs 16, 20, .inl e1) := (hR y1 (by rw [ht_5]; simp only [List.mem_cons, List.not_mem_nil, or_false]; omega)).trans hF_67
    have hF_76 : F_63 y2 = .inl (cs 16, 20, .inl e2) := (hR y2 (by rw [ht_6]; simp only [List.mem_cons, List.not_mem_nil, or_false]; omega)).trans hF_68
    have hF_77 : F_63 y0 = .inl (cs 16, 20, .inl e0) := (hR y0 (by rw [ht_4]; simp only [List.mem_cons, List.not_mem_nil, or_false]; omega)).trans hF_69
    obtain ⟨hv1, hv2, hN1, hN2, hN3⟩ := id hv_70
    refine lv_iload hx hb dX4_addFieldWithout_25 (lv_at hl 0 rfl) ?_
    refine lv_aload_n hx hb dX4_addFieldWithout_27 rfl (lv_at hl 1 rfl) ?_
    refine pg_get (ci := 4) (v := .ref y1) (C := RX4) (T := TX4) (N := 6) hx hb hts it_4 hown hK hP hL_h0 hF_72 rfl 2 (by decide) (hts _ kt_204) (fun _ h9 => h9) rfl dX4_addFieldWithout_28 ?_
    refine lv_iload_n hx hb dX4_addFieldWithout_31 rfl (lv_at hl 3 rfl) ?_
    refine pg_iald hx hb hK hP hi_2 0 hF_75 rfl (vp_in_nI (by omega) (by omega)) dX4_addFieldWithout_32 ?_
    refine lv_topi (fun x_78 ex_78 => ?_)
    obtain rfl : x_78 = (nI kc) := ex_78.trans ((congrArg e1 (nI_clamp (by omega))).trans hec)
    refine lv_icmp_ge (tgt := 58) hx hb dX4_addFieldWithout_33 (by decide) (fun c_79 => ?_) (fun c_79 => ?_)
    ·
      have hi_80 : kc ≤ i1 := leN (N := kc) c_79
      have hib : i1 = kc := by have h9 : kc ≤ i1 := (nI_leI (by omega) (by omega)).mp c_79; omega
      refine lv_aload_n hx hb dX4_addFieldWithout_58 rfl (lv_at hl 2 rfl) ?_
      refine lv_bipush (v := 58) hx hb dX4_addFieldWithout_59 (by decide) ?_
      have hFc := pg_free hD hS hA
      refine va_callv (va_runV (As := [.int 58]) (rest := []) ⟨hx, hb, hml, hown, hts⟩ (s_X0_add_e l dC dI cs ty L H.size F_63 g1 σ r1 n1 (ac.length + (i1 - kb)) fq 58 hW hL_g1 hT_g1 hN1 hN2 (by omega) (by omega)) ⟨callB_of 1 hts (gi kt_13) rfl rfl rfl (hts _ kt_1) (hts _ kt_230) (by decide +kernel) ⟨Nat.le_of_ble_eq_true rfl, Nat.le_of_ble_eq_true rfl⟩, (hts _ kt_15), (hts _ kt_16)⟩ ⟨fun a U g mk q => ⟨q.1, PT.calling q.2⟩, pg_recv hK hP hL_g1 hN1 (q := (RX0, TX0, 3)) rfl, fun U hU hWm => ⟨rfl, PT.mk hU hWm hP hK hD hE hO⟩⟩ rfl rfl hl.1 rfl (lv_room (Nat.le_of_ble_eq_true rfl)) dX4_addFieldWithout_61 ⟨by show _ + 0 ≤ 0; omega, by show _ + 0 ≤ 0; omega⟩) hS (fun q _ h => hFc q h) hFc (fun u t H1 locs ht hvm hw hB hz1 hk1 hS => ?_)
      obtain ⟨F_82, hB1, hq_83, hq_84⟩ := hB
      obtain ⟨hP, hD, hO, hR⟩ := QT.back hB1 ht hFc hR (fun q h => by simp only [List.mem_cons, List.not_mem_nil, or_false] at h ⊢; omega)
      have hF_85 : F_82 h0 = .inr (4, [.ref tx, .ref y0, .ref y1, .ref y2, .int (nI nn), .int bb]) := (hB1.2.2.2 h0 (by rw [hT_h0]; simp only [List.mem_cons, List.not_mem_nil, or_false]; omega)).trans hF_72
      have hF_86 : F_82 tx = .inr (0, [.ref rx, .int (nI zm), .int oo]) := (hB1.2.2.2 tx (by rw [hT_tx]; simp only [List.mem_cons, List.not_mem_nil, or_false]; omega)).trans hF_73
      have hF_87 : F_82 rx = .inl (cs 16, 3000, .inl f) := (hB1.2.2.2 rx (by rw [ht_8]; simp only [List.mem_cons, List.not_mem_nil, or_false]; omega)).trans hF_74
      have hF_88 : F_82 y1 = .inl (cs 16, 20, .inl e1) := (hB1.2.2.2 y1 (by rw [ht_5]; simp only [List.mem_cons, List.not_mem_nil, or_false]; omega)).trans hF_75
      have hF_89 : F_82 y2 = .inl (cs 16, 20, .inl e2) := (hB1.2.2.2 y2 (by rw [ht_6]; simp only [List.mem_cons, List.not_mem_nil, or_false]; omega)).trans hF_76
      have hF_90 : F_82 y0 = .inl (cs 16, 20, .inl e0) := (hB1.2.2.2 y0 (by rw [ht_4]; simp only [List.mem_cons, List.not_mem_nil, or_false]; omega)).trans hF_77
      generalize H1 = H at hP hS ⊢
      have hou_91 : OUTS f (upd fq (ac.length + (i1 - kb)) 58) (ac ++ rng 1 kb (kc - kb) ++ [(2, 58)]) := by rw [hib] at hN3; have h8 := OUTS.add (y := (2, 58)) hN3 (show (58 : Int32) = evs f (2, 58) from rfl); rw [List.length_append, rng_len] at h8; rw [hib]; exact h8
      have hF_92 : F_82 g1 = .inr (0, [.ref r1, .int (nI (ac ++ rng 1 kb (kc - kb) ++ [(2, 58)]).length), .int 0]) := by rw [len1, List.length_append, rng_len, ← hib]; exact hq_83
      refine lv_aload_n hx hb dX4_addFieldWithout_64 rfl (lv_at hl 1 rfl) ?_
      refine lv_aload_n hx hb dX4_addFieldWithout_65 rfl (lv_at hl 2 rfl) ?_
      refine lv_iload_n hx hb dX4_addFieldWithout_66 rfl (lv_at hl 3 rfl) ?_
      refine lv_iload hx hb dX4_addFieldWithout_67 (lv_at hl 5 rfl) ?_
      refine lv_iload hx hb dX4_addFieldWithout_69 (lv_at hl 6 rfl) ?_
      have hFc := pg_free hD hS hA
      refine va_callv (va_runV (As := [.ref g1, .int (nI jk), .int (nI ks), .int (nI ke)]) (rest := []) ⟨hx, hb, hml, hown, hts⟩ (s_X4_addRelaxedValue_w l dC dI cs ty L H.size F_82 h0 ρ tx y0 y1 y2 g1 σ r1 n1 rx zm nn jk kb kc kd f e0 e1 e2 (upd fq (ac.length + (i1 - kb)) 58) bb oo ac.length ks ke (ac ++ rng 1 kb (kc - kb) ++ [(2, 58)]) (ac ++ (FPW (clf f) x3 kb kc kd ks ke)) hW hL_h0 hT_h0 hL_tx hT_tx hL_g1 hT_g1 hF_85 hF_86 hF_87 hF_88 hF_89 hF_92 hq_84 (by omega) (by omega) (by omega) (by omega) (by omega) (by omega) (hroom) (by omega) (hse) (hke4) (hfar) (hec) (hed) (by rw [len1, List.length_append, rng_len]; omega) (by rw [FPW_r c_15, ← List.append_assoc, ← List.append_assoc]) (hou_91)) ⟨callB_of 4 hts (gi kt_232) rfl rfl rfl (hts _ kt_211) (hts _ kt_233) (by decide +kernel) ⟨Nat.le_of_ble_eq_true rfl, Nat.le_of_ble_eq_true rfl⟩, (hts _ kt_234), (hts _ kt_235)⟩ ⟨fun a U g mk q => ⟨q.1, PT.calling q.2⟩, pg_recv hK hP hL_h0 hF_85 (q := (RX4, TX4, 6)) rfl, fun U hU hWm => ⟨rfl, PT.mk hU hWm hP hK hD hE hO⟩⟩ rfl rfl hl.1 rfl (lv_room (Nat.le_of_ble_eq_true rfl)) dX4_addFieldWithout_71 ⟨by show _ + 0 ≤ 0; omega, by show _ + 0 ≤ 0; omega⟩) hS (fun q _ h => hFc q h) hFc (fun u t H1 locs ht hvm hw hB hz1 hk1 hS => ?_)
      obtain ⟨F_94, fo2_95, hB1, hq_96, hq_97, hq_98⟩ := hB
      obtain ⟨hP, hD, hO, hR⟩ := QT.back hB1 ht hFc hR (fun q h => by simp only [List.mem_cons, List.not_mem_nil, or_false] at h ⊢; omega)
      have hF_99 : F_94 h0 = .inr (4, [.ref tx, .ref y0, .ref y1, .ref y2, .int (nI nn), .int bb]) := (hB1.2.2.2 h0 (by rw [hT_h0]; simp only [List.mem_cons, List.not_mem_nil, or_false]; omega)).trans hF_85
      have hF_100 : F_94 tx = .inr (0, [.ref rx, .int (nI zm), .int oo]) := (hB1.2.2.2 tx (by rw [hT_tx]; simp only [List.mem_cons, List.not_mem_nil, or_false]; omega)).trans hF_86
      have hF_101 : F_94 rx = .inl (cs 16, 3000, .inl f) := (hB1.2.2.2 rx (by rw [ht_8]; simp only [List.mem_cons, List.not_mem_nil, or_false]; omega)).trans hF_87
      have hF_102 : F_94 y1 = .inl (cs 16, 20, .inl e1) := (hB1.2.2.2 y1 (by rw [ht_5]; simp only [List.mem_cons, List.not_mem_nil, or_false]; omega)).trans hF_88
      have hF_103 : F_94 y2 = .inl (cs 16, 20, .inl e2) := (hB1.2.2.2 y2 (by rw [ht_6]; simp only [List.mem_cons, List.not_mem_nil, or_false]; omega)).trans hF_89
      have hF_104 : F_94 y0 = .inl (cs 16, 20, .inl e0) := (hB1.2.2.2 y0 (by rw [ht_4]; simp only [List.mem_cons, List.not_mem_nil, or_false]; omega)).trans hF_90
      generalize H1 = H at hP hS ⊢
      refine lv_goto (tgt := 139) hx hb dX4_addFieldWithout_74 (by decide) ?_
      refine W.widen (k := 0) (n := 0) (by omega) (by omega) ?_
      exact W.vret hx hb hr (fun t ht hWm => ⟨⟨(), rfl, trivial, ⟨F_94, fo2_95, QT.mk ht hP hD hO hR, hq_96, hq_97, hq_98⟩⟩, hS.F ht⟩) hS.2.2 dX4_addFieldWithout_139
    ·
      have hi_105 : i1 < kc := ltN (N := kc) c_79
      have hib : i1 < kc := Nat.not_le.mp (fun q => c_79 ((nI_leI (by omega) (by omega)).mpr q))
      refine lv_aload_n hx hb dX4_addFieldWithout_36 rfl (lv_at hl 2 rfl) ?_
      refine lv_aload_n hx hb dX4_addFieldWithout_37 rfl (lv_at hl 1 rfl) ?_
      refine pg_get (ci := 4) (v := .ref tx) (C := RX4) (T := TX4) (N := 6) hx hb hts it_4 hown hK hP hL_h0 hF_72 rfl 0 (by decide) (hts _ kt_207) (fun _ h9 => h9) rfl dX4_addFieldWithout_38 ?_
      refine lv_iload hx hb dX4_addFieldWithout_41 (lv_at hl 0 rfl) ?_
      have hFc := pg_free hD hS hA
      refine va_calli (va_runV (As := [.int (nI i1)]) (rest := [.ref g1]) ⟨hx, hb, hml, hown, hts⟩ (s_X0_at_o l dC dI cs ty L H.size F_63 tx (ρ + 1) rx 3000 zm i1 f oo hW hL_tx hT_tx hF_73 hF_74 (by omega) (by omega) (by omega)) ⟨callB_of 1 hts (gi kt_21) rfl rfl rfl (hts _ kt_1) (hts _ kt_199) (by decide +kernel) ⟨Nat.le_of_ble_eq_true rfl, Nat.le_of_ble_eq_true rfl⟩, (hts _ kt_23), (hts _ kt_24)⟩ ⟨fun a U g mk q => ⟨q.1, PT.calling q.2⟩, pg_recv hK hP hL_tx hF_73 (q := (RX0, TX0, 3)) rfl, fun U hU hWm => ⟨rfl, PT.mk hU hWm hP hK hD hE hO⟩⟩ rfl rfl hl.1 rfl (lv_room (Nat.le_of_ble_eq_true rfl)) dX4_addFieldWithout_43 ⟨by show _ + 0 ≤ 0; omega, by show _ + 0 ≤ 0; omega⟩) hS (fun q _ h => hFc q h) hFc (fun r_106 u t H1 locs ht hvm hw hB hz1 hk1 hS => ?_)
      obtain ⟨F_107, hB1⟩ := hB
      obtain rfl : F_63 = F_107 := (funext (fun a => hB1.2.2.2 a List.not_mem_nil)).symm
      obtain ⟨hP, hD, hO, hR⟩ := QT.back hB1 ht hFc hR (fun q h => absurd h List.not_mem_nil)
      generalize H1 = H at hP hS ⊢
      have hw : r_106 = f i1 := hw
      have hw_108 := hw
      subst hw_108
      have hFc := pg_free hD hS hA
      refine va_calli (va_runS (As := [.int (f i1)]) (rest := [.ref g1]) ⟨hx, hb, hml, hown, hts⟩ (s_X0_smallOf_x l dC dI cs ty L H.size F_63 (f i1) hW ) ⟨callB_of 1 hts (gi kt_0) rfl rfl rfl (hts _ kt_1) (hts _ kt_208) (by decide +kernel) ⟨Nat.le_of_ble_eq_true rfl, Nat.le_of_ble_eq_true rfl⟩, (hts _ kt_3)⟩ ⟨fun a U g mk q => ⟨q.1, PT.calling q.2⟩, fun U hU hWm => ⟨rfl, PT.mk hU hWm hP hK hD hE hO⟩⟩ rfl rfl hl.1 rfl (lv_room (Nat.le_of_ble_eq_true rfl)) dX4_addFieldWithout_46 ⟨by show _ + 0 ≤ 0; omega, by show _ + 0 ≤ 0; omega⟩) hS (fun q _ h => hFc q h) hFc (fun r_109 u t H1 locs ht hvm hw hB hz1 hk1 hS => ?_)
      obtain ⟨F_110, hB1⟩ := hB
      obtain rfl : F_63 = F_110 := (funext (fun a => hB1.2.2.2 a List.not_mem_nil)).symm
      obtain ⟨hP, hD, hO, hR⟩ := QT.back hB1 ht hFc hR (fun q h => absurd h List.not_mem_nil)
      generalize H1 = H at hP hS ⊢
      have hw : r_109 = smv (f i1) := hw
      have hw_111 := hw
      subst hw_111
      have hFc := pg_free hD hS hA
      refine va_callv (va_runV (As := [.int (smv (f i1))]) (rest := []) ⟨hx, hb, hml, hown, hts⟩ (s_X0_add_e l dC dI cs ty L H.size F_63 g1 σ r1 n1 (ac.length + (i1 - kb)) fq (smv (f i1)) hW hL_g1 hT_g1 hN1 hN2 (by omega) (by omega)) ⟨callB_of 1 hts (gi kt_13) rfl rfl rfl (hts _ kt_1) (hts _ kt_230) (by decide +kernel) ⟨Nat.le_of_ble_eq_true rfl, Nat.le_of_ble_eq_true rfl⟩, (hts _ kt_15), (hts _ kt_16)⟩ ⟨fun a U g mk q => ⟨q.1, PT.calling q.2⟩, pg_recv hK hP hL_g1 hN1 (q := (RX0, TX0, 3)) rfl, fun U hU hWm => ⟨rfl, PT.mk hU hWm hP hK hD hE hO⟩⟩ rfl rfl hl.1 rfl (lv_room (Nat.le_of_ble_eq_true rfl)) dX4_addFieldWithout_49 ⟨by show _ + 0 ≤ 0; omega, by show _ + 0 ≤ 0; omega⟩) hS (fun q _ h => hFc q h) hFc (fun u t H1 locs ht hvm hw hB hz1 hk1 hS => ?_)
      obtain ⟨F_113, hB1, hq_114, hq_115⟩ := hB
      obtain ⟨hP, hD, hO, hR⟩ := QT.back hB1 ht hFc hR (fun q h => by simp only [List.mem_cons, List.not_mem_nil, or_false] at h ⊢; omega)
      have hF_116 : F_113 h0 = .inr (4, [.ref tx, .ref y0, .ref y1, .ref y2, .int (nI nn), .int bb]) := (hB1.2.2.2 h0 (by rw [hT_h0]; simp only [List.mem_cons, List.not_mem_nil, or_false]; omega)).trans hF_72
      have hF_117 : F_113 tx = .inr (0, [.ref rx, .int (nI zm), .int oo]) := (hB1.2.2.2 tx (by rw [hT_tx]; simp only [List.mem_cons, List.not_mem_nil, or_false]; omega)).trans hF_73
      have hF_118 : F_113 rx = .inl (cs 16, 3000, .inl f) := (hB1.2.2.2 rx (by rw [ht_8]; simp only [List.mem_cons, List.not_mem_nil, or_false]; omega)).trans hF_74
      have hF_119 : F_113 y1 = .inl (cs 16, 20, .inl e1) := (hB1.2.2.2 y1 (by rw [ht_5]; simp only [List.mem_cons, List.not_mem_nil, or_false]; omega)).trans hF_75
      have hF_120 : F_113 y2 = .inl (cs 16, 20, .inl e2) := (hB1.2.2.2 y2 (by rw [ht_6]; simp only [List.mem_cons, List.not_mem_nil, or_false]; omega)).trans hF_76
      have hF_121 : F_113 y0 = .inl (cs 16, 20, .inl e0) := (hB1.2.2.2 y0 (by rw [ht_4]; simp only [List.mem_cons, List.not_mem_nil, or_false]; omega)).trans hF_77
      generalize H1 = H at hP hS ⊢
      have hou_122 := OUTS.rsa (k := 1) hN3 hv1 (ev_1 (f := f) (j := i1))
      refine lv_iinc (v := (nI (i1 + 1))) (lv' := [(6, .int (nI (i1 + 1))), (0, .ref h0), (1, .ref g1), (2, .int (nI jk)), (3, .int x3), (4, .int (nI ks)), (5, .int (nI ke))]) hx hb dX4_addFieldWithout_52 hl (k := 0) rfl (nI_1 _) (by decide) rfl (fun ls hl => ?_)
      refine lv_goto (tgt := 25) hx hb dX4_addFieldWithout_55 (by decide) ?_
      refine W.widen (k := 0) (n := 0) (by omega) (by omega) ?_
      exact ih_71 ((i1 + 1), (upd fq (ac.length + (i1 - kb)) (smv (f i1)))) F_113 (⟨by omega, by omega, (by rw [show ac.length + (i1 + 1 - kb) = ac.length + (i1 - kb) + 1 by omega]; exact hq_114), hq_115, hou_122⟩) (by show kc - (i1 + 1) < kc - i1; omega) hO hR _ _ hP hD hS ls (lv_sub hl [0, 1, 2, 3, 4, 5, 6] rfl)
def ANL (T1 : Nat → Nat) (kb kc : Nat) (T2 : Nat → Nat) (a b : Nat) : Prop := kc - kb = b - a ∧ ∀ i, i < b - a → smc (T1 (kb + i)) = smc (T2 (a + i))
theorem sml_eq {x y : Int32} (hy : cdv y < 128) : smv x = smv y ↔ smc (cdv x) = smc (cdv y) := by
  have h9 := smv_all _ hy
  rw [← cdv_in hy] at h9
  rw [h9]
  exact smx_cd (smc_lt hy)
theorem fsc_lt {f : Nat → Int32} {z j : Nat} (h : FSC (TC f z j)) : TC f z j < 128 := by
  rcases tc_or (f := f) (z := z) (j := j) with q | q
  · exact q
  · unfold FSC at h
    rw [q, smc_200] at h
    omega
noncomputable def lstF (P : Nat → Prop) : Nat → Option Nat
  | 0 => none
  | n + 1 => @ite (Option Nat) (P n) (Classical.propDecidable _) (some n) (lstF P n)
theorem lst_y {P : Nat → Prop} {n : Nat} (h : P n) : lstF P (n + 1) = some n := if_pos h
theorem lst_n {P : Nat → Prop} {n : Nat} (h : ¬ P n) : lstF P (n + 1) = lstF P n := if_neg h
theorem lst_lt {P : Nat → Prop} {k : Nat} : ∀ n, lstF P n = some k → k < n ∧ P k := by
  intro n
  induction n with
  | zero => intro h; exact nomatch h
  | succ n ih =>
    intro h
    by_cases c : P n
    · rw [lst_y c] at h
      obtain rfl := Option.some.inj h
      exact ⟨Nat.lt_succ_self _, c⟩
    · rw [lst_n c] at h
      have h9 := ih h
      exact ⟨by omega, h9.2⟩
theorem lst_cg {P Q : Nat → Prop} : ∀ n, (∀ k, k < n → (P k ↔ Q k)) → lstF P n = lstF Q n := by
  intro n
  induction n with
  | zero => intro _; rfl
  | succ n ih =>
    intro h
    by_cases c : P n
    · rw [lst_y c, lst_y ((h n (by omega)).mp c)]
    · rw [lst_n c, lst_n (fun q => c ((h n (by omega)).mpr q)), ih (fun k hk => h k (by omega))]
abbrev ALS := (Nat → Int32) × List (Nat × Nat)
def PNL (T1 T2 : Nat → Nat) (gb gc : Nat → Nat) (tk : Nat → Int32) (s : Nat × Nat) (k : Nat) : Prop := tk k = 0 ∧ ANL T1 (gb k) (gc k) T2 s.1 s.2
noncomputable def als (TT T1 T2 : Nat → Nat) (gb gc gd : Nat → Nat) (nn : Nat) (x : Int32) (st : ALS) (s : Nat × Nat) : ALS := match lstF (PNL T1 T2 gb gc st.1 s) nn with
  | none => st
  | some k => (upd st.1 k 1, st.2 ++ (FPL TT x (gb k) (gc k) (gd k) ++ [(2, 10)]))
theorem als_n {TT T1 T2 : Nat → Nat} {gb gc gd : Nat → Nat} {nn : Nat} {x : Int32} {st : ALS} {s : Nat × Nat} (h : lstF (PNL T1 T2 gb gc st.1 s) nn = none) : als TT T1 T2 gb gc gd nn x st s = st := by
  unfold als
  rw [h]
theorem als_y {TT T1 T2 : Nat → Nat} {gb gc gd : Nat → Nat} {nn k : Nat} {x : Int32} {st : ALS} {s : Nat × Nat} (h : lstF (PNL T1 T2 gb gc st.1 s) nn = some k) : als TT T1 T2 gb gc gd nn x st s = (upd st.1 k 1, st.2 ++ (FPL TT x (gb k) (gc k) (gd k) ++ [(2, 10)])) := by
  unfold als
  rw [h]
noncomputable def adl (TT T1 T2 : Nat → Nat) (gb gc gd : Nat → Nat) (nn : Nat) (x : Int32) (l : List (Nat × Nat)) : ALS := l.foldl (als TT T1 T2 gb gc gd nn x) (fun _ => 0, [])
theorem adl_s {TT T1 T2 : Nat → Nat} {gb gc gd : Nat → Nat} {nn : Nat} {x : Int32} {l : List (Nat × Nat)} {s : Nat × Nat} : adl TT T1 T2 gb gc gd nn x (l ++ [s]) = als TT T1 T2 gb gc gd nn x (adl TT T1 T2 gb gc gd nn x l) s := by
  unfold adl
  rw [List.foldl_append]
  rfl
def tsm (tk : Nat → Int32) (gb gd : Nat → Nat) : Nat → Nat
  | 0 => 0
  | n + 1 => tsm tk gb gd n + (if tk n = 0 then 0 else gd n - gb n + 1)
theorem tsm_cg {tk tk2 : Nat → Int32} {gb gd : Nat → Nat} : ∀ n, (∀ k, k < n → tk k = tk2 k) → tsm tk gb gd n = tsm tk2 gb gd n := by
  intro n
  induction n with
  | zero => intro _; rfl
  | succ n ih =>
    intro h
    show tsm tk gb gd n + (if tk n = 0 then 0 else gd n - gb n + 1) = tsm tk2 gb gd n + (if tk2 n = 0 then 0 else gd n - gb n + 1)
    rw [ih (fun k hk => h k (by omega)), h n (by omega)]
theorem tsm_up {tk : Nat → Int32} {gb gd : Nat → Nat} {k : Nat} (h0 : tk k = 0) : ∀ n, k < n → tsm (upd tk k 1) gb gd n = tsm tk gb gd n + (gd k - gb k + 1) := by
  intro n
  induction n with
  | zero => intro h; exact absurd h (Nat.not_lt_zero _)
  | succ n ih =>
    intro h
    show tsm (upd tk k 1) gb gd n + (if upd tk k 1 n = 0 then 0 else gd n - gb n + 1) = tsm tk gb gd n + (if tk n = 0 then 0 else gd n - gb n + 1) + (gd k - gb k + 1)
    rcases Nat.lt_or_ge k n with q | q
    · rw [ih q, updc_ne (show n ≠ k by omega)]
      omega
    · obtain rfl : k = n := by omega
      rw [tsm_cg (tk2 := tk) k (fun j hj => updc_ne (f := tk) (show j ≠ k by omega)), updc_at, if_neg (by decide), h0, if_pos rfl]
      omega
theorem tsm_le {tk : Nat → Int32} {gb gd : Nat → Nat} {zm nn : Nat} (h1 : ∀ j, j < nn → gb j < gd j ∧ gd j ≤ zm) (h2 : ∀ j, j + 1 < nn → gd j ≤ gb (j + 1)) : ∀ n, n ≤ nn → tsm tk gb gd n ≤ zm + n ∧ (∀ j, j + 1 = n → tsm tk gb gd n ≤ gd j + n) := by
  intro n
  induction n with
  | zero => intro _; exact ⟨Nat.zero_le _, fun j hj => absurd hj (by omega)⟩
  | succ n ih =>
    intro hn
    obtain ⟨a1, a2⟩ := ih (by omega)
    obtain ⟨b1, b2⟩ := h1 n (by omega)
    have e : tsm tk gb gd (n + 1) ≤ gd n + (n + 1) := by
      show tsm tk gb gd n + (if tk n = 0 then 0 else gd n - gb n + 1) ≤ _
      have b3 : (if tk n = 0 then 0 else gd n - gb n + 1) ≤ gd n - gb n + 1 := by split <;> omega
      rcases Nat.eq_zero_or_pos n with q | q
      · subst q
        show 0 + _ ≤ _
        omega
      · have b4 := a2 (n - 1) (by omega)
        have b5 := h2 (n - 1) (by omega)
        rw [show n - 1 + 1 = n by omega] at b5
        omega
    exact ⟨by omega, fun j hj => by obtain rfl : j = n := (by omega); exact e⟩
def ALI (gb gd : Nat → Nat) (nn : Nat) (st : ALS) : Prop := st.2.length ≤ tsm st.1 gb gd nn
theorem ali_0 {gb gd : Nat → Nat} {nn : Nat} : ALI gb gd nn (fun _ => 0, []) := Nat.zero_le _
theorem ali_s {TT T1 T2 : Nat → Nat} {gb gc gd : Nat → Nat} {nn k : Nat} {x : Int32} {st : ALS} {s : Nat × Nat} (h : ALI gb gd nn st) (hl : lstF (PNL T1 T2 gb gc st.1 s) nn = some k) (hp : gb k < gc k ∧ gc k < gd k) : ALI gb gd nn (upd st.1 k 1, st.2 ++ (FPL TT x (gb k) (gc k) (gd k) ++ [(2, 10)])) := by
  obtain ⟨h1, h2⟩ := lst_lt nn hl
  have h9 := FPW_len (T := TT) (x := x) (s := 0) (e := 0) hp.1 hp.2 (Or.inl rfl)
  rw [FPW_0] at h9
  show (st.2 ++ (FPL TT x (gb k) (gc k) (gd k) ++ [(2, 10)])).length ≤ tsm (upd st.1 k 1) gb gd nn
  rw [tsm_up h2.1 nn h1, List.length_append, len1]
  have h8 : st.2.length ≤ tsm st.1 gb gd nn := h
  omega
set_option maxHeartbeats 4000000 in
set_option maxRecDepth 100000 in
theorem s_X4_isNamedLike_e (l : Launch) (dC : Nat → ClassId) (dI : Nat → Nat → Nat) (cs : Nat → ClassId) (ty : TyM) (L : List Nat) (sz : Nat) (F : Nat → va_E) (h0 : Nat) (ρ : Nat) (tx : Nat) (y0 : Nat) (y1 : Nat) (y2 : Nat) (g1 : Nat) (σ : Nat) (r1 : Nat) (n1 : Nat) (rx : Nat) (zm : Nat) (nn : Nat) (jk : Nat) (kb : Nat) (kc : Nat) (z2 : Nat) (a : Nat) (b : Nat) (f : Nat → Int32) (e0 : Nat → Int32) (e1 : Nat → Int32) (f2 : Nat → Int32) (bb : Int32) (oo : Int32) (hW : WT ty L) (hL_h0 : h0 ∈ L) (hT_h0 : ty h0 = (4, ρ, [tx, y0, y1, y2])) (hL_tx : tx ∈ L) (hT_tx : ty tx = (0, ρ + 1, [rx, 3000])) (hL_g1 : g1 ∈ L) (hT_g1 : ty g1 = (0, σ, [r1, n1])) (hF0 : F h0 = .inr (4, [.ref tx, .ref y0, .ref y1, .ref y2, .int (nI nn), .int bb])) (hFx : F tx = .inr (0, [.ref rx, .int (nI zm), .int oo])) (hFr : F rx = .inl (cs 16, 3000, .inl f)) (hFy1 : F y1 = .inl (cs 16, 20, .inl e1)) (hFy0 : F y0 = .inl (cs 16, 20, .inl e0)) (hFg : F g1 = .inr (0, [.ref r1, .int (nI z2), .int 0])) (hFr2 : F r1 = .inl (cs 16, n1, .inl f2)) (hz2 : z2 ≤ n1) (hn9 : n1 ≤ 10000) (hjk : jk < nn) (hn20 : nn ≤ 20) (hbc : kb < kc) (hcz : kc ≤ zm) (hz3 : zm ≤ 3000) (heb : e0 jk = nI kb) (hec : e1 jk = nI kc) (hab : a ≤ b) (hbz : b ≤ z2) (hFN : FNC (TC f2 z2) a b) : Met l yX4_isNamedLike (.code yX4_isNamedLike cX4_isNamedLike 6 (some .boolean) :: tb) ({ frames := 1, cells := 0, slots := 0, locals := 21 }) (va_Pc [.ref h0, .int (nI jk), .ref g1, .int (nI a), .int (nI b)] (PT (dC, dI) cs ty L F sz)) (va_Qi (fun (r : Int32) (_ : Unit) => (r = 1 ∧ ANL (TC f zm) kb kc (TC f2 z2) a b) ∨ (r = 0 ∧ ¬ ANL (TC f zm) kb kc (TC f2 z2) a b)) (fun _ T9 => ∃ F2 : Nat → va_E, QT (dC, dI) cs ty L [] F F2 (va_A (va_pl L F) sz) T9) (va_A (va_pl L F) sz)) 0 0 (va_A (va_pl L F) sz) := by
  refine Met.ofW (cc := cX4_isNamedLike) (maxL := 6) (ret := (some .boolean)) (by decide) rfl ?_
  intro p e s m args below meth c s₁ B hml hv
  obtain ⟨rfl, hsz, hP, hK, hD0, hE, hO⟩ := hv
  have hx := B.exec
  have hb := B.bytes
  have hr := B.returns
  have hts : ∀ w ∈ tb, w.before _ s = true := fun w h => atoms_spec (ws := .code yX4_isNamedLike cX4_isNamedLike 6 (some .boolean) :: tb) B.pre w (List.mem_cons_of_mem _ h)
  have hown : s.vm.findClass RX4 = some m.cls := findClass_of_methodNamed B.named
  have hlocks := B.notSynchronized
  subst hsz
  have hD := hD0.self (sz := s.heap.size)
  generalize hAe : va_A (va_pl L F) s.heap.size = A at hD ⊢
  have hA : ∀ q : Nat, s.heap.size ≤ q → A q := fun q h => by rw [← hAe]; exact Or.inr h
  have hS : va_S A s.heap s.heap [] := va_S.rf
  have hR : FR ty [] F F := FR.refl
  have hl := lv_entry ([.ref h0, .int (nI jk), .ref g1, .int (nI a), .int (nI b)]) (n := 6) (Nat.le_of_ble_eq_true rfl)
  rw [lg_entry_eq]
  generalize (lg_sl ([.ref h0, .int (nI jk), .ref g1, .int (nI a), .int (nI b)]) ++ List.replicate (6 - (lg_sl ([.ref h0, .int (nI jk), .ref g1, .int (nI a), .int (nI b)])).length) Slot.unset).toArray = ls at hl ⊢
  have hl : lv_has ls 6 [(0, .ref h0), (1, .int (nI jk)), (2, .ref g1), (3, .int (nI a)), (4, .int (nI b))] := hl
  obtain ⟨_, hi_1, hi_2, hi_3, _, ht_4, ht_5, ht_6⟩ := hW.msg hL_h0 hT_h0
  obtain ⟨hi_7, ht_8, hq_9⟩ := hW.bytes hL_tx hT_tx
  obtain ⟨hi_10, ht_11, hq_12⟩ := hW.bytes hL_g1 hT_g1
  refine lv_iload_n hx hb dX4_isNamedLike_0 rfl (lv_at hl 1 rfl) ?_
  refine lv_if_lt (tgt := 32) hx hb dX4_isNamedLike_1 (by decide) (fun c_13 => absurd c_13 (nI_pos (by omega))) (fun c_13 => ?_)
  refine lv_iload_n hx hb dX4_isNamedLike_4 rfl (lv_at hl 1 rfl) ?_
  refine lv_aload_n hx hb dX4_isNamedLike_5 rfl (lv_at hl 0 rfl) ?_
  refine pg_get (ci := 4) (v := .int (nI nn)) (C := RX4) (T := TX4) (N := 6) hx hb hts it_4 hown hK hP hL_h0 hF0 rfl 4 (by decide) (hts _ kt_203) (fun _ h9 => h9) rfl dX4_isNamedLike_6 ?_
  refine lv_icmp_ge (tgt := 32) hx hb dX4_isNamedLike_9 (by decide) (fun c_14 => absurd c_14 (show ¬ nI nn ≤ nI jk from nI_ge hjk (by omega))) (fun c_14 => ?_)
  refine lv_aload_n hx hb dX4_isNamedLike_12 rfl (lv_at hl 0 rfl) ?_
  refine pg_get (ci := 4) (v := .ref y1) (C := RX4) (T := TX4) (N := 6) hx hb hts it_4 hown hK hP hL_h0 hF0 rfl 2 (by decide) (hts _ kt_204) (fun _ h9 => h9) rfl dX4_isNamedLike_13 ?_
  refine lv_iload_n hx hb dX4_isNamedLike_16 rfl (lv_at hl 1 rfl) ?_
  refine pg_iald hx hb hK hP hi_2 0 hFy1 rfl (vp_in_nI (by omega) (by omega)) dX4_isNamedLike_17 ?_
  refine lv_topi (fun x_15 ex_15 => ?_)
  obtain rfl : x_15 = (nI kc) := ex_15.trans ((congrArg e1 (nI_clamp (by omega))).trans hec)
  refine lv_aload_n hx hb dX4_isNamedLike_18 rfl (lv_at hl 0 rfl) ?_
  refine pg_get (ci := 4) (v := .ref y0) (C := RX4) (T := TX4) (N := 6) hx hb hts it_4 hown hK hP hL_h0 hF0 rfl 1 (by decide) (hts _ kt_205) (fun _ h9 => h9) rfl dX4_isNamedLike_19 ?_
  refine lv_iload_n hx hb dX4_isNamedLike_22 rfl (lv_at hl 1 rfl) ?_
  refine pg_iald hx hb hK hP hi_1 0 hFy0 rfl (vp_in_nI (by omega) (by omega)) dX4_isNamedLike_23 ?_
  refine lv_topi (fun x_16 ex_16 => ?_)
  obtain rfl : x_16 = (nI kb) := ex_16.trans ((congrArg e0 (nI_clamp (by omega))).trans heb)
  refine lv_isub hx hb dX4_isNamedLike_24 ?_
  refine lv_topi (fun x_17 ex_17 => ?_)
  obtain rfl : x_17 = (nI (kc - kb)) := ex_17.trans (pk_sub (by omega))
  refine lv_iload hx hb dX4_isNamedLike_25 (lv_at hl 4 rfl) ?_
  refine lv_iload_n hx hb dX4_isNamedLike_27 rfl (lv_at hl 3 rfl) ?_
  refine lv_isub hx hb dX4_isNamedLike_28 ?_
  refine lv_topi (fun x_18 ex_18 => ?_)
  obtain rfl : x_18 = (nI (b - a)) := ex_18.trans (pk_sub hab)
  refine lv_icmp_eq (tgt := 34) hx hb dX4_isNamedLike_29 (by decide) (fun c_19 => ?_) (fun c_19 => ?_)
  ·
    have hle : kc - kb = b - a := (nI_eq (by omega) (by omega)).mp c_19
    refine lv_iconst (v := 0) hx hb dX4_isNamedLike_34 (by decide) ?_
    refine lv_istore (lv' := [(5, .int 0), (0, .ref h0), (1, .int (nI jk)), (2, .ref g1), (3, .int (nI a)), (4, .int (nI b))]) hx hb dX4_isNamedLike_35 hl (by decide) rfl (fun ls hl => ?_)
    refine W.widen (k := 0) (n := 0) (by omega) (by omega) ?_
    refine pl_loop (σ := Nat) A (dC, dI) cs ty L [] F 37 6 (fun j => [(5, .int (nI j)), (0, .ref h0), (1, .int (nI jk)), (2, .ref g1), (3, .int (nI a)), (4, .int (nI b))]) (fun j => []) (fun j _ => j ≤ b - a ∧ ∀ i, i < j → smc (TC f zm (kb + i)) = smc (TC f2 z2 (a + i))) (fun j => b - a - j) ?_ 0 F (⟨Nat.zero_le _, fun i hi => absurd hi (Nat.not_lt_zero _)⟩) hO hR _ _ hP hD hS ls (lv_sub hl [0, 1, 2, 3, 4, 5] rfl)
    rintro j F_21 hv_22 hO hR ih_23 H locs hP hD hS ls hl
    have hl : lv_has ls 6 [(5, .int (nI j)), (0, .ref h0), (1, .int (nI jk)), (2, .ref g1), (3, .int (nI a)), (4, .int (nI b))] := hl
    have hv_22 : j ≤ b - a ∧ ∀ i, i < j → smc (TC f zm (kb + i)) = smc (TC f2 z2 (a + i)) := hv_22
    refine W.eq (g2 := F0 m 37 ls []) rfl ?_
    obtain rfl : F = F_21 := (funext (fun a => hR a List.not_mem_nil)).symm
    obtain ⟨hv1, hv2⟩ := id hv_22
    refine lv_iload hx hb dX4_isNamedLike_37 (lv_at hl 0 rfl) ?_
    refine lv_iload hx hb dX4_isNamedLike_39 (lv_at hl 5 rfl) ?_
    refine lv_iload_n hx hb dX4_isNamedLike_41 rfl (lv_at hl 4 rfl) ?_
    refine lv_isub hx hb dX4_isNamedLike_42 ?_
    refine lv_topi (fun x_24 ex_24 => ?_)
    obtain rfl : x_24 = (nI (b - a)) := ex_24.trans (pk_sub hab)
    refine lv_icmp_ge (tgt := 87) hx hb dX4_isNamedLike_43 (by decide) (fun c_25 => ?_) (fun c_25 => ?_)
    ·
      have hi_26 : (b - a) ≤ j := leN (N := (b - a)) c_25
      have hjb : (b - a) ≤ j := (nI_leI (by omega) (by omega)).mp c_25
      refine lv_iconst (v := 1) hx hb dX4_isNamedLike_87 (by decide) ?_
      refine W.widen (k := 0) (n := 0) (by omega) (by omega) ?_
      exact W.zret (v := 1) (ty := .boolean) hx hb hr (by decide) (fun t ht hWm => ⟨⟨1, (), rfl, (Or.inl ⟨rfl, hle, fun i hi => hv2 i (by omega)⟩), ⟨F, QT.mk ht hP hD hO hR⟩⟩, hS.F ht⟩) hS.2.2 dX4_isNamedLike_88
    ·
      have hi_27 : j < (b - a) := ltN (N := (b - a)) c_25
      have hjb : j < (b - a) := Nat.not_le.mp (fun q => c_25 ((nI_leI (by omega) (by omega)).mpr q))
      refine lv_aload_n hx hb dX4_isNamedLike_46 rfl (lv_at hl 1 rfl) ?_
      refine pg_get (ci := 4) (v := .ref tx) (C := RX4) (T := TX4) (N := 6) hx hb hts it_4 hown hK hP hL_h0 hF0 rfl 0 (by decide) (hts _ kt_207) (fun _ h9 => h9) rfl dX4_isNamedLike_47 ?_
      refine lv_aload_n hx hb dX4_isNamedLike_50 rfl (lv_at hl 1 rfl) ?_
      refine pg_get (ci := 4) (v := .ref y0) (C := RX4) (T := TX4) (N := 6) hx hb hts it_4 hown hK hP hL_h0 hF0 rfl 1 (by decide) (hts _ kt_205) (fun _ h9 => h9) rfl dX4_isNamedLike_51 ?_
      refine lv_iload_n hx hb dX4_isNamedLike_54 rfl (lv_at hl 2 rfl) ?_
      refine pg_iald hx hb hK hP hi_1 0 hFy0 rfl (vp_in_nI (by omega) (by omega)) dX4_isNamedLike_55 ?_
      refine lv_topi (fun x_28 ex_28 => ?_)
      obtain rfl : x_28 = (nI kb) := ex_28.trans ((congrArg e0 (nI_clamp (by omega))).trans heb)
      refine lv_iload hx hb dX4_isNamedLike_56 (lv_at hl 0 rfl) ?_
      refine lv_iadd hx hb dX4_isNamedLike_58 ?_
      refine lv_topi (fun x_29 ex_29 => ?_)
      obtain rfl : x_29 = (nI (kb + j)) := ex_29.trans (nI_add kb j)
      have hFc := pg_free hD hS hA
      refine va_calli (va_runV (As := [.int (nI (kb + j))]) (rest := []) ⟨hx, hb, hml, hown, hts⟩ (s_X0_at_o l dC dI cs ty L H.size F tx (ρ + 1) rx 3000 zm (kb + j) f oo hW hL_tx hT_tx hFx hFr (by omega) (by omega) (by omega)) ⟨callB_of 1 hts (gi kt_21) rfl rfl rfl (hts _ kt_1) (hts _ kt_199) (by decide +kernel) ⟨Nat.le_of_ble_eq_true rfl, Nat.le_of_ble_eq_true rfl⟩, (hts _ kt_23), (hts _ kt_24)⟩ ⟨fun a U g mk q => ⟨q.1, PT.calling q.2⟩, pg_recv hK hP hL_tx hFx (q := (RX0, TX0, 3)) rfl, fun U hU hWm => ⟨rfl, PT.mk hU hWm hP hK hD hE hO⟩⟩ rfl rfl hl.1 rfl (lv_room (Nat.le_of_ble_eq_true rfl)) dX4_isNamedLike_59 ⟨by show _ + 0 ≤ 0; omega, by show _ + 0 ≤ 0; omega⟩) hS (fun q _ h => hFc q h) hFc (fun r_30 u t H1 locs ht hvm hw hB hz1 hk1 hS => ?_)
      obtain ⟨F_31, hB1⟩ := hB
      obtain rfl : F = F_31 := (funext (fun a => hB1.2.2.2 a List.not_mem_nil)).symm
      obtain ⟨hP, hD, hO, hR⟩ := QT.back hB1 ht hFc hR (fun q h => absurd h List.not_mem_nil)
      generalize H1 = H at hP hS ⊢
      have hw : r_30 = f (kb + j) := hw
      have hw_32 := hw
      subst hw_32
      have hFc := pg_free hD hS hA
      refine va_calli (va_runS (As := [.int (f (kb + j))]) (rest := []) ⟨hx, hb, hml, hown, hts⟩ (s_X0_smallOf_x l dC dI cs ty L H.size F (f (kb + j)) hW ) ⟨callB_of 1 hts (gi kt_0) rfl rfl rfl (hts _ kt_1) (hts _ kt_208) (by decide +kernel) ⟨Nat.le_of_ble_eq_true rfl, Nat.le_of_ble_eq_true rfl⟩, (hts _ kt_3)⟩ ⟨fun a U g mk q => ⟨q.1, PT.calling q.2⟩, fun U hU hWm => ⟨rfl, PT.mk hU hWm hP hK hD hE hO⟩⟩ rfl rfl hl.1 rfl (lv_room (Nat.le_of_ble_eq_true rfl)) dX4_isNamedLike_62 ⟨by show _ + 0 ≤ 0; omega, by show _ + 0 ≤ 0; omega⟩) hS (fun q _ h => hFc q h) hFc (fun r_33 u t H1 locs ht hvm hw hB hz1 hk1 hS => ?_)
      obtain ⟨F_34, hB1⟩ := hB
      obtain rfl : F = F_34 := (funext (fun a => hB1.2.2.2 a List.not_mem_nil)).symm
      obtain ⟨hP, hD, hO, hR⟩ := QT.back hB1 ht hFc hR (fun q h => absurd h List.not_mem_nil)
      generalize H1 = H at hP hS ⊢
      have hw : r_33 = smv (f (kb + j)) := hw
      have hw_35 := hw
      subst hw_35
      refine lv_aload_n hx hb dX4_isNamedLike_65 rfl (lv_at hl 3 rfl) ?_
      refine lv_iload_n hx hb dX4_isNamedLike_66 rfl (lv_at hl 4 rfl) ?_
      refine lv_iload hx hb dX4_isNamedLike_67 (lv_at hl 0 rfl) ?_
      refine lv_iadd hx hb dX4_isNamedLike_69 ?_
      refine lv_topi (fun x_36 ex_36 => ?_)
      obtain rfl : x_36 = (nI (a + j)) := ex_36.trans (nI_add a j)
      have hFc := pg_free hD hS hA
      refine va_calli (va_runV (As := [.int (nI (a + j))]) (rest := [.int (smv (f (kb + j)))]) ⟨hx, hb, hml, hown, hts⟩ (s_X0_at_e l dC dI cs ty L H.size F g1 σ r1 n1 z2 (a + j) f2 hW hL_g1 hT_g1 hFg hFr2 (by omega) (by omega) (by omega)) ⟨callB_of 1 hts (gi kt_21) rfl rfl rfl (hts _ kt_1) (hts _ kt_199) (by decide +kernel) ⟨Nat.le_of_ble_eq_true rfl, Nat.le_of_ble_eq_true rfl⟩, (hts _ kt_23), (hts _ kt_24)⟩ ⟨fun a U g mk q => ⟨q.1, PT.calling q.2⟩, pg_recv hK hP hL_g1 hFg (q := (RX0, TX0, 3)) rfl, fun U hU hWm => ⟨rfl, PT.mk hU hWm hP hK hD hE hO⟩⟩ rfl rfl hl.1 rfl (lv_room (Nat.le_of_ble_eq_true rfl)) dX4_isNamedLike_70 ⟨by show _ + 0 ≤ 0; omega, by show _ + 0 ≤ 0; omega⟩) hS (fun q _ h => hFc q h) hFc (fun r_37 u t H1 locs ht hvm hw hB hz1 hk1 hS => ?_)
      obtain ⟨F_38, hB1⟩ := hB
      obtain rfl : F = F_38 := (funext (fun a => hB1.2.2.2 a List.not_mem_nil)).symm
      obtain ⟨hP, hD, hO, hR⟩ := QT.back hB1 ht hFc hR (fun q h => absurd h List.not_mem_nil)
      generalize H1 = H at hP hS ⊢
      have hw : r_37 = f2 (a + j) := hw
      have hw_39 := hw
      subst hw_39
      have hFc := pg_free hD hS hA
      refine va_calli (va_runS (As := [.int (f2 (a + j))]) (rest := [.int (smv (f (kb + j)))]) ⟨hx, hb, hml, hown, hts⟩ (s_X0_smallOf_x l dC dI cs ty L H.size F (f2 (a + j)) hW ) ⟨callB_of 1 hts (gi kt_0) rfl rfl rfl (hts _ kt_1) (hts _ kt_208) (by decide +kernel) ⟨Nat.le_of_ble_eq_true rfl, Nat.le_of_ble_eq_true rfl⟩, (hts _ kt_3)⟩ ⟨fun a U g mk q => ⟨q.1, PT.calling q.2⟩, fun U hU hWm => ⟨rfl, PT.mk hU hWm hP hK hD hE hO⟩⟩ rfl rfl hl.1 rfl (lv_room (Nat.le_of_ble_eq_true rfl)) dX4_isNamedLike_73 ⟨by show _ + 0 ≤ 0; omega, by show _ + 0 ≤ 0; omega⟩) hS (fun q _ h => hFc q h) hFc (fun r_40 u t H1 locs ht hvm hw hB hz1 hk1 hS => ?_)
      obtain ⟨F_41, hB1⟩ := hB
      obtain rfl : F = F_41 := (funext (fun a => hB1.2.2.2 a List.not_mem_nil)).symm
      obtain ⟨hP, hD, hO, hR⟩ := QT.back hB1 ht hFc hR (fun q h => absurd h List.not_mem_nil)
      generalize H1 = H at hP hS ⊢
      have hw : r_40 = smv (f2 (a + j)) := hw
      have hw_42 := hw
      subst hw_42
      refine lv_icmp_eq (tgt := 81) hx hb dX4_isNamedLike_76 (by decide) (fun c_43 => ?_) (fun c_43 => ?_)
      ·
        have hce : smc (TC f zm (kb + j)) = smc (TC f2 z2 (a + j)) := by rw [tcn_in (show kb + j < zm by omega), tcn_in (show a + j < z2 by omega)]; exact (sml_eq (by rw [← tcn_in (show a + j < z2 by omega)]; exact fsc_lt (hFN.2.2 (a + j) (by omega) (by omega)))).mp c_43
        refine lv_iinc (v := (nI (j + 1))) (lv' := [(5, .int (nI (j + 1))), (0, .ref h0), (1, .int (nI jk)), (2, .ref g1), (3, .int (nI a)), (4, .int (nI b))]) hx hb dX4_isNamedLike_81 hl (k := 0) rfl (nI_1 _) (by decide) rfl (fun ls hl => ?_)
        refine lv_goto (tgt := 37) hx hb dX4_isNamedLike_84 (by decide) ?_
        refine W.widen (k := 0) (n := 0) (by omega) (by omega) ?_
        exact ih_23 (j + 1) F (⟨by omega, all_step hv2 hce⟩) (by show b - a - (j + 1) < b - a - j; omega) hO hR _ _ hP hD hS ls (lv_sub hl [0, 1, 2, 3, 4, 5] rfl)
      ·
        have hce : ¬ smc (TC f zm (kb + j)) = smc (TC f2 z2 (a + j)) := by rw [tcn_in (show kb + j < zm by omega), tcn_in (show a + j < z2 by omega)]; exact fun q => c_43 ((sml_eq (by rw [← tcn_in (show a + j < z2 by omega)]; exact fsc_lt (hFN.2.2 (a + j) (by omega) (by omega)))).mpr q)
        refine lv_iconst (v := 0) hx hb dX4_isNamedLike_79 (by decide) ?_
        refine W.widen (k := 0) (n := 0) (by omega) (by omega) ?_
        exact W.zret (v := 0) (ty := .boolean) hx hb hr (by decide) (fun t ht hWm => ⟨⟨0, (), rfl, (Or.inr ⟨rfl, fun q => hce (q.2 j hjb)⟩), ⟨F, QT.mk ht hP hD hO hR⟩⟩, hS.F ht⟩) hS.2.2 dX4_isNamedLike_80
  ·
    have hle : ¬ kc - kb = b - a := fun q => c_19 (by rw [q])
    refine lv_iconst (v := 0) hx hb dX4_isNamedLike_32 (by decide) ?_
    refine W.widen (k := 0) (n := 0) (by omega) (by omega) ?_
    exact W.zret (v := 0) (ty := .boolean) hx hb hr (by decide) (fun t ht hWm => ⟨⟨0, (), rfl, (Or.inr ⟨rfl, fun q => hle q.1⟩), ⟨F, QT.mk ht hP hD hO hR⟩⟩, hS.F ht⟩) hS.2.2 dX4_isNamedLike_33
set_option maxHeartbeats 4000000 in
set_option maxRecDepth 100000 in
theorem s_X7_addLast_e (l : Launch) (dC : Nat → ClassId) (dI : Nat → Nat → Nat) (cs : Nat → ClassId) (ty : TyM) (L : List Nat) (sz : Nat) (F : Nat → va_E) (h0 : Nat) (ρ : Nat) (d : Nat) (δ : Nat) (ea : Nat) (sl : Nat) (sx : Nat) (sy0 : Nat) (sy1 : Nat) (sy2 : Nat) (ke : Nat) (kx : Nat) (ky0 : Nat) (ky1 : Nat) (ky2 : Nat) (w0 : Nat) (w1 : Nat) (w2 : Nat) (w3 : Nat) (w4 : Nat) (w5 : Nat) (w6 : Nat) (w7 : Nat) (w8 : Nat) (tk : Nat) (hs : Nat) (ha : Nat) (hbb : Nat) (hcc : Nat) (pw : Nat) (px : Nat) (py : Nat) (pz : Nat) (pu : Nat) (rsx : Nat) (z : Nat) (f : Nat → Int32) (v0 : Int32) (v1 : Int32) (mg : Nat) (μ : Nat) (mx : Nat) (m0 : Nat) (m1 : Nat) (m2 : Nat) (rm : Nat) (zm : Nat) (nn : Nat) (fm : Nat → Int32) (e0 : Nat → Int32) (e1 : Nat → Int32) (e2 : Nat → Int32) (bb : Int32) (gb : Nat → Nat) (gc : Nat → Nat) (gd : Nat → Nat) (rw8 : Nat) (fo : Nat → Int32) (tf : Nat → Int32) (tkw : Nat → Int32) (ac : List (Nat × Nat)) (a : Nat) (b : Nat) (hW : WT ty L) (hL_h0 : h0 ∈ L) (hT_h0 : ty h0 = (7, ρ, [d, δ, ea, sl, sx, sy0, sy1, sy2, ke, kx, ky0, ky1, ky2, w0, w1, w2, w3, w4, w5, w6, w7, w8, tk, hs, ha, hbb, hcc, pw, px, py, pz, pu])) (hL_sx : sx ∈ L) (hT_sx : ty sx = (0, ρ + 3, [rsx, 3000])) (hL_w8 : w8 ∈ L) (hT_w8 : ty w8 = (0, ρ + 90, [rw8, 6100])) (hL_mg : mg ∈ L) (hT_mg : ty mg = (4, μ, [mx, m0, m1, m2])) (hL_mx : mx ∈ L) (hT_mx : ty mx = (0, μ + 1, [rm, 3000])) (hFs : F h0 = .inr (7, [.ref d, .ref sl, .ref ke, .ref w0, .ref w1, .ref w2, .ref w3, .ref w4, .ref w5, .ref w6, .ref w7, .ref w8, .ref tk, .ref hs, .ref pw, .int v0, .int v1])) (hFxs : F sx = .inr (0, [.ref rsx, .int (nI z), .int 0])) (hFrs : F rsx = .inl (cs 16, 3000, .inl f)) (hzn : z ≤ 3000) (hFe : F mg = .inr (4, [.ref mx, .ref m0, .ref m1, .ref m2, .int (nI nn), .int bb])) (hFx : F mx = .inr (0, [.ref rm, .int (nI zm), .int 0])) (hFrm : F rm = .inl (cs 16, 3000, .inl fm)) (hFm0 : F m0 = .inl (cs 16, 20, .inl e0)) (hFm1 : F m1 = .inl (cs 16, 20, .inl e1)) (hFm2 : F m2 = .inl (cs 16, 20, .inl e2)) (hz3 : zm ≤ 3000) (hn20 : nn ≤ 20) (hpos : ∀ j, j < nn → e0 j = nI (gb j) ∧ e1 j = nI (gc j) ∧ e2 j = nI (gd j) ∧ gb j < gc j ∧ gc j < gd j ∧ gd j ≤ zm) (hord : ∀ j, j + 1 < nn → gd j ≤ gb (j + 1)) (hFw : F w8 = .inr (0, [.ref rw8, .int (nI ac.length), .int 0])) (hFrw : F rw8 = .inl (cs 16, 6100, .inl fo)) (hou : OUTS fm fo ac) (hFtk : F tk = .inl (cs 18, 20, .inl tf)) (htf : ∀ k, k < 20 → tf k = tkw k) (hali : ALI gb gd nn (tkw, ac)) (hab : a ≤ b) (hbz : b ≤ z) (hFN : FNC (TC f z) a b) (hmu : μ = ρ + 13 ∨ μ = ρ + 23) : Met l yX7_addLast (.code yX7_addLast cX7_addLast 5 none :: tb) ({ frames := 3, cells := 0, slots := 0, locals := 100 }) (va_Pc [.ref h0, .ref mg, .int (nI a), .int (nI b)] (PT (dC, dI) cs ty L F sz)) (va_Qv (fun _ : Unit => True) (fun _ T9 => ∃ F2 : Nat → va_E, ∃ fo2 : Nat → Int32, ∃ tf2 : Nat → Int32, QT (dC, dI) cs ty L [ρ + 90, ρ + 91] F F2 (va_A (va_pl L F) sz) T9 ∧ F2 tk = .inl (cs 18, 20, .inl tf2) ∧ (∀ k, k < 20 → tf2 k = (als (clf fm) (TC fm zm) (TC f z) gb gc gd nn v0 (tkw, ac) (a, b)).1 k) ∧ F2 w8 = .inr (0, [.ref rw8, .int (nI (als (clf fm) (TC fm zm) (TC f z) gb gc gd nn v0 (tkw, ac) (a, b)).2.length), .int 0]) ∧ F2 rw8 = .inl (cs 16, 6100, .inl fo2) ∧ OUTS fm fo2 (als (clf fm) (TC fm zm) (TC f z) gb gc gd nn v0 (tkw, ac) (a, b)).2 ∧ ALI gb gd nn (als (clf fm) (TC fm zm) (TC f z) gb gc gd nn v0 (tkw, ac) (a, b))) (va_A (va_pl L F) sz)) 0 0 (va_A (va_pl L F) sz) := by
  refine Met.ofW (cc := cX7_addLast) (maxL := 5) (ret := none) (by decide) rfl ?_
  intro p e s m args below meth c s₁ B hml hv
  obtain ⟨rfl, hsz, hP, hK, hD0, hE, hO⟩ := hv
  have hx := B.exec
  have hb := B.bytes
  have hr := B.returns
  have hts : ∀ w ∈ tb, w.before _ s = true := fun w h => atoms_spec (ws := .code yX7_addLast cX7_addLast 5 none :: tb) B.pre w (List.mem_cons_of_mem _ h)
  have hown : s.vm.findClass RX7 = some m.cls := findClass_of_methodNamed B.named
  have hlocks := B.notSynchronized
  subst hsz
  have hD := hD0.self (sz := s.heap.size)
  generalize hAe : va_A (va_pl L F) s.heap.size = A at hD ⊢
  have hA : ∀ q : Nat, s.heap.size ≤ q → A q := fun q h => by rw [← hAe]; exact Or.inr h
  have hS : va_S A s.heap s.heap [] := va_S.rf
  have hR : FR ty [ρ + 90, ρ + 91] F F := FR.refl
  have hl := lv_entry ([.ref h0, .ref mg, .int (nI a), .int (nI b)]) (n := 5) (Nat.le_of_ble_eq_true rfl)
  rw [lg_entry_eq]
  generalize (lg_sl ([.ref h0, .ref mg, .int (nI a), .int (nI b)]) ++ List.replicate (5 - (lg_sl ([.ref h0, .ref mg, .int (nI a), .int (nI b)])).length) Slot.unset).toArray = ls at hl ⊢
  have hl : lv_has ls 5 [(0, .ref h0), (1, .ref mg), (2, .int (nI a)), (3, .int (nI b))] := hl
  obtain ⟨hi_1, ht_2, hi_3, ht_4, hi_5, ht_6, hi_7, ⟨r_8, ht_9⟩, hi_10, ⟨r_11, ht_12⟩, hi_13, ⟨r_14, ht_15⟩, hi_16, ⟨r_17, ht_18⟩, hi_19, ⟨r_20, ht_21⟩, hi_22, ⟨r_23, ht_24⟩, hi_25, ⟨r_26, ht_27⟩, hi_28, ⟨r_29, ht_30⟩, _, _, hi_31, ht_32, hi_33, ht_34, hi_35, ht_36⟩ := hW.slr hL_h0 hT_h0
  obtain ⟨_, hi_37, hi_38, hi_39, _, ht_40, ht_41, ht_42⟩ := hW.tags hi_3 ht_4
  have ht_41 : ty sy1 = (24, ρ + 72, [40]) := ht_41
  have ht_42 : ty sy2 = (24, ρ + 73, [40]) := ht_42
  obtain ⟨hi_43, ht_44, hq_45⟩ := hW.bytes hL_sx hT_sx
  obtain ⟨hi_46, ht_47, hq_48⟩ := hW.bytes hL_w8 hT_w8
  obtain ⟨_, hi_49, hi_50, hi_51, _, ht_52, ht_53, ht_54⟩ := hW.msg hL_mg hT_mg
  obtain ⟨hi_55, ht_56, hq_57⟩ := hW.bytes hL_mx hT_mx
  refine lv_aload_n hx hb dX7_addLast_0 rfl (lv_at hl 1 rfl) ?_
  refine pg_getN (ci := 4) (v := .int (nI nn)) (C := RX4) (T := TX4) (N := 6) hx hb hts it_4 hown hK hP hL_mg hFe rfl 4 (by decide) (hE.nest kn_12) (fun _ h9 => h9) rfl dX7_addLast_1 ?_
  refine lv_iconst (v := 1) hx hb dX7_addLast_4 (by decide) ?_
  refine lv_isub hx hb dX7_addLast_5 ?_
  refine lv_topi (fun x_58 ex_58 => ?_)
  obtain rfl : x_58 = (dnk nn) := ex_58.trans ((dn_st nn).symm)
  refine lv_istore (lv' := [(4, .int (dnk nn)), (0, .ref h0), (1, .ref mg), (2, .int (nI a)), (3, .int (nI b))]) hx hb dX7_addLast_6 hl (by decide) rfl (fun ls hl => ?_)
  refine W.widen (k := 0) (n := 0) (by omega) (by omega) ?_
  have hF_60 : F h0 = .inr (7, [.ref d, .ref sl, .ref ke, .ref w0, .ref w1, .ref w2, .ref w3, .ref w4, .ref w5, .ref w6, .ref w7, .ref w8, .ref tk, .ref hs, .ref pw, .int v0, .int v1]) := (hR h0 (by rw [hT_h0]; simp)).symm.trans hFs
  have hF_61 : F sx = .inr (0, [.ref rsx, .int (nI z), .int 0]) := (hR sx (by rw [hT_sx]; simp)).symm.trans hFxs
  have hF_62 : F rsx = .inl (cs 16, 3000, .inl f) := (hR rsx (by rw [ht_44]; simp)).symm.trans hFrs
  have hF_63 : F mg = .inr (4, [.ref mx, .ref m0, .ref m1, .ref m2, .int (nI nn), .int bb]) := (hR mg (by rw [hT_mg]; simp only [List.mem_cons, List.not_mem_nil, or_false]; omega)).symm.trans hFe
  have hF_64 : F mx = .inr (0, [.ref rm, .int (nI zm), .int 0]) := (hR mx (by rw [hT_mx]; simp only [List.mem_cons, List.not_mem_nil, or_false]; omega)).symm.trans hFx
  have hF_65 : F rm = .inl (cs 16, 3000, .inl fm) := (hR rm (by rw [ht_56]; simp only [List.mem_cons, List.not_mem_nil, or_false]; omega)).symm.trans hFrm
  have hF_66 : F m0 = .inl (cs 16, 20, .inl e0) := (hR m0 (by rw [ht_52]; simp only [List.mem_cons, List.not_mem_nil, or_false]; omega)).symm.trans hFm0
  have hF_67 : F m1 = .inl (cs 16, 20, .inl e1) := (hR m1 (by rw [ht_53]; simp only [List.mem_cons, List.not_mem_nil, or_false]; omega)).symm.trans hFm1
  have hF_68 : F m2 = .inl (cs 16, 20, .inl e2) := (hR m2 (by rw [ht_54]; simp only [List.mem_cons, List.not_mem_nil, or_false]; omega)).symm.trans hFm2
  refine pl_loop (σ := Int32 × Nat) A (dC, dI) cs ty L [ρ + 90, ρ + 91] F 8 5 (fun (i1, k) => [(4, .int i1), (0, .ref h0), (1, .ref mg), (2, .int (nI a)), (3, .int (nI b))]) (fun (i1, k) => []) (fun (i1, k) FF => k ≤ nn ∧ i1 = dnk k ∧ lstF (PNL (TC fm zm) (TC f z) gb gc tkw (a, b)) nn = lstF (PNL (TC fm zm) (TC f z) gb gc tkw (a, b)) k ∧ FF tk = .inl (cs 18, 20, .inl tf) ∧ FF w8 = .inr (0, [.ref rw8, .int (nI ac.length), .int 0]) ∧ FF rw8 = .inl (cs 16, 6100, .inl fo)) (fun (i1, k) => k) ?_ ((dnk nn), nn) F (⟨Nat.le_refl _, rfl, rfl, hFtk, hFw, hFrw⟩) hO hR _ _ hP hD hS ls (lv_sub hl [0, 1, 2, 3, 4] rfl)
  rintro ⟨i1, k⟩ F_59 hv_69 hO hR ih_70 H locs hP hD hS ls hl
  have hl : lv_has ls 5 [(4, .int i1), (0, .ref h0), (1, .ref mg), (2, .int (nI a)), (3, .int (nI b))] := hl
  have hv_69 : k ≤ nn ∧ i1 = dnk k ∧ lstF (PNL (TC fm zm) (TC f z) gb gc tkw (a, b)) nn = lstF (PNL (TC fm zm) (TC f z) gb gc tkw (a, b)) k ∧ F_59 tk = .inl (cs 18, 20, .inl tf) ∧ F_59 w8 = .inr (0, [.ref rw8, .int (nI ac.length), .int 0]) ∧ F_59 rw8 = .inl (cs 16, 6100, .inl fo) := hv_69
  refine W.eq (g2 := F0 m 8 ls []) rfl ?_
  have hF_71 : F_59 h0 = .inr (7, [.ref d, .ref sl, .ref ke, .ref w0, .ref w1, .ref w2, .ref w3, .ref w4, .ref w5, .ref w6, .ref w7, .ref w8, .ref tk, .ref hs, .ref pw, .int v0, .int v1]) := (hR h0 (by rw [hT_h0]; simp)).trans hF_60
  have hF_72 : F_59 sx = .inr (0, [.ref rsx, .int (nI z), .int 0]) := (hR sx (by rw [hT_sx]; simp)).trans hF_61
  have hF_73 : F_59 rsx = .inl (cs 16, 3000, .inl f) := (hR rsx (by rw [ht_44]; simp)).trans hF_62
  have hF_74 : F_59 mg = .inr (4, [.ref mx, .ref m0, .ref m1, .ref m2, .int (nI nn), .int bb]) := (hR mg (by rw [hT_mg]; simp only [List.mem_cons, List.not_mem_nil, or_false]; omega)).trans hF_63
  have hF_75 : F_59 mx = .inr (0, [.ref rm, .int (nI zm), .int 0]) := (hR mx (by rw [hT_mx]; simp only [List.mem_cons, List.not_mem_nil, or_false]; omega)).trans hF_64
  have hF_76 : F_59 rm = .inl (cs 16, 3000, .inl fm) := (hR rm (by rw [ht_56]; simp only [List.mem_cons, List.not_mem_nil, or_false]; omega)).trans hF_65
  have hF_77 : F_59 m0 = .inl (cs 16, 20, .inl e0) := (hR m0 (by rw [ht_52]; simp only [List.mem_cons, List.not_mem_nil, or_false]; omega)).trans hF_66
  have hF_78 : F_59 m1 = .inl (cs 16, 20, .inl e1) := (hR m1 (by rw [ht_53]; simp only [List.mem_cons, List.not_mem_nil, or_false]; omega)).trans hF_67
  have hF_79 : F_59 m2 = .inl (cs 16, 20, .inl e2) := (hR m2 (by rw [ht_54]; simp only [List.mem_cons, List.not_mem_nil, or_false]; omega)).trans hF_68
  obtain ⟨hv1, hv2, hv3, hN1, hN2, hN3⟩ := id hv_69
  refine lv_iload hx hb dX7_addLast_8 (lv_at hl 0 rfl) ?_
  refine lv_if_lt (tgt := 84) hx hb dX7_addLast_10 (by decide) (fun c_80 => ?_) (fun c_80 => ?_)
  ·
    have hk0 : k = 0 := by rw [hv2] at c_80; exact dnk_neg (by omega) c_80
    refine W.widen (k := 0) (n := 0) (by omega) (by omega) ?_
    exact W.vret hx hb hr (fun t ht hWm => ⟨⟨(), rfl, trivial, ⟨F_59, fo, tf, QT.mk ht hP hD hO hR, hN1, (by rw [als_n (show lstF (PNL (TC fm zm) (TC f z) gb gc tkw (a, b)) nn = none from by rw [hv3, hk0]; rfl)]; exact htf), (by rw [als_n (show lstF (PNL (TC fm zm) (TC f z) gb gc tkw (a, b)) nn = none from by rw [hv3, hk0]; rfl)]; exact hN2), hN3, (by rw [als_n (show lstF (PNL (TC fm zm) (TC f z) gb gc tkw (a, b)) nn = none from by rw [hv3, hk0]; rfl)]; exact hou), (by rw [als_n (show lstF (PNL (TC fm zm) (TC f z) gb gc tkw (a, b)) nn = none from by rw [hv3, hk0]; rfl)]; exact hali)⟩⟩, hS.F ht⟩) hS.2.2 dX7_addLast_84
  ·
    have hk1_ : 1 ≤ k := by rw [hv2] at c_80; exact dnk_pos c_80
    have hie : i1 = nI (k - 1) := by rw [hv2, dnk_s hk1_]
    clear hv2
    subst hie
    obtain ⟨q0, q1, q2, q3, q4, q5⟩ := hpos (k - 1) (by omega)
    refine lv_aload_n hx hb dX7_addLast_13 rfl (lv_at hl 1 rfl) ?_
    refine pg_get (ci := 7) (v := .ref tk) (C := RX7) (T := TX7) (N := 17) hx hb hts it_7 hown hK hP hL_h0 hF_71 rfl 12 (by decide) (hts _ kt_412) (fun _ h9 => h9) rfl dX7_addLast_14 ?_
    refine lv_iload hx hb dX7_addLast_17 (lv_at hl 0 rfl) ?_
    refine pg_zald hx hb hK hP hi_31 2 hN1 rfl (vp_in_nI (by omega) (by omega)) dX7_addLast_19 ?_
    refine lv_topi (fun x_81 ex_81 => ?_)
    obtain rfl : x_81 = (tf (k - 1)) := ex_81.trans (congrArg tf (nI_clamp (by omega)))
    refine lv_if_ne (tgt := 78) hx hb dX7_addLast_20 (by decide) (fun c_82 => ?_) (fun c_82 => ?_)
    ·
      have hls : lstF (PNL (TC fm zm) (TC f z) gb gc tkw (a, b)) k = lstF (PNL (TC fm zm) (TC f z) gb gc tkw (a, b)) (k - 1) := by have h9 := lst_n (P := (PNL (TC fm zm) (TC f z) gb gc tkw (a, b))) (n := k - 1) (fun q => c_82 ((htf (k - 1) (by omega)).trans q.1)); rw [show k - 1 + 1 = k by omega] at h9; exact h9
      refine lv_iinc (v := (dnk (k - 1))) (lv' := [(4, .int (dnk (k - 1))), (0, .ref h0), (1, .ref mg), (2, .int (nI a)), (3, .int (nI b))]) hx hb dX7_addLast_78 hl (k := 0) rfl (rfl) (by decide) rfl (fun ls hl => ?_)
      refine lv_goto (tgt := 8) hx hb dX7_addLast_81 (by decide) ?_
      refine W.widen (k := 0) (n := 0) (by omega) (by omega) ?_
      exact ih_70 ((dnk (k - 1)), (k - 1)) F_59 (⟨by omega, rfl, hv3.trans hls, hN1, hN2, hN3⟩) (by show (k - 1) < k; omega) hO hR _ _ hP hD hS ls (lv_sub hl [0, 1, 2, 3, 4] rfl)
    ·
      refine lv_aload_n hx hb dX7_addLast_23 rfl (lv_at hl 2 rfl) ?_
      refine lv_iload hx hb dX7_addLast_24 (lv_at hl 0 rfl) ?_
      refine lv_aload_n hx hb dX7_addLast_26 rfl (lv_at hl 1 rfl) ?_
      refine pg_get (ci := 7) (v := .ref sl) (C := RX7) (T := TX7) (N := 17) hx hb hts it_7 hown hK hP hL_h0 hF_71 rfl 1 (by decide) (hts _ kt_307) (fun _ h9 => h9) rfl dX7_addLast_27 ?_
      obtain ⟨z_83, hF_84, hq_85⟩ := hO.tags hi_3 ht_4
      refine pg_getN (ci := 9) (v := .ref sx) (C := RX9) (T := TX9) (N := 5) hx hb hts it_9 hown hK hP hi_3 hF_84 rfl 0 (by decide) (hE.nest kn_7) (fun _ h9 => h9) rfl dX7_addLast_30 ?_
      refine lv_iload_n hx hb dX7_addLast_33 rfl (lv_at hl 3 rfl) ?_
      refine lv_iload_n hx hb dX7_addLast_34 rfl (lv_at hl 4 rfl) ?_
      have hFc := pg_free hD hS hA
      refine va_calli (va_runV (As := [.int (nI (k - 1)), .ref sx, .int (nI a), .int (nI b)]) (rest := []) ⟨hx, hb, hml, hown, hts⟩ (s_X4_isNamedLike_e l dC dI cs ty L H.size F_59 mg μ mx m0 m1 m2 sx (ρ + 3) rsx 3000 rm zm nn (k - 1) (gb (k - 1)) (gc (k - 1)) z a b fm e0 e1 f bb 0 hW hL_mg hT_mg hL_mx hT_mx hL_sx hT_sx hF_74 hF_75 hF_76 hF_78 hF_77 hF_72 hF_73 (by omega) (by omega) (by omega) (by omega) (q3) (by omega) (by omega) (q0) (q1) (hab) (hbz) (hFN)) ⟨callB_of 4 hts (gi kt_413) rfl rfl rfl (hts _ kt_211) (hts _ kt_414) (by decide +kernel) ⟨Nat.le_of_ble_eq_true rfl, Nat.le_of_ble_eq_true rfl⟩, (hts _ kt_415), (hts _ kt_416)⟩ ⟨fun a U g mk q => ⟨q.1, PT.calling q.2⟩, pg_recv hK hP hL_mg hF_74 (q := (RX4, TX4, 6)) rfl, fun U hU hWm => ⟨rfl, PT.mk hU hWm hP hK hD hE hO⟩⟩ rfl rfl hl.1 rfl (lv_room (Nat.le_of_ble_eq_true rfl)) dX7_addLast_35 ⟨by show _ + 0 ≤ 0; omega, by show _ + 0 ≤ 0; omega⟩) hS (fun q _ h => hFc q h) hFc (fun r_86 u t H1 locs ht hvm hw hB hz1 hk1 hS => ?_)
      obtain ⟨F_87, hB1⟩ := hB
      obtain rfl : F_59 = F_87 := (funext (fun a => hB1.2.2.2 a List.not_mem_nil)).symm
      obtain ⟨hP, hD, hO, hR⟩ := QT.back hB1 ht hFc hR (fun q h => absurd h List.not_mem_nil)
      generalize H1 = H at hP hS ⊢
      have hw : (r_86 = 1 ∧ ANL (TC fm zm) (gb (k - 1)) (gc (k - 1)) (TC f z) a b) ∨ (r_86 = 0 ∧ ¬ ANL (TC fm zm) (gb (k - 1)) (gc (k - 1)) (TC f z) a b) := hw
      have hw_88 := hw
      refine lv_if_ne (tgt := 44) hx hb dX7_addLast_38 (by decide) (fun c_89 => ?_) (fun c_89 => ?_)
      ·
        have hlk : lstF (PNL (TC fm zm) (TC f z) gb gc tkw (a, b)) nn = some (k - 1) := by rw [hv3]; have h9 := lst_y (P := (PNL (TC fm zm) (TC f z) gb gc tkw (a, b))) (n := k - 1) ⟨(htf (k - 1) (by omega)).symm.trans c_82, orp1 hw_88 c_89⟩; rw [show k - 1 + 1 = k by omega] at h9; exact h9
        have hal2 := ali_s (TT := clf fm) (x := v0) hali hlk ⟨q3, q4⟩
        have htl := (tsm_le (tk := upd tkw (k - 1) 1) (zm := zm) (fun j hj => ⟨by have h9 := hpos j hj; omega, (hpos j hj).2.2.2.2.2⟩) hord nn (Nat.le_refl _)).1
        have hln : (ac ++ (FPL (clf fm) v0 (gb (k - 1)) (gc (k - 1)) (gd (k - 1)) ++ [(2, 10)])).length ≤ zm + nn := Nat.le_trans hal2 htl
        rw [List.length_append, len1] at hln
        refine lv_aload_n hx hb dX7_addLast_44 rfl (lv_at hl 1 rfl) ?_
        refine pg_get (ci := 7) (v := .ref tk) (C := RX7) (T := TX7) (N := 17) hx hb hts it_7 hown hK hP hL_h0 hF_71 rfl 12 (by decide) (hts _ kt_412) (fun _ h9 => h9) rfl dX7_addLast_45 ?_
        refine lv_iload hx hb dX7_addLast_48 (lv_at hl 0 rfl) ?_
        refine lv_iconst (v := 1) hx hb dX7_addLast_50 (by decide) ?_
        refine pg_zast hx hb hK hP hD hS hi_31 2 hN1 rfl (vp_in_nI (by omega) (by omega)) dX7_addLast_51 (fun H locs hP hD hS => ?_)
        obtain ⟨F_90, he_91, hP, hD, hO, hR⟩ : ∃ G, G = va_up F_59 tk (.inl (cs 18, 20, .inl (upd tf ((nI (k - 1))).toNatClampNeg (vp_nar .boolean (1))))) ∧ va_P (dC, dI) vwCl (va_pl L G) H ∧ va_D A (va_pl L G) ∧ OK cs ty L G ∧ FR ty [ρ + 90, ρ + 91] F G := ⟨_, rfl, hP, hD, hO.up (sh.bits ht_32 ⟨_, rfl⟩), hR.up ht_32 (by simp)⟩
        have hF_92 : F_90 tk = .inl (cs 18, 20, .inl (upd tf ((nI (k - 1))).toNatClampNeg (vp_nar .boolean (1)))) := by rw [he_91]; exact up_self
        have hF_93 : F_90 h0 = .inr (7, [.ref d, .ref sl, .ref ke, .ref w0, .ref w1, .ref w2, .ref w3, .ref w4, .ref w5, .ref w6, .ref w7, .ref w8, .ref tk, .ref hs, .ref pw, .int v0, .int v1]) := by rw [he_91, up_ne (ne_ty hT_h0 ht_32 (by simp))]; exact hF_71
        have hF_94 : F_90 sx = .inr (0, [.ref rsx, .int (nI z), .int 0]) := by rw [he_91, up_ne (ne_ty hT_sx ht_32 (by simp))]; exact hF_72
        have hF_95 : F_90 rsx = .inl (cs 16, 3000, .inl f) := by rw [he_91, up_ne (ne_ty ht_44 ht_32 (by simp))]; exact hF_73
        have hF_96 : F_90 mg = .inr (4, [.ref mx, .ref m0, .ref m1, .ref m2, .int (nI nn), .int bb]) := by rw [he_91, up_ne (ne_ty hT_mg ht_32 (by simp))]; exact hF_74
        have hF_97 : F_90 mx = .inr (0, [.ref rm, .int (nI zm), .int 0]) := by rw [he_91, up_ne (ne_ty hT_mx ht_32 (by simp))]; exact hF_75
        have hF_98 : F_90 rm = .inl (cs 16, 3000, .inl fm) := by rw [he_91, up_ne (ne_ty ht_56 ht_32 (by simp))]; exact hF_76
        have hF_99 : F_90 m0 = .inl (cs 16, 20, .inl e0) := by rw [he_91, up_ne (ne_ty ht_52 ht_32 (by simp))]; exact hF_77
        have hF_100 : F_90 m1 = .inl (cs 16, 20, .inl e1) := by rw [he_91, up_ne (ne_ty ht_53 ht_32 (by simp))]; exact hF_78
        have hF_101 : F_90 m2 = .inl (cs 16, 20, .inl e2) := by rw [he_91, up_ne (ne_ty ht_54 ht_32 (by simp))]; exact hF_79
        have hF_102 : F_90 w8 = .inr (0, [.ref rw8, .int (nI ac.length), .int 0]) := by rw [he_91, up_ne (ne_ty hT_w8 ht_32 (by simp))]; exact hN2
        have hF_103 : F_90 rw8 = .inl (cs 16, 6100, .inl fo) := by rw [he_91, up_ne (ne_ty ht_47 ht_32 (by simp))]; exact hN3
        have hF_104 : F_90 sl = .inr (9, [.ref sx, .ref sy0, .ref sy1, .ref sy2, .int (nI z_83)]) := by rw [he_91, up_ne (ne_ty ht_4 ht_32 (by simp))]; exact hF_84
        obtain ⟨f_105, hF_92, hfe_106⟩ : ∃ f : Nat → Int32, F_90 tk = .inl (cs 18, 20, .inl f) ∧ f = upd tf ((nI (k - 1))).toNatClampNeg (vp_nar .boolean (1)) := ⟨_, hF_92, rfl⟩
        refine lv_aload_n hx hb dX7_addLast_52 rfl (lv_at hl 2 rfl) ?_
        refine lv_aload_n hx hb dX7_addLast_53 rfl (lv_at hl 1 rfl) ?_
        refine pg_get (ci := 7) (v := .ref w8) (C := RX7) (T := TX7) (N := 17) hx hb hts it_7 hown hK hP hL_h0 hF_93 rfl 11 (by decide) (hts _ kt_391) (fun _ h9 => h9) rfl dX7_addLast_54 ?_
        refine lv_iload hx hb dX7_addLast_57 (lv_at hl 0 rfl) ?_
        refine lv_aload_n hx hb dX7_addLast_59 rfl (lv_at hl 1 rfl) ?_
        refine pg_get (ci := 7) (v := .int v0) (C := RX7) (T := TX7) (N := 17) hx hb hts it_7 hown hK hP hL_h0 hF_93 rfl 15 (by decide) (hts _ kt_326) (fun _ h9 => h9) rfl dX7_addLast_60 ?_
        refine lv_iconst (v := 0) hx hb dX7_addLast_63 (by decide) ?_
        refine lv_iconst (v := 0) hx hb dX7_addLast_64 (by decide) ?_
        refine W.eq (g2 := F0 m 65 ls [.int (nI 0), .int (nI 0), .int v0, .int (nI (k - 1)), .ref w8, .ref mg]) rfl ?_
        have hFc := pg_free hD hS hA
        refine va_callv (va_runV (As := [.ref w8, .int (nI (k - 1)), .int v0, .int (nI 0), .int (nI 0)]) (rest := []) ⟨hx, hb, hml, hown, hts⟩ (s_X4_addFieldWithout_w l dC dI cs ty L H.size F_90 mg μ mx m0 m1 m2 w8 (ρ + 90) rw8 6100 rm zm nn (k - 1) (gb (k - 1)) (gc (k - 1)) (gd (k - 1)) fm e0 e1 e2 fo bb 0 0 0 ac v0 hW hL_mg hT_mg hL_mx hT_mx hL_w8 hT_w8 hF_96 hF_97 hF_98 hF_100 hF_101 hF_99 hF_102 hF_103 (by omega) (by omega) (q3) (q4) (q5) (by omega) (by omega) (by omega) (Or.inl rfl) (by omega) (by omega) (q0) (q1) (q2) (hou)) ⟨callB_of 5 hts (gi kt_417) rfl rfl rfl (hts _ kt_211) (hts _ kt_418) (by decide +kernel) ⟨Nat.le_of_ble_eq_true rfl, Nat.le_of_ble_eq_true rfl⟩, (hts _ kt_419), (hts _ kt_420)⟩ ⟨fun a U g mk q => ⟨q.1, PT.calling q.2⟩, pg_recv hK hP hL_mg hF_96 (q := (RX4, TX4, 6)) rfl, fun U hU hWm => ⟨rfl, PT.mk hU hWm hP hK hD hE hO⟩⟩ rfl rfl hl.1 rfl (lv_room (Nat.le_of_ble_eq_true rfl)) dX7_addLast_65 ⟨by show _ + 0 ≤ 0; omega, by show _ + 0 ≤ 0; omega⟩) hS (fun q _ h => hFc q h) hFc (fun u t H1 locs ht hvm hw hB hz1 hk1 hS => ?_)
        obtain ⟨F_108, fo2_109, hB1, hq_110, hq_111, hq_112⟩ := hB
        obtain ⟨hP, hD, hO, hR⟩ := QT.back hB1 ht hFc hR (fun q h => by simp only [List.mem_cons, List.not_mem_nil, or_false] at h ⊢; omega)
        have hF_113 : F_108 tk = .inl (cs 18, 20, .inl f_105) := (hB1.2.2.2 tk (by rw [ht_32]; simp)).trans hF_92
        have hF_114 : F_108 h0 = .inr (7, [.ref d, .ref sl, .ref ke, .ref w0, .ref w1, .ref w2, .ref w3, .ref w4, .ref w5, .ref w6, .ref w7, .ref w8, .ref tk, .ref hs, .ref pw, .int v0, .int v1]) := (hB1.2.2.2 h0 (by rw [hT_h0]; simp)).trans hF_93
        have hF_115 : F_108 sx = .inr (0, [.ref rsx, .int (nI z), .int 0]) := (hB1.2.2.2 sx (by rw [hT_sx]; simp)).trans hF_94
        have hF_116 : F_108 rsx = .inl (cs 16, 3000, .inl f) := (hB1.2.2.2 rsx (by rw [ht_44]; simp)).trans hF_95
        have hF_117 : F_108 mg = .inr (4, [.ref mx, .ref m0, .ref m1, .ref m2, .int (nI nn), .int bb]) := (hB1.2.2.2 mg (by rw [hT_mg]; simp only [List.mem_cons, List.not_mem_nil, or_false]; omega)).trans hF_96
        have hF_118 : F_108 mx = .inr (0, [.ref rm, .int (nI zm), .int 0]) := (hB1.2.2.2 mx (by rw [hT_mx]; simp only [List.mem_cons, List.not_mem_nil, or_false]; omega)).trans hF_97
        have hF_119 : F_108 rm = .inl (cs 16, 3000, .inl fm) := (hB1.2.2.2 rm (by rw [ht_56]; simp only [List.mem_cons, List.not_mem_nil, or_false]; omega)).trans hF_98
        have hF_120 : F_108 m0 = .inl (cs 16, 20, .inl e0) := (hB1.2.2.2 m0 (by rw [ht_52]; simp only [List.mem_cons, List.not_mem_nil, or_false]; omega)).trans hF_99
        have hF_121 : F_108 m1 = .inl (cs 16, 20, .inl e1) := (hB1.2.2.2 m1 (by rw [ht_53]; simp only [List.mem_cons, List.not_mem_nil, or_false]; omega)).trans hF_100
        have hF_122 : F_108 m2 = .inl (cs 16, 20, .inl e2) := (hB1.2.2.2 m2 (by rw [ht_54]; simp only [List.mem_cons, List.not_mem_nil, or_false]; omega)).trans hF_101
        have hF_123 : F_108 sl = .inr (9, [.ref sx, .ref sy0, .ref sy1, .ref sy2, .int (nI z_83)]) := (hB1.2.2.2 sl (by rw [ht_4]; simp)).trans hF_104
        generalize H1 = H at hP hS ⊢
        have hF_124 : F_108 w8 = .inr (0, [.ref rw8, .int (nI (ac ++ (FPL (clf fm) v0 (gb (k - 1)) (gc (k - 1)) (gd (k - 1)))).length), .int 0]) := by have h9 := hq_110; rw [FPW_0] at h9; exact h9
        have hou2 := hq_112
        rw [FPW_0] at hou2
        refine lv_aload_n hx hb dX7_addLast_68 rfl (lv_at hl 1 rfl) ?_
        refine pg_get (ci := 7) (v := .ref w8) (C := RX7) (T := TX7) (N := 17) hx hb hts it_7 hown hK hP hL_h0 hF_114 rfl 11 (by decide) (hts _ kt_391) (fun _ h9 => h9) rfl dX7_addLast_69 ?_
        refine lv_bipush (v := 10) hx hb dX7_addLast_72 (by decide) ?_
        have hFc := pg_free hD hS hA
        refine va_callv (va_runV (As := [.int 10]) (rest := []) ⟨hx, hb, hml, hown, hts⟩ (s_X0_add_e l dC dI cs ty L H.size F_108 w8 (ρ + 90) rw8 6100 ((ac ++ (FPL (clf fm) v0 (gb (k - 1)) (gc (k - 1)) (gd (k - 1)))).length) fo2_109 10 hW hL_w8 hT_w8 hF_124 hq_111 (by rw [List.length_append]; omega) (by omega)) ⟨callB_of 1 hts (gi kt_13) rfl rfl rfl (hts _ kt_1) (hts _ kt_362) (by decide +kernel) ⟨Nat.le_of_ble_eq_true rfl, Nat.le_of_ble_eq_true rfl⟩, (hts _ kt_15), (hts _ kt_16)⟩ ⟨fun a U g mk q => ⟨q.1, PT.calling q.2⟩, pg_recv hK hP hL_w8 hF_124 (q := (RX0, TX0, 3)) rfl, fun U hU hWm => ⟨rfl, PT.mk hU hWm hP hK hD hE hO⟩⟩ rfl rfl hl.1 rfl (lv_room (Nat.le_of_ble_eq_true rfl)) dX7_addLast_74 ⟨by show _ + 0 ≤ 0; omega, by show _ + 0 ≤ 0; omega⟩) hS (fun q _ h => hFc q h) hFc (fun u t H1 locs ht hvm hw hB hz1 hk1 hS => ?_)
        obtain ⟨F_126, hB1, hq_127, hq_128⟩ := hB
        obtain ⟨hP, hD, hO, hR⟩ := QT.back hB1 ht hFc hR (fun q h => by simp only [List.mem_cons, List.not_mem_nil, or_false] at h ⊢; omega)
        have hF_129 : F_126 tk = .inl (cs 18, 20, .inl f_105) := (hB1.2.2.2 tk (by rw [ht_32]; simp)).trans hF_113
        have hF_130 : F_126 h0 = .inr (7, [.ref d, .ref sl, .ref ke, .ref w0, .ref w1, .ref w2, .ref w3, .ref w4, .ref w5, .ref w6, .ref w7, .ref w8, .ref tk, .ref hs, .ref pw, .int v0, .int v1]) := (hB1.2.2.2 h0 (by rw [hT_h0]; simp)).trans hF_114
        have hF_131 : F_126 sx = .inr (0, [.ref rsx, .int (nI z), .int 0]) := (hB1.2.2.2 sx (by rw [hT_sx]; simp)).trans hF_115
        have hF_132 : F_126 rsx = .inl (cs 16, 3000, .inl f) := (hB1.2.2.2 rsx (by rw [ht_44]; simp)).trans hF_116
        have hF_133 : F_126 mg = .inr (4, [.ref mx, .ref m0, .ref m1, .ref m2, .int (nI nn), .int bb]) := (hB1.2.2.2 mg (by rw [hT_mg]; simp only [List.mem_cons, List.not_mem_nil, or_false]; omega)).trans hF_117
        have hF_134 : F_126 mx = .inr (0, [.ref rm, .int (nI zm), .int 0]) := (hB1.2.2.2 mx (by rw [hT_mx]; simp only [List.mem_cons, List.not_mem_nil, or_false]; omega)).trans hF_118
        have hF_135 : F_126 rm = .inl (cs 16, 3000, .inl fm) := (hB1.2.2.2 rm (by rw [ht_56]; simp only [List.mem_cons, List.not_mem_nil, or_false]; omega)).trans hF_119
        have hF_136 : F_126 m0 = .inl (cs 16, 20, .inl e0) := (hB1.2.2.2 m0 (by rw [ht_52]; simp only [List.mem_cons, List.not_mem_nil, or_false]; omega)).trans hF_120
        have hF_137 : F_126 m1 = .inl (cs 16, 20, .inl e1) := (hB1.2.2.2 m1 (by rw [ht_53]; simp only [List.mem_cons, List.not_mem_nil, or_false]; omega)).trans hF_121
        have hF_138 : F_126 m2 = .inl (cs 16, 20, .inl e2) := (hB1.2.2.2 m2 (by rw [ht_54]; simp only [List.mem_cons, List.not_mem_nil, or_false]; omega)).trans hF_122
        have hF_139 : F_126 sl = .inr (9, [.ref sx, .ref sy0, .ref sy1, .ref sy2, .int (nI z_83)]) := (hB1.2.2.2 sl (by rw [ht_4]; simp)).trans hF_123
        generalize H1 = H at hP hS ⊢
        have hF_140 : F_126 w8 = .inr (0, [.ref rw8, .int (nI (ac ++ ((FPL (clf fm) v0 (gb (k - 1)) (gc (k - 1)) (gd (k - 1))) ++ [(2, 10)])).length), .int 0]) := by rw [← List.append_assoc, len1]; exact hq_127
        have hou3 : OUTS fm (upd fo2_109 (ac ++ (FPL (clf fm) v0 (gb (k - 1)) (gc (k - 1)) (gd (k - 1)))).length 10) (ac ++ ((FPL (clf fm) v0 (gb (k - 1)) (gc (k - 1)) (gd (k - 1))) ++ [(2, 10)])) := by rw [← List.append_assoc]; exact OUTS.add (y := (2, 10)) hou2 (show (10 : Int32) = evs fm (2, 10) from rfl)
        refine W.widen (k := 0) (n := 0) (by omega) (by omega) ?_
        exact W.vret hx hb hr (fun t ht hWm => ⟨⟨(), rfl, trivial, ⟨F_126, (upd fo2_109 (ac ++ (FPL (clf fm) v0 (gb (k - 1)) (gc (k - 1)) (gd (k - 1)))).length 10), f_105, QT.mk ht hP hD hO hR, hF_129, (by rw [als_y (TT := clf fm) (gd := gd) (x := v0) (st := (tkw, ac)) hlk]; exact (fun j hj => by rw [hfe_106, nI_clamp (by omega)]; show upd tf (k - 1) (vp_nar .boolean 1) j = upd tkw (k - 1) 1 j; by_cases c9 : j = k - 1; rw [c9, updc_at, updc_at]; decide; rw [updc_ne c9, updc_ne c9]; exact htf j hj)), (by rw [als_y (TT := clf fm) (gd := gd) (x := v0) (st := (tkw, ac)) hlk]; exact hF_140), hq_128, (by rw [als_y (TT := clf fm) (gd := gd) (x := v0) (st := (tkw, ac)) hlk]; exact hou3), (by rw [als_y (TT := clf fm) (gd := gd) (x := v0) (st := (tkw, ac)) hlk]; exact hal2)⟩⟩, hS.F ht⟩) hS.2.2 dX7_addLast_77
      ·
        have hls : lstF (PNL (TC fm zm) (TC f z) gb gc tkw (a, b)) k = lstF (PNL (TC fm zm) (TC f z) gb gc tkw (a, b)) (k - 1) := by have h9 := lst_n (P := (PNL (TC fm zm) (TC f z) gb gc tkw (a, b))) (n := k - 1) (fun q => orp0 hw_88 c_89 q.2); rw [show k - 1 + 1 = k by omega] at h9; exact h9
        refine lv_goto (tgt := 78) hx hb dX7_addLast_41 (by decide) ?_
        refine lv_iinc (v := (dnk (k - 1))) (lv' := [(4, .int (dnk (k - 1))), (0, .ref h0), (1, .ref mg), (2, .int (nI a)), (3, .int (nI b))]) hx hb dX7_addLast_78 hl (k := 0) rfl (rfl) (by decide) rfl (fun ls hl => ?_)
        refine lv_goto (tgt := 8) hx hb dX7_addLast_81 (by decide) ?_
        refine W.widen (k := 0) (n := 0) (by omega) (by omega) ?_
        exact ih_70 ((dnk (k - 1)), (k - 1)) F_59 (⟨by omega, rfl, hv3.trans hls, hN1, hN2, hN3⟩) (by show (k - 1) < k; omega) hO hR _ _ hP hD hS ls (lv_sub hl [0, 1, 2, 3, 4] rfl)
set_option maxHeartbeats 4000000 in
set_option maxRecDepth 100000 in
theorem s_X7_addListed_e (l : Launch) (dC : Nat → ClassId) (dI : Nat → Nat → Nat) (cs : Nat → ClassId) (ty : TyM) (L : List Nat) (sz : Nat) (F : Nat → va_E) (h0 : Nat) (ρ : Nat) (d : Nat) (δ : Nat) (ea : Nat) (sl : Nat) (sx : Nat) (sy0 : Nat) (sy1 : Nat) (sy2 : Nat) (ke : Nat) (kx : Nat) (ky0 : Nat) (ky1 : Nat) (ky2 : Nat) (w0 : Nat) (w1 : Nat) (w2 : Nat) (w3 : Nat) (w4 : Nat) (w5 : Nat) (w6 : Nat) (w7 : Nat) (w8 : Nat) (tk : Nat) (hs : Nat) (ha : Nat) (hbb : Nat) (hcc : Nat) (pw : Nat) (px : Nat) (py : Nat) (pz : Nat) (pu : Nat) (rsx : Nat) (z : Nat) (nn : Nat) (f : Nat → Int32) (e0 : Nat → Int32) (e1 : Nat → Int32) (e2 : Nat → Int32) (gq : Nat → Nat → Nat) (v0 : Int32) (v1 : Int32) (mg : Nat) (μ : Nat) (mx : Nat) (m0 : Nat) (m1 : Nat) (m2 : Nat) (rm : Nat) (zm : Nat) (nm : Nat) (rw8 : Nat) (fm : Nat → Int32) (a0 : Nat → Int32) (a1 : Nat → Int32) (a2 : Nat → Int32) (fo : Nat → Int32) (bb : Int32) (gb : Nat → Nat) (gc : Nat → Nat) (gd : Nat → Nat) (hW : WT ty L) (hL_h0 : h0 ∈ L) (hT_h0 : ty h0 = (7, ρ, [d, δ, ea, sl, sx, sy0, sy1, sy2, ke, kx, ky0, ky1, ky2, w0, w1, w2, w3, w4, w5, w6, w7, w8, tk, hs, ha, hbb, hcc, pw, px, py, pz, pu])) (hL_sx : sx ∈ L) (hT_sx : ty sx = (0, ρ + 3, [rsx, 3000])) (hL_w8 : w8 ∈ L) (hT_w8 : ty w8 = (0, ρ + 90, [rw8, 6100])) (hL_mg : mg ∈ L) (hT_mg : ty mg = (4, μ, [mx, m0, m1, m2])) (hL_mx : mx ∈ L) (hT_mx : ty mx = (0, μ + 1, [rm, 3000])) (hFs : F h0 = .inr (7, [.ref d, .ref sl, .ref ke, .ref w0, .ref w1, .ref w2, .ref w3, .ref w4, .ref w5, .ref w6, .ref w7, .ref w8, .ref tk, .ref hs, .ref pw, .int v0, .int v1])) (hFl : F sl = .inr (9, [.ref sx, .ref sy0, .ref sy1, .ref sy2, .int (nI nn)])) (hFx : F sx = .inr (0, [.ref rsx, .int (nI z), .int 0])) (hFr : F rsx = .inl (cs 16, 3000, .inl f)) (hFy0 : F sy0 = .inl (cs 16, 40, .inl e0)) (hFy1 : F sy1 = .inl (cs 16, 40, .inl e1)) (hFy2 : F sy2 = .inl (cs 16, 40, .inl e2)) (hzn : z ≤ 3000) (hcn : nn ≤ 40) (hhl : HLD e0 e1 e2 nn gq) (hTG : TGI z nn gq) (hFe : F mg = .inr (4, [.ref mx, .ref m0, .ref m1, .ref m2, .int (nI nm), .int bb])) (hFrm : F rm = .inl (cs 16, 3000, .inl fm)) (hFm0 : F m0 = .inl (cs 16, 20, .inl a0)) (hFm1 : F m1 = .inl (cs 16, 20, .inl a1)) (hFm2 : F m2 = .inl (cs 16, 20, .inl a2)) (hz3 : zm ≤ 3000) (hn20 : nm ≤ 20) (hpos : ∀ j, j < nm → a0 j = nI (gb j) ∧ a1 j = nI (gc j) ∧ a2 j = nI (gd j) ∧ gb j < gc j ∧ gc j < gd j ∧ gd j ≤ zm) (hord : ∀ j, j + 1 < nm → gd j ≤ gb (j + 1)) (hFxm : F mx = .inr (0, [.ref rm, .int (nI zm), .int 0])) (hFw : F w8 = .inr (0, [.ref rw8, .int (nI 0), .int 0])) (hFrw : F rw8 = .inl (cs 16, 6100, .inl fo)) (hHL : ∀ s, s ∈ (hsG (TC f z) (tgA gq (tgR (TC f z) gq [104] nn)) (tgB gq (tgR (TC f z) gq [104] nn))) → FNC (TC f z) s.1 s.2) (hmu : μ = ρ + 13 ∨ μ = ρ + 23) : Met l yX7_addListed (.code yX7_addListed cX7_addListed 5 none :: tb) ({ frames := 7, cells := 0, slots := 0, locals := 153 }) (va_Pc [.ref h0, .ref mg] (PTE (dC, dI) cs ty L F sz [])) (va_Qv (fun _ : Unit => True) (fun _ T9 => ∃ F2 : Nat → va_E, ∃ fo2 : Nat → Int32, QT (dC, dI) cs ty L [ρ + 90, ρ + 91] F F2 (va_A (va_pl L F) sz) T9 ∧ F2 w8 = .inr (0, [.ref rw8, .int (nI (adl (clf fm) (TC fm zm) (TC f z) gb gc gd nm v0 (hsG (TC f z) (tgA gq (tgR (TC f z) gq [104] nn)) (tgB gq (tgR (TC f z) gq [104] nn)))).2.length), .int 0]) ∧ F2 rw8 = .inl (cs 16, 6100, .inl fo2) ∧ OUTS fm fo2 (adl (clf fm) (TC fm zm) (TC f z) gb gc gd nm v0 (hsG (TC f z) (tgA gq (tgR (TC f z) gq [104] nn)) (tgB gq (tgR (TC f z) gq [104] nn)))).2 ∧ (adl (clf fm) (TC fm zm) (TC f z) gb gc gd nm v0 (hsG (TC f z) (tgA gq (tgR (TC f z) gq [104] nn)) (tgB gq (tgR (TC f z) gq [104] nn)))).2.length ≤ zm + nm) (va_A (va_pl L F) sz)) 0 0 (va_A (va_pl L F) sz) := by
  refine Met.ofW (cc := cX7_addListed) (maxL := 5) (ret := none) (by decide) rfl ?_
  intro p e s m args below meth c s₁ B hml hv
  obtain ⟨rfl, ⟨hsz, hP, hK, hD0, hE, hO⟩, hG, hX⟩ := hv
  have hx := B.exec
  have hb := B.bytes
  have hr := B.returns
  have hts : ∀ w ∈ tb, w.before _ s = true := fun w h => atoms_spec (ws := .code yX7_addListed cX7_addListed 5 none :: tb) B.pre w (List.mem_cons_of_mem _ h)
  have hown : s.vm.findClass RX7 = some m.cls := findClass_of_methodNamed B.named
  have hlocks := B.notSynchronized
  subst hsz
  have hD := hD0.self (sz := s.heap.size)
  generalize hAe : va_A (va_pl L F) s.heap.size = A at hD hG hX ⊢
  have hA : ∀ q : Nat, s.heap.size ≤ q → A q := fun q h => by rw [← hAe]; exact Or.inr h
  have hS : va_S A s.heap s.heap [] := va_S.rf
  have hR : FR ty [ρ + 90, ρ + 91] F F := FR.refl
  have hl := lv_entry ([.ref h0, .ref mg]) (n := 5) (Nat.le_of_ble_eq_true rfl)
  rw [lg_entry_eq]
  generalize (lg_sl ([.ref h0, .ref mg]) ++ List.replicate (5 - (lg_sl ([.ref h0, .ref mg])).length) Slot.unset).toArray = ls at hl ⊢
  have hl : lv_has ls 5 [(0, .ref h0), (1, .ref mg)] := hl
  obtain ⟨hi_1, ht_2, hi_3, ht_4, hi_5, ht_6, hi_7, ⟨r_8, ht_9⟩, hi_10, ⟨r_11, ht_12⟩, hi_13, ⟨r_14, ht_15⟩, hi_16, ⟨r_17, ht_18⟩, hi_19, ⟨r_20, ht_21⟩, hi_22, ⟨r_23, ht_24⟩, hi_25, ⟨r_26, ht_27⟩, hi_28, ⟨r_29, ht_30⟩, _, _, hi_31, ht_32, hi_33, ht_34, hi_35, ht_36⟩ := hW.slr hL_h0 hT_h0
  obtain ⟨_, hi_37, hi_38, hi_39, _, ht_40, ht_41, ht_42⟩ := hW.tags hi_3 ht_4
  have ht_41 : ty sy1 = (24, ρ + 72, [40]) := ht_41
  have ht_42 : ty sy2 = (24, ρ + 73, [40]) := ht_42
  obtain ⟨hi_43, ht_44, hq_45⟩ := hW.bytes hL_sx hT_sx
  obtain ⟨hi_46, ht_47, hq_48⟩ := hW.bytes hL_w8 hT_w8
  obtain ⟨_, hi_49, hi_50, hi_51, _, ht_52, ht_53, ht_54⟩ := hW.msg hL_mg hT_mg
  obtain ⟨hi_55, ht_56, hq_57⟩ := hW.bytes hL_mx hT_mx
  obtain ⟨f_58, hF_59⟩ := hO.bits hi_31 ht_32
  refine lv_iconst (v := 0) hx hb dX7_addListed_0 (by decide) ?_
  refine lv_istore_n (lv' := [(2, .int 0), (0, .ref h0), (1, .ref mg)]) hx hb dX7_addListed_1 rfl hl (by decide) rfl (fun ls hl => ?_)
  refine W.widen (k := 0) (n := 0) (by omega) (by omega) ?_
  have hF_61 : F h0 = .inr (7, [.ref d, .ref sl, .ref ke, .ref w0, .ref w1, .ref w2, .ref w3, .ref w4, .ref w5, .ref w6, .ref w7, .ref w8, .ref tk, .ref hs, .ref pw, .int v0, .int v1]) := (hR h0 (by rw [hT_h0]; simp)).symm.trans hFs
  have hF_62 : F sl = .inr (9, [.ref sx, .ref sy0, .ref sy1, .ref sy2, .int (nI nn)]) := (hR sl (by rw [ht_4]; simp)).symm.trans hFl
  have hF_63 : F sx = .inr (0, [.ref rsx, .int (nI z), .int 0]) := (hR sx (by rw [hT_sx]; simp)).symm.trans hFx
  have hF_64 : F rsx = .inl (cs 16, 3000, .inl f) := (hR rsx (by rw [ht_44]; simp)).symm.trans hFr
  have hF_65 : F sy0 = .inl (cs 16, 40, .inl e0) := (hR sy0 (by rw [ht_40]; simp)).symm.trans hFy0
  have hF_66 : F sy1 = .inl (cs 16, 40, .inl e1) := (hR sy1 (by rw [ht_41]; simp)).symm.trans hFy1
  have hF_67 : F sy2 = .inl (cs 16, 40, .inl e2) := (hR sy2 (by rw [ht_42]; simp)).symm.trans hFy2
  have hF_68 : F mg = .inr (4, [.ref mx, .ref m0, .ref m1, .ref m2, .int (nI nm), .int bb]) := (hR mg (by rw [hT_mg]; simp only [List.mem_cons, List.not_mem_nil, or_false]; omega)).symm.trans hFe
  have hF_69 : F rm = .inl (cs 16, 3000, .inl fm) := (hR rm (by rw [ht_56]; simp only [List.mem_cons, List.not_mem_nil, or_false]; omega)).symm.trans hFrm
  have hF_70 : F m0 = .inl (cs 16, 20, .inl a0) := (hR m0 (by rw [ht_52]; simp only [List.mem_cons, List.not_mem_nil, or_false]; omega)).symm.trans hFm0
  have hF_71 : F m1 = .inl (cs 16, 20, .inl a1) := (hR m1 (by rw [ht_53]; simp only [List.mem_cons, List.not_mem_nil, or_false]; omega)).symm.trans hFm1
  have hF_72 : F m2 = .inl (cs 16, 20, .inl a2) := (hR m2 (by rw [ht_54]; simp only [List.mem_cons, List.not_mem_nil, or_false]; omega)).symm.trans hFm2
  have hF_73 : F mx = .inr (0, [.ref rm, .int (nI zm), .int 0]) := (hR mx (by rw [hT_mx]; simp only [List.mem_cons, List.not_mem_nil, or_false]; omega)).symm.trans hFxm
  refine pl_loop (σ := Nat × (Nat → Int32)) A (dC, dI) cs ty L [ρ + 90, ρ + 91] F 2 5 (fun (j0, tz) => [(2, .int (nI j0)), (0, .ref h0), (1, .ref mg)]) (fun (j0, tz) => []) (fun (j0, tz) FF => j0 ≤ 20 ∧ FF tk = .inl (cs 18, 20, .inl tz) ∧ (∀ k, k < j0 → tz k = 0) ∧ FF w8 = .inr (0, [.ref rw8, .int (nI 0), .int 0]) ∧ FF rw8 = .inl (cs 16, 6100, .inl fo)) (fun (j0, tz) => 20 - j0) ?_ (0, f_58) F (⟨by omega, hF_59, fun k hk => absurd hk (Nat.not_lt_zero _), hFw, hFrw⟩) hO hR _ _ hP hD hS ls (lv_sub hl [0, 1, 2] rfl)
  rintro ⟨j0, tz⟩ F_60 hv_74 hO hR ih_75 H locs hP hD hS ls hl
  have hl : lv_has ls 5 [(2, .int (nI j0)), (0, .ref h0), (1, .ref mg)] := hl
  have hv_74 : j0 ≤ 20 ∧ F_60 tk = .inl (cs 18, 20, .inl tz) ∧ (∀ k, k < j0 → tz k = 0) ∧ F_60 w8 = .inr (0, [.ref rw8, .int (nI 0), .int 0]) ∧ F_60 rw8 = .inl (cs 16, 6100, .inl fo) := hv_74
  refine W.eq (g2 := F0 m 2 ls []) rfl ?_
  have hF_76 : F_60 h0 = .inr (7, [.ref d, .ref sl, .ref ke, .ref w0, .ref w1, .ref w2, .ref w3, .ref w4, .ref w5, .ref w6, .ref w7, .ref w8, .ref tk, .ref hs, .ref pw, .int v0, .int v1]) := (hR h0 (by rw [hT_h0]; simp)).trans hF_61
  have hF_77 : F_60 sl = .inr (9, [.ref sx, .ref sy0, .ref sy1, .ref sy2, .int (nI nn)]) := (hR sl (by rw [ht_4]; simp)).trans hF_62
  have hF_78 : F_60 sx = .inr (0, [.ref rsx, .int (nI z), .int 0]) := (hR sx (by rw [hT_sx]; simp)).trans hF_63
  have hF_79 : F_60 rsx = .inl (cs 16, 3000, .inl f) := (hR rsx (by rw [ht_44]; simp)).trans hF_64
  have hF_80 : F_60 sy0 = .inl (cs 16, 40, .inl e0) := (hR sy0 (by rw [ht_40]; simp)).trans hF_65
  have hF_81 : F_60 sy1 = .inl (cs 16, 40, .inl e1) := (hR sy1 (by rw [ht_41]; simp)).trans hF_66
  have hF_82 : F_60 sy2 = .inl (cs 16, 40, .inl e2) := (hR sy2 (by rw [ht_42]; simp)).trans hF_67
  have hF_83 : F_60 mg = .inr (4, [.ref mx, .ref m0, .ref m1, .ref m2, .int (nI nm), .int bb]) := (hR mg (by rw [hT_mg]; simp only [List.mem_cons, List.not_mem_nil, or_false]; omega)).trans hF_68
  have hF_84 : F_60 rm = .inl (cs 16, 3000, .inl fm) := (hR rm (by rw [ht_56]; simp only [List.mem_cons, List.not_mem_nil, or_false]; omega)).trans hF_69
  have hF_85 : F_60 m0 = .inl (cs 16, 20, .inl a0) := (hR m0 (by rw [ht_52]; simp only [List.mem_cons, List.not_mem_nil, or_false]; omega)).trans hF_70
  have hF_86 : F_60 m1 = .inl (cs 16, 20, .inl a1) := (hR m1 (by rw [ht_53]; simp only [List.mem_cons, List.not_mem_nil, or_false]; omega)).trans hF_71
  have hF_87 : F_60 m2 = .inl (cs 16, 20, .inl a2) := (hR m2 (by rw [ht_54]; simp only [List.mem_cons, List.not_mem_nil, or_false]; omega)).trans hF_72
  have hF_88 : F_60 mx = .inr (0, [.ref rm, .int (nI zm), .int 0]) := (hR mx (by rw [hT_mx]; simp only [List.mem_cons, List.not_mem_nil, or_false]; omega)).trans hF_73
  obtain ⟨hz1_, hz2_, hz3_, hz4_, hz5_⟩ := id hv_74
  refine lv_iload_n hx hb dX7_addListed_2 rfl (lv_at hl 0 rfl) ?_
  refine lv_bipush (v := 20) hx hb dX7_addListed_3 (by decide) ?_
  refine lv_icmp_ge (tgt := 21) hx hb dX7_addListed_5 (by decide) (fun c_89 => ?_) (fun c_89 => ?_)
  ·
    have hi_90 : 20 ≤ j0 := leN (N := 20) c_89
    have hj20 : 20 ≤ j0 := (nI_leI (by omega) (by omega)).mp c_89
    refine lv_aload_n hx hb dX7_addListed_21 rfl (lv_at hl 1 rfl) ?_
    refine pg_get (ci := 7) (v := .ref sl) (C := RX7) (T := TX7) (N := 17) hx hb hts it_7 hown hK hP hL_h0 hF_76 rfl 1 (by decide) (hts _ kt_307) (fun _ h9 => h9) rfl dX7_addListed_22 ?_
    obtain ⟨q_91, v_92, hr_q_91, hXc_q_91⟩ := hG.2.2.2.2 ("PostGate$Sealer", 207, "h", [104]) (by decide +kernel)
    have hXc_q_91 : SXc q_91 v_92 1 (cct [104]) A s s.heap := hXc_q_91
    have hX_q_91 : SX q_91 v_92 1 A s s.heap := hXc_q_91.sx
    obtain ⟨xo_q_91, xc_q_91, xv_q_91, xt_q_91, xn_q_91⟩ := id hXc_q_91
    have hr_q_91 : vk_R "PostGate$Sealer" 207 "h" q_91 s := hr_q_91
    refine va_ldcS hx hb hown hr_q_91 dX7_addListed_25 ?_
    have hFc := pg_free hD hS hA
    refine va_calli (va_runV (As := [.ref q_91]) (rest := []) ⟨hx, hb, hml, hown, hts⟩ (s_X9_startOf_e l dC dI cs ty L H.size F_60 sl (ρ + 2) sx 3000 sy0 sy1 sy2 rsx z nn f e0 e1 e2 gq q_91 v_92 1 (cct [104]) ([104]) hW hi_3 ht_4 hL_sx hT_sx hF_77 hF_78 hF_79 hF_80 hF_81 hF_82 (hzn) (by omega) (hcn) (hhl) (hTG) (⟨rfl, by decide +kernel⟩)) ⟨callB_of 1 hts (gi kt_170) rfl rfl rfl (hts _ kt_164) (hts _ kt_318) (by decide +kernel) ⟨Nat.le_of_ble_eq_true rfl, Nat.le_of_ble_eq_true rfl⟩, (hts _ kt_172), (hts _ kt_173)⟩ ⟨fun a U g mk q => ⟨q.1, PTC.calling q.2⟩, pg_recv hK hP hi_3 hF_77 (q := (RX9, TX9, 5)) rfl, fun U hU hWm => ⟨rfl, PTC.mk hU hWm hP hK hD hE hO hG hXc_q_91 hS hFc⟩⟩ rfl rfl hl.1 rfl (lv_room (Nat.le_of_ble_eq_true rfl)) dX7_addListed_27 ⟨by show _ + 0 ≤ 0; omega, by show _ + 0 ≤ 0; omega⟩) hS (fun q _ h => hFc q h) hFc (fun r_93 u t H1 locs ht hvm hw hB hz1 hk1 hS => ?_)
    obtain ⟨F_94, hB1⟩ := hB
    obtain rfl : F_60 = F_94 := (funext (fun a => hB1.2.2.2 a List.not_mem_nil)).symm
    obtain ⟨hP, hD, hO, hR⟩ := QT.back hB1 ht hFc hR (fun q h => absurd h List.not_mem_nil)
    generalize H1 = H at hP hS ⊢
    have hw : r_93 = nI (tgA gq (tgR (TC f z) gq [104] nn)) := hw
    have hw_95 := hw
    have hq9 : r_93 = nI (tgA gq (tgR (TC f z) gq [104] nn)) := hw_95
    subst hq9
    refine lv_istore_n (lv' := [(2, .int (nI (tgA gq (tgR (TC f z) gq [104] nn)))), (0, .ref h0), (1, .ref mg)]) hx hb dX7_addListed_30 rfl hl (by decide) rfl (fun ls hl => ?_)
    refine lv_aload_n hx hb dX7_addListed_31 rfl (lv_at hl 1 rfl) ?_
    refine pg_get (ci := 7) (v := .ref sl) (C := RX7) (T := TX7) (N := 17) hx hb hts it_7 hown hK hP hL_h0 hF_76 rfl 1 (by decide) (hts _ kt_307) (fun _ h9 => h9) rfl dX7_addListed_32 ?_
    refine va_ldcS hx hb hown hr_q_91 dX7_addListed_35 ?_
    have hFc := pg_free hD hS hA
    refine va_calli (va_runV (As := [.ref q_91]) (rest := []) ⟨hx, hb, hml, hown, hts⟩ (s_X9_endOf_e l dC dI cs ty L H.size F_60 sl (ρ + 2) sx 3000 sy0 sy1 sy2 rsx z nn f e0 e1 e2 gq q_91 v_92 1 (cct [104]) ([104]) hW hi_3 ht_4 hL_sx hT_sx hF_77 hF_78 hF_79 hF_80 hF_81 hF_82 (hzn) (by omega) (hcn) (hhl) (hTG) (⟨rfl, by decide +kernel⟩)) ⟨callB_of 1 hts (gi kt_174) rfl rfl rfl (hts _ kt_164) (hts _ kt_319) (by decide +kernel) ⟨Nat.le_of_ble_eq_true rfl, Nat.le_of_ble_eq_true rfl⟩, (hts _ kt_176), (hts _ kt_177)⟩ ⟨fun a U g mk q => ⟨q.1, PTC.calling q.2⟩, pg_recv hK hP hi_3 hF_77 (q := (RX9, TX9, 5)) rfl, fun U hU hWm => ⟨rfl, PTC.mk hU hWm hP hK hD hE hO hG hXc_q_91 hS hFc⟩⟩ rfl rfl hl.1 rfl (lv_room (Nat.le_of_ble_eq_true rfl)) dX7_addListed_37 ⟨by show _ + 0 ≤ 0; omega, by show _ + 0 ≤ 0; omega⟩) hS (fun q _ h => hFc q h) hFc (fun r_96 u t H1 locs ht hvm hw hB hz1 hk1 hS => ?_)
    obtain ⟨F_97, hB1⟩ := hB
    obtain rfl : F_60 = F_97 := (funext (fun a => hB1.2.2.2 a List.not_mem_nil)).symm
    obtain ⟨hP, hD, hO, hR⟩ := QT.back hB1 ht hFc hR (fun q h => absurd h List.not_mem_nil)
    generalize H1 = H at hP hS ⊢
    have hw : r_96 = nI (tgB gq (tgR (TC f z) gq [104] nn)) := hw
    have hw_98 := hw
    have hq9 : r_96 = nI (tgB gq (tgR (TC f z) gq [104] nn)) := hw_98
    subst hq9
    refine lv_istore_n (lv' := [(3, .int (nI (tgB gq (tgR (TC f z) gq [104] nn)))), (2, .int (nI (tgA gq (tgR (TC f z) gq [104] nn)))), (0, .ref h0), (1, .ref mg)]) hx hb dX7_addListed_40 rfl hl (by decide) rfl (fun ls hl => ?_)
    obtain ⟨hab9, hbz9⟩ := tgAB (T := (TC f z)) (l := [104]) hTG
    refine lv_iload_n hx hb dX7_addListed_41 rfl (lv_at hl 1 rfl) ?_
    refine lv_istore (lv' := [(4, .int (nI (tgA gq (tgR (TC f z) gq [104] nn)))), (3, .int (nI (tgB gq (tgR (TC f z) gq [104] nn)))), (2, .int (nI (tgA gq (tgR (TC f z) gq [104] nn)))), (0, .ref h0), (1, .ref mg)]) hx hb dX7_addListed_42 hl (by decide) rfl (fun ls hl => ?_)
    refine W.widen (k := 0) (n := 0) (by omega) (by omega) ?_
    have hF_100 : F h0 = .inr (7, [.ref d, .ref sl, .ref ke, .ref w0, .ref w1, .ref w2, .ref w3, .ref w4, .ref w5, .ref w6, .ref w7, .ref w8, .ref tk, .ref hs, .ref pw, .int v0, .int v1]) := (hR h0 (by rw [hT_h0]; simp)).symm.trans hF_76
    have hF_101 : F sl = .inr (9, [.ref sx, .ref sy0, .ref sy1, .ref sy2, .int (nI nn)]) := (hR sl (by rw [ht_4]; simp)).symm.trans hF_77
    have hF_102 : F sx = .inr (0, [.ref rsx, .int (nI z), .int 0]) := (hR sx (by rw [hT_sx]; simp)).symm.trans hF_78
    have hF_103 : F rsx = .inl (cs 16, 3000, .inl f) := (hR rsx (by rw [ht_44]; simp)).symm.trans hF_79
    have hF_104 : F sy0 = .inl (cs 16, 40, .inl e0) := (hR sy0 (by rw [ht_40]; simp)).symm.trans hF_80
    have hF_105 : F sy1 = .inl (cs 16, 40, .inl e1) := (hR sy1 (by rw [ht_41]; simp)).symm.trans hF_81
    have hF_106 : F sy2 = .inl (cs 16, 40, .inl e2) := (hR sy2 (by rw [ht_42]; simp)).symm.trans hF_82
    have hF_107 : F mg = .inr (4, [.ref mx, .ref m0, .ref m1, .ref m2, .int (nI nm), .int bb]) := (hR mg (by rw [hT_mg]; simp only [List.mem_cons, List.not_mem_nil, or_false]; omega)).symm.trans hF_83
    have hF_108 : F rm = .inl (cs 16, 3000, .inl fm) := (hR rm (by rw [ht_56]; simp only [List.mem_cons, List.not_mem_nil, or_false]; omega)).symm.trans hF_84
    have hF_109 : F m0 = .inl (cs 16, 20, .inl a0) := (hR m0 (by rw [ht_52]; simp only [List.mem_cons, List.not_mem_nil, or_false]; omega)).symm.trans hF_85
    have hF_110 : F m1 = .inl (cs 16, 20, .inl a1) := (hR m1 (by rw [ht_53]; simp only [List.mem_cons, List.not_mem_nil, or_false]; omega)).symm.trans hF_86
    have hF_111 : F m2 = .inl (cs 16, 20, .inl a2) := (hR m2 (by rw [ht_54]; simp only [List.mem_cons, List.not_mem_nil, or_false]; omega)).symm.trans hF_87
    have hF_112 : F mx = .inr (0, [.ref rm, .int (nI zm), .int 0]) := (hR mx (by rw [hT_mx]; simp only [List.mem_cons, List.not_mem_nil, or_false]; omega)).symm.trans hF_88
    refine pl_loop (σ := Nat × Nat × (List (Nat × Nat)) × (Nat → Int32) × (Nat → Int32)) A (dC, dI) cs ty L [ρ + 90, ρ + 91] F 44 5 (fun (j, wj, pre, tf, fq) => [(4, .int (nI j)), (3, .int (nI (tgB gq (tgR (TC f z) gq [104] nn)))), (2, .int (nI wj)), (0, .ref h0), (1, .ref mg)]) (fun (j, wj, pre, tf, fq) => []) (fun (j, wj, pre, tf, fq) FF => wj ≤ j ∧ (tgA gq (tgR (TC f z) gq [104] nn)) ≤ wj ∧ j ≤ (tgB gq (tgR (TC f z) gq [104] nn)) + 1 ∧ (j ≤ (tgB gq (tgR (TC f z) gq [104] nn)) ∨ (tgB gq (tgR (TC f z) gq [104] nn)) < wj) ∧ (∀ i, wj ≤ i → i < j → ¬ TC f z i = 58) ∧ pre ++ hsG (TC f z) wj (tgB gq (tgR (TC f z) gq [104] nn)) = hsG (TC f z) (tgA gq (tgR (TC f z) gq [104] nn)) (tgB gq (tgR (TC f z) gq [104] nn)) ∧ ALI gb gd nm (adl (clf fm) (TC fm zm) (TC f z) gb gc gd nm v0 pre) ∧ FF tk = .inl (cs 18, 20, .inl tf) ∧ (∀ k, k < 20 → tf k = (adl (clf fm) (TC fm zm) (TC f z) gb gc gd nm v0 pre).1 k) ∧ FF w8 = .inr (0, [.ref rw8, .int (nI (adl (clf fm) (TC fm zm) (TC f z) gb gc gd nm v0 pre).2.length), .int 0]) ∧ FF rw8 = .inl (cs 16, 6100, .inl fq) ∧ OUTS fm fq (adl (clf fm) (TC fm zm) (TC f z) gb gc gd nm v0 pre).2) (fun (j, wj, pre, tf, fq) => (tgB gq (tgR (TC f z) gq [104] nn)) + 1 - j) ?_ ((tgA gq (tgR (TC f z) gq [104] nn)), (tgA gq (tgR (TC f z) gq [104] nn)), [], tz, fo) F_60 (⟨Nat.le_refl _, Nat.le_refl _, by omega, Or.inl hab9, fun i h1 h2 => absurd h2 (by omega), rfl, ali_0, hz2_, (fun k hk => hz3_ k (by omega)), hz4_, hz5_, OUTS.nil⟩) hO hR _ _ hP hD hS ls (lv_sub hl [0, 1, 2, 3, 4] rfl)
    rintro ⟨j, wj, pre, tf, fq⟩ F_99 hv_113 hO hR ih_114 H locs hP hD hS ls hl
    have hl : lv_has ls 5 [(4, .int (nI j)), (3, .int (nI (tgB gq (tgR (TC f z) gq [104] nn)))), (2, .int (nI wj)), (0, .ref h0), (1, .ref mg)] := hl
    have hv_113 : wj ≤ j ∧ (tgA gq (tgR (TC f z) gq [104] nn)) ≤ wj ∧ j ≤ (tgB gq (tgR (TC f z) gq [104] nn)) + 1 ∧ (j ≤ (tgB gq (tgR (TC f z) gq [104] nn)) ∨ (tgB gq (tgR (TC f z) gq [104] nn)) < wj) ∧ (∀ i, wj ≤ i → i < j → ¬ TC f z i = 58) ∧ pre ++ hsG (TC f z) wj (tgB gq (tgR (TC f z) gq [104] nn)) = hsG (TC f z) (tgA gq (tgR (TC f z) gq [104] nn)) (tgB gq (tgR (TC f z) gq [104] nn)) ∧ ALI gb gd nm (adl (clf fm) (TC fm zm) (TC f z) gb gc gd nm v0 pre) ∧ F_99 tk = .inl (cs 18, 20, .inl tf) ∧ (∀ k, k < 20 → tf k = (adl (clf fm) (TC fm zm) (TC f z) gb gc gd nm v0 pre).1 k) ∧ F_99 w8 = .inr (0, [.ref rw8, .int (nI (adl (clf fm) (TC fm zm) (TC f z) gb gc gd nm v0 pre).2.length), .int 0]) ∧ F_99 rw8 = .inl (cs 16, 6100, .inl fq) ∧ OUTS fm fq (adl (clf fm) (TC fm zm) (TC f z) gb gc gd nm v0 pre).2 := hv_113
    refine W.eq (g2 := F0 m 44 ls []) rfl ?_
    have hF_115 : F_99 h0 = .inr (7, [.ref d, .ref sl, .ref ke, .ref w0, .ref w1, .ref w2, .ref w3, .ref w4, .ref w5, .ref w6, .ref w7, .ref w8, .ref tk, .ref hs, .ref pw, .int v0, .int v1]) := (hR h0 (by rw [hT_h0]; simp)).trans hF_100
    have hF_116 : F_99 sl = .inr (9, [.ref sx, .ref sy0, .ref sy1, .ref sy2, .int (nI nn)]) := (hR sl (by rw [ht_4]; simp)).trans hF_101
    have hF_117 : F_99 sx = .inr (0, [.ref rsx, .int (nI z), .int 0]) := (hR sx (by rw [hT_sx]; simp)).trans hF_102
    have hF_118 : F_99 rsx = .inl (cs 16, 3000, .inl f) := (hR rsx (by rw [ht_44]; simp)).trans hF_103
    have hF_119 : F_99 sy0 = .inl (cs 16, 40, .inl e0) := (hR sy0 (by rw [ht_40]; simp)).trans hF_104
    have hF_120 : F_99 sy1 = .inl (cs 16, 40, .inl e1) := (hR sy1 (by rw [ht_41]; simp)).trans hF_105
    have hF_121 : F_99 sy2 = .inl (cs 16, 40, .inl e2) := (hR sy2 (by rw [ht_42]; simp)).trans hF_106
    have hF_122 : F_99 mg = .inr (4, [.ref mx, .ref m0, .ref m1, .ref m2, .int (nI nm), .int bb]) := (hR mg (by rw [hT_mg]; simp only [List.mem_cons, List.not_mem_nil, or_false]; omega)).trans hF_107
    have hF_123 : F_99 rm = .inl (cs 16, 3000, .inl fm) := (hR rm (by rw [ht_56]; simp only [List.mem_cons, List.not_mem_nil, or_false]; omega)).trans hF_108
    have hF_124 : F_99 m0 = .inl (cs 16, 20, .inl a0) := (hR m0 (by rw [ht_52]; simp only [List.mem_cons, List.not_mem_nil, or_false]; omega)).trans hF_109
    have hF_125 : F_99 m1 = .inl (cs 16, 20, .inl a1) := (hR m1 (by rw [ht_53]; simp only [List.mem_cons, List.not_mem_nil, or_false]; omega)).trans hF_110
    have hF_126 : F_99 m2 = .inl (cs 16, 20, .inl a2) := (hR m2 (by rw [ht_54]; simp only [List.mem_cons, List.not_mem_nil, or_false]; omega)).trans hF_111
    have hF_127 : F_99 mx = .inr (0, [.ref rm, .int (nI zm), .int 0]) := (hR mx (by rw [hT_mx]; simp only [List.mem_cons, List.not_mem_nil, or_false]; omega)).trans hF_112
    obtain ⟨hv1, hv2, hv3, hv4, hv5, hv6, hA1, hA2, hA3, hA4, hA5, hA6⟩ := id hv_113
    refine lv_iload hx hb dX7_addListed_44 (lv_at hl 0 rfl) ?_
    refine lv_iload_n hx hb dX7_addListed_46 rfl (lv_at hl 1 rfl) ?_
    refine lv_icmp_gt (tgt := 95) hx hb dX7_addListed_47 (by decide) (fun c_128 => ?_) (fun c_128 => ?_)
    ·
      have hi_129 : (tgB gq (tgR (TC f z) gq [104] nn)) < j := (nI_ltI (a := (tgB gq (tgR (TC f z) gq [104] nn))) (b := j) (by omega) (by omega)).mp c_128
      have hje : (tgB gq (tgR (TC f z) gq [104] nn)) < j := (nI_ltI (by omega) (by omega)).mp c_128
      have hpe : pre = hsG (TC f z) (tgA gq (tgR (TC f z) gq [104] nn)) (tgB gq (tgR (TC f z) gq [104] nn)) := by have h9 := hv6; rw [hsG_n (show (tgB gq (tgR (TC f z) gq [104] nn)) < wj by omega), List.append_nil] at h9; exact h9
      refine W.widen (k := 0) (n := 0) (by omega) (by omega) ?_
      exact W.vret hx hb hr (fun t ht hWm => ⟨⟨(), rfl, trivial, ⟨F_99, fq, QT.mk ht hP hD hO hR, (by rw [← hpe]; exact hA4), hA5, (by rw [← hpe]; exact hA6), (by rw [← hpe]; exact Nat.le_trans hA1 (tsm_le (zm := zm) (fun j hj => ⟨by have h9 := hpos j hj; omega, (hpos j hj).2.2.2.2.2⟩) hord nm (Nat.le_refl _)).1)⟩⟩, hS.F ht⟩) hS.2.2 dX7_addListed_95
    ·
      have hi_130 : j ≤ (tgB gq (tgR (TC f z) gq [104] nn)) := Nat.not_lt.mp (fun q => c_128 ((nI_ltI (a := (tgB gq (tgR (TC f z) gq [104] nn))) (b := j) (by omega) (by omega)).mpr q))
      have hje : j ≤ (tgB gq (tgR (TC f z) gq [104] nn)) := Nat.not_lt.mp (fun q => c_128 ((nI_ltI (by omega) (by omega)).mpr q))
      refine lv_iload hx hb dX7_addListed_50 (lv_at hl 0 rfl) ?_
      refine lv_iload_n hx hb dX7_addListed_52 rfl (lv_at hl 1 rfl) ?_
      refine lv_icmp_ge (tgt := 76) hx hb dX7_addListed_53 (by decide) (fun c_131 => ?_) (fun c_131 => ?_)
      ·
        have hi_132 : (tgB gq (tgR (TC f z) gq [104] nn)) ≤ j := leN (N := (tgB gq (tgR (TC f z) gq [104] nn))) c_131
        have hjq : j = (tgB gq (tgR (TC f z) gq [104] nn)) := by have h9 : (tgB gq (tgR (TC f z) gq [104] nn)) ≤ j := (nI_leI (by omega) (by omega)).mp c_131; omega
        have hfd : fdT (TC f z) 58 wj (tgB gq (tgR (TC f z) gq [104] nn)) = j := fd_at (by omega) (by omega) hv5 (Or.inl hjq)
        have hpr2 : (pre ++ [(wj, j)]) ++ hsG (TC f z) (j + 1) (tgB gq (tgR (TC f z) gq [104] nn)) = hsG (TC f z) (tgA gq (tgR (TC f z) gq [104] nn)) (tgB gq (tgR (TC f z) gq [104] nn)) := by have h9 := hv6; rw [hsG_c (by omega) hfd] at h9; rw [List.append_assoc]; exact h9
        have hFN := hHL (wj, j) (by rw [← hpr2]; exact List.mem_append.mpr (Or.inl (List.mem_append.mpr (Or.inr (List.mem_singleton.mpr rfl)))))
        refine lv_aload_n hx hb dX7_addListed_76 rfl (lv_at hl 3 rfl) ?_
        refine lv_aload_n hx hb dX7_addListed_77 rfl (lv_at hl 4 rfl) ?_
        refine lv_iload_n hx hb dX7_addListed_78 rfl (lv_at hl 2 rfl) ?_
        refine lv_iload hx hb dX7_addListed_79 (lv_at hl 0 rfl) ?_
        have hFc := pg_free hD hS hA
        refine va_callv (va_runV (As := [.ref mg, .int (nI wj), .int (nI j)]) (rest := []) ⟨hx, hb, hml, hown, hts⟩ (s_X7_addLast_e l dC dI cs ty L H.size F_99 h0 ρ d δ ea sl sx sy0 sy1 sy2 ke kx ky0 ky1 ky2 w0 w1 w2 w3 w4 w5 w6 w7 w8 tk hs ha hbb hcc pw px py pz pu rsx z f v0 v1 mg μ mx m0 m1 m2 rm zm nm fm a0 a1 a2 bb gb gc gd rw8 fq tf ((adl (clf fm) (TC fm zm) (TC f z) gb gc gd nm v0 pre).1) ((adl (clf fm) (TC fm zm) (TC f z) gb gc gd nm v0 pre).2) wj j hW hL_h0 hT_h0 hL_sx hT_sx hL_w8 hT_w8 hL_mg hT_mg hL_mx hT_mx hF_115 hF_117 hF_118 (by omega) hF_122 hF_127 hF_123 hF_124 hF_125 hF_126 (by omega) (by omega) (hpos) (hord) hA4 hA5 (hA6) hA2 (hA3) (hA1) (by omega) (by omega) (hFN) (hmu)) ⟨callB_of 3 hts (gi kt_421) rfl rfl rfl (hts _ kt_322) (hts _ kt_422) (by decide +kernel) ⟨Nat.le_of_ble_eq_true rfl, Nat.le_of_ble_eq_true rfl⟩, (hts _ kt_423), (hts _ kt_424)⟩ ⟨fun a U g mk q => ⟨q.1, PT.calling q.2⟩, pg_recv hK hP hL_h0 hF_115 (q := (RX7, TX7, 17)) rfl, fun U hU hWm => ⟨rfl, PT.mk hU hWm hP hK hD hE hO⟩⟩ rfl rfl hl.1 rfl (lv_room (Nat.le_of_ble_eq_true rfl)) dX7_addListed_81 ⟨by show _ + 0 ≤ 0; omega, by show _ + 0 ≤ 0; omega⟩) hS (fun q _ h => hFc q h) hFc (fun u t H1 locs ht hvm hw hB hz1 hk1 hS => ?_)
        obtain ⟨F_134, fo2_135, tf2_136, hB1, hq_137, hq_138, hq_139, hq_140, hq_141, hq_142⟩ := hB
        obtain ⟨hP, hD, hO, hR⟩ := QT.back hB1 ht hFc hR (fun q h => by simp only [List.mem_cons, List.not_mem_nil, or_false] at h ⊢; omega)
        have hF_143 : F_134 h0 = .inr (7, [.ref d, .ref sl, .ref ke, .ref w0, .ref w1, .ref w2, .ref w3, .ref w4, .ref w5, .ref w6, .ref w7, .ref w8, .ref tk, .ref hs, .ref pw, .int v0, .int v1]) := (hB1.2.2.2 h0 (by rw [hT_h0]; simp)).trans hF_115
        have hF_144 : F_134 sl = .inr (9, [.ref sx, .ref sy0, .ref sy1, .ref sy2, .int (nI nn)]) := (hB1.2.2.2 sl (by rw [ht_4]; simp)).trans hF_116
        have hF_145 : F_134 sx = .inr (0, [.ref rsx, .int (nI z), .int 0]) := (hB1.2.2.2 sx (by rw [hT_sx]; simp)).trans hF_117
        have hF_146 : F_134 rsx = .inl (cs 16, 3000, .inl f) := (hB1.2.2.2 rsx (by rw [ht_44]; simp)).trans hF_118
        have hF_147 : F_134 sy0 = .inl (cs 16, 40, .inl e0) := (hB1.2.2.2 sy0 (by rw [ht_40]; simp)).trans hF_119
        have hF_148 : F_134 sy1 = .inl (cs 16, 40, .inl e1) := (hB1.2.2.2 sy1 (by rw [ht_41]; simp)).trans hF_120
        have hF_149 : F_134 sy2 = .inl (cs 16, 40, .inl e2) := (hB1.2.2.2 sy2 (by rw [ht_42]; simp)).trans hF_121
        have hF_150 : F_134 mg = .inr (4, [.ref mx, .ref m0, .ref m1, .ref m2, .int (nI nm), .int bb]) := (hB1.2.2.2 mg (by rw [hT_mg]; simp only [List.mem_cons, List.not_mem_nil, or_false]; omega)).trans hF_122
        have hF_151 : F_134 rm = .inl (cs 16, 3000, .inl fm) := (hB1.2.2.2 rm (by rw [ht_56]; simp only [List.mem_cons, List.not_mem_nil, or_false]; omega)).trans hF_123
        have hF_152 : F_134 m0 = .inl (cs 16, 20, .inl a0) := (hB1.2.2.2 m0 (by rw [ht_52]; simp only [List.mem_cons, List.not_mem_nil, or_false]; omega)).trans hF_124
        have hF_153 : F_134 m1 = .inl (cs 16, 20, .inl a1) := (hB1.2.2.2 m1 (by rw [ht_53]; simp only [List.mem_cons, List.not_mem_nil, or_false]; omega)).trans hF_125
        have hF_154 : F_134 m2 = .inl (cs 16, 20, .inl a2) := (hB1.2.2.2 m2 (by rw [ht_54]; simp only [List.mem_cons, List.not_mem_nil, or_false]; omega)).trans hF_126
        have hF_155 : F_134 mx = .inr (0, [.ref rm, .int (nI zm), .int 0]) := (hB1.2.2.2 mx (by rw [hT_mx]; simp only [List.mem_cons, List.not_mem_nil, or_false]; omega)).trans hF_127
        generalize H1 = H at hP hS ⊢
        have hF_156 : F_134 w8 = .inr (0, [.ref rw8, .int (nI (adl (clf fm) (TC fm zm) (TC f z) gb gc gd nm v0 (pre ++ [(wj, j)])).2.length), .int 0]) := by rw [adl_s]; exact hq_139
        refine lv_iload hx hb dX7_addListed_84 (lv_at hl 0 rfl) ?_
        refine lv_iconst (v := 1) hx hb dX7_addListed_86 (by decide) ?_
        refine lv_iadd hx hb dX7_addListed_87 ?_
        refine lv_topi (fun x_157 ex_157 => ?_)
        obtain rfl : x_157 = (nI (j + 1)) := ex_157.trans (nI_1 j)
        refine lv_istore_n (lv' := [(2, .int (nI (j + 1))), (4, .int (nI j)), (3, .int (nI (tgB gq (tgR (TC f z) gq [104] nn)))), (0, .ref h0), (1, .ref mg)]) hx hb dX7_addListed_88 rfl hl (by decide) rfl (fun ls hl => ?_)
        refine lv_iinc (v := (nI (j + 1))) (lv' := [(4, .int (nI (j + 1))), (2, .int (nI (j + 1))), (3, .int (nI (tgB gq (tgR (TC f z) gq [104] nn)))), (0, .ref h0), (1, .ref mg)]) hx hb dX7_addListed_89 hl (k := 1) rfl (nI_1 _) (by decide) rfl (fun ls hl => ?_)
        refine lv_goto (tgt := 44) hx hb dX7_addListed_92 (by decide) ?_
        refine W.widen (k := 0) (n := 0) (by omega) (by omega) ?_
        exact ih_114 ((j + 1), (j + 1), (pre ++ [(wj, j)]), tf2_136, fo2_135) F_134 (⟨Nat.le_refl _, by omega, by omega, by omega, fun i h1 h2 => absurd h2 (by omega), hpr2, (by rw [adl_s]; exact hq_142), hq_137, (by rw [adl_s]; exact hq_138), hF_156, hq_140, (by rw [adl_s]; exact hq_141)⟩) (by show (tgB gq (tgR (TC f z) gq [104] nn)) + 1 - (j + 1) < (tgB gq (tgR (TC f z) gq [104] nn)) + 1 - j; omega) hO hR _ _ hP hD hS ls (lv_sub hl [0, 2, 1, 3, 4] rfl)
      ·
        have hi_158 : j < (tgB gq (tgR (TC f z) gq [104] nn)) := ltN (N := (tgB gq (tgR (TC f z) gq [104] nn))) c_131
        have hjq : j < (tgB gq (tgR (TC f z) gq [104] nn)) := Nat.not_le.mp (fun q => c_131 ((nI_leI (by omega) (by omega)).mpr q))
        refine lv_aload_n hx hb dX7_addListed_56 rfl (lv_at hl 3 rfl) ?_
        refine pg_get (ci := 7) (v := .ref sl) (C := RX7) (T := TX7) (N := 17) hx hb hts it_7 hown hK hP hL_h0 hF_115 rfl 1 (by decide) (hts _ kt_307) (fun _ h9 => h9) rfl dX7_addListed_57 ?_
        refine pg_getN (ci := 9) (v := .ref sx) (C := RX9) (T := TX9) (N := 5) hx hb hts it_9 hown hK hP hi_3 hF_116 rfl 0 (by decide) (hE.nest kn_7) (fun _ h9 => h9) rfl dX7_addListed_60 ?_
        refine lv_iload hx hb dX7_addListed_63 (lv_at hl 0 rfl) ?_
        have hFc := pg_free hD hS hA
        refine va_calli (va_runV (As := [.int (nI j)]) (rest := []) ⟨hx, hb, hml, hown, hts⟩ (s_X0_at_e l dC dI cs ty L H.size F_99 sx (ρ + 3) rsx 3000 z j f hW hL_sx hT_sx hF_117 hF_118 (by omega) (by omega) (by omega)) ⟨callB_of 1 hts (gi kt_21) rfl rfl rfl (hts _ kt_1) (hts _ kt_305) (by decide +kernel) ⟨Nat.le_of_ble_eq_true rfl, Nat.le_of_ble_eq_true rfl⟩, (hts _ kt_23), (hts _ kt_24)⟩ ⟨fun a U g mk q => ⟨q.1, PT.calling q.2⟩, pg_recv hK hP hL_sx hF_117 (q := (RX0, TX0, 3)) rfl, fun U hU hWm => ⟨rfl, PT.mk hU hWm hP hK hD hE hO⟩⟩ rfl rfl hl.1 rfl (lv_room (Nat.le_of_ble_eq_true rfl)) dX7_addListed_65 ⟨by show _ + 0 ≤ 0; omega, by show _ + 0 ≤ 0; omega⟩) hS (fun q _ h => hFc q h) hFc (fun r_159 u t H1 locs ht hvm hw hB hz1 hk1 hS => ?_)
        obtain ⟨F_160, hB1⟩ := hB
        obtain rfl : F_99 = F_160 := (funext (fun a => hB1.2.2.2 a List.not_mem_nil)).symm
        obtain ⟨hP, hD, hO, hR⟩ := QT.back hB1 ht hFc hR (fun q h => absurd h List.not_mem_nil)
        generalize H1 = H at hP hS ⊢
        have hw : r_159 = f j := hw
        have hw_161 := hw
        subst hw_161
        refine lv_bipush (v := 58) hx hb dX7_addListed_68 (by decide) ?_
        refine lv_icmp_eq (tgt := 76) hx hb dX7_addListed_70 (by decide) (fun c_162 => ?_) (fun c_162 => ?_)
        ·
          have hfd : fdT (TC f z) 58 wj (tgB gq (tgR (TC f z) gq [104] nn)) = j := fd_at (by omega) (by omega) hv5 (Or.inr ((tcc (show j < z by omega) 58 (by omega)).mpr c_162))
          have hpr2 : (pre ++ [(wj, j)]) ++ hsG (TC f z) (j + 1) (tgB gq (tgR (TC f z) gq [104] nn)) = hsG (TC f z) (tgA gq (tgR (TC f z) gq [104] nn)) (tgB gq (tgR (TC f z) gq [104] nn)) := by have h9 := hv6; rw [hsG_c (by omega) hfd] at h9; rw [List.append_assoc]; exact h9
          have hFN := hHL (wj, j) (by rw [← hpr2]; exact List.mem_append.mpr (Or.inl (List.mem_append.mpr (Or.inr (List.mem_singleton.mpr rfl)))))
          refine lv_aload_n hx hb dX7_addListed_76 rfl (lv_at hl 3 rfl) ?_
          refine lv_aload_n hx hb dX7_addListed_77 rfl (lv_at hl 4 rfl) ?_
          refine lv_iload_n hx hb dX7_addListed_78 rfl (lv_at hl 2 rfl) ?_
          refine lv_iload hx hb dX7_addListed_79 (lv_at hl 0 rfl) ?_
          have hFc := pg_free hD hS hA
          refine va_callv (va_runV (As := [.ref mg, .int (nI wj), .int (nI j)]) (rest := []) ⟨hx, hb, hml, hown, hts⟩ (s_X7_addLast_e l dC dI cs ty L H.size F_99 h0 ρ d δ ea sl sx sy0 sy1 sy2 ke kx ky0 ky1 ky2 w0 w1 w2 w3 w4 w5 w6 w7 w8 tk hs ha hbb hcc pw px py pz pu rsx z f v0 v1 mg μ mx m0 m1 m2 rm zm nm fm a0 a1 a2 bb gb gc gd rw8 fq tf ((adl (clf fm) (TC fm zm) (TC f z) gb gc gd nm v0 pre).1) ((adl (clf fm) (TC fm zm) (TC f z) gb gc gd nm v0 pre).2) wj j hW hL_h0 hT_h0 hL_sx hT_sx hL_w8 hT_w8 hL_mg hT_mg hL_mx hT_mx hF_115 hF_117 hF_118 (by omega) hF_122 hF_127 hF_123 hF_124 hF_125 hF_126 (by omega) (by omega) (hpos) (hord) hA4 hA5 (hA6) hA2 (hA3) (hA1) (by omega) (by omega) (hFN) (hmu)) ⟨callB_of 3 hts (gi kt_421) rfl rfl rfl (hts _ kt_322) (hts _ kt_422) (by decide +kernel) ⟨Nat.le_of_ble_eq_true rfl, Nat.le_of_ble_eq_true rfl⟩, (hts _ kt_423), (hts _ kt_424)⟩ ⟨fun a U g mk q => ⟨q.1, PT.calling q.2⟩, pg_recv hK hP hL_h0 hF_115 (q := (RX7, TX7, 17)) rfl, fun U hU hWm => ⟨rfl, PT.mk hU hWm hP hK hD hE hO⟩⟩ rfl rfl hl.1 rfl (lv_room (Nat.le_of_ble_eq_true rfl)) dX7_addListed_81 ⟨by show _ + 0 ≤ 0; omega, by show _ + 0 ≤ 0; omega⟩) hS (fun q _ h => hFc q h) hFc (fun u t H1 locs ht hvm hw hB hz1 hk1 hS => ?_)
          obtain ⟨F_164, fo2_165, tf2_166, hB1, hq_167, hq_168, hq_169, hq_170, hq_171, hq_172⟩ := hB
          obtain ⟨hP, hD, hO, hR⟩ := QT.back hB1 ht hFc hR (fun q h => by simp only [List.mem_cons, List.not_mem_nil, or_false] at h ⊢; omega)
          have hF_173 : F_164 h0 = .inr (7, [.ref d, .ref sl, .ref ke, .ref w0, .ref w1, .ref w2, .ref w3, .ref w4, .ref w5, .ref w6, .ref w7, .ref w8, .ref tk, .ref hs, .ref pw, .int v0, .int v1]) := (hB1.2.2.2 h0 (by rw [hT_h0]; simp)).trans hF_115
          have hF_174 : F_164 sl = .inr (9, [.ref sx, .ref sy0, .ref sy1, .ref sy2, .int (nI nn)]) := (hB1.2.2.2 sl (by rw [ht_4]; simp)).trans hF_116
          have hF_175 : F_164 sx = .inr (0, [.ref rsx, .int (nI z), .int 0]) := (hB1.2.2.2 sx (by rw [hT_sx]; simp)).trans hF_117
          have hF_176 : F_164 rsx = .inl (cs 16, 3000, .inl f) := (hB1.2.2.2 rsx (by rw [ht_44]; simp)).trans hF_118
          have hF_177 : F_164 sy0 = .inl (cs 16, 40, .inl e0) := (hB1.2.2.2 sy0 (by rw [ht_40]; simp)).trans hF_119
          have hF_178 : F_164 sy1 = .inl (cs 16, 40, .inl e1) := (hB1.2.2.2 sy1 (by rw [ht_41]; simp)).trans hF_120
          have hF_179 : F_164 sy2 = .inl (cs 16, 40, .inl e2) := (hB1.2.2.2 sy2 (by rw [ht_42]; simp)).trans hF_121
          have hF_180 : F_164 mg = .inr (4, [.ref mx, .ref m0, .ref m1, .ref m2, .int (nI nm), .int bb]) := (hB1.2.2.2 mg (by rw [hT_mg]; simp only [List.mem_cons, List.not_mem_nil, or_false]; omega)).trans hF_122
          have hF_181 : F_164 rm = .inl (cs 16, 3000, .inl fm) := (hB1.2.2.2 rm (by rw [ht_56]; simp only [List.mem_cons, List.not_mem_nil, or_false]; omega)).trans hF_123
          have hF_182 : F_164 m0 = .inl (cs 16, 20, .inl a0) := (hB1.2.2.2 m0 (by rw [ht_52]; simp only [List.mem_cons, List.not_mem_nil, or_false]; omega)).trans hF_124
          have hF_183 : F_164 m1 = .inl (cs 16, 20, .inl a1) := (hB1.2.2.2 m1 (by rw [ht_53]; simp only [List.mem_cons, List.not_mem_nil, or_false]; omega)).trans hF_125
          have hF_184 : F_164 m2 = .inl (cs 16, 20, .inl a2) := (hB1.2.2.2 m2 (by rw [ht_54]; simp only [List.mem_cons, List.not_mem_nil, or_false]; omega)).trans hF_126
          have hF_185 : F_164 mx = .inr (0, [.ref rm, .int (nI zm), .int 0]) := (hB1.2.2.2 mx (by rw [hT_mx]; simp only [List.mem_cons, List.not_mem_nil, or_false]; omega)).trans hF_127
          generalize H1 = H at hP hS ⊢
          have hF_186 : F_164 w8 = .inr (0, [.ref rw8, .int (nI (adl (clf fm) (TC fm zm) (TC f z) gb gc gd nm v0 (pre ++ [(wj, j)])).2.length), .int 0]) := by rw [adl_s]; exact hq_169
          refine lv_iload hx hb dX7_addListed_84 (lv_at hl 0 rfl) ?_
          refine lv_iconst (v := 1) hx hb dX7_addListed_86 (by decide) ?_
          refine lv_iadd hx hb dX7_addListed_87 ?_
          refine lv_topi (fun x_187 ex_187 => ?_)
          obtain rfl : x_187 = (nI (j + 1)) := ex_187.trans (nI_1 j)
          refine lv_istore_n (lv' := [(2, .int (nI (j + 1))), (4, .int (nI j)), (3, .int (nI (tgB gq (tgR (TC f z) gq [104] nn)))), (0, .ref h0), (1, .ref mg)]) hx hb dX7_addListed_88 rfl hl (by decide) rfl (fun ls hl => ?_)
          refine lv_iinc (v := (nI (j + 1))) (lv' := [(4, .int (nI (j + 1))), (2, .int (nI (j + 1))), (3, .int (nI (tgB gq (tgR (TC f z) gq [104] nn)))), (0, .ref h0), (1, .ref mg)]) hx hb dX7_addListed_89 hl (k := 1) rfl (nI_1 _) (by decide) rfl (fun ls hl => ?_)
          refine lv_goto (tgt := 44) hx hb dX7_addListed_92 (by decide) ?_
          refine W.widen (k := 0) (n := 0) (by omega) (by omega) ?_
          exact ih_114 ((j + 1), (j + 1), (pre ++ [(wj, j)]), tf2_166, fo2_165) F_164 (⟨Nat.le_refl _, by omega, by omega, by omega, fun i h1 h2 => absurd h2 (by omega), hpr2, (by rw [adl_s]; exact hq_172), hq_167, (by rw [adl_s]; exact hq_168), hF_186, hq_170, (by rw [adl_s]; exact hq_171)⟩) (by show (tgB gq (tgR (TC f z) gq [104] nn)) + 1 - (j + 1) < (tgB gq (tgR (TC f z) gq [104] nn)) + 1 - j; omega) hO hR _ _ hP hD hS ls (lv_sub hl [0, 2, 1, 3, 4] rfl)
        ·
          have hnc2 : ∀ i, wj ≤ i → i < j + 1 → ¬ TC f z i = 58 := fun i h1 h2 => by rcases Nat.lt_or_ge i j with w9 | w9; exact hv5 i h1 w9; rw [show i = j by omega]; exact fun q => c_162 ((tcc (show j < z by omega) 58 (by omega)).mp q)
          refine lv_goto (tgt := 89) hx hb dX7_addListed_73 (by decide) ?_
          refine lv_iinc (v := (nI (j + 1))) (lv' := [(4, .int (nI (j + 1))), (3, .int (nI (tgB gq (tgR (TC f z) gq [104] nn)))), (2, .int (nI wj)), (0, .ref h0), (1, .ref mg)]) hx hb dX7_addListed_89 hl (k := 0) rfl (nI_1 _) (by decide) rfl (fun ls hl => ?_)
          refine lv_goto (tgt := 44) hx hb dX7_addListed_92 (by decide) ?_
          refine W.widen (k := 0) (n := 0) (by omega) (by omega) ?_
          exact ih_114 ((j + 1), wj, pre, tf, fq) F_99 (⟨by omega, by omega, by omega, by omega, hnc2, hv6, hA1, hA2, hA3, hA4, hA5, hA6⟩) (by show (tgB gq (tgR (TC f z) gq [104] nn)) + 1 - (j + 1) < (tgB gq (tgR (TC f z) gq [104] nn)) + 1 - j; omega) hO hR _ _ hP hD hS ls (lv_sub hl [0, 1, 2, 3, 4] rfl)
  ·
    have hi_188 : j0 < 20 := ltN (N := 20) c_89
    have hj20 : j0 < 20 := Nat.not_le.mp (fun q => c_89 ((nI_leI (by omega) (by omega)).mpr q))
    refine lv_aload_n hx hb dX7_addListed_8 rfl (lv_at hl 1 rfl) ?_
    refine pg_get (ci := 7) (v := .ref tk) (C := RX7) (T := TX7) (N := 17) hx hb hts it_7 hown hK hP hL_h0 hF_76 rfl 12 (by decide) (hts _ kt_412) (fun _ h9 => h9) rfl dX7_addListed_9 ?_
    refine lv_iload_n hx hb dX7_addListed_12 rfl (lv_at hl 0 rfl) ?_
    refine lv_iconst (v := 0) hx hb dX7_addListed_13 (by decide) ?_
    refine pg_zast hx hb hK hP hD hS hi_31 2 hz2_ rfl (vp_in_nI (by omega) (by omega)) dX7_addListed_14 (fun H locs hP hD hS => ?_)
    obtain ⟨F_189, he_190, hP, hD, hO, hR⟩ : ∃ G, G = va_up F_60 tk (.inl (cs 18, 20, .inl (upd tz ((nI j0)).toNatClampNeg (vp_nar .boolean (0))))) ∧ va_P (dC, dI) vwCl (va_pl L G) H ∧ va_D A (va_pl L G) ∧ OK cs ty L G ∧ FR ty [ρ + 90, ρ + 91] F G := ⟨_, rfl, hP, hD, hO.up (sh.bits ht_32 ⟨_, rfl⟩), hR.up ht_32 (by simp)⟩
    have hF_191 : F_189 tk = .inl (cs 18, 20, .inl (upd tz ((nI j0)).toNatClampNeg (vp_nar .boolean (0)))) := by rw [he_190]; exact up_self
    have hF_192 : F_189 h0 = .inr (7, [.ref d, .ref sl, .ref ke, .ref w0, .ref w1, .ref w2, .ref w3, .ref w4, .ref w5, .ref w6, .ref w7, .ref w8, .ref tk, .ref hs, .ref pw, .int v0, .int v1]) := by rw [he_190, up_ne (ne_ty hT_h0 ht_32 (by simp))]; exact hF_76
    have hF_193 : F_189 sl = .inr (9, [.ref sx, .ref sy0, .ref sy1, .ref sy2, .int (nI nn)]) := by rw [he_190, up_ne (ne_ty ht_4 ht_32 (by simp))]; exact hF_77
    have hF_194 : F_189 sx = .inr (0, [.ref rsx, .int (nI z), .int 0]) := by rw [he_190, up_ne (ne_ty hT_sx ht_32 (by simp))]; exact hF_78
    have hF_195 : F_189 rsx = .inl (cs 16, 3000, .inl f) := by rw [he_190, up_ne (ne_ty ht_44 ht_32 (by simp))]; exact hF_79
    have hF_196 : F_189 sy0 = .inl (cs 16, 40, .inl e0) := by rw [he_190, up_ne (ne_ty ht_40 ht_32 (by simp))]; exact hF_80
    have hF_197 : F_189 sy1 = .inl (cs 16, 40, .inl e1) := by rw [he_190, up_ne (ne_ty ht_41 ht_32 (by simp))]; exact hF_81
    have hF_198 : F_189 sy2 = .inl (cs 16, 40, .inl e2) := by rw [he_190, up_ne (ne_ty ht_42 ht_32 (by simp))]; exact hF_82
    have hF_199 : F_189 mg = .inr (4, [.ref mx, .ref m0, .ref m1, .ref m2, .int (nI nm), .int bb]) := by rw [he_190, up_ne (ne_ty hT_mg ht_32 (by simp))]; exact hF_83
    have hF_200 : F_189 rm = .inl (cs 16, 3000, .inl fm) := by rw [he_190, up_ne (ne_ty ht_56 ht_32 (by simp))]; exact hF_84
    have hF_201 : F_189 m0 = .inl (cs 16, 20, .inl a0) := by rw [he_190, up_ne (ne_ty ht_52 ht_32 (by simp))]; exact hF_85
    have hF_202 : F_189 m1 = .inl (cs 16, 20, .inl a1) := by rw [he_190, up_ne (ne_ty ht_53 ht_32 (by simp))]; exact hF_86
    have hF_203 : F_189 m2 = .inl (cs 16, 20, .inl a2) := by rw [he_190, up_ne (ne_ty ht_54 ht_32 (by simp))]; exact hF_87
    have hF_204 : F_189 mx = .inr (0, [.ref rm, .int (nI zm), .int 0]) := by rw [he_190, up_ne (ne_ty hT_mx ht_32 (by simp))]; exact hF_88
    have hF_205 : F_189 w8 = .inr (0, [.ref rw8, .int (nI 0), .int 0]) := by rw [he_190, up_ne (ne_ty hT_w8 ht_32 (by simp))]; exact hz4_
    have hF_206 : F_189 rw8 = .inl (cs 16, 6100, .inl fo) := by rw [he_190, up_ne (ne_ty ht_47 ht_32 (by simp))]; exact hz5_
    obtain ⟨f_207, hF_191, hfe_208⟩ : ∃ f : Nat → Int32, F_189 tk = .inl (cs 18, 20, .inl f) ∧ f = upd tz ((nI j0)).toNatClampNeg (vp_nar .boolean (0)) := ⟨_, hF_191, rfl⟩
    refine lv_iinc (v := (nI (j0 + 1))) (lv' := [(2, .int (nI (j0 + 1))), (0, .ref h0), (1, .ref mg)]) hx hb dX7_addListed_15 hl (k := 0) rfl (nI_1 _) (by decide) rfl (fun ls hl => ?_)
    refine lv_goto (tgt := 2) hx hb dX7_addListed_18 (by decide) ?_
    refine W.widen (k := 0) (n := 0) (by omega) (by omega) ?_
    exact ih_75 ((j0 + 1), f_207) F_189 (⟨by omega, hF_191, (fun k hk => by rw [hfe_208, nI_clamp (by omega)]; by_cases c9 : k = j0; rw [c9, updc_at]; decide; rw [updc_ne c9]; exact hz3_ k (by omega)), hF_205, hF_206⟩) (by show 20 - (j0 + 1) < 20 - j0; omega) hO hR _ _ hP hD hS ls (lv_sub hl [0, 1, 2] rfl)
