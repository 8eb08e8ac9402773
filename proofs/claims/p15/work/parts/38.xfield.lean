def evs (f : Nat → Int32) (y : Nat × Nat) : Int32 := if y.1 = 0 then f y.2 else if y.1 = 1 then smv (f y.2) else nI y.2
def OUTS (f g : Nat → Int32) (w : List (Nat × Nat)) : Prop := ∀ j y, w[j]? = some y → g j = evs f y
theorem OUTS.nil {f g : Nat → Int32} : OUTS f g [] := fun j y h => by
  rw [List.getElem?_nil] at h
  cases h
theorem OUTS.add {f g : Nat → Int32} {w : List (Nat × Nat)} {y : Nat × Nat} {x : Int32} (h : OUTS f g w) (hx : x = evs f y) : OUTS f (upd g w.length x) (w ++ [y]) := by
  intro j y9 hj
  rcases Nat.lt_trichotomy j w.length with c | c | c
  · rw [List.getElem?_append_left c] at hj
    rw [updc_ne (by omega)]
    exact h j y9 hj
  · rw [c, List.getElem?_append_right (Nat.le_refl _), Nat.sub_self] at hj
    have e : y = y9 := Option.some.inj hj
    rw [c, updc_at, ← e]
    exact hx
  · rw [List.getElem?_append_right (by omega), List.getElem?_eq_none (by show 1 ≤ _; omega)] at hj
    cases hj
def rng (k b n : Nat) : List (Nat × Nat) := (List.range n).map (fun i => (k, b + i))
theorem rng_s (k b n : Nat) : rng k b (n + 1) = rng k b n ++ [(k, b + n)] := by
  unfold rng
  rw [List.range_succ, List.map_append]
  rfl
theorem rng_len (k b n : Nat) : (rng k b n).length = n := by
  unfold rng
  rw [List.length_map, List.length_range]
theorem rng_at {k b n j : Nat} {y : Nat × Nat} (h : (rng k b n)[j]? = some y) : j < n ∧ y = (k, b + j) := by
  unfold rng at h
  rw [List.getElem?_map] at h
  rcases Nat.lt_or_ge j n with c | c
  · rw [List.getElem?_range c] at h
    exact ⟨c, (Option.some.inj h).symm⟩
  · rw [List.getElem?_eq_none (by rw [List.length_range]; exact c)] at h
    cases h
def rvl (T : Nat → Nat) : Nat → Nat → Int32 → Int32 → List (Nat × Nat)
  | 0, _, _, _ => []
  | k + 1, i, x, w => if T i = 0 then rvl T k (i + 1) x w else if T i = 1 then rvl T k (i + 1) x x else (if w = 0 then [] else [(2, 32)]) ++ (0, i) :: rvl T k (i + 1) 1 0
theorem rvl_s (T : Nat → Nat) (k i : Nat) (x w : Int32) : rvl T (k + 1) i x w = if T i = 0 then rvl T k (i + 1) x w else if T i = 1 then rvl T k (i + 1) x x else (if w = 0 then [] else [(2, 32)]) ++ (0, i) :: rvl T k (i + 1) 1 0 := rfl
theorem rv_0 {T : Nat → Nat} {i b : Nat} {x w : Int32} {A Z : List (Nat × Nat)} (h : Z = A ++ rvl T (b - i) i x w) (hi : i < b) (c : T i = 0) : Z = A ++ rvl T (b - (i + 1)) (i + 1) x w := by
  rw [show b - i = b - (i + 1) + 1 by omega, rvl_s, if_pos c] at h
  exact h
theorem rv_1 {T : Nat → Nat} {i b : Nat} {x w : Int32} {A Z : List (Nat × Nat)} (h : Z = A ++ rvl T (b - i) i x w) (hi : i < b) (c : T i = 1) : Z = A ++ rvl T (b - (i + 1)) (i + 1) x x := by
  rw [show b - i = b - (i + 1) + 1 by omega, rvl_s, if_neg (by rw [c]; decide), if_pos c] at h
  exact h
theorem rv_a {T : Nat → Nat} {i b : Nat} {x w : Int32} {A Z : List (Nat × Nat)} (h : Z = A ++ rvl T (b - i) i x w) (hi : i < b) (c0 : ¬ T i = 0) (c1 : ¬ T i = 1) (hw : w = 0) : Z = (A ++ [(0, i)]) ++ rvl T (b - (i + 1)) (i + 1) 1 0 := by
  rw [show b - i = b - (i + 1) + 1 by omega, rvl_s, if_neg c0, if_neg c1, if_pos hw] at h
  rw [h, List.nil_append, List.append_assoc]
  rfl
theorem rv_b {T : Nat → Nat} {i b : Nat} {x w : Int32} {A Z : List (Nat × Nat)} (h : Z = A ++ rvl T (b - i) i x w) (hi : i < b) (c0 : ¬ T i = 0) (c1 : ¬ T i = 1) (hw : ¬ w = 0) : Z = (A ++ [(2, 32)] ++ [(0, i)]) ++ rvl T (b - (i + 1)) (i + 1) 1 0 := by
  rw [show b - i = b - (i + 1) + 1 by omega, rvl_s, if_neg c0, if_neg c1, if_neg hw] at h
  rw [h, List.append_assoc, List.append_assoc]
  rfl
theorem rv_e {T : Nat → Nat} {i b : Nat} {x w : Int32} {A Z : List (Nat × Nat)} (h : Z = A ++ rvl T (b - i) i x w) (hi : b ≤ i) : Z = A := by
  rw [show b - i = 0 by omega] at h
  rw [h]
  exact List.append_nil A
def FPL (T : Nat → Nat) (x : Int32) (b c d : Nat) : List (Nat × Nat) := if x = 0 then rng 0 b (d - b) else rng 1 b (c - b) ++ [(2, 58)] ++ rvl T (d - (c + 1)) (c + 1) 0 0
theorem len1 {A : List (Nat × Nat)} {y : Nat × Nat} : (A ++ [y]).length = A.length + 1 := by
  rw [List.length_append]
  rfl
theorem clf_nw {f : Nat → Int32} {j : Nat} (h0 : ¬ f j = 10) (h1 : ¬ (f j = 32 ∨ f j = 9)) : ¬ clf f j = 0 ∧ ¬ clf f j = 1 := ⟨clg0n h0, clg1n h1⟩
theorem ev_0 {f : Nat → Int32} {j : Nat} : f j = evs f (0, j) := rfl
theorem ev_1 {f : Nat → Int32} {j : Nat} : smv (f j) = evs f (1, j) := rfl
theorem ev_2 {f : Nat → Int32} {j : Nat} : nI j = evs f (2, j) := rfl
theorem OUTS.rnge {f g : Nat → Int32} {b n : Nat} (h : ∀ j, j < n → g j = f (b + j)) : OUTS f g (rng 0 b n) := by
  intro j y hj
  obtain ⟨h1, h2⟩ := rng_at hj
  rw [h2]
  exact h j h1
set_option maxHeartbeats 4000000 in
set_option maxRecDepth 100000 in
theorem s_X0_at_o (l : Launch) (dC : Nat → ClassId) (dI : Nat → Nat → Nat) (cs : Nat → ClassId) (ty : TyM) (L : List Nat) (sz : Nat) (F : Nat → va_E) (h0 : Nat) (ρ : Nat) (r0 : Nat) (n : Nat) (z : Nat) (j : Nat) (f : Nat → Int32) (oo : Int32) (hW : WT ty L) (hL_h0 : h0 ∈ L) (hT_h0 : ty h0 = (0, ρ, [r0, n])) (hF0 : F h0 = .inr (0, [.ref r0, .int (nI z), .int oo])) (hFr : F r0 = .inl (cs 16, n, .inl f)) (hzn : z ≤ n) (hn9 : n ≤ 10000) (hjz : j < z) : Met l yX0_at (.code yX0_at cX0_at 2 (some .int) :: tb) ({ frames := 0, cells := 0, slots := 0, locals := 0 }) (va_Pc [.ref h0, .int (nI j)] (PT (dC, dI) cs ty L F sz)) (va_Qi (fun (r : Int32) (_ : Unit) => r = f j) (fun _ T9 => ∃ F2 : Nat → va_E, QT (dC, dI) cs ty L [] F F2 (va_A (va_pl L F) sz) T9) (va_A (va_pl L F) sz)) 0 0 (va_A (va_pl L F) sz) := by
  refine Met.ofW (cc := cX0_at) (maxL := 2) (ret := (some .int)) (by decide) rfl ?_
  intro p e s m args below meth c s₁ B hml hv
  obtain ⟨rfl, hsz, hP, hK, hD0, hE, hO⟩ := hv
  have hx := B.exec
  have hb := B.bytes
  have hr := B.returns
  have hts : ∀ w ∈ tb, w.before _ s = true := fun w h => atoms_spec (ws := .code yX0_at cX0_at 2 (some .int) :: tb) B.pre w (List.mem_cons_of_mem _ h)
  have hown : s.vm.findClass RX0 = some m.cls := findClass_of_methodNamed B.named
  have hlocks := B.notSynchronized
  subst hsz
  have hD := hD0.self (sz := s.heap.size)
  generalize hAe : va_A (va_pl L F) s.heap.size = A at hD ⊢
  have hA : ∀ q : Nat, s.heap.size ≤ q → A q := fun q h => by rw [← hAe]; exact Or.inr h
  have hS : va_S A s.heap s.heap [] := va_S.rf
  have hR : FR ty [] F F := FR.refl
  have hl := lv_entry ([.ref h0, .int (nI j)]) (n := 2) (Nat.le_of_ble_eq_true rfl)
  rw [lg_entry_eq]
  generalize (lg_sl ([.ref h0, .int (nI j)]) ++ List.replicate (2 - (lg_sl ([.ref h0, .int (nI j)])).length) Slot.unset).toArray = ls at hl ⊢
  have hl : lv_has ls 2 [(0, .ref h0), (1, .int (nI j))] := hl
  refine lv_iload_n hx hb dX0_at_0 rfl (lv_at hl 1 rfl) ?_
  refine lv_if_lt (tgt := 12) hx hb dX0_at_1 (by decide) (fun c_1 => absurd c_1 (nI_pos (by omega))) (fun c_1 => ?_)
  refine lv_iload_n hx hb dX0_at_4 rfl (lv_at hl 1 rfl) ?_
  refine lv_aload_n hx hb dX0_at_5 rfl (lv_at hl 0 rfl) ?_
  obtain ⟨hi_2, ht_3, hq_4⟩ := hW.bytes hL_h0 hT_h0
  refine pg_get (ci := 0) (v := .int (nI z)) (C := RX0) (T := TX0) (N := 3) hx hb hts it_0 hown hK hP hL_h0 hF0 rfl 1 (by decide) (hts _ kt_10) (fun _ h9 => h9) rfl dX0_at_6 ?_
  refine lv_icmp_lt (tgt := 16) hx hb dX0_at_9 (by decide) (fun c_5 => ?_) (fun c_5 => absurd ((nI_ltI (by omega) (by omega)).mpr hjz) c_5)
  refine lv_aload_n hx hb dX0_at_16 rfl (lv_at hl 0 rfl) ?_
  refine pg_get (ci := 0) (v := .ref r0) (C := RX0) (T := TX0) (N := 3) hx hb hts it_0 hown hK hP hL_h0 hF0 rfl 0 (by decide) (hts _ kt_12) (fun _ h9 => h9) rfl dX0_at_17 ?_
  refine lv_iload_n hx hb dX0_at_20 rfl (lv_at hl 1 rfl) ?_
  refine pg_iald hx hb hK hP hi_2 0 hFr rfl (vp_in_nI (by omega) (by omega)) dX0_at_21 ?_
  refine lv_topi (fun x_6 ex_6 => ?_)
  obtain rfl : x_6 = (f j) := ex_6.trans (congrArg f (nI_clamp (by omega)))
  refine W.widen (k := 0) (n := 0) (by omega) (by omega) ?_
  exact W.iret (v := (f j)) hx hb hr (fun t ht hWm => ⟨⟨(f j), (), rfl, rfl, ⟨F, QT.mk ht hP hD hO hR⟩⟩, hS.F ht⟩) hS.2.2 dX0_at_22
theorem nI_nn {n : Nat} (h : n < 2 ^ 31) : (0 : Int32) ≤ nI n := Int32.not_lt.mp (nI_pos h)
set_option maxHeartbeats 4000000 in
set_option maxRecDepth 100000 in
theorem s_X4_addRelaxedValue_e (l : Launch) (dC : Nat → ClassId) (dI : Nat → Nat → Nat) (cs : Nat → ClassId) (ty : TyM) (L : List Nat) (sz : Nat) (F : Nat → va_E) (h0 : Nat) (ρ : Nat) (tx : Nat) (y0 : Nat) (y1 : Nat) (y2 : Nat) (g1 : Nat) (σ : Nat) (r1 : Nat) (n1 : Nat) (rx : Nat) (zm : Nat) (nn : Nat) (jk : Nat) (kb : Nat) (kc : Nat) (kd : Nat) (f : Nat → Int32) (e0 : Nat → Int32) (e1 : Nat → Int32) (e2 : Nat → Int32) (fo : Nat → Int32) (bb : Int32) (oo : Int32) (ac : List (Nat × Nat)) (ZZ : List (Nat × Nat)) (hW : WT ty L) (hL_h0 : h0 ∈ L) (hT_h0 : ty h0 = (4, ρ, [tx, y0, y1, y2])) (hL_tx : tx ∈ L) (hT_tx : ty tx = (0, ρ + 1, [rx, 3000])) (hL_g1 : g1 ∈ L) (hT_g1 : ty g1 = (0, σ, [r1, n1])) (hF0 : F h0 = .inr (4, [.ref tx, .ref y0, .ref y1, .ref y2, .int (nI nn), .int bb])) (hFx : F tx = .inr (0, [.ref rx, .int (nI zm), .int oo])) (hFr : F rx = .inl (cs 16, 3000, .inl f)) (hFy1 : F y1 = .inl (cs 16, 20, .inl e1)) (hFy2 : F y2 = .inl (cs 16, 20, .inl e2)) (hFg : F g1 = .inr (0, [.ref r1, .int (nI ac.length), .int 0])) (hFo : F r1 = .inl (cs 16, n1, .inl fo)) (hjk : jk < nn) (hn20 : nn ≤ 20) (hbc : kb < kc) (hcd : kc < kd) (hdz : kd ≤ zm) (hz3 : zm ≤ 3000) (hroom : kd - kb ≤ n1) (hn9 : n1 ≤ 10000) (hfar : ρ + 10 ≤ σ ∨ σ + 10 ≤ ρ) (hec : e1 jk = nI kc) (hed : e2 jk = nI kd) (hac : ac.length ≤ kc + 1 - kb) (hZ : ZZ = ac ++ rvl (clf f) (kd - (kc + 1)) (kc + 1) 0 0) (hou : OUTS f fo ac) : Met l yX4_addRelaxedValue (.code yX4_addRelaxedValue cX4_addRelaxedValue 9 none :: tb) ({ frames := 1, cells := 0, slots := 0, locals := 21 }) (va_Pc [.ref h0, .ref g1, .int (nI jk), .int 0, .int 0] (PT (dC, dI) cs ty L F sz)) (va_Qv (fun _ : Unit => True) (fun _ T9 => ∃ F2 : Nat → va_E, ∃ fo2 : Nat → Int32, QT (dC, dI) cs ty L [σ] F F2 (va_A (va_pl L F) sz) T9 ∧ F2 g1 = .inr (0, [.ref r1, .int (nI ZZ.length), .int 0]) ∧ F2 r1 = .inl (cs 16, n1, .inl fo2) ∧ OUTS f fo2 ZZ) (va_A (va_pl L F) sz)) 0 0 (va_A (va_pl L F) sz) := by
  refine Met.ofW (cc := cX4_addRelaxedValue) (maxL := 9) (ret := none) (by decide) rfl ?_
  intro p e s m args below meth c s₁ B hml hv
  obtain ⟨rfl, hsz, hP, hK, hD0, hE, hO⟩ := hv
  have hx := B.exec
  have hb := B.bytes
  have hr := B.returns
  have hts : ∀ w ∈ tb, w.before _ s = true := fun w h => atoms_spec (ws := .code yX4_addRelaxedValue cX4_addRelaxedValue 9 none :: tb) B.pre w (List.mem_cons_of_mem _ h)
  have hown : s.vm.findClass RX4 = some m.cls := findClass_of_methodNamed B.named
  have hlocks := B.notSynchronized
  subst hsz
  have hD := hD0.self (sz := s.heap.size)
  generalize hAe : va_A (va_pl L F) s.heap.size = A at hD ⊢
  have hA : ∀ q : Nat, s.heap.size ≤ q → A q := fun q h => by rw [← hAe]; exact Or.inr h
  have hS : va_S A s.heap s.heap [] := va_S.rf
  have hR : FR ty [σ] F F := FR.refl
  have hl := lv_entry ([.ref h0, .ref g1, .int (nI jk), .int 0, .int 0]) (n := 9) (Nat.le_of_ble_eq_true rfl)
  rw [lg_entry_eq]
  generalize (lg_sl ([.ref h0, .ref g1, .int (nI jk), .int 0, .int 0]) ++ List.replicate (9 - (lg_sl ([.ref h0, .ref g1, .int (nI jk), .int 0, .int 0])).length) Slot.unset).toArray = ls at hl ⊢
  have hl : lv_has ls 9 [(0, .ref h0), (1, .ref g1), (2, .int (nI jk)), (3, .int 0), (4, .int 0)] := hl
  obtain ⟨_, hi_1, hi_2, hi_3, _, ht_4, ht_5, ht_6⟩ := hW.msg hL_h0 hT_h0
  obtain ⟨hi_7, ht_8, hq_9⟩ := hW.bytes hL_tx hT_tx
  obtain ⟨hi_10, ht_11, hq_12⟩ := hW.bytes hL_g1 hT_g1
  refine lv_iconst (v := 0) hx hb dX4_addRelaxedValue_0 (by decide) ?_
  refine lv_istore (lv' := [(5, .int 0), (0, .ref h0), (1, .ref g1), (2, .int (nI jk)), (3, .int 0), (4, .int 0)]) hx hb dX4_addRelaxedValue_1 hl (by decide) rfl (fun ls hl => ?_)
  refine lv_iconst (v := 0) hx hb dX4_addRelaxedValue_3 (by decide) ?_
  refine lv_istore (lv' := [(6, .int 0), (5, .int 0), (0, .ref h0), (1, .ref g1), (2, .int (nI jk)), (3, .int 0), (4, .int 0)]) hx hb dX4_addRelaxedValue_4 hl (by decide) rfl (fun ls hl => ?_)
  refine lv_aload_n hx hb dX4_addRelaxedValue_6 rfl (lv_at hl 2 rfl) ?_
  refine pg_get (ci := 4) (v := .ref y1) (C := RX4) (T := TX4) (N := 6) hx hb hts it_4 hown hK hP hL_h0 hF0 rfl 2 (by decide) (hts _ kt_204) (fun _ h9 => h9) rfl dX4_addRelaxedValue_7 ?_
  refine lv_iload_n hx hb dX4_addRelaxedValue_10 rfl (lv_at hl 4 rfl) ?_
  refine pg_iald hx hb hK hP hi_2 0 hFy1 rfl (vp_in_nI (by omega) (by omega)) dX4_addRelaxedValue_11 ?_
  refine lv_topi (fun x_13 ex_13 => ?_)
  obtain rfl : x_13 = (nI kc) := ex_13.trans ((congrArg e1 (nI_clamp (by omega))).trans hec)
  refine lv_iconst (v := 1) hx hb dX4_addRelaxedValue_12 (by decide) ?_
  refine lv_iadd hx hb dX4_addRelaxedValue_13 ?_
  refine lv_topi (fun x_14 ex_14 => ?_)
  obtain rfl : x_14 = (nI (kc + 1)) := ex_14.trans (nI_1 kc)
  refine lv_istore (lv' := [(7, .int (nI (kc + 1))), (6, .int 0), (5, .int 0), (0, .ref h0), (1, .ref g1), (2, .int (nI jk)), (3, .int 0), (4, .int 0)]) hx hb dX4_addRelaxedValue_14 hl (by decide) rfl (fun ls hl => ?_)
  refine W.widen (k := 0) (n := 0) (by omega) (by omega) ?_
  have hF_16 : F h0 = .inr (4, [.ref tx, .ref y0, .ref y1, .ref y2, .int (nI nn), .int bb]) := (hR h0 (by rw [hT_h0]; simp only [List.mem_cons, List.not_mem_nil, or_false]; omega)).symm.trans hF0
  have hF_17 : F tx = .inr (0, [.ref rx, .int (nI zm), .int oo]) := (hR tx (by rw [hT_tx]; simp only [List.mem_cons, List.not_mem_nil, or_false]; omega)).symm.trans hFx
  have hF_18 : F rx = .inl (cs 16, 3000, .inl f) := (hR rx (by rw [ht_8]; simp only [List.mem_cons, List.not_mem_nil, or_false]; omega)).symm.trans hFr
  have hF_19 : F y1 = .inl (cs 16, 20, .inl e1) := (hR y1 (by rw [ht_5]; simp only [List.mem_cons, List.not_mem_nil, or_false]; omega)).symm.trans hFy1
  have hF_20 : F y2 = .inl (cs 16, 20, .inl e2) := (hR y2 (by rw [ht_6]; simp only [List.mem_cons, List.not_mem_nil, or_false]; omega)).symm.trans hFy2
  refine pl_loop (σ := Nat × Int32 × Int32 × (List (Nat × Nat)) × (Nat → Int32)) A (dC, dI) cs ty L [σ] F 16 9 (fun (i1, w5, w6, aa, fq) => [(7, .int (nI i1)), (6, .int w6), (5, .int w5), (0, .ref h0), (1, .ref g1), (2, .int (nI jk)), (3, .int 0), (4, .int 0)]) (fun (i1, w5, w6, aa, fq) => []) (fun (i1, w5, w6, aa, fq) FF => kc + 1 ≤ i1 ∧ i1 ≤ kd ∧ (w5 = 0 ∨ w5 = 1) ∧ aa.length ≤ i1 - kb ∧ (w6 = 0 ∨ aa.length + 1 ≤ i1 - kb) ∧ ZZ = aa ++ rvl (clf f) (kd - i1) i1 w5 w6 ∧ FF g1 = .inr (0, [.ref r1, .int (nI aa.length), .int 0]) ∧ FF r1 = .inl (cs 16, n1, .inl fq) ∧ OUTS f fq aa) (fun (i1, w5, w6, aa, fq) => kd - i1) ?_ ((kc + 1), 0, 0, ac, fo) F (⟨by omega, by omega, Or.inl rfl, by omega, Or.inl rfl, hZ, hFg, hFo, hou⟩) hO hR _ _ hP hD hS ls (lv_sub hl [0, 1, 2, 3, 4, 5, 6, 7] rfl)
  rintro ⟨i1, w5, w6, aa, fq⟩ F_15 hv_21 hO hR ih_22 H locs hP hD hS ls hl
  have hl : lv_has ls 9 [(7, .int (nI i1)), (6, .int w6), (5, .int w5), (0, .ref h0), (1, .ref g1), (2, .int (nI jk)), (3, .int 0), (4, .int 0)] := hl
  have hv_21 : kc + 1 ≤ i1 ∧ i1 ≤ kd ∧ (w5 = 0 ∨ w5 = 1) ∧ aa.length ≤ i1 - kb ∧ (w6 = 0 ∨ aa.length + 1 ≤ i1 - kb) ∧ ZZ = aa ++ rvl (clf f) (kd - i1) i1 w5 w6 ∧ F_15 g1 = .inr (0, [.ref r1, .int (nI aa.length), .int 0]) ∧ F_15 r1 = .inl (cs 16, n1, .inl fq) ∧ OUTS f fq aa := hv_21
  refine W.eq (g2 := F0 m 16 ls []) rfl ?_
  have hF_23 : F_15 h0 = .inr (4, [.ref tx, .ref y0, .ref y1, .ref y2, .int (nI nn), .int bb]) := (hR h0 (by rw [hT_h0]; simp only [List.mem_cons, List.not_mem_nil, or_false]; omega)).trans hF_16
  have hF_24 : F_15 tx = .inr (0, [.ref rx, .int (nI zm), .int oo]) := (hR tx (by rw [hT_tx]; simp only [List.mem_cons, List.not_mem_nil, or_false]; omega)).trans hF_17
  have hF_25 : F_15 rx = .inl (cs 16, 3000, .inl f) := (hR rx (by rw [ht_8]; simp only [List.mem_cons, List.not_mem_nil, or_false]; omega)).trans hF_18
  have hF_26 : F_15 y1 = .inl (cs 16, 20, .inl e1) := (hR y1 (by rw [ht_5]; simp only [List.mem_cons, List.not_mem_nil, or_false]; omega)).trans hF_19
  have hF_27 : F_15 y2 = .inl (cs 16, 20, .inl e2) := (hR y2 (by rw [ht_6]; simp only [List.mem_cons, List.not_mem_nil, or_false]; omega)).trans hF_20
  obtain ⟨hv1, hv2, hv3, hv4, hv5, hv6, hN1, hN2, hN3⟩ := id hv_21
  refine lv_iload hx hb dX4_addRelaxedValue_16 (lv_at hl 0 rfl) ?_
  refine lv_aload_n hx hb dX4_addRelaxedValue_18 rfl (lv_at hl 3 rfl) ?_
  refine pg_get (ci := 4) (v := .ref y2) (C := RX4) (T := TX4) (N := 6) hx hb hts it_4 hown hK hP hL_h0 hF_23 rfl 3 (by decide) (hts _ kt_220) (fun _ h9 => h9) rfl dX4_addRelaxedValue_19 ?_
  refine lv_iload_n hx hb dX4_addRelaxedValue_22 rfl (lv_at hl 5 rfl) ?_
  refine pg_iald hx hb hK hP hi_3 0 hF_27 rfl (vp_in_nI (by omega) (by omega)) dX4_addRelaxedValue_23 ?_
  refine lv_topi (fun x_28 ex_28 => ?_)
  obtain rfl : x_28 = (nI kd) := ex_28.trans ((congrArg e2 (nI_clamp (by omega))).trans hed)
  refine lv_icmp_ge (tgt := 105) hx hb dX4_addRelaxedValue_24 (by decide) (fun c_29 => ?_) (fun c_29 => ?_)
  ·
    have hi_30 : kd ≤ i1 := leN (N := kd) c_29
    have hib : kd ≤ i1 := (nI_leI (by omega) (by omega)).mp c_29
    refine W.widen (k := 0) (n := 0) (by omega) (by omega) ?_
    exact W.vret hx hb hr (fun t ht hWm => ⟨⟨(), rfl, trivial, ⟨F_15, fq, QT.mk ht hP hD hO hR, (by rw [rv_e hv6 hib]; exact hN1), hN2, (by rw [rv_e hv6 hib]; exact hN3)⟩⟩, hS.F ht⟩) hS.2.2 dX4_addRelaxedValue_105
  ·
    have hi_31 : i1 < kd := ltN (N := kd) c_29
    have hib : i1 < kd := Nat.not_le.mp (fun q => c_29 ((nI_leI (by omega) (by omega)).mpr q))
    refine lv_aload_n hx hb dX4_addRelaxedValue_27 rfl (lv_at hl 3 rfl) ?_
    refine pg_get (ci := 4) (v := .ref tx) (C := RX4) (T := TX4) (N := 6) hx hb hts it_4 hown hK hP hL_h0 hF_23 rfl 0 (by decide) (hts _ kt_207) (fun _ h9 => h9) rfl dX4_addRelaxedValue_28 ?_
    refine lv_iload hx hb dX4_addRelaxedValue_31 (lv_at hl 0 rfl) ?_
    have hFc := pg_free hD hS hA
    refine va_calli (va_runV (As := [.int (nI i1)]) (rest := []) ⟨hx, hb, hml, hown, hts⟩ (s_X0_at_o l dC dI cs ty L H.size F_15 tx (ρ + 1) rx 3000 zm i1 f oo hW hL_tx hT_tx hF_24 hF_25 (by omega) (by omega) (by omega)) ⟨callB_of 1 hts (gi kt_21) rfl rfl rfl (hts _ kt_1) (hts _ kt_199) (by decide +kernel) ⟨Nat.le_of_ble_eq_true rfl, Nat.le_of_ble_eq_true rfl⟩, (hts _ kt_23), (hts _ kt_24)⟩ ⟨fun a U g mk q => ⟨q.1, PT.calling q.2⟩, pg_recv hK hP hL_tx hF_24 (q := (RX0, TX0, 3)) rfl, fun U hU hWm => ⟨rfl, PT.mk hU hWm hP hK hD hE hO⟩⟩ rfl rfl hl.1 rfl (lv_room (Nat.le_of_ble_eq_true rfl)) dX4_addRelaxedValue_33 ⟨by show _ + 0 ≤ 0; omega, by show _ + 0 ≤ 0; omega⟩) hS (fun q _ h => hFc q h) hFc (fun r_32 u t H1 locs ht hvm hw hB hz1 hk1 hS => ?_)
    obtain ⟨F_33, hB1⟩ := hB
    obtain rfl : F_15 = F_33 := (funext (fun a => hB1.2.2.2 a List.not_mem_nil)).symm
    obtain ⟨hP, hD, hO, hR⟩ := QT.back hB1 ht hFc hR (fun q h => absurd h List.not_mem_nil)
    generalize H1 = H at hP hS ⊢
    have hw : r_32 = f i1 := hw
    have hw_34 := hw
    subst hw_34
    refine lv_istore (lv' := [(8, .int (f i1)), (7, .int (nI i1)), (6, .int w6), (5, .int w5), (0, .ref h0), (1, .ref g1), (2, .int (nI jk)), (3, .int 0), (4, .int 0)]) hx hb dX4_addRelaxedValue_36 hl (by decide) rfl (fun ls hl => ?_)
    refine lv_iload hx hb dX4_addRelaxedValue_38 (lv_at hl 0 rfl) ?_
    refine lv_bipush (v := 10) hx hb dX4_addRelaxedValue_40 (by decide) ?_
    refine lv_icmp_eq (tgt := 99) hx hb dX4_addRelaxedValue_42 (by decide) (fun c_35 => ?_) (fun c_35 => ?_)
    ·
      refine lv_iinc (v := (nI (i1 + 1))) (lv' := [(7, .int (nI (i1 + 1))), (8, .int (f i1)), (6, .int w6), (5, .int w5), (0, .ref h0), (1, .ref g1), (2, .int (nI jk)), (3, .int 0), (4, .int 0)]) hx hb dX4_addRelaxedValue_99 hl (k := 1) rfl (nI_1 _) (by decide) rfl (fun ls hl => ?_)
      refine lv_goto (tgt := 16) hx hb dX4_addRelaxedValue_102 (by decide) ?_
      refine W.widen (k := 0) (n := 0) (by omega) (by omega) ?_
      exact ih_22 ((i1 + 1), w5, w6, aa, fq) F_15 (⟨by omega, by omega, hv3, by omega, by rcases hv5 with q | q; exact Or.inl q; exact Or.inr (by omega), rv_0 hv6 hib (clg0 c_35), hN1, hN2, hN3⟩) (by show kd - (i1 + 1) < kd - i1; omega) hO hR _ _ hP hD hS ls (lv_sub hl [0, 2, 3, 4, 5, 6, 7, 8] rfl)
    ·
      refine lv_iload hx hb dX4_addRelaxedValue_45 (lv_at hl 1 rfl) ?_
      refine lv_iload_n hx hb dX4_addRelaxedValue_47 rfl (lv_at hl 7 rfl) ?_
      refine lv_icmp_lt (tgt := 61) hx hb dX4_addRelaxedValue_48 (by decide) (fun c_36 => absurd c_36 (nI_pos (by omega))) (fun c_36 => ?_)
      refine lv_iload hx hb dX4_addRelaxedValue_51 (lv_at hl 1 rfl) ?_
      refine lv_iload hx hb dX4_addRelaxedValue_53 (lv_at hl 8 rfl) ?_
      refine lv_icmp_ge (tgt := 61) hx hb dX4_addRelaxedValue_55 (by decide) (fun c_37 => ?_) (fun c_37 => absurd (nI_nn (by omega)) c_37)
      refine lv_iload hx hb dX4_addRelaxedValue_61 (lv_at hl 0 rfl) ?_
      have hFc := pg_free hD hS hA
      refine va_calli (va_runS (As := [.int (f i1)]) (rest := []) ⟨hx, hb, hml, hown, hts⟩ (s_X0_isWhite_e l dC dI cs ty L H.size F_15 (f i1) hW ) ⟨callB_of 1 hts (gi kt_195) rfl rfl rfl (hts _ kt_1) (hts _ kt_215) (by decide +kernel) ⟨Nat.le_of_ble_eq_true rfl, Nat.le_of_ble_eq_true rfl⟩, (hts _ kt_197)⟩ ⟨fun a U g mk q => ⟨q.1, PT.calling q.2⟩, fun U hU hWm => ⟨rfl, PT.mk hU hWm hP hK hD hE hO⟩⟩ rfl rfl hl.1 rfl (lv_room (Nat.le_of_ble_eq_true rfl)) dX4_addRelaxedValue_63 ⟨by show _ + 0 ≤ 0; omega, by show _ + 0 ≤ 0; omega⟩) hS (fun q _ h => hFc q h) hFc (fun r_38 u t H1 locs ht hvm hw hB hz1 hk1 hS => ?_)
      obtain ⟨F_39, hB1⟩ := hB
      obtain rfl : F_15 = F_39 := (funext (fun a => hB1.2.2.2 a List.not_mem_nil)).symm
      obtain ⟨hP, hD, hO, hR⟩ := QT.back hB1 ht hFc hR (fun q h => absurd h List.not_mem_nil)
      generalize H1 = H at hP hS ⊢
      have hw : r_38 = (if (f i1) = 32 ∨ (f i1) = 9 then 1 else 0) := hw
      have hw_40 := hw
      refine lv_if_eq (tgt := 76) hx hb dX4_addRelaxedValue_66 (by decide) (fun c_41 => ?_) (fun c_41 => ?_)
      ·
        refine lv_iload hx hb dX4_addRelaxedValue_76 (lv_at hl 2 rfl) ?_
        refine lv_if_eq (tgt := 87) hx hb dX4_addRelaxedValue_78 (by decide) (fun c_42 => ?_) (fun c_42 => ?_)
        ·
          refine lv_aload_n hx hb dX4_addRelaxedValue_87 rfl (lv_at hl 5 rfl) ?_
          refine lv_iload hx hb dX4_addRelaxedValue_88 (lv_at hl 0 rfl) ?_
          have hFc := pg_free hD hS hA
          refine va_callv (va_runV (As := [.int (f i1)]) (rest := []) ⟨hx, hb, hml, hown, hts⟩ (s_X0_add_e l dC dI cs ty L H.size F_15 g1 σ r1 n1 aa.length fq (f i1) hW hL_g1 hT_g1 hN1 hN2 (by omega) (by omega)) ⟨callB_of 1 hts (gi kt_13) rfl rfl rfl (hts _ kt_1) (hts _ kt_230) (by decide +kernel) ⟨Nat.le_of_ble_eq_true rfl, Nat.le_of_ble_eq_true rfl⟩, (hts _ kt_15), (hts _ kt_16)⟩ ⟨fun a U g mk q => ⟨q.1, PT.calling q.2⟩, pg_recv hK hP hL_g1 hN1 (q := (RX0, TX0, 3)) rfl, fun U hU hWm => ⟨rfl, PT.mk hU hWm hP hK hD hE hO⟩⟩ rfl rfl hl.1 rfl (lv_room (Nat.le_of_ble_eq_true rfl)) dX4_addRelaxedValue_90 ⟨by show _ + 0 ≤ 0; omega, by show _ + 0 ≤ 0; omega⟩) hS (fun q _ h => hFc q h) hFc (fun u t H1 locs ht hvm hw hB hz1 hk1 hS => ?_)
          obtain ⟨F_44, hB1, hq_45, hq_46⟩ := hB
          obtain ⟨hP, hD, hO, hR⟩ := QT.back hB1 ht hFc hR (fun q h => by simp only [List.mem_cons, List.not_mem_nil, or_false] at h ⊢; omega)
          have hF_47 : F_44 h0 = .inr (4, [.ref tx, .ref y0, .ref y1, .ref y2, .int (nI nn), .int bb]) := (hB1.2.2.2 h0 (by rw [hT_h0]; simp only [List.mem_cons, List.not_mem_nil, or_false]; omega)).trans hF_23
          have hF_48 : F_44 tx = .inr (0, [.ref rx, .int (nI zm), .int oo]) := (hB1.2.2.2 tx (by rw [hT_tx]; simp only [List.mem_cons, List.not_mem_nil, or_false]; omega)).trans hF_24
          have hF_49 : F_44 rx = .inl (cs 16, 3000, .inl f) := (hB1.2.2.2 rx (by rw [ht_8]; simp only [List.mem_cons, List.not_mem_nil, or_false]; omega)).trans hF_25
          have hF_50 : F_44 y1 = .inl (cs 16, 20, .inl e1) := (hB1.2.2.2 y1 (by rw [ht_5]; simp only [List.mem_cons, List.not_mem_nil, or_false]; omega)).trans hF_26
          have hF_51 : F_44 y2 = .inl (cs 16, 20, .inl e2) := (hB1.2.2.2 y2 (by rw [ht_6]; simp only [List.mem_cons, List.not_mem_nil, or_false]; omega)).trans hF_27
          generalize H1 = H at hP hS ⊢
          have hou_52 := OUTS.add (y := (0, i1)) hN3 ev_0
          have hF_53 : F_44 g1 = .inr (0, [.ref r1, .int (nI (aa ++ [(0, i1)]).length), .int 0]) := by rw [len1]; exact hq_45
          refine lv_iconst (v := 1) hx hb dX4_addRelaxedValue_93 (by decide) ?_
          refine lv_istore (lv' := [(5, .int 1), (8, .int (f i1)), (7, .int (nI i1)), (6, .int w6), (0, .ref h0), (1, .ref g1), (2, .int (nI jk)), (3, .int 0), (4, .int 0)]) hx hb dX4_addRelaxedValue_94 hl (by decide) rfl (fun ls hl => ?_)
          refine lv_iconst (v := 0) hx hb dX4_addRelaxedValue_96 (by decide) ?_
          refine lv_istore (lv' := [(6, .int 0), (5, .int 1), (8, .int (f i1)), (7, .int (nI i1)), (0, .ref h0), (1, .ref g1), (2, .int (nI jk)), (3, .int 0), (4, .int 0)]) hx hb dX4_addRelaxedValue_97 hl (by decide) rfl (fun ls hl => ?_)
          refine lv_iinc (v := (nI (i1 + 1))) (lv' := [(7, .int (nI (i1 + 1))), (6, .int 0), (5, .int 1), (8, .int (f i1)), (0, .ref h0), (1, .ref g1), (2, .int (nI jk)), (3, .int 0), (4, .int 0)]) hx hb dX4_addRelaxedValue_99 hl (k := 3) rfl (nI_1 _) (by decide) rfl (fun ls hl => ?_)
          refine lv_goto (tgt := 16) hx hb dX4_addRelaxedValue_102 (by decide) ?_
          refine W.widen (k := 0) (n := 0) (by omega) (by omega) ?_
          exact ih_22 ((i1 + 1), 1, 0, (aa ++ [(0, i1)]), (upd fq aa.length (f i1))) F_44 (⟨by omega, by omega, Or.inr rfl, by rw [len1]; omega, Or.inl rfl, rv_a hv6 hib (clg0n c_35) (clg1n (ifb0 hw_40 c_41)) c_42, hF_53, hq_46, hou_52⟩) (by show kd - (i1 + 1) < kd - i1; omega) hO hR _ _ hP hD hS ls (lv_sub hl [0, 1, 2, 4, 5, 6, 7, 8] rfl)
        ·
          refine lv_aload_n hx hb dX4_addRelaxedValue_81 rfl (lv_at hl 5 rfl) ?_
          refine lv_bipush (v := 32) hx hb dX4_addRelaxedValue_82 (by decide) ?_
          have hFc := pg_free hD hS hA
          refine va_callv (va_runV (As := [.int 32]) (rest := []) ⟨hx, hb, hml, hown, hts⟩ (s_X0_add_e l dC dI cs ty L H.size F_15 g1 σ r1 n1 aa.length fq 32 hW hL_g1 hT_g1 hN1 hN2 (by have h9 := hv5.resolve_left c_42; omega) (by omega)) ⟨callB_of 1 hts (gi kt_13) rfl rfl rfl (hts _ kt_1) (hts _ kt_230) (by decide +kernel) ⟨Nat.le_of_ble_eq_true rfl, Nat.le_of_ble_eq_true rfl⟩, (hts _ kt_15), (hts _ kt_16)⟩ ⟨fun a U g mk q => ⟨q.1, PT.calling q.2⟩, pg_recv hK hP hL_g1 hN1 (q := (RX0, TX0, 3)) rfl, fun U hU hWm => ⟨rfl, PT.mk hU hWm hP hK hD hE hO⟩⟩ rfl rfl hl.1 rfl (lv_room (Nat.le_of_ble_eq_true rfl)) dX4_addRelaxedValue_84 ⟨by show _ + 0 ≤ 0; omega, by show _ + 0 ≤ 0; omega⟩) hS (fun q _ h => hFc q h) hFc (fun u t H1 locs ht hvm hw hB hz1 hk1 hS => ?_)
          obtain ⟨F_55, hB1, hq_56, hq_57⟩ := hB
          obtain ⟨hP, hD, hO, hR⟩ := QT.back hB1 ht hFc hR (fun q h => by simp only [List.mem_cons, List.not_mem_nil, or_false] at h ⊢; omega)
          have hF_58 : F_55 h0 = .inr (4, [.ref tx, .ref y0, .ref y1, .ref y2, .int (nI nn), .int bb]) := (hB1.2.2.2 h0 (by rw [hT_h0]; simp only [List.mem_cons, List.not_mem_nil, or_false]; omega)).trans hF_23
          have hF_59 : F_55 tx = .inr (0, [.ref rx, .int (nI zm), .int oo]) := (hB1.2.2.2 tx (by rw [hT_tx]; simp only [List.mem_cons, List.not_mem_nil, or_false]; omega)).trans hF_24
          have hF_60 : F_55 rx = .inl (cs 16, 3000, .inl f) := (hB1.2.2.2 rx (by rw [ht_8]; simp only [List.mem_cons, List.not_mem_nil, or_false]; omega)).trans hF_25
          have hF_61 : F_55 y1 = .inl (cs 16, 20, .inl e1) := (hB1.2.2.2 y1 (by rw [ht_5]; simp only [List.mem_cons, List.not_mem_nil, or_false]; omega)).trans hF_26
          have hF_62 : F_55 y2 = .inl (cs 16, 20, .inl e2) := (hB1.2.2.2 y2 (by rw [ht_6]; simp only [List.mem_cons, List.not_mem_nil, or_false]; omega)).trans hF_27
          generalize H1 = H at hP hS ⊢
          have hou_63 := OUTS.add (y := (2, 32)) hN3 (show (32 : Int32) = evs f (2, 32) from rfl)
          have hF_64 : F_55 g1 = .inr (0, [.ref r1, .int (nI (aa ++ [(2, 32)]).length), .int 0]) := by rw [len1]; exact hq_56
          refine lv_aload_n hx hb dX4_addRelaxedValue_87 rfl (lv_at hl 5 rfl) ?_
          refine lv_iload hx hb dX4_addRelaxedValue_88 (lv_at hl 0 rfl) ?_
          have hFc := pg_free hD hS hA
          refine va_callv (va_runV (As := [.int (f i1)]) (rest := []) ⟨hx, hb, hml, hown, hts⟩ (s_X0_add_e l dC dI cs ty L H.size F_55 g1 σ r1 n1 ((aa ++ [(2, 32)]).length) (upd fq aa.length 32) (f i1) hW hL_g1 hT_g1 hF_64 hq_57 (by rw [len1]; have h9 := hv5.resolve_left c_42; omega) (by omega)) ⟨callB_of 1 hts (gi kt_13) rfl rfl rfl (hts _ kt_1) (hts _ kt_230) (by decide +kernel) ⟨Nat.le_of_ble_eq_true rfl, Nat.le_of_ble_eq_true rfl⟩, (hts _ kt_15), (hts _ kt_16)⟩ ⟨fun a U g mk q => ⟨q.1, PT.calling q.2⟩, pg_recv hK hP hL_g1 hF_64 (q := (RX0, TX0, 3)) rfl, fun U hU hWm => ⟨rfl, PT.mk hU hWm hP hK hD hE hO⟩⟩ rfl rfl hl.1 rfl (lv_room (Nat.le_of_ble_eq_true rfl)) dX4_addRelaxedValue_90 ⟨by show _ + 0 ≤ 0; omega, by show _ + 0 ≤ 0; omega⟩) hS (fun q _ h => hFc q h) hFc (fun u t H1 locs ht hvm hw hB hz1 hk1 hS => ?_)
          obtain ⟨F_66, hB1, hq_67, hq_68⟩ := hB
          obtain ⟨hP, hD, hO, hR⟩ := QT.back hB1 ht hFc hR (fun q h => by simp only [List.mem_cons, List.not_mem_nil, or_false] at h ⊢; omega)
          have hF_69 : F_66 h0 = .inr (4, [.ref tx, .ref y0, .ref y1, .ref y2, .int (nI nn), .int bb]) := (hB1.2.2.2 h0 (by rw [hT_h0]; simp only [List.mem_cons, List.not_mem_nil, or_false]; omega)).trans hF_58
          have hF_70 : F_66 tx = .inr (0, [.ref rx, .int (nI zm), .int oo]) := (hB1.2.2.2 tx (by rw [hT_tx]; simp only [List.mem_cons, List.not_mem_nil, or_false]; omega)).trans hF_59
          have hF_71 : F_66 rx = .inl (cs 16, 3000, .inl f) := (hB1.2.2.2 rx (by rw [ht_8]; simp only [List.mem_cons, List.not_mem_nil, or_false]; omega)).trans hF_60
          have hF_72 : F_66 y1 = .inl (cs 16, 20, .inl e1) := (hB1.2.2.2 y1 (by rw [ht_5]; simp only [List.mem_cons, List.not_mem_nil, or_false]; omega)).trans hF_61
          have hF_73 : F_66 y2 = .inl (cs 16, 20, .inl e2) := (hB1.2.2.2 y2 (by rw [ht_6]; simp only [List.mem_cons, List.not_mem_nil, or_false]; omega)).trans hF_62
          generalize H1 = H at hP hS ⊢
          have hou_74 := OUTS.add (y := (0, i1)) hou_63 ev_0
          have hF_75 : F_66 g1 = .inr (0, [.ref r1, .int (nI ((aa ++ [(2, 32)]) ++ [(0, i1)]).length), .int 0]) := by rw [len1]; exact hq_67
          refine lv_iconst (v := 1) hx hb dX4_addRelaxedValue_93 (by decide) ?_
          refine lv_istore (lv' := [(5, .int 1), (8, .int (f i1)), (7, .int (nI i1)), (6, .int w6), (0, .ref h0), (1, .ref g1), (2, .int (nI jk)), (3, .int 0), (4, .int 0)]) hx hb dX4_addRelaxedValue_94 hl (by decide) rfl (fun ls hl => ?_)
          refine lv_iconst (v := 0) hx hb dX4_addRelaxedValue_96 (by decide) ?_
          refine lv_istore (lv' := [(6, .int 0), (5, .int 1), (8, .int (f i1)), (7, .int (nI i1)), (0, .ref h0), (1, .ref g1), (2, .int (nI jk)), (3, .int 0), (4, .int 0)]) hx hb dX4_addRelaxedValue_97 hl (by decide) rfl (fun ls hl => ?_)
          refine lv_iinc (v := (nI (i1 + 1))) (lv' := [(7, .int (nI (i1 + 1))), (6, .int 0), (5, .int 1), (8, .int (f i1)), (0, .ref h0), (1, .ref g1), (2, .int (nI jk)), (3, .int 0), (4, .int 0)]) hx hb dX4_addRelaxedValue_99 hl (k := 3) rfl (nI_1 _) (by decide) rfl (fun ls hl => ?_)
          refine lv_goto (tgt := 16) hx hb dX4_addRelaxedValue_102 (by decide) ?_
          refine W.widen (k := 0) (n := 0) (by omega) (by omega) ?_
          exact ih_22 ((i1 + 1), 1, 0, ((aa ++ [(2, 32)]) ++ [(0, i1)]), (upd (upd fq aa.length 32) (aa ++ [(2, 32)]).length (f i1))) F_66 (⟨by omega, by omega, Or.inr rfl, by rw [len1, len1]; have h9 := hv5.resolve_left c_42; omega, Or.inl rfl, rv_b hv6 hib (clg0n c_35) (clg1n (ifb0 hw_40 c_41)) c_42, hF_75, hq_68, hou_74⟩) (by show kd - (i1 + 1) < kd - i1; omega) hO hR _ _ hP hD hS ls (lv_sub hl [0, 1, 2, 4, 5, 6, 7, 8] rfl)
      ·
        refine lv_iload hx hb dX4_addRelaxedValue_69 (lv_at hl 3 rfl) ?_
        refine lv_istore (lv' := [(6, .int w5), (8, .int (f i1)), (7, .int (nI i1)), (5, .int w5), (0, .ref h0), (1, .ref g1), (2, .int (nI jk)), (3, .int 0), (4, .int 0)]) hx hb dX4_addRelaxedValue_71 hl (by decide) rfl (fun ls hl => ?_)
        refine lv_goto (tgt := 99) hx hb dX4_addRelaxedValue_73 (by decide) ?_
        refine lv_iinc (v := (nI (i1 + 1))) (lv' := [(7, .int (nI (i1 + 1))), (6, .int w5), (8, .int (f i1)), (5, .int w5), (0, .ref h0), (1, .ref g1), (2, .int (nI jk)), (3, .int 0), (4, .int 0)]) hx hb dX4_addRelaxedValue_99 hl (k := 2) rfl (nI_1 _) (by decide) rfl (fun ls hl => ?_)
        refine lv_goto (tgt := 16) hx hb dX4_addRelaxedValue_102 (by decide) ?_
        refine W.widen (k := 0) (n := 0) (by omega) (by omega) ?_
        exact ih_22 ((i1 + 1), w5, w5, aa, fq) F_15 (⟨by omega, by omega, hv3, by omega, Or.inr (by omega), rv_1 hv6 hib (clg1 (ifb1 hw_40 c_41)), hN1, hN2, hN3⟩) (by show kd - (i1 + 1) < kd - i1; omega) hO hR _ _ hP hD hS ls (lv_sub hl [0, 1, 3, 4, 5, 6, 7, 8] rfl)
set_option maxHeartbeats 4000000 in
set_option maxRecDepth 100000 in
theorem s_X0_addRange_o (l : Launch) (dC : Nat → ClassId) (dI : Nat → Nat → Nat) (cs : Nat → ClassId) (ty : TyM) (L : List Nat) (sz : Nat) (F : Nat → va_E) (h0 : Nat) (ρ : Nat) (r0 : Nat) (n : Nat) (g1 : Nat) (σ : Nat) (r1 : Nat) (n1 : Nat) (z : Nat) (a : Nat) (b : Nat) (f : Nat → Int32) (os : Int32) (hW : WT ty L) (hL_h0 : h0 ∈ L) (hT_h0 : ty h0 = (0, ρ, [r0, n])) (hL_g1 : g1 ∈ L) (hT_g1 : ty g1 = (0, σ, [r1, n1])) (hF0 : F h0 = .inr (0, [.ref r0, .int (nI 0), .int 0])) (hFg : F g1 = .inr (0, [.ref r1, .int (nI z), .int os])) (hFr : F r1 = .inl (cs 16, n1, .inl f)) (hzn : z ≤ n1) (hn9 : n1 ≤ 10000) (hm9 : n ≤ 10000) (hab : a ≤ b) (hbz : b ≤ z) (hfit : b - a ≤ n) : Met l yX0_addRange (.code yX0_addRange cX0_addRange 7 none :: tb) ({ frames := 1, cells := 0, slots := 0, locals := 48 }) (va_Pc [.ref h0, .ref g1, .int (nI a), .int (nI b)] (PT (dC, dI) cs ty L F sz)) (va_Qv (fun _ : Unit => True) (fun _ T9 => ∃ F2 : Nat → va_E, ∃ fc : Nat → Int32, QT (dC, dI) cs ty L [ρ] F F2 (va_A (va_pl L F) sz) T9 ∧ F2 h0 = .inr (0, [.ref r0, .int (nI (b - a)), .int 0]) ∧ F2 r0 = .inl (cs 16, n, .inl fc) ∧ (∀ j, j < b - a → fc j = f (a + j))) (va_A (va_pl L F) sz)) 0 0 (va_A (va_pl L F) sz) := by
  refine Met.ofW (cc := cX0_addRange) (maxL := 7) (ret := none) (by decide) rfl ?_
  intro p e s m args below meth c s₁ B hml hv
  obtain ⟨rfl, hsz, hP, hK, hD0, hE, hO⟩ := hv
  have hx := B.exec
  have hb := B.bytes
  have hr := B.returns
  have hts : ∀ w ∈ tb, w.before _ s = true := fun w h => atoms_spec (ws := .code yX0_addRange cX0_addRange 7 none :: tb) B.pre w (List.mem_cons_of_mem _ h)
  have hown : s.vm.findClass RX0 = some m.cls := findClass_of_methodNamed B.named
  have hlocks := B.notSynchronized
  subst hsz
  have hD := hD0.self (sz := s.heap.size)
  generalize hAe : va_A (va_pl L F) s.heap.size = A at hD ⊢
  have hA : ∀ q : Nat, s.heap.size ≤ q → A q := fun q h => by rw [← hAe]; exact Or.inr h
  have hS : va_S A s.heap s.heap [] := va_S.rf
  have hR : FR ty [ρ] F F := FR.refl
  have hl := lv_entry ([.ref h0, .ref g1, .int (nI a), .int (nI b)]) (n := 7) (Nat.le_of_ble_eq_true rfl)
  rw [lg_entry_eq]
  generalize (lg_sl ([.ref h0, .ref g1, .int (nI a), .int (nI b)]) ++ List.replicate (7 - (lg_sl ([.ref h0, .ref g1, .int (nI a), .int (nI b)])).length) Slot.unset).toArray = ls at hl ⊢
  have hl : lv_has ls 7 [(0, .ref h0), (1, .ref g1), (2, .int (nI a)), (3, .int (nI b))] := hl
  refine lv_iconst (v := 0) hx hb dX0_addRange_0 (by decide) ?_
  refine lv_iload_n hx hb dX0_addRange_1 rfl (lv_at hl 2 rfl) ?_
  refine va_mmax hx hb (by rw [hml]; exact hl.1.symm) hown (hts _ kt_17) (hts _ kt_18) (hts _ kt_19) (hts _ kt_20) (Nat.le_of_ble_eq_true rfl) (Nat.le_of_ble_eq_true rfl) (by show _ ≤ 0; omega) (by show _ ≤ 0; omega) dX0_addRange_2 ?_
  refine lv_topi (fun x_1 ex_1 => ?_)
  obtain rfl : x_1 = (nI a) := ex_1.trans (max0n (by omega))
  refine lv_istore (lv' := [(4, .int (nI a)), (0, .ref h0), (1, .ref g1), (2, .int (nI a)), (3, .int (nI b))]) hx hb dX0_addRange_5 hl (by decide) rfl (fun ls hl => ?_)
  refine lv_iload_n hx hb dX0_addRange_7 rfl (lv_at hl 4 rfl) ?_
  refine lv_aload_n hx hb dX0_addRange_8 rfl (lv_at hl 2 rfl) ?_
  obtain ⟨hi_2, ht_3, hq_4⟩ := hW.bytes hL_g1 hT_g1
  refine pg_get (ci := 0) (v := .int (nI z)) (C := RX0) (T := TX0) (N := 3) hx hb hts it_0 hown hK hP hL_g1 hFg rfl 1 (by decide) (hts _ kt_10) (fun _ h9 => h9) rfl dX0_addRange_9 ?_
  refine va_mmin hx hb (by rw [hml]; exact hl.1.symm) hown (hts _ kt_25) (hts _ kt_26) (hts _ kt_19) (hts _ kt_27) (Nat.le_of_ble_eq_true rfl) (Nat.le_of_ble_eq_true rfl) (by show _ ≤ 0; omega) (by show _ ≤ 0; omega) dX0_addRange_12 ?_
  refine lv_topi (fun x_5 ex_5 => ?_)
  obtain rfl : x_5 = (nI b) := ex_5.trans (mnI_le (by omega) (by omega))
  refine lv_iload hx hb dX0_addRange_15 (lv_at hl 0 rfl) ?_
  refine lv_isub hx hb dX0_addRange_17 ?_
  refine lv_topi (fun x_6 ex_6 => ?_)
  obtain rfl : x_6 = (nI (b - a)) := ex_6.trans (pk_sub hab)
  refine lv_istore (lv' := [(5, .int (nI (b - a))), (4, .int (nI a)), (0, .ref h0), (1, .ref g1), (2, .int (nI a)), (3, .int (nI b))]) hx hb dX0_addRange_18 hl (by decide) rfl (fun ls hl => ?_)
  refine lv_iload hx hb dX0_addRange_20 (lv_at hl 0 rfl) ?_
  refine lv_aload_n hx hb dX0_addRange_22 rfl (lv_at hl 2 rfl) ?_
  obtain ⟨hi_7, ht_8, hq_9⟩ := hW.bytes hL_h0 hT_h0
  refine pg_get (ci := 0) (v := .ref r0) (C := RX0) (T := TX0) (N := 3) hx hb hts it_0 hown hK hP hL_h0 hF0 rfl 0 (by decide) (hts _ kt_12) (fun _ h9 => h9) rfl dX0_addRange_23 ?_
  obtain ⟨f_10, hF_11⟩ := hO.ints hi_7 ht_8
  refine pg_alen (v := (nI n)) hx hb hK hP hi_7 0 hF_11 rfl rfl dX0_addRange_26 ?_
  refine lv_aload_n hx hb dX0_addRange_27 rfl (lv_at hl 2 rfl) ?_
  refine pg_get (ci := 0) (v := .int (nI 0)) (C := RX0) (T := TX0) (N := 3) hx hb hts it_0 hown hK hP hL_h0 hF0 rfl 1 (by decide) (hts _ kt_10) (fun _ h9 => h9) rfl dX0_addRange_28 ?_
  refine lv_isub hx hb dX0_addRange_31 ?_
  refine lv_topi (fun x_12 ex_12 => ?_)
  obtain rfl : x_12 = (nI (n - 0)) := ex_12.trans (pk_sub (by omega))
  refine va_mmin hx hb (by rw [hml]; exact hl.1.symm) hown (hts _ kt_25) (hts _ kt_26) (hts _ kt_19) (hts _ kt_27) (Nat.le_of_ble_eq_true rfl) (Nat.le_of_ble_eq_true rfl) (by show _ ≤ 0; omega) (by show _ ≤ 0; omega) dX0_addRange_32 ?_
  refine lv_topi (fun x_13 ex_13 => ?_)
  obtain rfl : x_13 = (nI (b - a)) := ex_13.trans (mnI_le (by omega) (by omega))
  refine lv_istore (lv' := [(6, .int (nI (b - a))), (5, .int (nI (b - a))), (4, .int (nI a)), (0, .ref h0), (1, .ref g1), (2, .int (nI a)), (3, .int (nI b))]) hx hb dX0_addRange_35 hl (by decide) rfl (fun ls hl => ?_)
  refine lv_iload hx hb dX0_addRange_37 (lv_at hl 0 rfl) ?_
  refine lv_if_le (tgt := 72) hx hb dX0_addRange_39 (by decide) (fun c_14 => ?_) (fun c_14 => ?_)
  ·
    have hz0 : b - a = 0 := by have h9 : b - a ≤ 0 := (nI_leI (b := 0) (by omega) (by omega)).mp c_14; omega
    refine lv_aload_n hx hb dX0_addRange_72 rfl (lv_at hl 3 rfl) ?_
    refine lv_aload_n hx hb dX0_addRange_73 rfl (lv_at hl 3 rfl) ?_
    refine pg_get (ci := 0) (v := .int 0) (C := RX0) (T := TX0) (N := 3) hx hb hts it_0 hown hK hP hL_h0 hF0 rfl 2 (by decide) (hts _ kt_11) (fun _ h9 => h9) rfl dX0_addRange_74 ?_
    refine lv_if_ne (tgt := 87) hx hb dX0_addRange_77 (by decide) (fun c_16 => absurd (by decide) c_16) (fun c_16 => ?_)
    refine lv_iload hx hb dX0_addRange_80 (lv_at hl 0 rfl) ?_
    refine lv_iload hx hb dX0_addRange_82 (lv_at hl 1 rfl) ?_
    refine lv_icmp_ge (tgt := 91) hx hb dX0_addRange_84 (by decide) (fun c_17 => ?_) (fun c_17 => absurd (Int32.le_refl _) c_17)
    refine lv_iconst (v := 0) hx hb dX0_addRange_91 (by decide) ?_
    refine pg_put (ci := 0) (v := .int 0) (ty := .boolean) (C := RX0) (T := TX0) (N := 3) hx hb hts it_0 tyX0 tyX0_ok nmX0 hown hK hP hD hS hL_h0 hF0 rfl 2 (by decide) (hts _ kt_11) (fun _ h9 => h9) rfl (by decide +kernel) (rfl) (rfl) (Nat.le_of_ble_eq_true rfl) dX0_addRange_92 (fun H locs hP hD hS => ?_)
    obtain ⟨F_18, he_19, hP, hD, hO, hR⟩ : ∃ G, G = va_up F h0 (.inr (0, [.ref r0, .int (nI 0), .int 0])) ∧ va_P (dC, dI) vwCl (va_pl L G) H ∧ va_D A (va_pl L G) ∧ OK cs ty L G ∧ FR ty [ρ] F G := ⟨_, rfl, hP, hD, hO.up (sh.bytes hT_h0 ⟨0, 0, rfl, (by first | omega | assumption | exact Or.inl rfl | exact Or.inr rfl), (by first | omega | assumption | exact Or.inl rfl | exact Or.inr rfl)⟩), hR.up hT_h0 (by simp)⟩
    have hF_20 : F_18 h0 = .inr (0, [.ref r0, .int (nI 0), .int 0]) := by rw [he_19]; exact up_self
    have hF_21 : F_18 r1 = .inl (cs 16, n1, .inl f) := by rw [he_19, up_ne (ne_ty ht_3 hT_h0 (by simp))]; exact hFr
    have hF_22 : F_18 r0 = .inl (cs 16, n, .inl f_10) := by rw [he_19, up_ne (ne_ty ht_8 hT_h0 (by simp))]; exact hF_11
    refine W.widen (k := 0) (n := 0) (by omega) (by omega) ?_
    exact W.vret hx hb hr (fun t ht hWm => ⟨⟨(), rfl, trivial, ⟨F_18, f_10, QT.mk ht hP hD hO hR, (by rw [hz0]; exact hF_20), hF_22, (fun j hj => absurd hj (by omega))⟩⟩, hS.F ht⟩) hS.2.2 dX0_addRange_95
  ·
    have hp0 : 0 < b - a := posN c_14
    refine lv_aload_n hx hb dX0_addRange_42 rfl (lv_at hl 4 rfl) ?_
    refine pg_get (ci := 0) (v := .ref r1) (C := RX0) (T := TX0) (N := 3) hx hb hts it_0 hown hK hP hL_g1 hFg rfl 0 (by decide) (hts _ kt_12) (fun _ h9 => h9) rfl dX0_addRange_43 ?_
    refine lv_iload hx hb dX0_addRange_46 (lv_at hl 2 rfl) ?_
    refine lv_aload_n hx hb dX0_addRange_48 rfl (lv_at hl 3 rfl) ?_
    refine pg_get (ci := 0) (v := .ref r0) (C := RX0) (T := TX0) (N := 3) hx hb hts it_0 hown hK hP hL_h0 hF0 rfl 0 (by decide) (hts _ kt_12) (fun _ h9 => h9) rfl dX0_addRange_49 ?_
    refine lv_aload_n hx hb dX0_addRange_52 rfl (lv_at hl 3 rfl) ?_
    refine pg_get (ci := 0) (v := .int (nI 0)) (C := RX0) (T := TX0) (N := 3) hx hb hts it_0 hown hK hP hL_h0 hF0 rfl 1 (by decide) (hts _ kt_10) (fun _ h9 => h9) rfl dX0_addRange_53 ?_
    refine lv_iload hx hb dX0_addRange_56 (lv_at hl 0 rfl) ?_
    refine pg_copyi hx hb (by rw [hml]; exact hl.1.symm) hown (hts _ kt_28) (hts _ kt_29) (hts _ kt_30) (hts _ kt_31) hK hP hD hS hi_2 hi_7 0 0 hFr hF_11 rfl rfl rfl (nI_pos (by omega)) (nI_pos (by omega)) (nI_pos (by omega)) (by rw [nI_clamp (by omega), nI_clamp (by omega)]; omega) (by rw [nI_clamp (by omega), nI_clamp (by omega)]; omega) (fun _ _ => rfl) (Nat.le_of_ble_eq_true rfl) (by decide) dX0_addRange_58 (fun H locs hP hD hS => ?_)
    obtain ⟨F_24, he_25, hP, hD, hO, hR⟩ : ∃ G, G = va_up F r0 (.inl (cs 16, n, .inl (va_cpy f f_10 ((nI a)).toNatClampNeg ((nI 0)).toNatClampNeg ((nI (b - a))).toNatClampNeg))) ∧ va_P (dC, dI) vwCl (va_pl L G) H ∧ va_D A (va_pl L G) ∧ OK cs ty L G ∧ FR ty [ρ] F G := ⟨_, rfl, hP, hD, hO.up (sh.ints ht_8 ⟨_, rfl⟩), hR.up ht_8 (by simp)⟩
    have hF_26 : F_24 r0 = .inl (cs 16, n, .inl (va_cpy f f_10 ((nI a)).toNatClampNeg ((nI 0)).toNatClampNeg ((nI (b - a))).toNatClampNeg)) := by rw [he_25]; exact up_self
    have hF_27 : F_24 h0 = .inr (0, [.ref r0, .int (nI 0), .int 0]) := by rw [he_25, up_ne (ne_ty hT_h0 ht_8 (by simp))]; exact hF0
    have hF_28 : F_24 g1 = .inr (0, [.ref r1, .int (nI z), .int os]) := by rw [he_25, up_ne (ne_ty hT_g1 ht_8 (by simp))]; exact hFg
    refine lv_aload_n hx hb dX0_addRange_61 rfl (lv_at hl 3 rfl) ?_
    refine lv_dup hx hb dX0_addRange_62 rfl ?_
    refine pg_get (ci := 0) (v := .int (nI 0)) (C := RX0) (T := TX0) (N := 3) hx hb hts it_0 hown hK hP hL_h0 hF_27 rfl 1 (by decide) (hts _ kt_10) (fun _ h9 => h9) rfl dX0_addRange_63 ?_
    refine lv_iload hx hb dX0_addRange_66 (lv_at hl 0 rfl) ?_
    refine lv_iadd hx hb dX0_addRange_68 ?_
    refine lv_topi (fun x_29 ex_29 => ?_)
    obtain rfl : x_29 = (nI (0 + (b - a))) := ex_29.trans (nI_add _ _)
    refine pg_put (ci := 0) (v := .int (nI (0 + (b - a)))) (ty := .int) (C := RX0) (T := TX0) (N := 3) hx hb hts it_0 tyX0 tyX0_ok nmX0 hown hK hP hD hS hL_h0 hF_27 rfl 1 (by decide) (hts _ kt_10) (fun _ h9 => h9) rfl (by decide +kernel) (rfl) (rfl) (Nat.le_of_ble_eq_true rfl) dX0_addRange_69 (fun H locs hP hD hS => ?_)
    obtain ⟨F_30, he_31, hP, hD, hO, hR⟩ : ∃ G, G = va_up F_24 h0 (.inr (0, [.ref r0, .int (nI (0 + (b - a))), .int 0])) ∧ va_P (dC, dI) vwCl (va_pl L G) H ∧ va_D A (va_pl L G) ∧ OK cs ty L G ∧ FR ty [ρ] F G := ⟨_, rfl, hP, hD, hO.up (sh.bytes hT_h0 ⟨(0 + (b - a)), 0, rfl, (by first | omega | assumption | exact Or.inl rfl | exact Or.inr rfl), (by first | omega | assumption | exact Or.inl rfl | exact Or.inr rfl)⟩), hR.up hT_h0 (by simp)⟩
    have hF_32 : F_30 h0 = .inr (0, [.ref r0, .int (nI (0 + (b - a))), .int 0]) := by rw [he_31]; exact up_self
    have hF_33 : F_30 r0 = .inl (cs 16, n, .inl (va_cpy f f_10 ((nI a)).toNatClampNeg ((nI 0)).toNatClampNeg ((nI (b - a))).toNatClampNeg)) := by rw [he_31, up_ne (ne_ty ht_8 hT_h0 (by simp))]; exact hF_26
    refine lv_aload_n hx hb dX0_addRange_72 rfl (lv_at hl 3 rfl) ?_
    refine lv_aload_n hx hb dX0_addRange_73 rfl (lv_at hl 3 rfl) ?_
    refine pg_get (ci := 0) (v := .int 0) (C := RX0) (T := TX0) (N := 3) hx hb hts it_0 hown hK hP hL_h0 hF_32 rfl 2 (by decide) (hts _ kt_11) (fun _ h9 => h9) rfl dX0_addRange_74 ?_
    refine lv_if_ne (tgt := 87) hx hb dX0_addRange_77 (by decide) (fun c_34 => absurd (by decide) c_34) (fun c_34 => ?_)
    refine lv_iload hx hb dX0_addRange_80 (lv_at hl 0 rfl) ?_
    refine lv_iload hx hb dX0_addRange_82 (lv_at hl 1 rfl) ?_
    refine lv_icmp_ge (tgt := 91) hx hb dX0_addRange_84 (by decide) (fun c_35 => ?_) (fun c_35 => absurd (Int32.le_refl _) c_35)
    refine lv_iconst (v := 0) hx hb dX0_addRange_91 (by decide) ?_
    refine pg_put (ci := 0) (v := .int 0) (ty := .boolean) (C := RX0) (T := TX0) (N := 3) hx hb hts it_0 tyX0 tyX0_ok nmX0 hown hK hP hD hS hL_h0 hF_32 rfl 2 (by decide) (hts _ kt_11) (fun _ h9 => h9) rfl (by decide +kernel) (rfl) (rfl) (Nat.le_of_ble_eq_true rfl) dX0_addRange_92 (fun H locs hP hD hS => ?_)
    obtain ⟨F_36, he_37, hP, hD, hO, hR⟩ : ∃ G, G = va_up F_30 h0 (.inr (0, [.ref r0, .int (nI (0 + (b - a))), .int 0])) ∧ va_P (dC, dI) vwCl (va_pl L G) H ∧ va_D A (va_pl L G) ∧ OK cs ty L G ∧ FR ty [ρ] F G := ⟨_, rfl, hP, hD, hO.up (sh.bytes hT_h0 ⟨(0 + (b - a)), 0, rfl, (by first | omega | assumption | exact Or.inl rfl | exact Or.inr rfl), (by first | omega | assumption | exact Or.inl rfl | exact Or.inr rfl)⟩), hR.up hT_h0 (by simp)⟩
    have hF_38 : F_36 h0 = .inr (0, [.ref r0, .int (nI (0 + (b - a))), .int 0]) := by rw [he_37]; exact up_self
    have hF_39 : F_36 r0 = .inl (cs 16, n, .inl (va_cpy f f_10 ((nI a)).toNatClampNeg ((nI 0)).toNatClampNeg ((nI (b - a))).toNatClampNeg)) := by rw [he_37, up_ne (ne_ty ht_8 hT_h0 (by simp))]; exact hF_33
    refine W.widen (k := 0) (n := 0) (by omega) (by omega) ?_
    exact W.vret hx hb hr (fun t ht hWm => ⟨⟨(), rfl, trivial, ⟨F_36, (va_cpy f f_10 ((nI a)).toNatClampNeg ((nI 0)).toNatClampNeg ((nI (b - a))).toNatClampNeg), QT.mk ht hP hD hO hR, (by have h9 := hF_38; rwa [Nat.zero_add] at h9), hF_39, cpy_at (by omega) (by omega)⟩⟩, hS.F ht⟩) hS.2.2 dX0_addRange_95
theorem OUTS.rs {f g : Nat → Int32} {k b i : Nat} {x : Int32} (h : OUTS f g (rng k b (i - b))) (hb : b ≤ i) (hx : x = evs f (k, i)) : OUTS f (upd g (i - b) x) (rng k b (i + 1 - b)) := by
  have e := OUTS.add h (y := (k, b + (i - b))) (x := x) (by rw [show b + (i - b) = i by omega]; exact hx)
  rw [rng_len] at e
  rw [show i + 1 - b = i - b + 1 by omega, rng_s]
  exact e
theorem FPL_r {T : Nat → Nat} {x : Int32} {b c d : Nat} (h : ¬ x = 0) : FPL T x b c d = rng 1 b (c - b) ++ [(2, 58)] ++ rvl T (d - (c + 1)) (c + 1) 0 0 := if_neg h
theorem FPL_s {T : Nat → Nat} {x : Int32} {b c d : Nat} (h : x = 0) : FPL T x b c d = rng 0 b (d - b) := if_pos h
set_option maxHeartbeats 4000000 in
set_option maxRecDepth 100000 in
theorem s_X4_addFieldWithout_e (l : Launch) (dC : Nat → ClassId) (dI : Nat → Nat → Nat) (cs : Nat → ClassId) (ty : TyM) (L : List Nat) (sz : Nat) (F : Nat → va_E) (h0 : Nat) (ρ : Nat) (tx : Nat) (y0 : Nat) (y1 : Nat) (y2 : Nat) (g1 : Nat) (σ : Nat) (r1 : Nat) (n1 : Nat) (rx : Nat) (zm : Nat) (nn : Nat) (jk : Nat) (kb : Nat) (kc : Nat) (kd : Nat) (f : Nat → Int32) (e0 : Nat → Int32) (e1 : Nat → Int32) (e2 : Nat → Int32) (fo : Nat → Int32) (bb : Int32) (oo : Int32) (x3 : Int32) (hW : WT ty L) (hL_h0 : h0 ∈ L) (hT_h0 : ty h0 = (4, ρ, [tx, y0, y1, y2])) (hL_tx : tx ∈ L) (hT_tx : ty tx = (0, ρ + 1, [rx, 3000])) (hL_g1 : g1 ∈ L) (hT_g1 : ty g1 = (0, σ, [r1, n1])) (hF0 : F h0 = .inr (4, [.ref tx, .ref y0, .ref y1, .ref y2, .int (nI nn), .int bb])) (hFx : F tx = .inr (0, [.ref rx, .int (nI zm), .int oo])) (hFr : F rx = .inl (cs 16, 3000, .inl f)) (hFy1 : F y1 = .inl (cs 16, 20, .inl e1)) (hFy2 : F y2 = .inl (cs 16, 20, .inl e2)) (hFy0 : F y0 = .inl (cs 16, 20, .inl e0)) (hFg : F g1 = .inr (0, [.ref r1, .int (nI 0), .int 0])) (hFo : F r1 = .inl (cs 16, n1, .inl fo)) (hjk : jk < nn) (hn20 : nn ≤ 20) (hbc : kb < kc) (hcd : kc < kd) (hdz : kd ≤ zm) (hz3 : zm ≤ 3000) (hroom : kd - kb ≤ n1) (hn9 : n1 ≤ 10000) (hfar : ρ + 10 ≤ σ ∨ σ + 10 ≤ ρ) (heb : e0 jk = nI kb) (hec : e1 jk = nI kc) (hed : e2 jk = nI kd) : Met l yX4_addFieldWithout (.code yX4_addFieldWithout cX4_addFieldWithout 7 none :: tb) ({ frames := 2, cells := 0, slots := 0, locals := 74 }) (va_Pc [.ref h0, .ref g1, .int (nI jk), .int x3, .int 0, .int 0] (PT (dC, dI) cs ty L F sz)) (va_Qv (fun _ : Unit => True) (fun _ T9 => ∃ F2 : Nat → va_E, ∃ fo2 : Nat → Int32, QT (dC, dI) cs ty L [σ] F F2 (va_A (va_pl L F) sz) T9 ∧ F2 g1 = .inr (0, [.ref r1, .int (nI (FPL (clf f) x3 kb kc kd).length), .int 0]) ∧ F2 r1 = .inl (cs 16, n1, .inl fo2) ∧ OUTS f fo2 (FPL (clf f) x3 kb kc kd)) (va_A (va_pl L F) sz)) 0 0 (va_A (va_pl L F) sz) := by
  refine Met.ofW (cc := cX4_addFieldWithout) (maxL := 7) (ret := none) (by decide) rfl ?_
  intro p e s m args below meth c s₁ B hml hv
  obtain ⟨rfl, hsz, hP, hK, hD0, hE, hO⟩ := hv
  have hx := B.exec
  have hb := B.bytes
  have hr := B.returns
  have hts : ∀ w ∈ tb, w.before _ s = true := fun w h => atoms_spec (ws := .code yX4_addFieldWithout cX4_addFieldWithout 7 none :: tb) B.pre w (List.mem_cons_of_mem _ h)
  have hown : s.vm.findClass RX4 = some m.cls := findClass_of_methodNamed B.named
  have hlocks := B.notSynchronized
  subst hsz
  have hD := hD0.self (sz := s.heap.size)
  generalize hAe : va_A (va_pl L F) s.heap.size = A at hD ⊢
  have hA : ∀ q : Nat, s.heap.size ≤ q → A q := fun q h => by rw [← hAe]; exact Or.inr h
  have hS : va_S A s.heap s.heap [] := va_S.rf
  have hR : FR ty [σ] F F := FR.refl
  have hl := lv_entry ([.ref h0, .ref g1, .int (nI jk), .int x3, .int 0, .int 0]) (n := 7) (Nat.le_of_ble_eq_true rfl)
  rw [lg_entry_eq]
  generalize (lg_sl ([.ref h0, .ref g1, .int (nI jk), .int x3, .int 0, .int 0]) ++ List.replicate (7 - (lg_sl ([.ref h0, .ref g1, .int (nI jk), .int x3, .int 0, .int 0])).length) Slot.unset).toArray = ls at hl ⊢
  have hl : lv_has ls 7 [(0, .ref h0), (1, .ref g1), (2, .int (nI jk)), (3, .int x3), (4, .int 0), (5, .int 0)] := hl
  obtain ⟨_, hi_1, hi_2, hi_3, _, ht_4, ht_5, ht_6⟩ := hW.msg hL_h0 hT_h0
  obtain ⟨hi_7, ht_8, hq_9⟩ := hW.bytes hL_tx hT_tx
  obtain ⟨hi_10, ht_11, hq_12⟩ := hW.bytes hL_g1 hT_g1
  refine lv_iload_n hx hb dX4_addFieldWithout_0 rfl (lv_at hl 2 rfl) ?_
  refine lv_if_lt (tgt := 12) hx hb dX4_addFieldWithout_1 (by decide) (fun c_13 => absurd c_13 (nI_pos (by omega))) (fun c_13 => ?_)
  refine lv_iload_n hx hb dX4_addFieldWithout_4 rfl (lv_at hl 2 rfl) ?_
  refine lv_aload_n hx hb dX4_addFieldWithout_5 rfl (lv_at hl 0 rfl) ?_
  refine pg_get (ci := 4) (v := .int (nI nn)) (C := RX4) (T := TX4) (N := 6) hx hb hts it_4 hown hK hP hL_h0 hF0 rfl 4 (by decide) (hts _ kt_203) (fun _ h9 => h9) rfl dX4_addFieldWithout_6 ?_
  refine lv_icmp_lt (tgt := 13) hx hb dX4_addFieldWithout_9 (by decide) (fun c_14 => ?_) (fun c_14 => absurd ((nI_ltI (by omega) (by omega)).mpr hjk) c_14)
  refine lv_iload_n hx hb dX4_addFieldWithout_13 rfl (lv_at hl 3 rfl) ?_
  refine lv_if_eq (tgt := 77) hx hb dX4_addFieldWithout_14 (by decide) (fun c_15 => ?_) (fun c_15 => ?_)
  ·
    refine lv_iload hx hb dX4_addFieldWithout_77 (lv_at hl 4 rfl) ?_
    refine lv_iload hx hb dX4_addFieldWithout_79 (lv_at hl 5 rfl) ?_
    refine lv_icmp_ne (tgt := 107) hx hb dX4_addFieldWithout_81 (by decide) (fun c_16 => absurd (by decide) c_16) (fun c_16 => ?_)
    refine lv_aload_n hx hb dX4_addFieldWithout_84 rfl (lv_at hl 1 rfl) ?_
    refine lv_aload_n hx hb dX4_addFieldWithout_85 rfl (lv_at hl 0 rfl) ?_
    refine pg_get (ci := 4) (v := .ref tx) (C := RX4) (T := TX4) (N := 6) hx hb hts it_4 hown hK hP hL_h0 hF0 rfl 0 (by decide) (hts _ kt_207) (fun _ h9 => h9) rfl dX4_addFieldWithout_86 ?_
    refine lv_aload_n hx hb dX4_addFieldWithout_89 rfl (lv_at hl 0 rfl) ?_
    refine pg_get (ci := 4) (v := .ref y0) (C := RX4) (T := TX4) (N := 6) hx hb hts it_4 hown hK hP hL_h0 hF0 rfl 1 (by decide) (hts _ kt_205) (fun _ h9 => h9) rfl dX4_addFieldWithout_90 ?_
    refine lv_iload_n hx hb dX4_addFieldWithout_93 rfl (lv_at hl 2 rfl) ?_
    refine pg_iald hx hb hK hP hi_1 0 hFy0 rfl (vp_in_nI (by omega) (by omega)) dX4_addFieldWithout_94 ?_
    refine lv_topi (fun x_17 ex_17 => ?_)
    obtain rfl : x_17 = (nI kb) := ex_17.trans ((congrArg e0 (nI_clamp (by omega))).trans heb)
    refine lv_aload_n hx hb dX4_addFieldWithout_95 rfl (lv_at hl 0 rfl) ?_
    refine pg_get (ci := 4) (v := .ref y2) (C := RX4) (T := TX4) (N := 6) hx hb hts it_4 hown hK hP hL_h0 hF0 rfl 3 (by decide) (hts _ kt_220) (fun _ h9 => h9) rfl dX4_addFieldWithout_96 ?_
    refine lv_iload_n hx hb dX4_addFieldWithout_99 rfl (lv_at hl 2 rfl) ?_
    refine pg_iald hx hb hK hP hi_3 0 hFy2 rfl (vp_in_nI (by omega) (by omega)) dX4_addFieldWithout_100 ?_
    refine lv_topi (fun x_18 ex_18 => ?_)
    obtain rfl : x_18 = (nI kd) := ex_18.trans ((congrArg e2 (nI_clamp (by omega))).trans hed)
    have hFc := pg_free hD hS hA
    refine va_callv (va_runV (As := [.ref tx, .int (nI kb), .int (nI kd)]) (rest := []) ⟨hx, hb, hml, hown, hts⟩ (s_X0_addRange_o l dC dI cs ty L s.heap.size F g1 σ r1 n1 tx (ρ + 1) rx 3000 zm kb kd f oo hW hL_g1 hT_g1 hL_tx hT_tx hFg hFx hFr (by omega) (by omega) (by omega) (by omega) (by omega) (by omega)) ⟨callB_of 3 hts (gi kt_36) rfl rfl rfl (hts _ kt_1) (hts _ kt_231) (by decide +kernel) ⟨Nat.le_of_ble_eq_true rfl, Nat.le_of_ble_eq_true rfl⟩, (hts _ kt_38), (hts _ kt_39)⟩ ⟨fun a U g mk q => ⟨q.1, PT.calling q.2⟩, pg_recv hK hP hL_g1 hFg (q := (RX0, TX0, 3)) rfl, fun U hU hWm => ⟨rfl, PT.mk hU hWm hP hK hD hE hO⟩⟩ rfl rfl hl.1 rfl (lv_room (Nat.le_of_ble_eq_true rfl)) dX4_addFieldWithout_101 ⟨by show _ + 0 ≤ 0; omega, by show _ + 0 ≤ 0; omega⟩) hS (fun q _ h => hFc q h) hFc (fun u t H1 locs ht hvm hw hB hz1 hk1 hS => ?_)
    obtain ⟨F_20, fc_21, hB1, hq_22, hq_23, hq_24⟩ := hB
    obtain ⟨hP, hD, hO, hR⟩ := QT.back hB1 ht hFc hR (fun q h => by simp only [List.mem_cons, List.not_mem_nil, or_false] at h ⊢; omega)
    have hF_25 : F_20 h0 = .inr (4, [.ref tx, .ref y0, .ref y1, .ref y2, .int (nI nn), .int bb]) := (hB1.2.2.2 h0 (by rw [hT_h0]; simp only [List.mem_cons, List.not_mem_nil, or_false]; omega)).trans hF0
    have hF_26 : F_20 tx = .inr (0, [.ref rx, .int (nI zm), .int oo]) := (hB1.2.2.2 tx (by rw [hT_tx]; simp only [List.mem_cons, List.not_mem_nil, or_false]; omega)).trans hFx
    have hF_27 : F_20 rx = .inl (cs 16, 3000, .inl f) := (hB1.2.2.2 rx (by rw [ht_8]; simp only [List.mem_cons, List.not_mem_nil, or_false]; omega)).trans hFr
    have hF_28 : F_20 y1 = .inl (cs 16, 20, .inl e1) := (hB1.2.2.2 y1 (by rw [ht_5]; simp only [List.mem_cons, List.not_mem_nil, or_false]; omega)).trans hFy1
    have hF_29 : F_20 y2 = .inl (cs 16, 20, .inl e2) := (hB1.2.2.2 y2 (by rw [ht_6]; simp only [List.mem_cons, List.not_mem_nil, or_false]; omega)).trans hFy2
    have hF_30 : F_20 y0 = .inl (cs 16, 20, .inl e0) := (hB1.2.2.2 y0 (by rw [ht_4]; simp only [List.mem_cons, List.not_mem_nil, or_false]; omega)).trans hFy0
    generalize H1 = H at hP hS ⊢
    refine lv_goto (tgt := 139) hx hb dX4_addFieldWithout_104 (by decide) ?_
    refine W.widen (k := 0) (n := 0) (by omega) (by omega) ?_
    exact W.vret hx hb hr (fun t ht hWm => ⟨⟨(), rfl, trivial, ⟨F_20, fc_21, QT.mk ht hP hD hO hR, (by rw [FPL_s c_15, rng_len]; exact hq_22), hq_23, (by rw [FPL_s c_15]; exact OUTS.rnge hq_24)⟩⟩, hS.F ht⟩) hS.2.2 dX4_addFieldWithout_139
  ·
    refine lv_aload_n hx hb dX4_addFieldWithout_17 rfl (lv_at hl 0 rfl) ?_
    refine pg_get (ci := 4) (v := .ref y0) (C := RX4) (T := TX4) (N := 6) hx hb hts it_4 hown hK hP hL_h0 hF0 rfl 1 (by decide) (hts _ kt_205) (fun _ h9 => h9) rfl dX4_addFieldWithout_18 ?_
    refine lv_iload_n hx hb dX4_addFieldWithout_21 rfl (lv_at hl 2 rfl) ?_
    refine pg_iald hx hb hK hP hi_1 0 hFy0 rfl (vp_in_nI (by omega) (by omega)) dX4_addFieldWithout_22 ?_
    refine lv_topi (fun x_31 ex_31 => ?_)
    obtain rfl : x_31 = (nI kb) := ex_31.trans ((congrArg e0 (nI_clamp (by omega))).trans heb)
    refine lv_istore (lv' := [(6, .int (nI kb)), (0, .ref h0), (1, .ref g1), (2, .int (nI jk)), (3, .int x3), (4, .int 0), (5, .int 0)]) hx hb dX4_addFieldWithout_23 hl (by decide) rfl (fun ls hl => ?_)
    refine W.widen (k := 0) (n := 0) (by omega) (by omega) ?_
    have hF_33 : F h0 = .inr (4, [.ref tx, .ref y0, .ref y1, .ref y2, .int (nI nn), .int bb]) := (hR h0 (by rw [hT_h0]; simp only [List.mem_cons, List.not_mem_nil, or_false]; omega)).symm.trans hF0
    have hF_34 : F tx = .inr (0, [.ref rx, .int (nI zm), .int oo]) := (hR tx (by rw [hT_tx]; simp only [List.mem_cons, List.not_mem_nil, or_false]; omega)).symm.trans hFx
    have hF_35 : F rx = .inl (cs 16, 3000, .inl f) := (hR rx (by rw [ht_8]; simp only [List.mem_cons, List.not_mem_nil, or_false]; omega)).symm.trans hFr
    have hF_36 : F y1 = .inl (cs 16, 20, .inl e1) := (hR y1 (by rw [ht_5]; simp only [List.mem_cons, List.not_mem_nil, or_false]; omega)).symm.trans hFy1
    have hF_37 : F y2 = .inl (cs 16, 20, .inl e2) := (hR y2 (by rw [ht_6]; simp only [List.mem_cons, List.not_mem_nil, or_false]; omega)).symm.trans hFy2
    have hF_38 : F y0 = .inl (cs 16, 20, .inl e0) := (hR y0 (by rw [ht_4]; simp only [List.mem_cons, List.not_mem_nil, or_false]; omega)).symm.trans hFy0
    refine pl_loop (σ := Nat × (Nat → Int32)) A (dC, dI) cs ty L [σ] F 25 7 (fun (i1, fq) => [(6, .int (nI i1)), (0, .ref h0), (1, .ref g1), (2, .int (nI jk)), (3, .int x3), (4, .int 0), (5, .int 0)]) (fun (i1, fq) => []) (fun (i1, fq) FF => kb ≤ i1 ∧ i1 ≤ kc ∧ FF g1 = .inr (0, [.ref r1, .int (nI (i1 - kb)), .int 0]) ∧ FF r1 = .inl (cs 16, n1, .inl fq) ∧ OUTS f fq (rng 1 kb (i1 - kb))) (fun (i1, fq) => kc - i1) ?_ (kb, fo) F (⟨by omega, by omega, (by rw [Nat.sub_self]; exact hFg), hFo, (by rw [Nat.sub_self]; exact OUTS.nil)⟩) hO hR _ _ hP hD hS ls (lv_sub hl [0, 1, 2, 3, 4, 5, 6] rfl)
    rintro ⟨i1, fq⟩ F_32 hv_39 hO hR ih_40 H locs hP hD hS ls hl
    have hl : lv_has ls 7 [(6, .int (nI i1)), (0, .ref h0), (1, .ref g1), (2, .int (nI jk)), (3, .int x3), (4, .int 0), (5, .int 0)] := hl
    have hv_39 : kb ≤ i1 ∧ i1 ≤ kc ∧ F_32 g1 = .inr (0, [.ref r1, .int (nI (i1 - kb)), .int 0]) ∧ F_32 r1 = .inl (cs 16, n1, .inl fq) ∧ OUTS f fq (rng 1 kb (i1 - kb)) := hv_39
    refine W.eq (g2 := F0 m 25 ls []) rfl ?_
    have hF_41 : F_32 h0 = .inr (4, [.ref tx, .ref y0, .ref y1, .ref y2, .int (nI nn), .int bb]) := (hR h0 (by rw [hT_h0]; simp only [List.mem_cons, List.not_mem_nil, or_false]; omega)).trans hF_33
    have hF_42 : F_32 tx = .inr (0, [.ref rx, .int (nI zm), .int oo]) := (hR tx (by rw [hT_tx]; simp only [List.mem_cons, List.not_mem_nil, or_false]; omega)).trans hF_34
    have hF_43 : F_32 rx = .inl (cs 16, 3000, .inl f) := (hR rx (by rw [ht_8]; simp only [List.mem_cons, List.not_mem_nil, or_false]; omega)).trans hF_35
    have hF_44 : F_32 y1 = .inl (cs 16, 20, .inl e1) := (hR y1 (by rw [ht_5]; simp only [List.mem_cons, List.not_mem_nil, or_false]; omega)).trans hF_36
    have hF_45 : F_32 y2 = .inl (cs 16, 20, .inl e2) := (hR y2 (by rw [ht_6]; simp only [List.mem_cons, List.not_mem_nil, or_false]; omega)).trans hF_37
    have hF_46 : F_32 y0 = .inl (cs 16, 20, .inl e0) := (hR y0 (by rw [ht_4]; simp only [List.mem_cons, List.not_mem_nil, or_false]; omega)).trans hF_38
    obtain ⟨hv1, hv2, hN1, hN2, hN3⟩ := id hv_39
    refine lv_iload hx hb dX4_addFieldWithout_25 (lv_at hl 0 rfl) ?_
    refine lv_aload_n hx hb dX4_addFieldWithout_27 rfl (lv_at hl 1 rfl) ?_
    refine pg_get (ci := 4) (v := .ref y1) (C := RX4) (T := TX4) (N := 6) hx hb hts it_4 hown hK hP hL_h0 hF_41 rfl 2 (by decide) (hts _ kt_204) (fun _ h9 => h9) rfl dX4_addFieldWithout_28 ?_
    refine lv_iload_n hx hb dX4_addFieldWithout_31 rfl (lv_at hl 3 rfl) ?_
    refine pg_iald hx hb hK hP hi_2 0 hF_44 rfl (vp_in_nI (by omega) (by omega)) dX4_addFieldWithout_32 ?_
    refine lv_topi (fun x_47 ex_47 => ?_)
    obtain rfl : x_47 = (nI kc) := ex_47.trans ((congrArg e1 (nI_clamp (by omega))).trans hec)
    refine lv_icmp_ge (tgt := 58) hx hb dX4_addFieldWithout_33 (by decide) (fun c_48 => ?_) (fun c_48 => ?_)
    ·
      have hi_49 : kc ≤ i1 := leN (N := kc) c_48
      have hib : i1 = kc := by have h9 : kc ≤ i1 := (nI_leI (by omega) (by omega)).mp c_48; omega
      refine lv_aload_n hx hb dX4_addFieldWithout_58 rfl (lv_at hl 2 rfl) ?_
      refine lv_bipush (v := 58) hx hb dX4_addFieldWithout_59 (by decide) ?_
      have hFc := pg_free hD hS hA
      refine va_callv (va_runV (As := [.int 58]) (rest := []) ⟨hx, hb, hml, hown, hts⟩ (s_X0_add_e l dC dI cs ty L H.size F_32 g1 σ r1 n1 (i1 - kb) fq 58 hW hL_g1 hT_g1 hN1 hN2 (by omega) (by omega)) ⟨callB_of 1 hts (gi kt_13) rfl rfl rfl (hts _ kt_1) (hts _ kt_230) (by decide +kernel) ⟨Nat.le_of_ble_eq_true rfl, Nat.le_of_ble_eq_true rfl⟩, (hts _ kt_15), (hts _ kt_16)⟩ ⟨fun a U g mk q => ⟨q.1, PT.calling q.2⟩, pg_recv hK hP hL_g1 hN1 (q := (RX0, TX0, 3)) rfl, fun U hU hWm => ⟨rfl, PT.mk hU hWm hP hK hD hE hO⟩⟩ rfl rfl hl.1 rfl (lv_room (Nat.le_of_ble_eq_true rfl)) dX4_addFieldWithout_61 ⟨by show _ + 0 ≤ 0; omega, by show _ + 0 ≤ 0; omega⟩) hS (fun q _ h => hFc q h) hFc (fun u t H1 locs ht hvm hw hB hz1 hk1 hS => ?_)
      obtain ⟨F_51, hB1, hq_52, hq_53⟩ := hB
      obtain ⟨hP, hD, hO, hR⟩ := QT.back hB1 ht hFc hR (fun q h => by simp only [List.mem_cons, List.not_mem_nil, or_false] at h ⊢; omega)
      have hF_54 : F_51 h0 = .inr (4, [.ref tx, .ref y0, .ref y1, .ref y2, .int (nI nn), .int bb]) := (hB1.2.2.2 h0 (by rw [hT_h0]; simp only [List.mem_cons, List.not_mem_nil, or_false]; omega)).trans hF_41
      have hF_55 : F_51 tx = .inr (0, [.ref rx, .int (nI zm), .int oo]) := (hB1.2.2.2 tx (by rw [hT_tx]; simp only [List.mem_cons, List.not_mem_nil, or_false]; omega)).trans hF_42
      have hF_56 : F_51 rx = .inl (cs 16, 3000, .inl f) := (hB1.2.2.2 rx (by rw [ht_8]; simp only [List.mem_cons, List.not_mem_nil, or_false]; omega)).trans hF_43
      have hF_57 : F_51 y1 = .inl (cs 16, 20, .inl e1) := (hB1.2.2.2 y1 (by rw [ht_5]; simp only [List.mem_cons, List.not_mem_nil, or_false]; omega)).trans hF_44
      have hF_58 : F_51 y2 = .inl (cs 16, 20, .inl e2) := (hB1.2.2.2 y2 (by rw [ht_6]; simp only [List.mem_cons, List.not_mem_nil, or_false]; omega)).trans hF_45
      have hF_59 : F_51 y0 = .inl (cs 16, 20, .inl e0) := (hB1.2.2.2 y0 (by rw [ht_4]; simp only [List.mem_cons, List.not_mem_nil, or_false]; omega)).trans hF_46
      generalize H1 = H at hP hS ⊢
      have hou_60 : OUTS f (upd fq (i1 - kb) 58) (rng 1 kb (kc - kb) ++ [(2, 58)]) := by rw [hib] at hN3; have h8 := OUTS.add (y := (2, 58)) hN3 (show (58 : Int32) = evs f (2, 58) from rfl); rw [rng_len] at h8; rw [hib]; exact h8
      have hF_61 : F_51 g1 = .inr (0, [.ref r1, .int (nI (rng 1 kb (kc - kb) ++ [(2, 58)]).length), .int 0]) := by rw [len1, rng_len, ← hib]; exact hq_52
      refine lv_aload_n hx hb dX4_addFieldWithout_64 rfl (lv_at hl 1 rfl) ?_
      refine lv_aload_n hx hb dX4_addFieldWithout_65 rfl (lv_at hl 2 rfl) ?_
      refine lv_iload_n hx hb dX4_addFieldWithout_66 rfl (lv_at hl 3 rfl) ?_
      refine lv_iload hx hb dX4_addFieldWithout_67 (lv_at hl 5 rfl) ?_
      refine lv_iload hx hb dX4_addFieldWithout_69 (lv_at hl 6 rfl) ?_
      have hFc := pg_free hD hS hA
      refine va_callv (va_runV (As := [.ref g1, .int (nI jk), .int 0, .int 0]) (rest := []) ⟨hx, hb, hml, hown, hts⟩ (s_X4_addRelaxedValue_e l dC dI cs ty L H.size F_51 h0 ρ tx y0 y1 y2 g1 σ r1 n1 rx zm nn jk kb kc kd f e0 e1 e2 (upd fq (i1 - kb) 58) bb oo (rng 1 kb (kc - kb) ++ [(2, 58)]) (FPL (clf f) x3 kb kc kd) hW hL_h0 hT_h0 hL_tx hT_tx hL_g1 hT_g1 hF_54 hF_55 hF_56 hF_57 hF_58 hF_61 hq_53 (by omega) (by omega) (by omega) (by omega) (by omega) (by omega) (by omega) (by omega) (hfar) (hec) (hed) (by rw [len1, rng_len]; omega) (FPL_r c_15) (hou_60)) ⟨callB_of 4 hts (gi kt_232) rfl rfl rfl (hts _ kt_211) (hts _ kt_233) (by decide +kernel) ⟨Nat.le_of_ble_eq_true rfl, Nat.le_of_ble_eq_true rfl⟩, (hts _ kt_234), (hts _ kt_235)⟩ ⟨fun a U g mk q => ⟨q.1, PT.calling q.2⟩, pg_recv hK hP hL_h0 hF_54 (q := (RX4, TX4, 6)) rfl, fun U hU hWm => ⟨rfl, PT.mk hU hWm hP hK hD hE hO⟩⟩ rfl rfl hl.1 rfl (lv_room (Nat.le_of_ble_eq_true rfl)) dX4_addFieldWithout_71 ⟨by show _ + 0 ≤ 0; omega, by show _ + 0 ≤ 0; omega⟩) hS (fun q _ h => hFc q h) hFc (fun u t H1 locs ht hvm hw hB hz1 hk1 hS => ?_)
      obtain ⟨F_63, fo2_64, hB1, hq_65, hq_66, hq_67⟩ := hB
      obtain ⟨hP, hD, hO, hR⟩ := QT.back hB1 ht hFc hR (fun q h => by simp only [List.mem_cons, List.not_mem_nil, or_false] at h ⊢; omega)
      have hF_68 : F_63 h0 = .inr (4, [.ref tx, .ref y0, .ref y1, .ref y2, .int (nI nn), .int bb]) := (hB1.2.2.2 h0 (by rw [hT_h0]; simp only [List.mem_cons, List.not_mem_nil, or_false]; omega)).trans hF_54
      have hF_69 : F_63 tx = .inr (0, [.ref rx, .int (nI zm), .int oo]) := (hB1.2.2.2 tx (by rw [hT_tx]; simp only [List.mem_cons, List.not_mem_nil, or_false]; omega)).trans hF_55
      have hF_70 : F_63 rx = .inl (cs 16, 3000, .inl f) := (hB1.2.2.2 rx (by rw [ht_8]; simp only [List.mem_cons, List.not_mem_nil, or_false]; omega)).trans hF_56
      have hF_71 : F_63 y1 = .inl (cs 16, 20, .inl e1) := (hB1.2.2.2 y1 (by rw [ht_5]; simp only [List.mem_cons, List.not_mem_nil, or_false]; omega)).trans hF_57
      have hF_72 : F_63 y2 = .inl (cs 16, 20, .inl e2) := (hB1.2.2.2 y2 (by rw [ht_6]; simp only [List.mem_cons, List.not_mem_nil, or_false]; omega)).trans hF_58
      have hF_73 : F_63 y0 = .inl (cs 16, 20, .inl e0) := (hB1.2.2.2 y0 (by rw [ht_4]; simp only [List.mem_cons, List.not_mem_nil, or_false]; omega)).trans hF_59
      generalize H1 = H at hP hS ⊢
      refine lv_goto (tgt := 139) hx hb dX4_addFieldWithout_74 (by decide) ?_
      refine W.widen (k := 0) (n := 0) (by omega) (by omega) ?_
      exact W.vret hx hb hr (fun t ht hWm => ⟨⟨(), rfl, trivial, ⟨F_63, fo2_64, QT.mk ht hP hD hO hR, hq_65, hq_66, hq_67⟩⟩, hS.F ht⟩) hS.2.2 dX4_addFieldWithout_139
    ·
      have hi_74 : i1 < kc := ltN (N := kc) c_48
      have hib : i1 < kc := Nat.not_le.mp (fun q => c_48 ((nI_leI (by omega) (by omega)).mpr q))
      refine lv_aload_n hx hb dX4_addFieldWithout_36 rfl (lv_at hl 2 rfl) ?_
      refine lv_aload_n hx hb dX4_addFieldWithout_37 rfl (lv_at hl 1 rfl) ?_
      refine pg_get (ci := 4) (v := .ref tx) (C := RX4) (T := TX4) (N := 6) hx hb hts it_4 hown hK hP hL_h0 hF_41 rfl 0 (by decide) (hts _ kt_207) (fun _ h9 => h9) rfl dX4_addFieldWithout_38 ?_
      refine lv_iload hx hb dX4_addFieldWithout_41 (lv_at hl 0 rfl) ?_
      have hFc := pg_free hD hS hA
      refine va_calli (va_runV (As := [.int (nI i1)]) (rest := [.ref g1]) ⟨hx, hb, hml, hown, hts⟩ (s_X0_at_o l dC dI cs ty L H.size F_32 tx (ρ + 1) rx 3000 zm i1 f oo hW hL_tx hT_tx hF_42 hF_43 (by omega) (by omega) (by omega)) ⟨callB_of 1 hts (gi kt_21) rfl rfl rfl (hts _ kt_1) (hts _ kt_199) (by decide +kernel) ⟨Nat.le_of_ble_eq_true rfl, Nat.le_of_ble_eq_true rfl⟩, (hts _ kt_23), (hts _ kt_24)⟩ ⟨fun a U g mk q => ⟨q.1, PT.calling q.2⟩, pg_recv hK hP hL_tx hF_42 (q := (RX0, TX0, 3)) rfl, fun U hU hWm => ⟨rfl, PT.mk hU hWm hP hK hD hE hO⟩⟩ rfl rfl hl.1 rfl (lv_room (Nat.le_of_ble_eq_true rfl)) dX4_addFieldWithout_43 ⟨by show _ + 0 ≤ 0; omega, by show _ + 0 ≤ 0; omega⟩) hS (fun q _ h => hFc q h) hFc (fun r_75 u t H1 locs ht hvm hw hB hz1 hk1 hS => ?_)
      obtain ⟨F_76, hB1⟩ := hB
      obtain rfl : F_32 = F_76 := (funext (fun a => hB1.2.2.2 a List.not_mem_nil)).symm
      obtain ⟨hP, hD, hO, hR⟩ := QT.back hB1 ht hFc hR (fun q h => absurd h List.not_mem_nil)
      generalize H1 = H at hP hS ⊢
      have hw : r_75 = f i1 := hw
      have hw_77 := hw
      subst hw_77
      have hFc := pg_free hD hS hA
      refine va_calli (va_runS (As := [.int (f i1)]) (rest := [.ref g1]) ⟨hx, hb, hml, hown, hts⟩ (s_X0_smallOf_x l dC dI cs ty L H.size F_32 (f i1) hW ) ⟨callB_of 1 hts (gi kt_0) rfl rfl rfl (hts _ kt_1) (hts _ kt_208) (by decide +kernel) ⟨Nat.le_of_ble_eq_true rfl, Nat.le_of_ble_eq_true rfl⟩, (hts _ kt_3)⟩ ⟨fun a U g mk q => ⟨q.1, PT.calling q.2⟩, fun U hU hWm => ⟨rfl, PT.mk hU hWm hP hK hD hE hO⟩⟩ rfl rfl hl.1 rfl (lv_room (Nat.le_of_ble_eq_true rfl)) dX4_addFieldWithout_46 ⟨by show _ + 0 ≤ 0; omega, by show _ + 0 ≤ 0; omega⟩) hS (fun q _ h => hFc q h) hFc (fun r_78 u t H1 locs ht hvm hw hB hz1 hk1 hS => ?_)
      obtain ⟨F_79, hB1⟩ := hB
      obtain rfl : F_32 = F_79 := (funext (fun a => hB1.2.2.2 a List.not_mem_nil)).symm
      obtain ⟨hP, hD, hO, hR⟩ := QT.back hB1 ht hFc hR (fun q h => absurd h List.not_mem_nil)
      generalize H1 = H at hP hS ⊢
      have hw : r_78 = smv (f i1) := hw
      have hw_80 := hw
      subst hw_80
      have hFc := pg_free hD hS hA
      refine va_callv (va_runV (As := [.int (smv (f i1))]) (rest := []) ⟨hx, hb, hml, hown, hts⟩ (s_X0_add_e l dC dI cs ty L H.size F_32 g1 σ r1 n1 (i1 - kb) fq (smv (f i1)) hW hL_g1 hT_g1 hN1 hN2 (by omega) (by omega)) ⟨callB_of 1 hts (gi kt_13) rfl rfl rfl (hts _ kt_1) (hts _ kt_230) (by decide +kernel) ⟨Nat.le_of_ble_eq_true rfl, Nat.le_of_ble_eq_true rfl⟩, (hts _ kt_15), (hts _ kt_16)⟩ ⟨fun a U g mk q => ⟨q.1, PT.calling q.2⟩, pg_recv hK hP hL_g1 hN1 (q := (RX0, TX0, 3)) rfl, fun U hU hWm => ⟨rfl, PT.mk hU hWm hP hK hD hE hO⟩⟩ rfl rfl hl.1 rfl (lv_room (Nat.le_of_ble_eq_true rfl)) dX4_addFieldWithout_49 ⟨by show _ + 0 ≤ 0; omega, by show _ + 0 ≤ 0; omega⟩) hS (fun q _ h => hFc q h) hFc (fun u t H1 locs ht hvm hw hB hz1 hk1 hS => ?_)
      obtain ⟨F_82, hB1, hq_83, hq_84⟩ := hB
      obtain ⟨hP, hD, hO, hR⟩ := QT.back hB1 ht hFc hR (fun q h => by simp only [List.mem_cons, List.not_mem_nil, or_false] at h ⊢; omega)
      have hF_85 : F_82 h0 = .inr (4, [.ref tx, .ref y0, .ref y1, .ref y2, .int (nI nn), .int bb]) := (hB1.2.2.2 h0 (by rw [hT_h0]; simp only [List.mem_cons, List.not_mem_nil, or_false]; omega)).trans hF_41
      have hF_86 : F_82 tx = .inr (0, [.ref rx, .int (nI zm), .int oo]) := (hB1.2.2.2 tx (by rw [hT_tx]; simp only [List.mem_cons, List.not_mem_nil, or_false]; omega)).trans hF_42
      have hF_87 : F_82 rx = .inl (cs 16, 3000, .inl f) := (hB1.2.2.2 rx (by rw [ht_8]; simp only [List.mem_cons, List.not_mem_nil, or_false]; omega)).trans hF_43
      have hF_88 : F_82 y1 = .inl (cs 16, 20, .inl e1) := (hB1.2.2.2 y1 (by rw [ht_5]; simp only [List.mem_cons, List.not_mem_nil, or_false]; omega)).trans hF_44
      have hF_89 : F_82 y2 = .inl (cs 16, 20, .inl e2) := (hB1.2.2.2 y2 (by rw [ht_6]; simp only [List.mem_cons, List.not_mem_nil, or_false]; omega)).trans hF_45
      have hF_90 : F_82 y0 = .inl (cs 16, 20, .inl e0) := (hB1.2.2.2 y0 (by rw [ht_4]; simp only [List.mem_cons, List.not_mem_nil, or_false]; omega)).trans hF_46
      generalize H1 = H at hP hS ⊢
      have hou_91 := OUTS.rs (k := 1) hN3 hv1 (ev_1 (f := f) (j := i1))
      refine lv_iinc (v := (nI (i1 + 1))) (lv' := [(6, .int (nI (i1 + 1))), (0, .ref h0), (1, .ref g1), (2, .int (nI jk)), (3, .int x3), (4, .int 0), (5, .int 0)]) hx hb dX4_addFieldWithout_52 hl (k := 0) rfl (nI_1 _) (by decide) rfl (fun ls hl => ?_)
      refine lv_goto (tgt := 25) hx hb dX4_addFieldWithout_55 (by decide) ?_
      refine W.widen (k := 0) (n := 0) (by omega) (by omega) ?_
      exact ih_40 ((i1 + 1), (upd fq (i1 - kb) (smv (f i1)))) F_82 (⟨by omega, by omega, (by rw [show i1 + 1 - kb = i1 - kb + 1 by omega]; exact hq_83), hq_84, hou_91⟩) (by show kc - (i1 + 1) < kc - i1; omega) hO hR _ _ hP hD hS ls (lv_sub hl [0, 1, 2, 3, 4, 5, 6] rfl)
