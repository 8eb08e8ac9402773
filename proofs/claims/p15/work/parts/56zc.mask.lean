def TGM (U : List Nat) (y : Nat) (f : Nat → Int32) : Prop := y = min U.length 61 ∧ ∀ j, j < y → f j = nI (U.getD j 0)
theorem sam_m {d : ETY} {U : List Nat} {y : Nat} {f : Nat → Int32} (h : TGM U y f) (hd : d.2.2.1 ≤ 60) : (d.2.2.1 = y ∧ ∀ j, j < d.2.2.1 → d.2.2.2.1 j = f j) ↔ SAMN d (ooU U) (yU U) (faU U) := by
  obtain ⟨h1, h2⟩ := h
  constructor
  · rintro ⟨a1, a2⟩
    refine ⟨if_neg (by omega), ?_, fun j hj => ?_⟩
    · show d.2.2.1 = min U.length 60
      omega
    · rw [a2 j hj, h2 j (by omega)]
      rfl
  · rintro ⟨a1, a2, a3⟩
    have hl : U.length ≤ 60 := Nat.not_lt.mp (fun c => by
      have h9 : ooU U = 1 := if_pos c
      rw [h9] at a1
      exact absurd a1 (by decide))
    have a4 : d.2.2.1 = min U.length 60 := a2
    refine ⟨by omega, fun j hj => ?_⟩
    rw [a3 j hj, h2 j (by omega)]
    rfl
theorem otw_st {D : Nat → ETY} {oo : Int32} {y k : Nat} {fa : Nat → Int32} {l : List Nat} {i : Nat} (h : otw D oo y fa k l i = (-2)) : ∀ n, otw D oo y fa k l (i + n) = (-2) := by
  intro n
  induction n with
  | zero => exact h
  | succ n ih =>
    rw [show i + (n + 1) = i + n + 1 by omega, otw_s, ih]
    by_cases c : OTQ (D (i + n)) oo y fa k l
    · rw [if_pos c]
      exact if_neg (by decide)
    · rw [if_neg c]
theorem otw_2 {D : Nat → ETY} {oo : Int32} {y k j n : Nat} {fa : Nat → Int32} {l : List Nat} {x : Int32} (h : x = otw D oo y fa k l j) (h1 : OTQ (D j) oo y fa k l) (h2 : ¬ x < 0) (hj : j < n) : (-2) = otw D oo y fa k l n := by
  have h3 : otw D oo y fa k l (j + 1) = (-2) := by
    rw [otw_s, if_pos h1, if_neg (fun q => h2 (by rw [h, q]; decide))]
  have h4 := otw_st h3 (n - (j + 1))
  rw [show j + 1 + (n - (j + 1)) = n by omega] at h4
  exact h4.symm
set_option maxHeartbeats 4000000 in
set_option maxRecDepth 100000 in
theorem s_X14_is_x (l : Launch) (dC : Nat → ClassId) (dI : Nat → Nat → Nat) (cs : Nat → ClassId) (ty : TyM) (gm : Nat → Nat → Nat) (L : List Nat) (sz : Nat) (F : Nat → va_E) (h0 : Nat) (ρ : Nat) (r0 : Nat) (n : Nat) (g1 : Nat) (σ : Nat) (n1 : Nat) (z : Nat) (a : Nat) (tt : Nat) (gf : Nat → Int32) (hf : Nat → Int32) (hW : WTm ty gm L) (hL_h0 : h0 ∈ L) (hT_h0 : ty h0 = (14, ρ, [r0, n])) (hL_g1 : g1 ∈ L) (hT_g1 : ty g1 = (17, σ, [n1])) (hF0 : F h0 = .inr (14, [.ref r0, .int (nI z)])) (hFr0 : F r0 = .inl (cs 17, n, .inl gf)) (hFg : F g1 = .inl (cs 17, n1, .inl hf)) (hzn : z ≤ n) (ha : a ≤ 20000) (htn : tt ≤ n1) : Met l yX14_is (.code yX14_is cX14_is 5 (some .boolean) :: tb) ({ frames := 0, cells := 0, slots := 0, locals := 0 }) (va_Pc [.ref h0, .ref g1, .int (nI a), .int (nI tt)] (PTm (dC, dI) cs ty gm L F sz)) (va_Qi (fun (r : Int32) (_ : Unit) => ((r = 1 ∧ (tt = a + z ∧ ∀ j, j < z → gf j = hf (a + j))) ∨ (r = 0 ∧ ¬ (tt = a + z ∧ ∀ j, j < z → gf j = hf (a + j))))) (fun _ T9 => ∃ F2 : Nat → va_E, QTm (dC, dI) cs ty gm L [] F F2 (va_A (va_pl L F) sz) T9) (va_A (va_pl L F) sz)) 0 0 (va_A (va_pl L F) sz) := by
  refine Met.ofW (cc := cX14_is) (maxL := 5) (ret := (some .boolean)) (by decide) rfl ?_
  intro p e s m args below meth c s₁ B hml hv
  obtain ⟨rfl, hsz, hP, hK, hD0, hE, hO⟩ := hv
  have hx := B.exec
  have hb := B.bytes
  have hr := B.returns
  have hts : ∀ w ∈ tb, w.before _ s = true := fun w h => atoms_spec (ws := .code yX14_is cX14_is 5 (some .boolean) :: tb) B.pre w (List.mem_cons_of_mem _ h)
  have hown : s.vm.findClass RX14 = some m.cls := findClass_of_methodNamed B.named
  have hlocks := B.notSynchronized
  subst hsz
  have hD := hD0.self (sz := s.heap.size)
  generalize hAe : va_A (va_pl L F) s.heap.size = A at hD ⊢
  have hA : ∀ q : Nat, s.heap.size ≤ q → A q := fun q h => by rw [← hAe]; exact Or.inr h
  have hS : va_S A s.heap s.heap [] := va_S.rf
  have hR : FR ty [] F F := FR.refl
  have hl := lv_entry ([.ref h0, .ref g1, .int (nI a), .int (nI tt)]) (n := 5) (Nat.le_of_ble_eq_true rfl)
  rw [lg_entry_eq]
  generalize (lg_sl ([.ref h0, .ref g1, .int (nI a), .int (nI tt)]) ++ List.replicate (5 - (lg_sl ([.ref h0, .ref g1, .int (nI a), .int (nI tt)])).length) Slot.unset).toArray = ls at hl ⊢
  have hl : lv_has ls 5 [(0, .ref h0), (1, .ref g1), (2, .int (nI a)), (3, .int (nI tt))] := hl
  obtain ⟨hi_1, ht_2, hq_3⟩ := hW.txt hL_h0 hT_h0
  obtain ⟨hq_4, hq_5⟩ := hW.octs hL_g1 hT_g1
  refine lv_iload_n hx hb dX14_is_0 rfl (lv_at hl 3 rfl) ?_
  refine lv_iload_n hx hb dX14_is_1 rfl (lv_at hl 2 rfl) ?_
  refine lv_isub hx hb dX14_is_2 ?_
  refine lv_topi (fun x_6 ex_6 => ?_)
  obtain rfl : x_6 = ((nI tt) - (nI a)) := ex_6.trans (rfl)
  refine lv_aload_n hx hb dX14_is_3 rfl (lv_at hl 0 rfl) ?_
  refine pg_get (ci := 14) (v := .int (nI z)) (C := RX14) (T := TX14) (N := 2) hx hb hts it_14 hown hK hP hL_h0 hF0 rfl 1 (by decide) (hts _ kt_673) (fun _ h9 => h9) rfl dX14_is_4 ?_
  refine lv_icmp_eq (tgt := 12) hx hb dX14_is_7 (by decide) (fun c_7 => ?_) (fun c_7 => ?_)
  ·
    have htz := sub_eqN c_7 (by omega) (by omega) (by omega)
    refine lv_iconst (v := 0) hx hb dX14_is_12 (by decide) ?_
    refine lv_istore (lv' := [(4, .int 0), (0, .ref h0), (1, .ref g1), (2, .int (nI a)), (3, .int (nI tt))]) hx hb dX14_is_13 hl (by decide) rfl (fun ls hl => ?_)
    refine W.widen (k := 0) (n := 0) (by omega) (by omega) ?_
    refine pl_loopm (σ := Nat) A (dC, dI) cs ty gm L [] F 15 5 (fun j => [(4, .int (nI j)), (0, .ref h0), (1, .ref g1), (2, .int (nI a)), (3, .int (nI tt))]) (fun j => []) (fun j _ => j ≤ z ∧ ∀ i, i < j → gf i = hf (a + i)) (fun j => z - j) ?_ 0 F (⟨Nat.zero_le _, fun i hi => absurd hi (Nat.not_lt_zero _)⟩) hO hR _ _ hP hD hS ls (lv_sub hl [0, 1, 2, 3, 4] rfl)
    rintro j F_8 hv_9 hO hR ih_10 H locs hP hD hS ls hl
    have hl : lv_has ls 5 [(4, .int (nI j)), (0, .ref h0), (1, .ref g1), (2, .int (nI a)), (3, .int (nI tt))] := hl
    have hv_9 : j ≤ z ∧ ∀ i, i < j → gf i = hf (a + i) := hv_9
    refine W.eq (g2 := F0 m 15 ls []) rfl ?_
    obtain rfl : F = F_8 := (funext (fun a => hR a List.not_mem_nil)).symm
    obtain ⟨hv1, hv2⟩ := id hv_9
    refine lv_iload hx hb dX14_is_15 (lv_at hl 0 rfl) ?_
    refine lv_aload_n hx hb dX14_is_17 rfl (lv_at hl 1 rfl) ?_
    refine pg_get (ci := 14) (v := .int (nI z)) (C := RX14) (T := TX14) (N := 2) hx hb hts it_14 hown hK hP hL_h0 hF0 rfl 1 (by decide) (hts _ kt_673) (fun _ h9 => h9) rfl dX14_is_18 ?_
    refine lv_icmp_ge (tgt := 48) hx hb dX14_is_21 (by decide) (fun c_11 => ?_) (fun c_11 => ?_)
    ·
      have hi_12 : z ≤ j := leN (N := z) c_11
      refine lv_iconst (v := 1) hx hb dX14_is_48 (by decide) ?_
      refine W.widen (k := 0) (n := 0) (by omega) (by omega) ?_
      exact W.zret (v := 1) (ty := .boolean) hx hb hr (by decide) (fun t ht hWm => ⟨⟨1, (), rfl, (Or.inl ⟨rfl, htz, fun i hi => hv2 i (by omega)⟩), ⟨F, QTm.mk ht hP hD hO hR⟩⟩, hS.F ht⟩) hS.2.2 dX14_is_49
    ·
      have hi_13 : j < z := ltN (N := z) c_11
      refine lv_aload_n hx hb dX14_is_24 rfl (lv_at hl 1 rfl) ?_
      refine pg_get (ci := 14) (v := .ref r0) (C := RX14) (T := TX14) (N := 2) hx hb hts it_14 hown hK hP hL_h0 hF0 rfl 0 (by decide) (hts _ kt_672) (fun _ h9 => h9) rfl dX14_is_25 ?_
      refine lv_iload hx hb dX14_is_28 (lv_at hl 0 rfl) ?_
      obtain ⟨hq_14, hq_15⟩ := hW.octs hi_1 ht_2
      refine pg_bald hx hb hK hP hi_1 1 hFr0 rfl (vp_in_nI (by omega) (by omega)) dX14_is_30 ?_
      refine lv_topi (fun x_16 ex_16 => ?_)
      obtain rfl : x_16 = gf j := ex_16.trans (congrArg gf (show ((nI j) : Int32).toNatClampNeg = j from nI_clamp (by omega)))
      refine lv_aload_n hx hb dX14_is_31 rfl (lv_at hl 2 rfl) ?_
      refine lv_iload_n hx hb dX14_is_32 rfl (lv_at hl 3 rfl) ?_
      refine lv_iload hx hb dX14_is_33 (lv_at hl 0 rfl) ?_
      refine lv_iadd hx hb dX14_is_35 ?_
      refine lv_topi (fun x_17 ex_17 => ?_)
      obtain rfl : x_17 = (nI (a + j)) := ex_17.trans (nI_add a j)
      refine pg_bald hx hb hK hP hL_g1 1 hFg rfl (vp_in_nI (by omega) (by omega)) dX14_is_36 ?_
      refine lv_topi (fun x_18 ex_18 => ?_)
      obtain rfl : x_18 = hf (a + j) := ex_18.trans (congrArg hf (show ((nI (a + j)) : Int32).toNatClampNeg = (a + j) from nI_clamp (by omega)))
      refine lv_icmp_eq (tgt := 42) hx hb dX14_is_37 (by decide) (fun c_19 => ?_) (fun c_19 => ?_)
      ·
        refine lv_iinc (v := (nI (j + 1))) (lv' := [(4, .int (nI (j + 1))), (0, .ref h0), (1, .ref g1), (2, .int (nI a)), (3, .int (nI tt))]) hx hb dX14_is_42 hl (k := 0) rfl (nI_1 _) (by decide) rfl (fun ls hl => ?_)
        refine lv_goto (tgt := 15) hx hb dX14_is_45 (by decide) ?_
        refine W.widen (k := 0) (n := 0) (by omega) (by omega) ?_
        exact ih_10 (j + 1) F (⟨by omega, fun i hi => by rcases Nat.lt_or_ge i j with q | q; exact hv2 i q; rw [show i = j by omega]; exact c_19⟩) (by show z - (j + 1) < z - j; omega) hO hR _ _ hP hD hS ls (lv_sub hl [0, 1, 2, 3, 4] rfl)
      ·
        refine lv_iconst (v := 0) hx hb dX14_is_40 (by decide) ?_
        refine W.widen (k := 0) (n := 0) (by omega) (by omega) ?_
        exact W.zret (v := 0) (ty := .boolean) hx hb hr (by decide) (fun t ht hWm => ⟨⟨0, (), rfl, (Or.inr ⟨rfl, fun h => c_19 (h.2 j (by omega))⟩), ⟨F, QTm.mk ht hP hD hO hR⟩⟩, hS.F ht⟩) hS.2.2 dX14_is_41
  ·
    refine lv_iconst (v := 0) hx hb dX14_is_10 (by decide) ?_
    refine W.widen (k := 0) (n := 0) (by omega) (by omega) ?_
    exact W.zret (v := 0) (ty := .boolean) hx hb hr (by decide) (fun t ht hWm => ⟨⟨0, (), rfl, (Or.inr ⟨rfl, fun h => c_7 (by rw [h.1]; rw [pk_sub (by omega)]; congr 1; omega)⟩), ⟨F, QTm.mk ht hP hD hO hR⟩⟩, hS.F ht⟩) hS.2.2 dX14_is_11
set_option maxHeartbeats 4000000 in
set_option maxRecDepth 100000 in
theorem s_X14_is__x (l : Launch) (dC : Nat → ClassId) (dI : Nat → Nat → Nat) (cs : Nat → ClassId) (ty : TyM) (gm : Nat → Nat → Nat) (L : List Nat) (sz : Nat) (F : Nat → va_E) (h0 : Nat) (ρ : Nat) (r0 : Nat) (n : Nat) (g1 : Nat) (σ : Nat) (r1 : Nat) (n1 : Nat) (z : Nat) (y : Nat) (gf : Nat → Int32) (hf : Nat → Int32) (hW : WTm ty gm L) (hL_h0 : h0 ∈ L) (hT_h0 : ty h0 = (14, ρ, [r0, n])) (hL_g1 : g1 ∈ L) (hT_g1 : ty g1 = (14, σ, [r1, n1])) (hF0 : F h0 = .inr (14, [.ref r0, .int (nI z)])) (hFr0 : F r0 = .inl (cs 17, n, .inl gf)) (hF1 : F g1 = .inr (14, [.ref r1, .int (nI y)])) (hFr1 : F r1 = .inl (cs 17, n1, .inl hf)) (hzn : z ≤ n) (hyn : y ≤ n1) : Met l yX14_is_ (.code yX14_is_ cX14_is_ 2 (some .boolean) :: tb) ({ frames := 1, cells := 0, slots := 0, locals := 24 }) (va_Pc [.ref h0, .ref g1] (PTm (dC, dI) cs ty gm L F sz)) (va_Qi (fun (r : Int32) (_ : Unit) => ((r = 1 ∧ (z = y ∧ ∀ j, j < z → gf j = hf j)) ∨ (r = 0 ∧ ¬ (z = y ∧ ∀ j, j < z → gf j = hf j)))) (fun _ T9 => ∃ F2 : Nat → va_E, QTm (dC, dI) cs ty gm L [] F F2 (va_A (va_pl L F) sz) T9) (va_A (va_pl L F) sz)) 0 0 (va_A (va_pl L F) sz) := by
  refine Met.ofW (cc := cX14_is_) (maxL := 2) (ret := (some .boolean)) (by decide) rfl ?_
  intro p e s m args below meth c s₁ B hml hv
  obtain ⟨rfl, hsz, hP, hK, hD0, hE, hO⟩ := hv
  have hx := B.exec
  have hb := B.bytes
  have hr := B.returns
  have hts : ∀ w ∈ tb, w.before _ s = true := fun w h => atoms_spec (ws := .code yX14_is_ cX14_is_ 2 (some .boolean) :: tb) B.pre w (List.mem_cons_of_mem _ h)
  have hown : s.vm.findClass RX14 = some m.cls := findClass_of_methodNamed B.named
  have hlocks := B.notSynchronized
  subst hsz
  have hD := hD0.self (sz := s.heap.size)
  generalize hAe : va_A (va_pl L F) s.heap.size = A at hD ⊢
  have hA : ∀ q : Nat, s.heap.size ≤ q → A q := fun q h => by rw [← hAe]; exact Or.inr h
  have hS : va_S A s.heap s.heap [] := va_S.rf
  have hR : FR ty [] F F := FR.refl
  have hl := lv_entry ([.ref h0, .ref g1]) (n := 2) (Nat.le_of_ble_eq_true rfl)
  rw [lg_entry_eq]
  generalize (lg_sl ([.ref h0, .ref g1]) ++ List.replicate (2 - (lg_sl ([.ref h0, .ref g1])).length) Slot.unset).toArray = ls at hl ⊢
  have hl : lv_has ls 2 [(0, .ref h0), (1, .ref g1)] := hl
  obtain ⟨hi_1, ht_2, hq_3⟩ := hW.txt hL_h0 hT_h0
  obtain ⟨hi_4, ht_5, hq_6⟩ := hW.txt hL_g1 hT_g1
  refine lv_aload_n hx hb dX14_is__0 rfl (lv_at hl 0 rfl) ?_
  refine lv_aload_n hx hb dX14_is__1 rfl (lv_at hl 1 rfl) ?_
  refine pg_get (ci := 14) (v := .ref r1) (C := RX14) (T := TX14) (N := 2) hx hb hts it_14 hown hK hP hL_g1 hF1 rfl 0 (by decide) (hts _ kt_672) (fun _ h9 => h9) rfl dX14_is__2 ?_
  refine lv_iconst (v := 0) hx hb dX14_is__5 (by decide) ?_
  refine lv_aload_n hx hb dX14_is__6 rfl (lv_at hl 1 rfl) ?_
  refine pg_get (ci := 14) (v := .int (nI y)) (C := RX14) (T := TX14) (N := 2) hx hb hts it_14 hown hK hP hL_g1 hF1 rfl 1 (by decide) (hts _ kt_673) (fun _ h9 => h9) rfl dX14_is__7 ?_
  refine W.eq (g2 := F0 m 10 ls [.int (nI y), .int (nI 0), .ref r1, .ref h0]) rfl ?_
  obtain ⟨hq_7, hq_8⟩ := hW.octs hi_4 ht_5
  obtain ⟨hq_9, hq_10⟩ := hW.octs hi_1 ht_2
  have hFc := pg_free hD hS hA
  refine va_calli (va_runV (As := [.ref r1, .int (nI 0), .int (nI y)]) (rest := []) ⟨hx, hb, hml, hown, hts⟩ (s_X14_is_x l dC dI cs ty gm L s.heap.size F h0 ρ r0 n r1 σ n1 z 0 y gf hf hW hL_h0 hT_h0 hi_4 ht_5 hF0 hFr0 hFr1 (by first | omega | assumption | exact Or.inl rfl) (by omega) (by omega)) ⟨callB_of 3 hts (gi kt_680) rfl rfl rfl (hts _ kt_676) (hts _ kt_681) (by decide +kernel) ⟨Nat.le_of_ble_eq_true rfl, Nat.le_of_ble_eq_true rfl⟩, (hts _ kt_682), (hts _ kt_683)⟩ ⟨fun a U g mk q => ⟨q.1, PTm.calling q.2⟩, pg_recv hK hP hL_h0 hF0 (q := (RX14, TX14, 2)) rfl, fun U hU hWm => ⟨rfl, PTm.mk hU hWm hP hK hD hE hO⟩⟩ rfl rfl hl.1 rfl (lv_room (Nat.le_of_ble_eq_true rfl)) dX14_is__10 ⟨by show _ + 0 ≤ 0; omega, by show _ + 0 ≤ 0; omega⟩) hS (fun q _ h => hFc q h) hFc (fun r_11 u t H1 locs ht hvm hw hB hz1 hk1 hS => ?_)
  obtain ⟨F_12, hB1⟩ := hB
  obtain rfl : F = F_12 := (funext (fun a => hB1.2.2.2 a List.not_mem_nil)).symm
  obtain ⟨hP, hD, hO, hR⟩ := QTm.back hB1 ht hFc hR (fun q h => absurd h List.not_mem_nil)
  generalize H1 = H at hP hS ⊢
  have hw : ((r_11 = 1 ∧ (y = 0 + z ∧ ∀ j, j < z → gf j = hf (0 + j))) ∨ (r_11 = 0 ∧ ¬ (y = 0 + z ∧ ∀ j, j < z → gf j = hf (0 + j)))) := hw
  have hw_13 := hw
  refine W.widen (k := 0) (n := 0) (by omega) (by omega) ?_
  exact W.zret (v := r_11) (ty := .boolean) hx hb hr (bitN (by rcases hw_13 with q | q; exact Or.inr q.1; exact Or.inl q.1)) (fun t ht hWm => ⟨⟨r_11, (), rfl, (hw_13.imp (fun q => ⟨q.1, by have h9 := q.2.1; omega, fun j hj => (q.2.2 j hj).trans (by rw [Nat.zero_add])⟩) (fun q => ⟨q.1, fun q2 => q.2 ⟨by have h9 := q2.1; omega, fun j hj => (q2.2 j hj).trans (by rw [Nat.zero_add])⟩⟩)), ⟨F, QTm.mk ht hP hD hO hR⟩⟩, hS.F ht⟩) hS.2.2 dX14_is__13
set_option maxHeartbeats 4000000 in
set_option maxRecDepth 100000 in
theorem s_X15_isOf_x (l : Launch) (dC : Nat → ClassId) (dI : Nat → Nat → Nat) (cs : Nat → ClassId) (ty : TyM) (gm : Nat → Nat → Nat) (L : List Nat) (sz : Nat) (F : Nat → va_E) (h0 : Nat) (ρ : Nat) (ta : Nat) (ou : Nat) (so : Nat) (ad : Nat) (na : Nat) (va : Nat) (lc : Nat) (dm : Nat) (tg : Nat) (pe : Nat) (ml : Nat) (bg : Nat) (co : Nat) (sp : Nat) (nb0 : Nat) (nb1 : Nat) (nb2 : Nat) (pl : Nat) (se : Nat) (ke : Nat) (wi : Nat) (hs : Nat) (mo : Nat) (po : Nat) (nu : Nat) (pr : Nat) (sq : Nat) (xa : Nat) (sa : Nat) (n64 : Nat) (m64 : Nat) (ex : Nat) (wh : Nat) (sd : Nat) (tk : Nat) (hd : Nat) (ak : Nat) (ho : Nat) (ot : Nat) (sx : Nat) (s0 : Nat) (s1 : Nat) (s2 : Nat) (nf : Nat) (bd : Nat) (mm : Nat) (zo : Nat) (fm : Nat) (sn : Nat) (hg : Nat) (gc : Nat) (gv : Nat) (ze : Nat) (zt : Nat) (jk : Nat) (g1 : Nat) (σ : Nat) (r1 : Nat) (n1 : Nat) (y : Nat) (hf : Nat → Int32) (U : List Nat) (D : Nat → ETY) (x2 : Int32) (hW : WTm ty gm L) (hL_h0 : h0 ∈ L) (hT_h0 : ty h0 = (15, ρ, [ta, ou, so, ad, na, va, lc, dm, tg, pe, ml, bg, co, sp, nb0, nb1, nb2, pl, se, ke, wi, hs, mo, po, nu, pr, sq, xa, sa, n64, m64, ex, wh, sd, tk, hd, ak, ho, ot, sx, s0, s1, s2, nf, bd, mm, zo, fm, sn, hg, gc, gv, ze, zt])) (hL_g1 : g1 ∈ L) (hT_g1 : ty g1 = (14, σ, [r1, n1])) (hF1 : F g1 = .inr (14, [.ref r1, .int (nI y)])) (hFr1 : F r1 = .inl (cs 17, n1, .inl hf)) (hyn : y ≤ n1) (hTU : TGM U y hf) (hjk : jk < ze) (hDM : DIRM cs F so ad na va ze D) : Met l yX15_isOf (.code yX15_isOf cX15_isOf 4 (some .boolean) :: tb) ({ frames := 2, cells := 0, slots := 0, locals := 45 }) (va_Pc [.ref h0, .int (nI jk), .int x2, .ref g1] (PTm (dC, dI) cs ty gm L F sz)) (va_Qi (fun (r : Int32) (_ : Unit) => ((r = 1 ∧ ((D jk).1 = x2 ∧ SAMN (D jk) (ooU U) (yU U) (faU U))) ∨ (r = 0 ∧ ¬ ((D jk).1 = x2 ∧ SAMN (D jk) (ooU U) (yU U) (faU U))))) (fun _ T9 => ∃ F2 : Nat → va_E, QTm (dC, dI) cs ty gm L [] F F2 (va_A (va_pl L F) sz) T9) (va_A (va_pl L F) sz)) 0 0 (va_A (va_pl L F) sz) := by
  refine Met.ofW (cc := cX15_isOf) (maxL := 4) (ret := (some .boolean)) (by decide) rfl ?_
  intro p e s m args below meth c s₁ B hml hv
  obtain ⟨rfl, hsz, hP, hK, hD0, hE, hO⟩ := hv
  have hx := B.exec
  have hb := B.bytes
  have hr := B.returns
  have hts : ∀ w ∈ tb, w.before _ s = true := fun w h => atoms_spec (ws := .code yX15_isOf cX15_isOf 4 (some .boolean) :: tb) B.pre w (List.mem_cons_of_mem _ h)
  have hown : s.vm.findClass RX15 = some m.cls := findClass_of_methodNamed B.named
  have hlocks := B.notSynchronized
  subst hsz
  have hD := hD0.self (sz := s.heap.size)
  generalize hAe : va_A (va_pl L F) s.heap.size = A at hD ⊢
  have hA : ∀ q : Nat, s.heap.size ≤ q → A q := fun q h => by rw [← hAe]; exact Or.inr h
  have hS : va_S A s.heap s.heap [] := va_S.rf
  have hR : FR ty [] F F := FR.refl
  have hl := lv_entry ([.ref h0, .int (nI jk), .int x2, .ref g1]) (n := 4) (Nat.le_of_ble_eq_true rfl)
  rw [lg_entry_eq]
  generalize (lg_sl ([.ref h0, .int (nI jk), .int x2, .ref g1]) ++ List.replicate (4 - (lg_sl ([.ref h0, .int (nI jk), .int x2, .ref g1])).length) Slot.unset).toArray = ls at hl ⊢
  have hl : lv_has ls 4 [(0, .ref h0), (1, .int (nI jk)), (2, .int x2), (3, .ref g1)] := hl
  obtain ⟨hq_23, hq_24, hq_25, hq_26, hq_27, hgO, hgA, hgB, hq_28⟩ := hW.sc hL_h0 hT_h0
  obtain ⟨v14_29, v15_30, v17_31, v18_32, v19_33, v20_34, v21_35, v22_36, v33_37, v52_38, v53_39, v54_40, hF_41, hq_42, hq_43, hq_44, hq_45, hq_46⟩ := hO.mod hL_h0 hT_h0
  obtain ⟨hi_47, ht_48, hq_49⟩ := hW.txt hL_g1 hT_g1
  obtain ⟨fs, fd, fn, fv, hd1, hd2, hd3, hd4, hd5⟩ := id hDM
  obtain ⟨hi_50, ht_51⟩ := hW.f_na hL_h0 hT_h0
  obtain ⟨f_52, hF_53, hq_54⟩ := hO.rtxj hi_50 ht_51
  obtain rfl : f_52 = fn := by have e9 := hF_53.symm.trans hd3; simpa using e9
  obtain ⟨hi_55, ht_56⟩ := hW.f_va hL_h0 hT_h0
  obtain ⟨f_57, hF_58, hq_59⟩ := hO.rtxj hi_55 ht_56
  obtain rfl : f_57 = fv := by have e9 := hF_58.symm.trans hd4; simpa using e9
  refine lv_aload_n hx hb dX15_isOf_0 rfl (lv_at hl 0 rfl) ?_
  refine pg_get (ci := 15) (v := .ref so) (C := RX15) (T := TX15) (N := 59) hx hb hts it_15 hown hK hP hL_h0 hF_41 rfl 5 (by decide) (hts _ kt_718) (fun _ h9 => h9) rfl dX15_isOf_1 ?_
  refine lv_iload_n hx hb dX15_isOf_4 rfl (lv_at hl 1 rfl) ?_
  obtain ⟨hi_60, ht_61⟩ := hW.f_so hL_h0 hT_h0
  obtain ⟨hq_62, hq_63⟩ := hW.ints hi_60 ht_61
  refine pg_iald hx hb hK hP hi_60 0 hd1 rfl (vp_in_nI (by omega) (by omega)) dX15_isOf_5 ?_
  refine lv_topi (fun x_64 ex_64 => ?_)
  obtain rfl : x_64 = (D jk).1 := ex_64.trans ((congrArg fs (nI_clamp (by omega))).trans (hd5 jk hjk).1)
  refine lv_iload_n hx hb dX15_isOf_6 rfl (lv_at hl 2 rfl) ?_
  refine lv_icmp_ne (tgt := 27) hx hb dX15_isOf_7 (by decide) (fun c_65 => ?_) (fun c_65 => ?_)
  ·
    refine lv_iconst (v := 0) hx hb dX15_isOf_27 (by decide) ?_
    refine W.widen (k := 0) (n := 0) (by omega) (by omega) ?_
    exact W.zret (v := 0) (ty := .boolean) hx hb hr (by decide) (fun t ht hWm => ⟨⟨0, (), rfl, (Or.inr ⟨rfl, fun q => c_65 q.1⟩), ⟨F, QTm.mk ht hP hD hO hR⟩⟩, hS.F ht⟩) hS.2.2 dX15_isOf_28
  ·
    refine lv_aload_n hx hb dX15_isOf_10 rfl (lv_at hl 0 rfl) ?_
    refine pg_get (ci := 15) (v := .ref na) (C := RX15) (T := TX15) (N := 59) hx hb hts it_15 hown hK hP hL_h0 hF_41 rfl 7 (by decide) (hts _ kt_719) (fun _ h9 => h9) rfl dX15_isOf_11 ?_
    refine lv_iload_n hx hb dX15_isOf_14 rfl (lv_at hl 1 rfl) ?_
    obtain ⟨b_66, r_67, hbf_68, hi_69, ht_70⟩ := hq_54 jk (by omega)
    refine pg_aald (r := b_66) hx hb hK hP hi_50 7 hF_53 rfl (vp_in_nI (by omega) (by omega)) (show f_52 ((nI jk) : Int32).toNatClampNeg = _ from by rw [show ((nI jk) : Int32) = nI jk from rfl, nI_clamp (by omega)]; exact hbf_68) dX15_isOf_15 ?_
    refine lv_aload_n hx hb dX15_isOf_16 rfl (lv_at hl 3 rfl) ?_
    obtain ⟨hen0a, hen0b, hen0c⟩ := ENM.get (hd5 jk hjk).2.2.1 hbf_68 hO hi_69 ht_70
    obtain ⟨hi_71, ht_72, hq_73⟩ := hW.txt hi_69 ht_70
    obtain ⟨hq_74, hq_75⟩ := hW.octs hi_71 ht_72
    obtain ⟨hq_76, hq_77⟩ := hW.octs hi_47 ht_48
    have hFc := pg_free hD hS hA
    refine va_calli (va_runV (As := [.ref g1]) (rest := []) ⟨hx, hb, hml, hown, hts⟩ (s_X14_is__x l dC dI cs ty gm L s.heap.size F b_66 (ρ + 4 + jk + 100) r_67 60 g1 σ r1 n1 ((D jk).2.2.1) y ((D jk).2.2.2.1) hf hW hi_69 ht_70 hL_g1 hT_g1 hen0a hen0b hF1 hFr1 (hen0c) (hyn)) ⟨callB_of 1 hts (gi kt_720) rfl rfl rfl (hts _ kt_676) (hts _ kt_721) (by decide +kernel) ⟨Nat.le_of_ble_eq_true rfl, Nat.le_of_ble_eq_true rfl⟩, (hts _ kt_722), (hts _ kt_723)⟩ ⟨fun a U g mk q => ⟨q.1, PTm.calling q.2⟩, pg_recv hK hP hi_69 hen0a (q := (RX14, TX14, 2)) rfl, fun U hU hWm => ⟨rfl, PTm.mk hU hWm hP hK hD hE hO⟩⟩ rfl rfl hl.1 rfl (lv_room (Nat.le_of_ble_eq_true rfl)) dX15_isOf_17 ⟨by show _ + 0 ≤ 0; omega, by show _ + 0 ≤ 0; omega⟩) hS (fun q _ h => hFc q h) hFc (fun r_78 u t H1 locs ht hvm hw hB hz1 hk1 hS => ?_)
    obtain ⟨F_79, hB1⟩ := hB
    obtain rfl : F = F_79 := (funext (fun a => hB1.2.2.2 a List.not_mem_nil)).symm
    obtain ⟨hP, hD, hO, hR⟩ := QTm.back hB1 ht hFc hR (fun q h => absurd h List.not_mem_nil)
    generalize H1 = H at hP hS ⊢
    have hw : ((r_78 = 1 ∧ ((D jk).2.2.1 = y ∧ ∀ j, j < (D jk).2.2.1 → (D jk).2.2.2.1 j = hf j)) ∨ (r_78 = 0 ∧ ¬ ((D jk).2.2.1 = y ∧ ∀ j, j < (D jk).2.2.1 → (D jk).2.2.2.1 j = hf j))) := hw
    have hw_80 := hw
    refine lv_if_eq (tgt := 27) hx hb dX15_isOf_20 (by decide) (fun c_81 => ?_) (fun c_81 => ?_)
    ·
      refine lv_iconst (v := 0) hx hb dX15_isOf_27 (by decide) ?_
      refine W.widen (k := 0) (n := 0) (by omega) (by omega) ?_
      exact W.zret (v := 0) (ty := .boolean) hx hb hr (by decide) (fun t ht hWm => ⟨⟨0, (), rfl, (Or.inr ⟨rfl, fun q => orp0 hw_80 c_81 ((sam_m hTU hen0c).mpr q.2)⟩), ⟨F, QTm.mk ht hP hD hO hR⟩⟩, hS.F ht⟩) hS.2.2 dX15_isOf_28
    ·
      refine lv_iconst (v := 1) hx hb dX15_isOf_23 (by decide) ?_
      refine lv_goto (tgt := 28) hx hb dX15_isOf_24 (by decide) ?_
      refine W.widen (k := 0) (n := 0) (by omega) (by omega) ?_
      exact W.zret (v := 1) (ty := .boolean) hx hb hr (by decide) (fun t ht hWm => ⟨⟨1, (), rfl, (Or.inl ⟨rfl, c_65, (sam_m hTU hen0c).mp (orp1 hw_80 c_81)⟩), ⟨F, QTm.mk ht hP hD hO hR⟩⟩, hS.F ht⟩) hS.2.2 dX15_isOf_28
set_option maxHeartbeats 4000000 in
set_option maxRecDepth 100000 in
theorem s_X15_isTrouble_x (l : Launch) (dC : Nat → ClassId) (dI : Nat → Nat → Nat) (cs : Nat → ClassId) (ty : TyM) (gm : Nat → Nat → Nat) (L : List Nat) (sz : Nat) (F : Nat → va_E) (h0 : Nat) (ρ : Nat) (ta : Nat) (ou : Nat) (so : Nat) (ad : Nat) (na : Nat) (va : Nat) (lc : Nat) (dm : Nat) (tg : Nat) (pe : Nat) (ml : Nat) (bg : Nat) (co : Nat) (sp : Nat) (nb0 : Nat) (nb1 : Nat) (nb2 : Nat) (pl : Nat) (se : Nat) (ke : Nat) (wi : Nat) (hs : Nat) (mo : Nat) (po : Nat) (nu : Nat) (pr : Nat) (sq : Nat) (xa : Nat) (sa : Nat) (n64 : Nat) (m64 : Nat) (ex : Nat) (wh : Nat) (sd : Nat) (tk : Nat) (hd : Nat) (ak : Nat) (ho : Nat) (ot : Nat) (sx : Nat) (s0 : Nat) (s1 : Nat) (s2 : Nat) (nf : Nat) (bd : Nat) (mm : Nat) (zo : Nat) (fm : Nat) (sn : Nat) (hg : Nat) (gc : Nat) (gv : Nat) (ze : Nat) (zt : Nat) (g1 : Nat) (σ : Nat) (r1 : Nat) (n1 : Nat) (y : Nat) (hf : Nat → Int32) (U : List Nat) (D : Nat → ETY) (hW : WTm ty gm L) (hL_h0 : h0 ∈ L) (hT_h0 : ty h0 = (15, ρ, [ta, ou, so, ad, na, va, lc, dm, tg, pe, ml, bg, co, sp, nb0, nb1, nb2, pl, se, ke, wi, hs, mo, po, nu, pr, sq, xa, sa, n64, m64, ex, wh, sd, tk, hd, ak, ho, ot, sx, s0, s1, s2, nf, bd, mm, zo, fm, sn, hg, gc, gv, ze, zt])) (hL_g1 : g1 ∈ L) (hT_g1 : ty g1 = (14, σ, [r1, n1])) (hF1 : F g1 = .inr (14, [.ref r1, .int (nI y)])) (hFr1 : F r1 = .inl (cs 17, n1, .inl hf)) (hyn : y ≤ n1) (hTU : TGM U y hf) (hDM : DIRM cs F so ad na va ze D) : Met l yX15_isTrouble (.code yX15_isTrouble cX15_isTrouble 3 (some .boolean) :: tb) ({ frames := 3, cells := 0, slots := 0, locals := 68 }) (va_Pc [.ref h0, .ref g1] (PTm (dC, dI) cs ty gm L F sz)) (va_Qi (fun (r : Int32) (_ : Unit) => ((r = 1 ∧ HAS D ze 3 (ooU U) (yU U) (faU U)) ∨ (r = 0 ∧ ¬ HAS D ze 3 (ooU U) (yU U) (faU U)))) (fun _ T9 => ∃ F2 : Nat → va_E, QTm (dC, dI) cs ty gm L [] F F2 (va_A (va_pl L F) sz) T9) (va_A (va_pl L F) sz)) 0 0 (va_A (va_pl L F) sz) := by
  refine Met.ofW (cc := cX15_isTrouble) (maxL := 3) (ret := (some .boolean)) (by decide) rfl ?_
  intro p e s m args below meth c s₁ B hml hv
  obtain ⟨rfl, hsz, hP, hK, hD0, hE, hO⟩ := hv
  have hx := B.exec
  have hb := B.bytes
  have hr := B.returns
  have hts : ∀ w ∈ tb, w.before _ s = true := fun w h => atoms_spec (ws := .code yX15_isTrouble cX15_isTrouble 3 (some .boolean) :: tb) B.pre w (List.mem_cons_of_mem _ h)
  have hown : s.vm.findClass RX15 = some m.cls := findClass_of_methodNamed B.named
  have hlocks := B.notSynchronized
  subst hsz
  have hD := hD0.self (sz := s.heap.size)
  generalize hAe : va_A (va_pl L F) s.heap.size = A at hD ⊢
  have hA : ∀ q : Nat, s.heap.size ≤ q → A q := fun q h => by rw [← hAe]; exact Or.inr h
  have hS : va_S A s.heap s.heap [] := va_S.rf
  have hR : FR ty [] F F := FR.refl
  have hl := lv_entry ([.ref h0, .ref g1]) (n := 3) (Nat.le_of_ble_eq_true rfl)
  rw [lg_entry_eq]
  generalize (lg_sl ([.ref h0, .ref g1]) ++ List.replicate (3 - (lg_sl ([.ref h0, .ref g1])).length) Slot.unset).toArray = ls at hl ⊢
  have hl : lv_has ls 3 [(0, .ref h0), (1, .ref g1)] := hl
  obtain ⟨hq_23, hq_24, hq_25, hq_26, hq_27, hgO, hgA, hgB, hq_28⟩ := hW.sc hL_h0 hT_h0
  obtain ⟨v14_29, v15_30, v17_31, v18_32, v19_33, v20_34, v21_35, v22_36, v33_37, v52_38, v53_39, v54_40, hF_41, hq_42, hq_43, hq_44, hq_45, hq_46⟩ := hO.mod hL_h0 hT_h0
  obtain ⟨hi_47, ht_48, hq_49⟩ := hW.txt hL_g1 hT_g1
  refine lv_iconst (v := 0) hx hb dX15_isTrouble_0 (by decide) ?_
  refine lv_istore_n (lv' := [(2, .int 0), (0, .ref h0), (1, .ref g1)]) hx hb dX15_isTrouble_1 rfl hl (by decide) rfl (fun ls hl => ?_)
  refine W.widen (k := 0) (n := 0) (by omega) (by omega) ?_
  refine pl_loopm (σ := Nat) A (dC, dI) cs ty gm L [] F 2 3 (fun j => [(2, .int (nI j)), (0, .ref h0), (1, .ref g1)]) (fun j => []) (fun j _ => j ≤ ze ∧ ¬ HAS D j 3 (ooU U) (yU U) (faU U)) (fun j => ze - j) ?_ 0 F (⟨Nat.zero_le _, fun q => by obtain ⟨k, hk, -⟩ := q; omega⟩) hO hR _ _ hP hD hS ls (lv_sub hl [0, 1, 2] rfl)
  rintro j F_50 hv_51 hO hR ih_52 H locs hP hD hS ls hl
  have hl : lv_has ls 3 [(2, .int (nI j)), (0, .ref h0), (1, .ref g1)] := hl
  have hv_51 : j ≤ ze ∧ ¬ HAS D j 3 (ooU U) (yU U) (faU U) := hv_51
  refine W.eq (g2 := F0 m 2 ls []) rfl ?_
  obtain rfl : F = F_50 := (funext (fun a => hR a List.not_mem_nil)).symm
  obtain ⟨hv1, hv2⟩ := id hv_51
  refine lv_iload_n hx hb dX15_isTrouble_2 rfl (lv_at hl 0 rfl) ?_
  refine lv_aload_n hx hb dX15_isTrouble_3 rfl (lv_at hl 1 rfl) ?_
  refine pg_get (ci := 15) (v := .int (nI ze)) (C := RX15) (T := TX15) (N := 59) hx hb hts it_15 hown hK hP hL_h0 hF_41 rfl 3 (by decide) (hts _ kt_724) (fun _ h9 => h9) rfl dX15_isTrouble_4 ?_
  refine lv_icmp_ge (tgt := 28) hx hb dX15_isTrouble_7 (by decide) (fun c_53 => ?_) (fun c_53 => ?_)
  ·
    have hi_54 : ze ≤ j := leN (N := ze) c_53
    refine lv_iconst (v := 0) hx hb dX15_isTrouble_28 (by decide) ?_
    refine W.widen (k := 0) (n := 0) (by omega) (by omega) ?_
    exact W.zret (v := 0) (ty := .boolean) hx hb hr (by decide) (fun t ht hWm => ⟨⟨0, (), rfl, (Or.inr ⟨rfl, by rw [show ze = j by omega]; exact hv2⟩), ⟨F, QTm.mk ht hP hD hO hR⟩⟩, hS.F ht⟩) hS.2.2 dX15_isTrouble_29
  ·
    have hi_55 : j < ze := ltN (N := ze) c_53
    refine lv_aload_n hx hb dX15_isTrouble_10 rfl (lv_at hl 1 rfl) ?_
    refine lv_iload_n hx hb dX15_isTrouble_11 rfl (lv_at hl 0 rfl) ?_
    refine lv_iconst (v := 3) hx hb dX15_isTrouble_12 (by decide) ?_
    refine lv_aload_n hx hb dX15_isTrouble_13 rfl (lv_at hl 2 rfl) ?_
    obtain ⟨hq_56, hq_57⟩ := hW.octs hi_47 ht_48
    have hFc := pg_free hD hS hA
    refine va_calli (va_runV (As := [.int (nI j), .int 3, .ref g1]) (rest := []) ⟨hx, hb, hml, hown, hts⟩ (s_X15_isOf_x l dC dI cs ty gm L H.size F h0 ρ ta ou so ad na va lc dm tg pe ml bg co sp nb0 nb1 nb2 pl se ke wi hs mo po nu pr sq xa sa n64 m64 ex wh sd tk hd ak ho ot sx s0 s1 s2 nf bd mm zo fm sn hg gc gv ze zt j g1 σ r1 n1 y hf U D 3 hW hL_h0 hT_h0 hL_g1 hT_g1 hF1 hFr1 (hyn) (hTU) (by omega) (hDM)) ⟨callB_of 3 hts (gi kt_725) rfl rfl rfl (hts _ kt_669) (hts _ kt_726) (by decide +kernel) ⟨Nat.le_of_ble_eq_true rfl, Nat.le_of_ble_eq_true rfl⟩, (hts _ kt_727), (hts _ kt_728)⟩ ⟨fun a U g mk q => ⟨q.1, PTm.calling q.2⟩, pg_recv hK hP hL_h0 hF_41 (q := (RX15, TX15, 59)) rfl, fun U hU hWm => ⟨rfl, PTm.mk hU hWm hP hK hD hE hO⟩⟩ rfl rfl hl.1 rfl (lv_room (Nat.le_of_ble_eq_true rfl)) dX15_isTrouble_14 ⟨by show _ + 0 ≤ 0; omega, by show _ + 0 ≤ 0; omega⟩) hS (fun q _ h => hFc q h) hFc (fun r_58 u t H1 locs ht hvm hw hB hz1 hk1 hS => ?_)
    obtain ⟨F_59, hB1⟩ := hB
    obtain rfl : F = F_59 := (funext (fun a => hB1.2.2.2 a List.not_mem_nil)).symm
    obtain ⟨hP, hD, hO, hR⟩ := QTm.back hB1 ht hFc hR (fun q h => absurd h List.not_mem_nil)
    generalize H1 = H at hP hS ⊢
    have hw : ((r_58 = 1 ∧ ((D j).1 = 3 ∧ SAMN (D j) (ooU U) (yU U) (faU U))) ∨ (r_58 = 0 ∧ ¬ ((D j).1 = 3 ∧ SAMN (D j) (ooU U) (yU U) (faU U)))) := hw
    have hw_60 := hw
    refine lv_if_eq (tgt := 22) hx hb dX15_isTrouble_17 (by decide) (fun c_61 => ?_) (fun c_61 => ?_)
    ·
      refine lv_iinc (v := (nI (j + 1))) (lv' := [(2, .int (nI (j + 1))), (0, .ref h0), (1, .ref g1)]) hx hb dX15_isTrouble_22 hl (k := 0) rfl (nI_1 _) (by decide) rfl (fun ls hl => ?_)
      refine lv_goto (tgt := 2) hx hb dX15_isTrouble_25 (by decide) ?_
      refine W.widen (k := 0) (n := 0) (by omega) (by omega) ?_
      exact ih_52 (j + 1) F (⟨by omega, has_s hv2 (orp0 hw_60 c_61)⟩) (by show ze - (j + 1) < ze - j; omega) hO hR _ _ hP hD hS ls (lv_sub hl [0, 1, 2] rfl)
    ·
      refine lv_iconst (v := 1) hx hb dX15_isTrouble_20 (by decide) ?_
      refine W.widen (k := 0) (n := 0) (by omega) (by omega) ?_
      exact W.zret (v := 1) (ty := .boolean) hx hb hr (by decide) (fun t ht hWm => ⟨⟨1, (), rfl, (Or.inl ⟨rfl, j, by omega, orp1 hw_60 c_61⟩), ⟨F, QTm.mk ht hP hD hO hR⟩⟩, hS.F ht⟩) hS.2.2 dX15_isTrouble_21
set_option maxHeartbeats 4000000 in
set_option maxRecDepth 100000 in
theorem s_X15_isSender_x (l : Launch) (dC : Nat → ClassId) (dI : Nat → Nat → Nat) (cs : Nat → ClassId) (ty : TyM) (gm : Nat → Nat → Nat) (L : List Nat) (sz : Nat) (F : Nat → va_E) (h0 : Nat) (ρ : Nat) (ta : Nat) (ou : Nat) (so : Nat) (ad : Nat) (na : Nat) (va : Nat) (lc : Nat) (dm : Nat) (tg : Nat) (pe : Nat) (ml : Nat) (bg : Nat) (co : Nat) (sp : Nat) (nb0 : Nat) (nb1 : Nat) (nb2 : Nat) (pl : Nat) (se : Nat) (ke : Nat) (wi : Nat) (hs : Nat) (mo : Nat) (po : Nat) (nu : Nat) (pr : Nat) (sq : Nat) (xa : Nat) (sa : Nat) (n64 : Nat) (m64 : Nat) (ex : Nat) (wh : Nat) (sd : Nat) (tk : Nat) (hd : Nat) (ak : Nat) (ho : Nat) (ot : Nat) (sx : Nat) (s0 : Nat) (s1 : Nat) (s2 : Nat) (nf : Nat) (bd : Nat) (mm : Nat) (zo : Nat) (fm : Nat) (sn : Nat) (hg : Nat) (gc : Nat) (gv : Nat) (ze : Nat) (zt : Nat) (x1 : Int32) (w : Nat) (hW : WTm ty gm L) (hL_h0 : h0 ∈ L) (hT_h0 : ty h0 = (15, ρ, [ta, ou, so, ad, na, va, lc, dm, tg, pe, ml, bg, co, sp, nb0, nb1, nb2, pl, se, ke, wi, hs, mo, po, nu, pr, sq, xa, sa, n64, m64, ex, wh, sd, tk, hd, ak, ho, ot, sx, s0, s1, s2, nf, bd, mm, zo, fm, sn, hg, gc, gv, ze, zt])) (hw9 : w ≤ 32) : Met l yX15_isSender (.code yX15_isSender cX15_isSender 3 (some .boolean) :: tb) ({ frames := 0, cells := 0, slots := 0, locals := 0 }) (va_Pc [.ref h0, .int x1, .int (nI w)] (PTm (dC, dI) cs ty gm L F sz)) (va_Qi (fun (r : Int32) (_ : Unit) => ((r = 1 ∧ SNE x1 (nI fm) w) ∨ (r = 0 ∧ ¬ SNE x1 (nI fm) w))) (fun _ T9 => ∃ F2 : Nat → va_E, QTm (dC, dI) cs ty gm L [] F F2 (va_A (va_pl L F) sz) T9) (va_A (va_pl L F) sz)) 0 0 (va_A (va_pl L F) sz) := by
  refine Met.ofW (cc := cX15_isSender) (maxL := 3) (ret := (some .boolean)) (by decide) rfl ?_
  intro p e s m args below meth c s₁ B hml hv
  obtain ⟨rfl, hsz, hP, hK, hD0, hE, hO⟩ := hv
  have hx := B.exec
  have hb := B.bytes
  have hr := B.returns
  have hts : ∀ w ∈ tb, w.before _ s = true := fun w h => atoms_spec (ws := .code yX15_isSender cX15_isSender 3 (some .boolean) :: tb) B.pre w (List.mem_cons_of_mem _ h)
  have hown : s.vm.findClass RX15 = some m.cls := findClass_of_methodNamed B.named
  have hlocks := B.notSynchronized
  subst hsz
  have hD := hD0.self (sz := s.heap.size)
  generalize hAe : va_A (va_pl L F) s.heap.size = A at hD ⊢
  have hA : ∀ q : Nat, s.heap.size ≤ q → A q := fun q h => by rw [← hAe]; exact Or.inr h
  have hS : va_S A s.heap s.heap [] := va_S.rf
  have hR : FR ty [] F F := FR.refl
  have hl := lv_entry ([.ref h0, .int x1, .int (nI w)]) (n := 3) (Nat.le_of_ble_eq_true rfl)
  rw [lg_entry_eq]
  generalize (lg_sl ([.ref h0, .int x1, .int (nI w)]) ++ List.replicate (3 - (lg_sl ([.ref h0, .int x1, .int (nI w)])).length) Slot.unset).toArray = ls at hl ⊢
  have hl : lv_has ls 3 [(0, .ref h0), (1, .int x1), (2, .int (nI w))] := hl
  obtain ⟨hq_23, hq_24, hq_25, hq_26, hq_27, hgO, hgA, hgB, hq_28⟩ := hW.sc hL_h0 hT_h0
  obtain ⟨v14_29, v15_30, v17_31, v18_32, v19_33, v20_34, v21_35, v22_36, v33_37, v52_38, v53_39, v54_40, hF_41, hq_42, hq_43, hq_44, hq_45, hq_46⟩ := hO.mod hL_h0 hT_h0
  refine lv_iload_n hx hb dX15_isSender_0 rfl (lv_at hl 2 rfl) ?_
  refine lv_if_eq (tgt := 18) hx hb dX15_isSender_1 (by decide) (fun c_47 => ?_) (fun c_47 => ?_)
  ·
    have hi_48 : w = 0 := (nI_eq (a := w) (b := 0) (by omega) (by omega)).mp c_47
    refine lv_iconst (v := 1) hx hb dX15_isSender_18 (by decide) ?_
    refine lv_goto (tgt := 23) hx hb dX15_isSender_19 (by decide) ?_
    refine W.widen (k := 0) (n := 0) (by omega) (by omega) ?_
    exact W.zret (v := 1) (ty := .boolean) hx hb hr (by decide) (fun t ht hWm => ⟨⟨1, (), rfl, (Or.inl ⟨rfl, Or.inl ((nI_eq (b := 0) (by omega) (by omega)).mp c_47)⟩), ⟨F, QTm.mk ht hP hD hO hR⟩⟩, hS.F ht⟩) hS.2.2 dX15_isSender_23
  ·
    have hi_49 : w ≠ 0 := fun q => c_47 (by rw [q]; rfl)
    refine lv_iload_n hx hb dX15_isSender_4 rfl (lv_at hl 1 rfl) ?_
    refine lv_aload_n hx hb dX15_isSender_5 rfl (lv_at hl 0 rfl) ?_
    refine pg_get (ci := 15) (v := .int (nI fm)) (C := RX15) (T := TX15) (N := 59) hx hb hts it_15 hown hK hP hL_h0 hF_41 rfl 11 (by decide) (hts _ kt_729) (fun _ h9 => h9) rfl dX15_isSender_6 ?_
    refine lv_ixor hx hb dX15_isSender_9 ?_
    refine lv_topi (fun x_50 ex_50 => ?_)
    obtain rfl : x_50 = (x1 ^^^ nI fm) := ex_50.trans (rfl)
    refine lv_bipush (v := 32) hx hb dX15_isSender_10 (by decide) ?_
    refine lv_iload_n hx hb dX15_isSender_12 rfl (lv_at hl 2 rfl) ?_
    refine lv_isub hx hb dX15_isSender_13 ?_
    refine lv_topi (fun x_51 ex_51 => ?_)
    obtain rfl : x_51 = (nI (32 - w)) := ex_51.trans (pk_sub (a := 32) (by omega))
    refine lv_iushr hx hb dX15_isSender_14 rfl ?_
    refine lv_topi (fun x_53 ex_53 => ?_)
    obtain rfl : x_53 = (usn (x1 ^^^ nI fm) (nI (32 - w))) := ex_53.trans (rfl)
    refine lv_if_ne (tgt := 22) hx hb dX15_isSender_15 (by decide) (fun c_54 => ?_) (fun c_54 => ?_)
    ·
      refine lv_iconst (v := 0) hx hb dX15_isSender_22 (by decide) ?_
      refine W.widen (k := 0) (n := 0) (by omega) (by omega) ?_
      exact W.zret (v := 0) (ty := .boolean) hx hb hr (by decide) (fun t ht hWm => ⟨⟨0, (), rfl, (Or.inr ⟨rfl, fun q => q.elim (fun q2 => c_47 (by rw [q2]; rfl)) c_54⟩), ⟨F, QTm.mk ht hP hD hO hR⟩⟩, hS.F ht⟩) hS.2.2 dX15_isSender_23
    ·
      refine lv_iconst (v := 1) hx hb dX15_isSender_18 (by decide) ?_
      refine lv_goto (tgt := 23) hx hb dX15_isSender_19 (by decide) ?_
      refine W.widen (k := 0) (n := 0) (by omega) (by omega) ?_
      exact W.zret (v := 1) (ty := .boolean) hx hb hr (by decide) (fun t ht hWm => ⟨⟨1, (), rfl, (Or.inl ⟨rfl, Or.inr c_54⟩), ⟨F, QTm.mk ht hP hD hO hR⟩⟩, hS.F ht⟩) hS.2.2 dX15_isSender_23
