def nb9 (x : Int32) : Int32 := vp_nar .byte (x.toInt8.toInt32)
def BYQ (x : Int32) : Prop := ∃ n : Nat, n < 256 ∧ x = vp_nar .byte (nI n)
theorem byq_all : ∀ n, n < 256 → nb9 (vp_nar .byte (nI n)) = vp_nar .byte (nI n) ∧ nb9 (smv (vp_nar .byte (nI n))) = smv (vp_nar .byte (nI n)) := by decide +kernel
theorem byq_1 {x : Int32} (h : BYQ x) : nb9 x = x := by
  obtain ⟨n, h1, h2⟩ := h
  rw [h2]
  exact (byq_all n h1).1
theorem byq_2 {x : Int32} (h : BYQ x) : nb9 (smv x) = smv x := by
  obtain ⟨n, h1, h2⟩ := h
  rw [h2]
  exact (byq_all n h1).2
theorem fdwh9 {T : Nat → Nat} {c : Nat} : ∀ n i, fdw T c n i < i + n → T (fdw T c n i) = c := by
  intro n
  induction n with
  | zero =>
    intro i h
    have h9 : i < i + 0 := h
    omega
  | succ n ih =>
    intro i h
    by_cases q : T i = c
    · rw [show fdw T c (n + 1) i = i from if_pos q]
      exact q
    · have e : fdw T c (n + 1) i = fdw T c n (i + 1) := if_neg q
      rw [e] at h ⊢
      exact ih (i + 1) (by omega)
theorem fd_hit {T : Nat → Nat} {c a b : Nat} (hab : a ≤ b) (h : fdT T c a b < b) : T (fdT T c a b) = c := by
  unfold fdT at h ⊢
  exact fdwh9 (b - a) a (by omega)
theorem sml_61 {x : Nat} (h : SML x) : ¬ x = 61 := fun q => by
  have h9 := h.1
  omega
theorem tgq_run {T : Nat → Nat} {a e n k : Nat} {g : Nat → Nat → Nat} (h : TGQ T a e n g) (hae : a ≤ e) (hk : a ≤ k) (hs : ∀ i, a ≤ i → i < k → SML (T i)) (he : k = e ∨ ¬ SML (T k)) : k < e ∧ a + 1 ≤ k ∧ k ≤ a + 8 ∧ T k = 61 ∧ n < 40 ∧ ¬ KNW T g n a k := by
  obtain ⟨h1, h2, h3, h4, h5, h6⟩ := h
  have ht := fd_hit hae h2
  generalize fdT T 61 a e = q at h2 h3 h4 h5 h6 ht
  have hq : k = q := by
    rcases Nat.lt_trichotomy k q with c | c | c
    · rcases he with d | d
      · omega
      · exact absurd (h5 k hk c) d
    · exact c
    · exact absurd ht (sml_61 (hs q (by omega) c))
  subst hq
  exact ⟨h2, h3, h4, ht, h1, h6⟩
theorem tgq_mk {T : Nat → Nat} {a e n k : Nat} {g : Nat → Nat → Nat} (h1 : n < 40) (h2 : k < e) (h3 : a + 1 ≤ k) (h4 : k ≤ a + 8) (hs : ∀ i, a ≤ i → i < k → SML (T i)) (ht : T k = 61) (h6 : ¬ KNW T g n a k) : fdT T 61 a e = k ∧ TGQ T a e n g := by
  have hf : fdT T 61 a e = k := fd_at (by omega) (by omega) (fun i a1 a2 => sml_61 (hs i a1 a2)) (Or.inr ht)
  refine ⟨hf, h1, ?_, ?_, ?_, ?_, ?_⟩
  · rw [hf]
    exact h2
  · rw [hf]
    exact h3
  · rw [hf]
    exact h4
  · rw [hf]
    exact hs
  · rw [hf]
    exact h6
set_option maxHeartbeats 4000000 in
set_option maxRecDepth 100000 in
theorem s_X14_add_b (l : Launch) (dC : Nat → ClassId) (dI : Nat → Nat → Nat) (cs : Nat → ClassId) (ty : TyM) (gm : Nat → Nat → Nat) (L : List Nat) (sz : Nat) (F : Nat → va_E) (h0 : Nat) (ρ : Nat) (r0 : Nat) (n : Nat) (z : Nat) (fq : Nat → Int32) (x1 : Int32) (hW : WTm ty gm L) (hL_h0 : h0 ∈ L) (hT_h0 : ty h0 = (14, ρ, [r0, n])) (hF0 : F h0 = .inr (14, [.ref r0, .int (nI z)])) (hFr : F r0 = .inl (cs 17, n, .inl fq)) (hz : z < n) (hb9 : nb9 x1 = x1) : Met l yX14_add (.code yX14_add cX14_add 2 none :: tb) ({ frames := 0, cells := 0, slots := 0, locals := 0 }) (va_Pc [.ref h0, .int x1] (PTm (dC, dI) cs ty gm L F sz)) (va_Qv (fun _ : Unit => True) (fun _ T9 => ∃ F2 : Nat → va_E, QTm (dC, dI) cs ty gm L [ρ] F F2 (va_A (va_pl L F) sz) T9 ∧ F2 h0 = .inr (14, [.ref r0, .int (nI (z + 1))]) ∧ F2 r0 = .inl (cs 17, n, .inl (upd fq z x1))) (va_A (va_pl L F) sz)) 0 0 (va_A (va_pl L F) sz) := by
  refine Met.ofW (cc := cX14_add) (maxL := 2) (ret := none) (by decide) rfl ?_
  intro p e s m args below meth c s₁ B hml hv
  obtain ⟨rfl, hsz, hP, hK, hD0, hE, hO⟩ := hv
  have hx := B.exec
  have hb := B.bytes
  have hr := B.returns
  have hts : ∀ w ∈ tb, w.before _ s = true := fun w h => atoms_spec (ws := .code yX14_add cX14_add 2 none :: tb) B.pre w (List.mem_cons_of_mem _ h)
  have hown : s.vm.findClass RX14 = some m.cls := findClass_of_methodNamed B.named
  have hlocks := B.notSynchronized
  subst hsz
  have hD := hD0.self (sz := s.heap.size)
  generalize hAe : va_A (va_pl L F) s.heap.size = A at hD ⊢
  have hA : ∀ q : Nat, s.heap.size ≤ q → A q := fun q h => by rw [← hAe]; exact Or.inr h
  have hS : va_S A s.heap s.heap [] := va_S.rf
  have hR : FR ty [ρ] F F := FR.refl
  have hl := lv_entry ([.ref h0, .int x1]) (n := 2) (Nat.le_of_ble_eq_true rfl)
  rw [lg_entry_eq]
  generalize (lg_sl ([.ref h0, .int x1]) ++ List.replicate (2 - (lg_sl ([.ref h0, .int x1])).length) Slot.unset).toArray = ls at hl ⊢
  have hl : lv_has ls 2 [(0, .ref h0), (1, .int x1)] := hl
  obtain ⟨hi_1, ht_2, hq_3⟩ := hW.txt hL_h0 hT_h0
  have hBF := bfmo hFr (hO.octs hi_1 ht_2)
  refine lv_aload_n hx hb dX14_add_0 rfl (lv_at hl 0 rfl) ?_
  refine pg_get (ci := 14) (v := .ref r0) (C := RX14) (T := TX14) (N := 2) hx hb hts it_14 hown hK hP hL_h0 hF0 rfl 0 (by decide) (hts _ kt_672) (fun _ h9 => h9) rfl dX14_add_1 ?_
  refine lv_aload_n hx hb dX14_add_4 rfl (lv_at hl 0 rfl) ?_
  refine pg_get (ci := 14) (v := .int (nI z)) (C := RX14) (T := TX14) (N := 2) hx hb hts it_14 hown hK hP hL_h0 hF0 rfl 1 (by decide) (hts _ kt_673) (fun _ h9 => h9) rfl dX14_add_5 ?_
  refine lv_iload_n hx hb dX14_add_8 rfl (lv_at hl 1 rfl) ?_
  refine lv_i2b hx hb dX14_add_9 rfl ?_
  refine lv_topi (fun x_4 ex_4 => ?_)
  obtain rfl : x_4 = (x1.toInt8.toInt32) := ex_4.trans (rfl)
  obtain ⟨hq_5, hq_6⟩ := hW.octs hi_1 ht_2
  refine pg_bast hx hb hK hP hD hS hi_1 1 hFr rfl (vp_in_nI (by omega) (by omega)) dX14_add_10 (fun H locs hP hD hS => ?_)
  obtain ⟨F_7, he_8, hP, hD, hO, hR⟩ : ∃ G, G = va_up F r0 (.inl (cs 17, n, .inl (upd fq ((nI z)).toNatClampNeg (vp_nar .byte ((x1.toInt8.toInt32)))))) ∧ va_P (dC, dI) vwCl (va_pl L G) H ∧ va_D A (va_pl L G) ∧ OKm cs ty gm L G ∧ FR ty [ρ] F G := ⟨_, rfl, hP, hD, hO.up (shm.octs ht_2 ⟨_, rfl, bfm_upd hBF _ _⟩), hR.up ht_2 (by simp)⟩
  have hF_9 : F_7 r0 = .inl (cs 17, n, .inl (upd fq ((nI z)).toNatClampNeg (vp_nar .byte ((x1.toInt8.toInt32))))) := by rw [he_8]; exact up_self
  have hF_10 : F_7 h0 = .inr (14, [.ref r0, .int (nI z)]) := by rw [he_8, up_ne (ne_ty hT_h0 ht_2 (by simp))]; exact hF0
  obtain ⟨f_11, hF_9, hq_12, hfe_13⟩ : ∃ f : Nat → Int32, F_7 r0 = .inl (cs 17, n, .inl f) ∧ BFm f ∧ f = upd fq ((nI z)).toNatClampNeg (vp_nar .byte ((x1.toInt8.toInt32))) := ⟨_, hF_9, bfm_upd hBF _ _, rfl⟩
  refine lv_aload_n hx hb dX14_add_11 rfl (lv_at hl 0 rfl) ?_
  refine lv_dup hx hb dX14_add_12 rfl ?_
  refine pg_get (ci := 14) (v := .int (nI z)) (C := RX14) (T := TX14) (N := 2) hx hb hts it_14 hown hK hP hL_h0 hF_10 rfl 1 (by decide) (hts _ kt_673) (fun _ h9 => h9) rfl dX14_add_13 ?_
  refine lv_iconst (v := 1) hx hb dX14_add_16 (by decide) ?_
  refine lv_iadd hx hb dX14_add_17 ?_
  refine lv_topi (fun x_14 ex_14 => ?_)
  obtain rfl : x_14 = (nI (z + 1)) := ex_14.trans (nI_add z 1)
  refine pg_put (ci := 14) (v := .int (nI (z + 1))) (ty := .int) (C := RX14) (T := TX14) (N := 2) hx hb hts it_14 tyX14 tyX14_ok nmX14 hown hK hP hD hS hL_h0 hF_10 rfl 1 (by decide) (hts _ kt_673) (fun _ h9 => h9) rfl (by decide +kernel) (rfl) (rfl) (Nat.le_of_ble_eq_true rfl) dX14_add_18 (fun H locs hP hD hS => ?_)
  obtain ⟨F_15, he_16, hP, hD, hO, hR⟩ : ∃ G, G = va_up F_7 h0 (.inr (14, [.ref r0, .int (nI (z + 1))])) ∧ va_P (dC, dI) vwCl (va_pl L G) H ∧ va_D A (va_pl L G) ∧ OKm cs ty gm L G ∧ FR ty [ρ] F G := ⟨_, rfl, hP, hD, hO.up (shm.txt hT_h0 ⟨(z + 1), rfl, (by first | omega | assumption | exact Or.inl rfl | exact Or.inr rfl)⟩), hR.up hT_h0 (by simp)⟩
  have hF_17 : F_15 h0 = .inr (14, [.ref r0, .int (nI (z + 1))]) := by rw [he_16]; exact up_self
  have hF_18 : F_15 r0 = .inl (cs 17, n, .inl f_11) := by rw [he_16, up_ne (ne_ty ht_2 hT_h0 (by simp))]; exact hF_9
  refine W.widen (k := 0) (n := 0) (by omega) (by omega) ?_
  exact W.vret hx hb hr (fun t ht hWm => ⟨⟨(), rfl, trivial, ⟨F_15, QTm.mk ht hP hD hO hR, hF_17, (by rw [hF_18, hfe_13, nI_clamp (by omega), show vp_nar .byte (x1.toInt8.toInt32) = x1 from hb9])⟩⟩, hS.F ht⟩) hS.2.2 dX14_add_21
set_option maxHeartbeats 4000000 in
set_option maxRecDepth 100000 in
theorem s_X15_withoutWhite_x (l : Launch) (dC : Nat → ClassId) (dI : Nat → Nat → Nat) (cs : Nat → ClassId) (ty : TyM) (gm : Nat → Nat → Nat) (L : List Nat) (sz : Nat) (F : Nat → va_E) (g1 : Nat) (σ : Nat) (n1 : Nat) (h0 : Nat) (ρ : Nat) (r0 : Nat) (n : Nat) (a : Nat) (tt : Nat) (z : Nat) (gf : Nat → Int32) (hW : WTm ty gm L) (hL_g1 : g1 ∈ L) (hT_g1 : ty g1 = (17, σ, [n1])) (hL_h0 : h0 ∈ L) (hT_h0 : ty h0 = (14, ρ, [r0, n])) (hFg : F g1 = .inl (cs 17, n1, .inl gf)) (hat : a ≤ tt) (htz : tt ≤ z) (hzn : z ≤ n1) (hfit : tt - a ≤ n) (hsr : σ ≠ ρ) (hby : ∀ j, j < z → BYQ (gf j)) : Met l yX15_withoutWhite (.code yX15_withoutWhite cX15_withoutWhite 5 none :: tb) ({ frames := 1, cells := 0, slots := 0, locals := 21 }) (va_Pc [.ref g1, .int (nI a), .int (nI tt), .ref h0] (PTm (dC, dI) cs ty gm L F sz)) (va_Qv (fun _ : Unit => True) (fun _ T9 => ∃ F2 : Nat → va_E, ∃ fc : Nat → Int32, QTm (dC, dI) cs ty gm L [ρ] F F2 (va_A (va_pl L F) sz) T9 ∧ F2 h0 = .inr (14, [.ref r0, .int (nI (flI (TC gf z) a (tt - a)).length)]) ∧ F2 r0 = .inl (cs 17, n, .inl fc) ∧ (TC fc (flI (TC gf z) a (tt - a)).length = (flT (TC gf z) a (tt - a)) ∧ (flI (TC gf z) a (tt - a)).length ≤ tt - a)) (va_A (va_pl L F) sz)) 0 0 (va_A (va_pl L F) sz) := by
  refine Met.ofW (cc := cX15_withoutWhite) (maxL := 5) (ret := none) (by decide) rfl ?_
  intro p e s m args below meth c s₁ B hml hv
  obtain ⟨rfl, hsz, hP, hK, hD0, hE, hO⟩ := hv
  have hx := B.exec
  have hb := B.bytes
  have hr := B.returns
  have hts : ∀ w ∈ tb, w.before _ s = true := fun w h => atoms_spec (ws := .code yX15_withoutWhite cX15_withoutWhite 5 none :: tb) B.pre w (List.mem_cons_of_mem _ h)
  have hown : s.vm.findClass RX15 = some m.cls := findClass_of_methodNamed B.named
  have hlocks := B.notSynchronized
  subst hsz
  have hD := hD0.self (sz := s.heap.size)
  generalize hAe : va_A (va_pl L F) s.heap.size = A at hD ⊢
  have hA : ∀ q : Nat, s.heap.size ≤ q → A q := fun q h => by rw [← hAe]; exact Or.inr h
  have hS : va_S A s.heap s.heap [] := va_S.rf
  have hR : FR ty [ρ] F F := FR.refl
  have hl := lv_entry ([.ref g1, .int (nI a), .int (nI tt), .ref h0]) (n := 5) (Nat.le_of_ble_eq_true rfl)
  rw [lg_entry_eq]
  generalize (lg_sl ([.ref g1, .int (nI a), .int (nI tt), .ref h0]) ++ List.replicate (5 - (lg_sl ([.ref g1, .int (nI a), .int (nI tt), .ref h0])).length) Slot.unset).toArray = ls at hl ⊢
  have hl : lv_has ls 5 [(0, .ref g1), (1, .int (nI a)), (2, .int (nI tt)), (3, .ref h0)] := hl
  obtain ⟨hq_1, hq_2⟩ := hW.octs hL_g1 hT_g1
  obtain ⟨hi_3, ht_4, hq_5⟩ := hW.txt hL_h0 hT_h0
  refine lv_aload_n hx hb dX15_withoutWhite_0 rfl (lv_at hl 3 rfl) ?_
  refine lv_iconst (v := 0) hx hb dX15_withoutWhite_1 (by decide) ?_
  obtain ⟨z_6, hF_7, hq_8⟩ := hO.txt hL_h0 hT_h0
  refine pg_put (ci := 14) (v := .int 0) (ty := .int) (C := RX14) (T := TX14) (N := 2) hx hb hts it_14 tyX14 tyX14_ok nmX14 hown hK hP hD hS hL_h0 hF_7 rfl 1 (by decide) (hts _ kt_709) (fun _ h9 => h9) rfl (by decide +kernel) (rfl) (rfl) (Nat.le_of_ble_eq_true rfl) dX15_withoutWhite_2 (fun H locs hP hD hS => ?_)
  obtain ⟨F_9, he_10, hP, hD, hO, hR⟩ : ∃ G, G = va_up F h0 (.inr (14, [.ref r0, .int 0])) ∧ va_P (dC, dI) vwCl (va_pl L G) H ∧ va_D A (va_pl L G) ∧ OKm cs ty gm L G ∧ FR ty [ρ] F G := ⟨_, rfl, hP, hD, hO.up (shm.txt hT_h0 ⟨0, rfl, (by first | omega | assumption | exact Or.inl rfl | exact Or.inr rfl)⟩), hR.up hT_h0 (by simp)⟩
  have hF_11 : F_9 h0 = .inr (14, [.ref r0, .int 0]) := by rw [he_10]; exact up_self
  have hF_12 : F_9 g1 = .inl (cs 17, n1, .inl gf) := by rw [he_10, up_ne (ne_ty hT_g1 hT_h0 (by simp))]; exact hFg
  refine lv_iload_n hx hb dX15_withoutWhite_5 rfl (lv_at hl 1 rfl) ?_
  refine lv_istore (lv' := [(4, .int (nI a)), (0, .ref g1), (1, .int (nI a)), (2, .int (nI tt)), (3, .ref h0)]) hx hb dX15_withoutWhite_6 hl (by decide) rfl (fun ls hl => ?_)
  obtain ⟨hq_13, hq_14⟩ := hW.octs hi_3 ht_4
  obtain ⟨f_15, hF_16, hq_17⟩ := hO.octs hi_3 ht_4
  refine W.widen (k := 0) (n := 0) (by omega) (by omega) ?_
  have hF_19 : F g1 = .inl (cs 17, n1, .inl gf) := (hR g1 (by rw [hT_g1]; simp only [List.mem_cons, List.not_mem_nil, or_false]; omega)).symm.trans hF_12
  refine pl_loopm (σ := Nat × Nat × (Nat → Int32)) A (dC, dI) cs ty gm L [ρ] F 8 5 (fun (i, yy, fq) => [(4, .int (nI i)), (0, .ref g1), (1, .int (nI a)), (2, .int (nI tt)), (3, .ref h0)]) (fun (i, yy, fq) => []) (fun (i, yy, fq) FF => a ≤ i ∧ i ≤ tt ∧ FF h0 = .inr (14, [.ref r0, .int (nI yy)]) ∧ FF r0 = .inl (cs 17, n, .inl fq) ∧ FLA gf (flI (TC gf z) a (i - a)) yy fq) (fun (i, yy, fq) => tt - i) ?_ (a, 0, f_15) F_9 (⟨Nat.le_refl _, hat, hF_11, hF_16, by rw [Nat.sub_self]; exact FLA.nil⟩) hO hR _ _ hP hD hS ls (lv_sub hl [0, 1, 2, 3, 4] rfl)
  rintro ⟨i, yy, fq⟩ F_18 hv_20 hO hR ih_21 H locs hP hD hS ls hl
  have hl : lv_has ls 5 [(4, .int (nI i)), (0, .ref g1), (1, .int (nI a)), (2, .int (nI tt)), (3, .ref h0)] := hl
  have hv_20 : a ≤ i ∧ i ≤ tt ∧ F_18 h0 = .inr (14, [.ref r0, .int (nI yy)]) ∧ F_18 r0 = .inl (cs 17, n, .inl fq) ∧ FLA gf (flI (TC gf z) a (i - a)) yy fq := hv_20
  refine W.eq (g2 := F0 m 8 ls []) rfl ?_
  have hF_22 : F_18 g1 = .inl (cs 17, n1, .inl gf) := (hR g1 (by rw [hT_g1]; simp only [List.mem_cons, List.not_mem_nil, or_false]; omega)).trans hF_19
  obtain ⟨hu1, hu2, hu3, hu4, hu5⟩ := id hv_20
  have hyl := flI_len (T := (TC gf z)) (a := a) (i - a)
  have hyy := hu5.1
  refine lv_iload hx hb dX15_withoutWhite_8 (lv_at hl 0 rfl) ?_
  refine lv_iload_n hx hb dX15_withoutWhite_10 rfl (lv_at hl 3 rfl) ?_
  refine lv_icmp_ge (tgt := 47) hx hb dX15_withoutWhite_11 (by decide) (fun c_23 => ?_) (fun c_23 => ?_)
  ·
    have hi_24 : tt ≤ i := leN (N := tt) c_23
    have hie : i = tt := by have h9 : tt ≤ i := (nI_leI (by omega) (by omega)).mp c_23; omega
    rw [hie] at hu5
    have hTC := fla_tc hu5 (by omega)
    have hYY := hu5.1
    refine W.widen (k := 0) (n := 0) (by omega) (by omega) ?_
    exact W.vret hx hb hr (fun t ht hWm => ⟨⟨(), rfl, trivial, ⟨F_18, fq, QTm.mk ht hP hD hO hR, (by rw [← hYY]; exact hu3), hu4, (by rw [← hYY]; exact ⟨hTC, by omega⟩)⟩⟩, hS.F ht⟩) hS.2.2 dX15_withoutWhite_47
  ·
    have hi_25 : i < tt := ltN (N := tt) c_23
    have hie : i < tt := Nat.not_le.mp (fun q => c_23 ((nI_leI (by omega) (by omega)).mpr q))
    have hiz : i < z := by omega
    refine lv_aload_n hx hb dX15_withoutWhite_14 rfl (lv_at hl 1 rfl) ?_
    refine lv_iload hx hb dX15_withoutWhite_15 (lv_at hl 0 rfl) ?_
    refine pg_bald hx hb hK hP hL_g1 1 hF_22 rfl (vp_in_nI (by omega) (by omega)) dX15_withoutWhite_17 ?_
    refine lv_topi (fun x_26 ex_26 => ?_)
    obtain rfl : x_26 = gf i := ex_26.trans (congrArg gf (show ((nI i) : Int32).toNatClampNeg = i from nI_clamp (by omega)))
    have hFc := pg_free hD hS hA
    refine va_calli (va_runS (As := [.int (gf i)]) (rest := []) ⟨hx, hb, hml, hown, hts⟩ (s_X15_isWhite_e l dC dI cs ty gm L H.size F_18 (gf i) hW ) ⟨callB_of 1 hts (gi kt_715) rfl rfl rfl (hts _ kt_669) (hts _ kt_716) (by decide +kernel) ⟨Nat.le_of_ble_eq_true rfl, Nat.le_of_ble_eq_true rfl⟩, (hts _ kt_717)⟩ ⟨fun a U g mk q => ⟨q.1, PTm.calling q.2⟩, fun U hU hWm => ⟨rfl, PTm.mk hU hWm hP hK hD hE hO⟩⟩ rfl rfl hl.1 rfl (lv_room (Nat.le_of_ble_eq_true rfl)) dX15_withoutWhite_18 ⟨by show _ + 0 ≤ 0; omega, by show _ + 0 ≤ 0; omega⟩) hS (fun q _ h => hFc q h) hFc (fun r_27 u t H1 locs ht hvm hw hB hz1 hk1 hS => ?_)
    obtain ⟨F_28, hB1⟩ := hB
    obtain rfl : F_18 = F_28 := (funext (fun a => hB1.2.2.2 a List.not_mem_nil)).symm
    obtain ⟨hP, hD, hO, hR⟩ := QTm.back hB1 ht hFc hR (fun q h => absurd h List.not_mem_nil)
    generalize H1 = H at hP hS ⊢
    have hw : r_27 = (if (gf i) = 32 ∨ (gf i) = 9 then 1 else 0) := hw
    have hw_29 := hw
    refine lv_if_ne (tgt := 41) hx hb dX15_withoutWhite_21 (by decide) (fun c_30 => ?_) (fun c_30 => ?_)
    ·
      refine lv_iinc (v := (nI (i + 1))) (lv' := [(4, .int (nI (i + 1))), (0, .ref g1), (1, .int (nI a)), (2, .int (nI tt)), (3, .ref h0)]) hx hb dX15_withoutWhite_41 hl (k := 0) rfl (nI_1 _) (by decide) rfl (fun ls hl => ?_)
      refine lv_goto (tgt := 8) hx hb dX15_withoutWhite_44 (by decide) ?_
      refine W.widen (k := 0) (n := 0) (by omega) (by omega) ?_
      exact ih_21 ((i + 1), yy, fq) F_18 (⟨by omega, by omega, hu3, hu4, fla_w hu5 hu1 ((ifb1 hw_29 c_30).imp (fun q => (tcc hiz 32 (by omega)).mpr q) (fun q => Or.inl ((tcc hiz 9 (by omega)).mpr q)))⟩) (by show tt - (i + 1) < tt - i; omega) hO hR _ _ hP hD hS ls (lv_sub hl [0, 1, 2, 3, 4] rfl)
    ·
      refine lv_aload_n hx hb dX15_withoutWhite_24 rfl (lv_at hl 1 rfl) ?_
      refine lv_iload hx hb dX15_withoutWhite_25 (lv_at hl 0 rfl) ?_
      refine pg_bald hx hb hK hP hL_g1 1 hF_22 rfl (vp_in_nI (by omega) (by omega)) dX15_withoutWhite_27 ?_
      refine lv_topi (fun x_31 ex_31 => ?_)
      obtain rfl : x_31 = gf i := ex_31.trans (congrArg gf (show ((nI i) : Int32).toNatClampNeg = i from nI_clamp (by omega)))
      refine lv_bipush (v := 10) hx hb dX15_withoutWhite_28 (by decide) ?_
      refine lv_icmp_eq (tgt := 41) hx hb dX15_withoutWhite_30 (by decide) (fun c_32 => ?_) (fun c_32 => ?_)
      ·
        refine lv_iinc (v := (nI (i + 1))) (lv' := [(4, .int (nI (i + 1))), (0, .ref g1), (1, .int (nI a)), (2, .int (nI tt)), (3, .ref h0)]) hx hb dX15_withoutWhite_41 hl (k := 0) rfl (nI_1 _) (by decide) rfl (fun ls hl => ?_)
        refine lv_goto (tgt := 8) hx hb dX15_withoutWhite_44 (by decide) ?_
        refine W.widen (k := 0) (n := 0) (by omega) (by omega) ?_
        exact ih_21 ((i + 1), yy, fq) F_18 (⟨by omega, by omega, hu3, hu4, fla_w hu5 hu1 (Or.inr (Or.inr ((tcc hiz 10 (by omega)).mpr c_32)))⟩) (by show tt - (i + 1) < tt - i; omega) hO hR _ _ hP hD hS ls (lv_sub hl [0, 1, 2, 3, 4] rfl)
      ·
        refine lv_aload_n hx hb dX15_withoutWhite_33 rfl (lv_at hl 4 rfl) ?_
        refine lv_aload_n hx hb dX15_withoutWhite_34 rfl (lv_at hl 1 rfl) ?_
        refine lv_iload hx hb dX15_withoutWhite_35 (lv_at hl 0 rfl) ?_
        refine pg_bald hx hb hK hP hL_g1 1 hF_22 rfl (vp_in_nI (by omega) (by omega)) dX15_withoutWhite_37 ?_
        refine lv_topi (fun x_33 ex_33 => ?_)
        obtain rfl : x_33 = gf i := ex_33.trans (congrArg gf (show ((nI i) : Int32).toNatClampNeg = i from nI_clamp (by omega)))
        have hFc := pg_free hD hS hA
        refine va_callv (va_runV (As := [.int (gf i)]) (rest := []) ⟨hx, hb, hml, hown, hts⟩ (s_X14_add_b l dC dI cs ty gm L H.size F_18 h0 ρ r0 n yy fq (gf i) hW hL_h0 hT_h0 hu3 hu4 (by omega) (byq_1 (hby i hiz))) ⟨callB_of 1 hts (gi kt_711) rfl rfl rfl (hts _ kt_676) (hts _ kt_712) (by decide +kernel) ⟨Nat.le_of_ble_eq_true rfl, Nat.le_of_ble_eq_true rfl⟩, (hts _ kt_713), (hts _ kt_714)⟩ ⟨fun a U g mk q => ⟨q.1, PTm.calling q.2⟩, pg_recv hK hP hL_h0 hu3 (q := (RX14, TX14, 2)) rfl, fun U hU hWm => ⟨rfl, PTm.mk hU hWm hP hK hD hE hO⟩⟩ rfl rfl hl.1 rfl (lv_room (Nat.le_of_ble_eq_true rfl)) dX15_withoutWhite_38 ⟨by show _ + 0 ≤ 0; omega, by show _ + 0 ≤ 0; omega⟩) hS (fun q _ h => hFc q h) hFc (fun u t H1 locs ht hvm hw hB hz1 hk1 hS => ?_)
        obtain ⟨F_35, hB1, hq_36, hq_37⟩ := hB
        obtain ⟨hP, hD, hO, hR⟩ := QTm.back hB1 ht hFc hR (fun q h => by simp only [List.mem_cons, List.not_mem_nil, or_false] at h ⊢; omega)
        have hF_38 : F_35 g1 = .inl (cs 17, n1, .inl gf) := (hB1.2.2.2 g1 (by rw [hT_g1]; simp only [List.mem_cons, List.not_mem_nil, or_false]; omega)).trans hF_22
        generalize H1 = H at hP hS ⊢
        refine lv_iinc (v := (nI (i + 1))) (lv' := [(4, .int (nI (i + 1))), (0, .ref g1), (1, .int (nI a)), (2, .int (nI tt)), (3, .ref h0)]) hx hb dX15_withoutWhite_41 hl (k := 0) rfl (nI_1 _) (by decide) rfl (fun ls hl => ?_)
        refine lv_goto (tgt := 8) hx hb dX15_withoutWhite_44 (by decide) ?_
        refine W.widen (k := 0) (n := 0) (by omega) (by omega) ?_
        exact ih_21 ((i + 1), (yy + 1), (upd fq yy (gf i))) F_35 (⟨by omega, by omega, hq_36, hq_37, fla_a hu5 hu1 (fun q => by rcases q with q | q | q; exact ifb0 hw_29 c_30 (Or.inl ((tcc hiz 32 (by omega)).mp q)); exact ifb0 hw_29 c_30 (Or.inr ((tcc hiz 9 (by omega)).mp q)); exact c_32 ((tcc hiz 10 (by omega)).mp q))⟩) (by show tt - (i + 1) < tt - i; omega) hO hR _ _ hP hD hS ls (lv_sub hl [0, 1, 2, 3, 4] rfl)
set_option maxHeartbeats 4000000 in
set_option maxRecDepth 100000 in
theorem s_X13_isSame_x (l : Launch) (dC : Nat → ClassId) (dI : Nat → Nat → Nat) (cs : Nat → ClassId) (ty : TyM) (gm : Nat → Nat → Nat) (L : List Nat) (sz : Nat) (F : Nat → va_E) (h0 : Nat) (ρ : Nat) (tx : Nat) (n : Nat) (Bn : Nat) (y0 : Nat) (y1 : Nat) (y2 : Nat) (tbx : Nat) (a : Nat) (b : Nat) (k : Nat) (zx : Nat) (fb : Nat → Int32) (hW : WTm ty gm L) (hL_h0 : h0 ∈ L) (hT_h0 : ty h0 = (13, ρ, [tx, n, Bn, y0, y1, y2])) (hL_tx : tx ∈ L) (hT_tx : ty tx = (14, ρ + 1, [tbx, n])) (hFx : F tx = .inr (14, [.ref tbx, .int (nI zx)])) (hFb : F tbx = .inl (cs 17, n, .inl fb)) (hxn : zx ≤ n) (ha : a + k ≤ zx) (hb0 : b + k ≤ zx) (hsm : ∀ i, i < k → SML ((TC fb zx) (b + i))) : Met l yX13_isSame (.code yX13_isSame cX13_isSame 5 (some .boolean) :: tb) ({ frames := 0, cells := 0, slots := 0, locals := 0 }) (va_Pc [.ref h0, .int (nI a), .int (nI b), .int (nI k)] (PTm (dC, dI) cs ty gm L F sz)) (va_Qi (fun (r : Int32) (_ : Unit) => ((r = 1 ∧ (∀ i, i < k → (TC fb zx) (a + i) = (TC fb zx) (b + i))) ∨ (r = 0 ∧ ¬ (∀ i, i < k → (TC fb zx) (a + i) = (TC fb zx) (b + i))))) (fun _ T9 => ∃ F2 : Nat → va_E, QTm (dC, dI) cs ty gm L [] F F2 (va_A (va_pl L F) sz) T9) (va_A (va_pl L F) sz)) 0 0 (va_A (va_pl L F) sz) := by
  refine Met.ofW (cc := cX13_isSame) (maxL := 5) (ret := (some .boolean)) (by decide) rfl ?_
  intro p e s m args below meth c s₁ B hml hv
  obtain ⟨rfl, hsz, hP, hK, hD0, hE, hO⟩ := hv
  have hx := B.exec
  have hb := B.bytes
  have hr := B.returns
  have hts : ∀ w ∈ tb, w.before _ s = true := fun w h => atoms_spec (ws := .code yX13_isSame cX13_isSame 5 (some .boolean) :: tb) B.pre w (List.mem_cons_of_mem _ h)
  have hown : s.vm.findClass RX13 = some m.cls := findClass_of_methodNamed B.named
  have hlocks := B.notSynchronized
  subst hsz
  have hD := hD0.self (sz := s.heap.size)
  generalize hAe : va_A (va_pl L F) s.heap.size = A at hD ⊢
  have hA : ∀ q : Nat, s.heap.size ≤ q → A q := fun q h => by rw [← hAe]; exact Or.inr h
  have hS : va_S A s.heap s.heap [] := va_S.rf
  have hR : FR ty [] F F := FR.refl
  have hl := lv_entry ([.ref h0, .int (nI a), .int (nI b), .int (nI k)]) (n := 5) (Nat.le_of_ble_eq_true rfl)
  rw [lg_entry_eq]
  generalize (lg_sl ([.ref h0, .int (nI a), .int (nI b), .int (nI k)]) ++ List.replicate (5 - (lg_sl ([.ref h0, .int (nI a), .int (nI b), .int (nI k)])).length) Slot.unset).toArray = ls at hl ⊢
  have hl : lv_has ls 5 [(0, .ref h0), (1, .int (nI a)), (2, .int (nI b)), (3, .int (nI k))] := hl
  obtain ⟨_, hi_1, hi_2, hi_3, _, ht_4, ht_5, ht_6, hq_7, hq_8⟩ := hW.tags hL_h0 hT_h0
  obtain ⟨hi_9, ht_10, hq_11⟩ := hW.txt hL_tx hT_tx
  refine lv_iconst (v := 0) hx hb dX13_isSame_0 (by decide) ?_
  refine lv_istore (lv' := [(4, .int 0), (0, .ref h0), (1, .int (nI a)), (2, .int (nI b)), (3, .int (nI k))]) hx hb dX13_isSame_1 hl (by decide) rfl (fun ls hl => ?_)
  refine W.widen (k := 0) (n := 0) (by omega) (by omega) ?_
  refine pl_loopm (σ := Nat) A (dC, dI) cs ty gm L [] F 3 5 (fun j => [(4, .int (nI j)), (0, .ref h0), (1, .int (nI a)), (2, .int (nI b)), (3, .int (nI k))]) (fun j => []) (fun j _ => j ≤ k ∧ ∀ i, i < j → (TC fb zx) (a + i) = (TC fb zx) (b + i)) (fun j => k - j) ?_ 0 F (⟨Nat.zero_le _, fun i hi => absurd hi (Nat.not_lt_zero _)⟩) hO hR _ _ hP hD hS ls (lv_sub hl [0, 1, 2, 3, 4] rfl)
  rintro j F_12 hv_13 hO hR ih_14 H locs hP hD hS ls hl
  have hl : lv_has ls 5 [(4, .int (nI j)), (0, .ref h0), (1, .int (nI a)), (2, .int (nI b)), (3, .int (nI k))] := hl
  have hv_13 : j ≤ k ∧ ∀ i, i < j → (TC fb zx) (a + i) = (TC fb zx) (b + i) := hv_13
  refine W.eq (g2 := F0 m 3 ls []) rfl ?_
  obtain rfl : F = F_12 := (funext (fun a => hR a List.not_mem_nil)).symm
  obtain ⟨hv1, hv2⟩ := id hv_13
  refine lv_iload hx hb dX13_isSame_3 (lv_at hl 0 rfl) ?_
  refine lv_iload_n hx hb dX13_isSame_5 rfl (lv_at hl 4 rfl) ?_
  refine lv_icmp_ge (tgt := 44) hx hb dX13_isSame_6 (by decide) (fun c_15 => ?_) (fun c_15 => ?_)
  ·
    have hi_16 : k ≤ j := leN (N := k) c_15
    have hjk : k ≤ j := (nI_leI (by omega) (by omega)).mp c_15
    refine lv_iconst (v := 1) hx hb dX13_isSame_44 (by decide) ?_
    refine W.widen (k := 0) (n := 0) (by omega) (by omega) ?_
    exact W.zret (v := 1) (ty := .boolean) hx hb hr (by decide) (fun t ht hWm => ⟨⟨1, (), rfl, (Or.inl ⟨rfl, fun i hi => hv2 i (by omega)⟩), ⟨F, QTm.mk ht hP hD hO hR⟩⟩, hS.F ht⟩) hS.2.2 dX13_isSame_45
  ·
    have hi_17 : j < k := ltN (N := k) c_15
    have hjk : j < k := Nat.not_le.mp (fun q => c_15 ((nI_leI (by omega) (by omega)).mpr q))
    refine lv_aload_n hx hb dX13_isSame_9 rfl (lv_at hl 1 rfl) ?_
    obtain ⟨z_18, hF_19, hq_20⟩ := hO.tags hL_h0 hT_h0
    refine pg_get (ci := 13) (v := .ref tx) (C := RX13) (T := TX13) (N := 5) hx hb hts it_13 hown hK hP hL_h0 hF_19 rfl 0 (by decide) (hts _ kt_824) (fun _ h9 => h9) rfl dX13_isSame_10 ?_
    refine pg_get (ci := 14) (v := .ref tbx) (C := RX14) (T := TX14) (N := 2) hx hb hts it_14 hown hK hP hL_tx hFx rfl 0 (by decide) (hts _ kt_825) (fun _ h9 => h9) rfl dX13_isSame_13 ?_
    refine lv_iload_n hx hb dX13_isSame_16 rfl (lv_at hl 2 rfl) ?_
    refine lv_iload hx hb dX13_isSame_17 (lv_at hl 0 rfl) ?_
    refine lv_iadd hx hb dX13_isSame_19 ?_
    refine lv_topi (fun x_21 ex_21 => ?_)
    obtain rfl : x_21 = (nI (a + j)) := ex_21.trans (nI_add a j)
    obtain ⟨hq_22, hq_23⟩ := hW.octs hi_9 ht_10
    refine pg_bald hx hb hK hP hi_9 1 hFb rfl (vp_in_nI (by omega) (by omega)) dX13_isSame_20 ?_
    refine lv_topi (fun x_24 ex_24 => ?_)
    obtain rfl : x_24 = fb (a + j) := ex_24.trans (congrArg fb (show ((nI (a + j)) : Int32).toNatClampNeg = (a + j) from nI_clamp (by omega)))
    refine lv_aload_n hx hb dX13_isSame_21 rfl (lv_at hl 1 rfl) ?_
    refine pg_get (ci := 13) (v := .ref tx) (C := RX13) (T := TX13) (N := 5) hx hb hts it_13 hown hK hP hL_h0 hF_19 rfl 0 (by decide) (hts _ kt_824) (fun _ h9 => h9) rfl dX13_isSame_22 ?_
    refine pg_get (ci := 14) (v := .ref tbx) (C := RX14) (T := TX14) (N := 2) hx hb hts it_14 hown hK hP hL_tx hFx rfl 0 (by decide) (hts _ kt_825) (fun _ h9 => h9) rfl dX13_isSame_25 ?_
    refine lv_iload_n hx hb dX13_isSame_28 rfl (lv_at hl 3 rfl) ?_
    refine lv_iload hx hb dX13_isSame_29 (lv_at hl 0 rfl) ?_
    refine lv_iadd hx hb dX13_isSame_31 ?_
    refine lv_topi (fun x_25 ex_25 => ?_)
    obtain rfl : x_25 = (nI (b + j)) := ex_25.trans (nI_add b j)
    refine pg_bald hx hb hK hP hi_9 1 hFb rfl (vp_in_nI (by omega) (by omega)) dX13_isSame_32 ?_
    refine lv_topi (fun x_26 ex_26 => ?_)
    obtain rfl : x_26 = fb (b + j) := ex_26.trans (congrArg fb (show ((nI (b + j)) : Int32).toNatClampNeg = (b + j) from nI_clamp (by omega)))
    refine lv_icmp_eq (tgt := 38) hx hb dX13_isSame_33 (by decide) (fun c_27 => ?_) (fun c_27 => ?_)
    ·
      have hee : (TC fb zx) (a + j) = (TC fb zx) (b + j) := (tcq_eq (show a + j < zx by omega) (show b + j < zx by omega) (hsm j hjk)).mp c_27
      refine lv_iinc (v := (nI (j + 1))) (lv' := [(4, .int (nI (j + 1))), (0, .ref h0), (1, .int (nI a)), (2, .int (nI b)), (3, .int (nI k))]) hx hb dX13_isSame_38 hl (k := 0) rfl (nI_1 _) (by decide) rfl (fun ls hl => ?_)
      refine lv_goto (tgt := 3) hx hb dX13_isSame_41 (by decide) ?_
      refine W.widen (k := 0) (n := 0) (by omega) (by omega) ?_
      exact ih_14 (j + 1) F (⟨by omega, all_step hv2 hee⟩) (by show k - (j + 1) < k - j; omega) hO hR _ _ hP hD hS ls (lv_sub hl [0, 1, 2, 3, 4] rfl)
    ·
      have hee : ¬ (TC fb zx) (a + j) = (TC fb zx) (b + j) := fun q => c_27 ((tcq_eq (show a + j < zx by omega) (show b + j < zx by omega) (hsm j hjk)).mpr q)
      refine lv_iconst (v := 0) hx hb dX13_isSame_36 (by decide) ?_
      refine W.widen (k := 0) (n := 0) (by omega) (by omega) ?_
      exact W.zret (v := 0) (ty := .boolean) hx hb hr (by decide) (fun t ht hWm => ⟨⟨0, (), rfl, (Or.inr ⟨rfl, fun q => hee (q j hjk)⟩), ⟨F, QTm.mk ht hP hD hO hR⟩⟩, hS.F ht⟩) hS.2.2 dX13_isSame_37
set_option maxHeartbeats 4000000 in
set_option maxRecDepth 100000 in
theorem s_X13_read_x (l : Launch) (dC : Nat → ClassId) (dI : Nat → Nat → Nat) (cs : Nat → ClassId) (ty : TyM) (gm : Nat → Nat → Nat) (L : List Nat) (sz : Nat) (F : Nat → va_E) (h0 : Nat) (ρ : Nat) (tx : Nat) (n : Nat) (Bn : Nat) (y0 : Nat) (y1 : Nat) (y2 : Nat) (tbx : Nat) (zx : Nat) (fb : Nat → Int32) (hW : WTm ty gm L) (hL_h0 : h0 ∈ L) (hT_h0 : ty h0 = (13, ρ, [tx, n, Bn, y0, y1, y2])) (hL_tx : tx ∈ L) (hT_tx : ty tx = (14, ρ + 1, [tbx, n])) (hFx : F tx = .inr (14, [.ref tbx, .int (nI zx)])) (hFb : F tbx = .inl (cs 17, n, .inl fb)) (hxn : zx ≤ n) (hzB : zx ≤ Bn) : Met l yX13_read (.code yX13_read cX13_read 6 (some .boolean) :: tb) ({ frames := 1, cells := 0, slots := 0, locals := 25 }) (va_Pc [.ref h0, .int 8] (PTm (dC, dI) cs ty gm L F sz)) (va_Qi (fun (r : Int32) (gg : TGG) => TGX (TC fb zx) zx r gg) (fun (gg : TGG) T9 => ∃ F2 : Nat → va_E, ∃ p0 : Nat → Int32, ∃ p1 : Nat → Int32, ∃ p2 : Nat → Int32, QTm (dC, dI) cs ty gm L [ρ, ρ + 70, ρ + 71] F F2 (va_A (va_pl L F) sz) T9 ∧ F2 h0 = .inr (13, [.ref tx, .ref y0, .ref y1, .ref y2, .int (nI gg.1)]) ∧ F2 y0 = .inl (cs 16, 40, .inl p0) ∧ F2 y1 = .inl (cs 16, 40, .inl p1) ∧ F2 y2 = .inl (cs 16, 40, .inl p2) ∧ HLD p0 p1 p2 gg.1 gg.2 ∧ (TGI zx gg.1 gg.2 ∧ gg.1 ≤ 40)) (va_A (va_pl L F) sz)) 0 0 (va_A (va_pl L F) sz) := by
  refine Met.ofW (cc := cX13_read) (maxL := 6) (ret := (some .boolean)) (by decide) rfl ?_
  intro p e s m args below meth c s₁ B hml hv
  obtain ⟨rfl, hsz, hP, hK, hD0, hE, hO⟩ := hv
  have hx := B.exec
  have hb := B.bytes
  have hr := B.returns
  have hts : ∀ w ∈ tb, w.before _ s = true := fun w h => atoms_spec (ws := .code yX13_read cX13_read 6 (some .boolean) :: tb) B.pre w (List.mem_cons_of_mem _ h)
  have hown : s.vm.findClass RX13 = some m.cls := findClass_of_methodNamed B.named
  have hlocks := B.notSynchronized
  subst hsz
  have hD := hD0.self (sz := s.heap.size)
  generalize hAe : va_A (va_pl L F) s.heap.size = A at hD ⊢
  have hA : ∀ q : Nat, s.heap.size ≤ q → A q := fun q h => by rw [← hAe]; exact Or.inr h
  have hS : va_S A s.heap s.heap [] := va_S.rf
  have hR : FR ty [ρ, ρ + 70, ρ + 71] F F := FR.refl
  have hl := lv_entry ([.ref h0, .int 8]) (n := 6) (Nat.le_of_ble_eq_true rfl)
  rw [lg_entry_eq]
  generalize (lg_sl ([.ref h0, .int 8]) ++ List.replicate (6 - (lg_sl ([.ref h0, .int 8])).length) Slot.unset).toArray = ls at hl ⊢
  have hl : lv_has ls 6 [(0, .ref h0), (1, .int 8)] := hl
  obtain ⟨_, hi_1, hi_2, hi_3, _, ht_4, ht_5, ht_6, hq_7, hq_8⟩ := hW.tags hL_h0 hT_h0
  obtain ⟨hi_9, ht_10, hq_11⟩ := hW.txt hL_tx hT_tx
  refine lv_aload_n hx hb dX13_read_0 rfl (lv_at hl 0 rfl) ?_
  refine lv_iconst (v := 0) hx hb dX13_read_1 (by decide) ?_
  obtain ⟨z_12, hF_13, hq_14⟩ := hO.tags hL_h0 hT_h0
  refine pg_put (ci := 13) (v := .int 0) (ty := .int) (C := RX13) (T := TX13) (N := 5) hx hb hts it_13 tyX13 tyX13_ok nmX13 hown hK hP hD hS hL_h0 hF_13 rfl 4 (by decide) (hts _ kt_823) (fun _ h9 => h9) rfl (by decide +kernel) (rfl) (rfl) (Nat.le_of_ble_eq_true rfl) dX13_read_2 (fun H locs hP hD hS => ?_)
  obtain ⟨F_15, he_16, hP, hD, hO, hR⟩ : ∃ G, G = va_up F h0 (.inr (13, [.ref tx, .ref y0, .ref y1, .ref y2, .int 0])) ∧ va_P (dC, dI) vwCl (va_pl L G) H ∧ va_D A (va_pl L G) ∧ OKm cs ty gm L G ∧ FR ty [ρ, ρ + 70, ρ + 71] F G := ⟨_, rfl, hP, hD, hO.up (shm.tags hT_h0 ⟨0, rfl, (by first | omega | assumption | exact Or.inl rfl | exact Or.inr rfl)⟩), hR.up hT_h0 (by simp)⟩
  have hF_17 : F_15 h0 = .inr (13, [.ref tx, .ref y0, .ref y1, .ref y2, .int 0]) := by rw [he_16]; exact up_self
  have hF_18 : F_15 tx = .inr (14, [.ref tbx, .int (nI zx)]) := by rw [he_16, up_ne (ne_ty hT_tx hT_h0 (by simp))]; exact hFx
  have hF_19 : F_15 tbx = .inl (cs 17, n, .inl fb) := by rw [he_16, up_ne (ne_ty ht_10 hT_h0 (by simp))]; exact hFb
  refine lv_iconst (v := 0) hx hb dX13_read_5 (by decide) ?_
  refine lv_istore_n (lv' := [(2, .int 0), (0, .ref h0), (1, .int 8)]) hx hb dX13_read_6 rfl hl (by decide) rfl (fun ls hl => ?_)
  obtain ⟨f_20, hF_21, hq_22⟩ := hO.idb hi_1 ht_4
  obtain ⟨f_23, hF_24, hq_25⟩ := hO.idb hi_2 ht_5
  obtain ⟨f_26, hF_27, hq_28⟩ := hO.idb hi_3 ht_6
  refine W.widen (k := 0) (n := 0) (by omega) (by omega) ?_
  have hF_30 : F tx = .inr (14, [.ref tbx, .int (nI zx)]) := (hR tx (by rw [hT_tx]; simp)).symm.trans hF_18
  have hF_31 : F tbx = .inl (cs 17, n, .inl fb) := (hR tbx (by rw [ht_10]; simp)).symm.trans hF_19
  refine pl_loopm (σ := Nat × Nat × (Nat → Nat → Nat) × (Nat → Int32) × (Nat → Int32) × (Nat → Int32)) A (dC, dI) cs ty gm L [ρ, ρ + 70, ρ + 71] F 7 6 (fun (j, cn, gq, e0, e1, e2) => [(2, .int (nI j)), (0, .ref h0), (1, .int 8)]) (fun (j, cn, gq, e0, e1, e2) => []) (fun (j, cn, gq, e0, e1, e2) FF => cn ≤ 40 ∧ j ≤ zx + 1 ∧ tgw (TC fb zx) zx (zx - j) j cn gq = tgT (TC fb zx) zx ∧ FF h0 = .inr (13, [.ref tx, .ref y0, .ref y1, .ref y2, .int (nI cn)]) ∧ FF y0 = .inl (cs 16, 40, .inl e0) ∧ FF y1 = .inl (cs 16, 40, .inl e1) ∧ FF y2 = .inl (cs 16, 40, .inl e2) ∧ HLD e0 e1 e2 cn gq ∧ TGI zx cn gq) (fun (j, cn, gq, e0, e1, e2) => zx + 1 - j) ?_ (0, 0, gz, f_20, f_23, f_26) F_15 (⟨Nat.zero_le _, by omega, rfl, hF_17, hF_21, hF_24, hF_27, HLD.nil, (fun j9 h9 => absurd h9 (Nat.not_lt_zero _))⟩) hO hR _ _ hP hD hS ls (lv_sub hl [0, 1, 2] rfl)
  rintro ⟨j, cn, gq, e0, e1, e2⟩ F_29 hv_32 hO hR ih_33 H locs hP hD hS ls hl
  have hl : lv_has ls 6 [(2, .int (nI j)), (0, .ref h0), (1, .int 8)] := hl
  have hv_32 : cn ≤ 40 ∧ j ≤ zx + 1 ∧ tgw (TC fb zx) zx (zx - j) j cn gq = tgT (TC fb zx) zx ∧ F_29 h0 = .inr (13, [.ref tx, .ref y0, .ref y1, .ref y2, .int (nI cn)]) ∧ F_29 y0 = .inl (cs 16, 40, .inl e0) ∧ F_29 y1 = .inl (cs 16, 40, .inl e1) ∧ F_29 y2 = .inl (cs 16, 40, .inl e2) ∧ HLD e0 e1 e2 cn gq ∧ TGI zx cn gq := hv_32
  refine W.eq (g2 := F0 m 7 ls []) rfl ?_
  have hF_34 : F_29 tx = .inr (14, [.ref tbx, .int (nI zx)]) := (hR tx (by rw [hT_tx]; simp)).trans hF_30
  have hF_35 : F_29 tbx = .inl (cs 17, n, .inl fb) := (hR tbx (by rw [ht_10]; simp)).trans hF_31
  obtain ⟨hv1, hv2, hv3, hN0, hN1, hN2, hN3, hN4, hN5⟩ := id hv_32
  have hq_36 := ixb_of hN1 (hO.idb hi_1 ht_4)
  have hq_37 := ixb_of hN2 (hO.idb hi_2 ht_5)
  have hq_38 := ixb_of hN3 (hO.idb hi_3 ht_6)
  refine lv_iload_n hx hb dX13_read_7 rfl (lv_at hl 0 rfl) ?_
  refine lv_aload_n hx hb dX13_read_8 rfl (lv_at hl 1 rfl) ?_
  refine pg_get (ci := 13) (v := .ref tx) (C := RX13) (T := TX13) (N := 5) hx hb hts it_13 hown hK hP hL_h0 hN0 rfl 0 (by decide) (hts _ kt_824) (fun _ h9 => h9) rfl dX13_read_9 ?_
  refine pg_get (ci := 14) (v := .int (nI zx)) (C := RX14) (T := TX14) (N := 2) hx hb hts it_14 hown hK hP hL_tx hF_34 rfl 1 (by decide) (hts _ kt_834) (fun _ h9 => h9) rfl dX13_read_12 ?_
  refine lv_icmp_ge (tgt := 237) hx hb dX13_read_15 (by decide) (fun c_39 => ?_) (fun c_39 => ?_)
  ·
    have hi_40 : zx ≤ j := leN (N := zx) c_39
    have hjz : zx ≤ j := (nI_leI (by omega) (by omega)).mp c_39
    refine lv_iconst (v := 1) hx hb dX13_read_237 (by decide) ?_
    refine W.widen (k := 0) (n := 0) (by omega) (by omega) ?_
    exact W.zret (v := 1) (ty := .boolean) hx hb hr (by decide) (fun t ht hWm => ⟨⟨1, (cn, gq), rfl, (Or.inl ⟨rfl, tgw_e hv3 hjz⟩), ⟨F_29, e0, e1, e2, QTm.mk ht hP hD hO hR, hN0, hN1, hN2, hN3, hN4, ⟨hN5, hv1⟩⟩⟩, hS.F ht⟩) hS.2.2 dX13_read_238
  ·
    have hi_41 : j < zx := ltN (N := zx) c_39
    have hjz : j < zx := Nat.not_le.mp (fun q => c_39 ((nI_leI (by omega) (by omega)).mpr q))
    have hF_44 : F tx = .inr (14, [.ref tbx, .int (nI zx)]) := (hR tx (by rw [hT_tx]; simp)).symm.trans hF_34
    have hF_45 : F tbx = .inl (cs 17, n, .inl fb) := (hR tbx (by rw [ht_10]; simp)).symm.trans hF_35
    refine W.widen (k := 0) (n := 0) (by omega) (by omega) ?_
    refine pl_cutm (σ := Nat × Nat) A (dC, dI) cs ty gm L [ρ, ρ + 70, ρ + 71] F 82 6 (fun (i, ee) => [(4, .int (nI ee)), (3, .int (nI i)), (2, .int (nI j)), (0, .ref h0), (1, .int 8)]) (fun (i, ee) => []) (fun (i, ee) FF => j ≤ i ∧ i ≤ zx ∧ fdT (TC fb zx) 59 j zx = i ∧ j ≤ ee ∧ ee ≤ i ∧ (∀ q9, j ≤ q9 → q9 < ee → SML ((TC fb zx) q9)) ∧ (ee = i ∨ ¬ SML ((TC fb zx) ee)) ∧ FF h0 = .inr (13, [.ref tx, .ref y0, .ref y1, .ref y2, .int (nI cn)]) ∧ FF y0 = .inl (cs 16, 40, .inl e0) ∧ FF y1 = .inl (cs 16, 40, .inl e1) ∧ FF y2 = .inl (cs 16, 40, .inl e2)) ?_ (fun jn_42 => ?_)
    ·
      rintro ⟨i, ee⟩ F_43 hv_46 hO hR H locs hP hD hS ls hl
      have hl : lv_has ls 6 [(4, .int (nI ee)), (3, .int (nI i)), (2, .int (nI j)), (0, .ref h0), (1, .int 8)] := hl
      have hv_46 : j ≤ i ∧ i ≤ zx ∧ fdT (TC fb zx) 59 j zx = i ∧ j ≤ ee ∧ ee ≤ i ∧ (∀ q9, j ≤ q9 → q9 < ee → SML ((TC fb zx) q9)) ∧ (ee = i ∨ ¬ SML ((TC fb zx) ee)) ∧ F_43 h0 = .inr (13, [.ref tx, .ref y0, .ref y1, .ref y2, .int (nI cn)]) ∧ F_43 y0 = .inl (cs 16, 40, .inl e0) ∧ F_43 y1 = .inl (cs 16, 40, .inl e1) ∧ F_43 y2 = .inl (cs 16, 40, .inl e2) := hv_46
      refine W.eq (g2 := F0 m 82 ls []) rfl ?_
      have hF_47 : F_43 tx = .inr (14, [.ref tbx, .int (nI zx)]) := (hR tx (by rw [hT_tx]; simp)).trans hF_44
      have hF_48 : F_43 tbx = .inl (cs 17, n, .inl fb) := (hR tbx (by rw [ht_10]; simp)).trans hF_45
      obtain ⟨hc1, hc2, hcE, hc3, hc4, hcs, hce, hM0, hM1, hM2, hM3⟩ := id hv_46
      refine lv_iload hx hb dX13_read_82 (lv_at hl 0 rfl) ?_
      refine lv_iload_n hx hb dX13_read_84 rfl (lv_at hl 2 rfl) ?_
      refine lv_isub hx hb dX13_read_85 ?_
      refine lv_topi (fun x_49 ex_49 => ?_)
      obtain rfl : x_49 = (nI (ee - j)) := ex_49.trans (pk_sub (a := ee) (b := j) (by omega))
      refine lv_i2l (v := (nI (ee - j)).toInt64) hx hb dX13_read_86 rfl ?_
      refine lv_lconst (v := 1) hx hb dX13_read_87 (by decide) ?_
      refine lv_iload_n hx hb dX13_read_88 rfl (lv_at hl 4 rfl) ?_
      refine lv_i2l (v := 8) hx hb dX13_read_89 (by decide) ?_
      have hFc := pg_free hD hS hA
      refine va_calli (va_runSN (As := [.long ((nI (ee - j)).toInt64), .long 1, .long 8]) (rest := []) ⟨hx, hb, hml, hown, hts⟩ (s_X15_in l dC dI cs ty gm L H.size F_43 ((nI (ee - j)).toInt64) 1 8 hW ) ⟨va_cnB 3 hts (gi kt_685) rfl rfl rfl (hE.nestw kn_42) (hts _ kt_669) (by decide +kernel) ⟨Nat.le_of_ble_eq_true rfl, Nat.le_of_ble_eq_true rfl⟩, (hts _ kt_686), trivial⟩ ⟨fun a U g mk q => ⟨q.1, PTm.calling q.2⟩, fun U hU hWm => ⟨rfl, PTm.mk hU hWm hP hK hD hE hO⟩⟩ rfl rfl hl.1 rfl (lv_room (Nat.le_of_ble_eq_true rfl)) dX13_read_90 ⟨by show _ + 0 ≤ 0; omega, by show _ + 0 ≤ 0; omega⟩) hS (fun q _ h => hFc q h) hFc (fun r_50 u t H1 locs ht hvm hw hB hz1 hk1 hS => ?_)
      obtain ⟨F_51, hB1⟩ := hB
      obtain rfl : F_43 = F_51 := (funext (fun a => hB1.2.2.2 a List.not_mem_nil)).symm
      obtain ⟨hP, hD, hO, hR⟩ := QTm.back hB1 ht hFc hR (fun q h => absurd h List.not_mem_nil)
      generalize H1 = H at hP hS ⊢
      have hw : r_50 = (if 1 ≤ (nI (ee - j)).toInt64 ∧ (nI (ee - j)).toInt64 ≤ 8 then 1 else 0) := hw
      have hw_52 := hw
      refine lv_if_eq (tgt := 126) hx hb dX13_read_93 (by decide) (fun c_53 => ?_) (fun c_53 => ?_)
      ·
        have hin := in_nat0 (lo := 1) (hi := 8) hw_52 c_53 (by decide) (by decide) (by omega)
        refine lv_iconst (v := 0) hx hb dX13_read_126 (by decide) ?_
        refine W.widen (k := 0) (n := 0) (by omega) (by omega) ?_
        exact W.zret (v := 0) (ty := .boolean) hx hb hr (by decide) (fun t ht hWm => ⟨⟨0, (cn, gq), rfl, (Or.inr ⟨rfl, tgw_n hv3 hjz hcE (fun q => hin ⟨by have h9 := (tgq_run q (by omega) hc3 hcs hce); omega, by have h9 := (tgq_run q (by omega) hc3 hcs hce); omega⟩)⟩), ⟨F_43, e0, e1, e2, QTm.mk ht hP hD hO hR, hM0, hM1, hM2, hM3, hN4, ⟨hN5, hv1⟩⟩⟩, hS.F ht⟩) hS.2.2 dX13_read_127
      ·
        have hin := in_nat (lo := 1) (hi := 8) hw_52 c_53 (by decide) (by decide) (by omega)
        refine lv_iload hx hb dX13_read_96 (lv_at hl 0 rfl) ?_
        refine lv_iload_n hx hb dX13_read_98 rfl (lv_at hl 1 rfl) ?_
        refine lv_icmp_eq (tgt := 126) hx hb dX13_read_99 (by decide) (fun c_54 => ?_) (fun c_54 => ?_)
        ·
          have hi_55 : ee = i := (nI_eq (a := ee) (b := i) (by omega) (by omega)).mp c_54
          have hei : ee = i := (nI_eq (by omega) (by omega)).mp c_54
          refine lv_iconst (v := 0) hx hb dX13_read_126 (by decide) ?_
          refine W.widen (k := 0) (n := 0) (by omega) (by omega) ?_
          exact W.zret (v := 0) (ty := .boolean) hx hb hr (by decide) (fun t ht hWm => ⟨⟨0, (cn, gq), rfl, (Or.inr ⟨rfl, tgw_n hv3 hjz hcE (fun q => absurd (tgq_run q (by omega) hc3 hcs hce).1 (by omega))⟩), ⟨F_43, e0, e1, e2, QTm.mk ht hP hD hO hR, hM0, hM1, hM2, hM3, hN4, ⟨hN5, hv1⟩⟩⟩, hS.F ht⟩) hS.2.2 dX13_read_127
        ·
          have hi_56 : ee ≠ i := fun q => c_54 (by rw [q])
          have hei : ee < i := by have h9 : ee ≠ i := fun q => c_54 (by rw [q]); omega
          refine lv_aload_n hx hb dX13_read_102 rfl (lv_at hl 3 rfl) ?_
          refine pg_get (ci := 13) (v := .ref tx) (C := RX13) (T := TX13) (N := 5) hx hb hts it_13 hown hK hP hL_h0 hM0 rfl 0 (by decide) (hts _ kt_824) (fun _ h9 => h9) rfl dX13_read_103 ?_
          refine pg_get (ci := 14) (v := .ref tbx) (C := RX14) (T := TX14) (N := 2) hx hb hts it_14 hown hK hP hL_tx hF_47 rfl 0 (by decide) (hts _ kt_825) (fun _ h9 => h9) rfl dX13_read_106 ?_
          refine lv_iload hx hb dX13_read_109 (lv_at hl 0 rfl) ?_
          obtain ⟨hq_57, hq_58⟩ := hW.octs hi_9 ht_10
          refine pg_bald hx hb hK hP hi_9 1 hF_48 rfl (vp_in_nI (by omega) (by omega)) dX13_read_111 ?_
          refine lv_topi (fun x_59 ex_59 => ?_)
          obtain rfl : x_59 = fb ee := ex_59.trans (congrArg fb (show ((nI ee) : Int32).toNatClampNeg = ee from nI_clamp (by omega)))
          refine lv_bipush (v := 61) hx hb dX13_read_112 (by decide) ?_
          refine lv_icmp_ne (tgt := 126) hx hb dX13_read_114 (by decide) (fun c_60 => ?_) (fun c_60 => ?_)
          ·
            have ht61 : ¬ (TC fb zx) ee = 61 := fun q => c_60 ((tcc (show ee < zx by omega) 61 (by omega)).mp q)
            refine lv_iconst (v := 0) hx hb dX13_read_126 (by decide) ?_
            refine W.widen (k := 0) (n := 0) (by omega) (by omega) ?_
            exact W.zret (v := 0) (ty := .boolean) hx hb hr (by decide) (fun t ht hWm => ⟨⟨0, (cn, gq), rfl, (Or.inr ⟨rfl, tgw_n hv3 hjz hcE (fun q => ht61 (tgq_run q (by omega) hc3 hcs hce).2.2.2.1)⟩), ⟨F_43, e0, e1, e2, QTm.mk ht hP hD hO hR, hM0, hM1, hM2, hM3, hN4, ⟨hN5, hv1⟩⟩⟩, hS.F ht⟩) hS.2.2 dX13_read_127
          ·
            have ht61 : (TC fb zx) ee = 61 := (tcc (show ee < zx by omega) 61 (by omega)).mpr c_60
            refine lv_aload_n hx hb dX13_read_117 rfl (lv_at hl 3 rfl) ?_
            refine pg_get (ci := 13) (v := .int (nI cn)) (C := RX13) (T := TX13) (N := 5) hx hb hts it_13 hown hK hP hL_h0 hM0 rfl 4 (by decide) (hts _ kt_823) (fun _ h9 => h9) rfl dX13_read_118 ?_
            refine lv_bipush (v := 40) hx hb dX13_read_121 (by decide) ?_
            refine lv_icmp_ne (tgt := 128) hx hb dX13_read_123 (by decide) (fun c_61 => ?_) (fun c_61 => ?_)
            ·
              have hi_62 : cn ≠ 40 := fun q => c_61 (by rw [q]; rfl)
              have hc40 : cn < 40 := by have h9 : cn ≠ 40 := fun h => c_61 (by rw [h]; rfl); omega
              refine lv_iconst (v := 0) hx hb dX13_read_128 (by decide) ?_
              refine lv_istore (lv' := [(5, .int 0), (4, .int (nI ee)), (3, .int (nI i)), (2, .int (nI j)), (0, .ref h0), (1, .int 8)]) hx hb dX13_read_129 hl (by decide) rfl (fun ls hl => ?_)
              refine W.widen (k := 0) (n := 0) (by omega) (by omega) ?_
              have hF_64 : F tx = .inr (14, [.ref tbx, .int (nI zx)]) := (hR tx (by rw [hT_tx]; simp)).symm.trans hF_47
              have hF_65 : F tbx = .inl (cs 17, n, .inl fb) := (hR tbx (by rw [ht_10]; simp)).symm.trans hF_48
              refine pl_loopm (σ := Nat) A (dC, dI) cs ty gm L [ρ, ρ + 70, ρ + 71] F 131 6 (fun kk => [(5, .int (nI kk)), (4, .int (nI ee)), (3, .int (nI i)), (2, .int (nI j)), (0, .ref h0), (1, .int 8)]) (fun kk => []) (fun kk FF => kk ≤ cn ∧ (∀ k, k < kk → ¬ MCH (TC fb zx) gq j ee k) ∧ FF h0 = .inr (13, [.ref tx, .ref y0, .ref y1, .ref y2, .int (nI cn)]) ∧ FF y0 = .inl (cs 16, 40, .inl e0) ∧ FF y1 = .inl (cs 16, 40, .inl e1) ∧ FF y2 = .inl (cs 16, 40, .inl e2)) (fun kk => cn - kk) ?_ 0 F_43 (⟨Nat.zero_le _, fun k hk => absurd hk (Nat.not_lt_zero _), hM0, hM1, hM2, hM3⟩) hO hR _ _ hP hD hS ls (lv_sub hl [0, 1, 2, 3, 4, 5] rfl)
              rintro kk F_63 hv_66 hO hR ih_67 H locs hP hD hS ls hl
              have hl : lv_has ls 6 [(5, .int (nI kk)), (4, .int (nI ee)), (3, .int (nI i)), (2, .int (nI j)), (0, .ref h0), (1, .int 8)] := hl
              have hv_66 : kk ≤ cn ∧ (∀ k, k < kk → ¬ MCH (TC fb zx) gq j ee k) ∧ F_63 h0 = .inr (13, [.ref tx, .ref y0, .ref y1, .ref y2, .int (nI cn)]) ∧ F_63 y0 = .inl (cs 16, 40, .inl e0) ∧ F_63 y1 = .inl (cs 16, 40, .inl e1) ∧ F_63 y2 = .inl (cs 16, 40, .inl e2) := hv_66
              refine W.eq (g2 := F0 m 131 ls []) rfl ?_
              have hF_68 : F_63 tx = .inr (14, [.ref tbx, .int (nI zx)]) := (hR tx (by rw [hT_tx]; simp)).trans hF_64
              have hF_69 : F_63 tbx = .inl (cs 17, n, .inl fb) := (hR tbx (by rw [ht_10]; simp)).trans hF_65
              obtain ⟨hf1, hf2, hU0, hU1, hU2, hU3⟩ := id hv_66
              refine lv_iload hx hb dX13_read_131 (lv_at hl 0 rfl) ?_
              refine lv_aload_n hx hb dX13_read_133 rfl (lv_at hl 4 rfl) ?_
              refine pg_get (ci := 13) (v := .int (nI cn)) (C := RX13) (T := TX13) (N := 5) hx hb hts it_13 hown hK hP hL_h0 hU0 rfl 4 (by decide) (hts _ kt_823) (fun _ h9 => h9) rfl dX13_read_134 ?_
              refine lv_icmp_ge (tgt := 189) hx hb dX13_read_137 (by decide) (fun c_70 => ?_) (fun c_70 => ?_)
              ·
                have hi_71 : cn ≤ kk := leN (N := cn) c_70
                have hkn : ¬ KNW (TC fb zx) gq cn j ee := fun q => by have h8 : cn ≤ kk := (nI_leI (by omega) (by omega)).mp c_70; obtain ⟨k9, h7, h9⟩ := q; exact hf2 k9 (by omega) h9
                have hq_72 := ixb_of hU1 (hO.idb hi_1 ht_4)
                have hq_73 := ixb_of hU2 (hO.idb hi_2 ht_5)
                have hq_74 := ixb_of hU3 (hO.idb hi_3 ht_6)
                refine lv_aload_n hx hb dX13_read_189 rfl (lv_at hl 4 rfl) ?_
                refine pg_get (ci := 13) (v := .ref y0) (C := RX13) (T := TX13) (N := 5) hx hb hts it_13 hown hK hP hL_h0 hU0 rfl 1 (by decide) (hts _ kt_826) (fun _ h9 => h9) rfl dX13_read_190 ?_
                refine lv_aload_n hx hb dX13_read_193 rfl (lv_at hl 4 rfl) ?_
                refine pg_get (ci := 13) (v := .int (nI cn)) (C := RX13) (T := TX13) (N := 5) hx hb hts it_13 hown hK hP hL_h0 hU0 rfl 4 (by decide) (hts _ kt_823) (fun _ h9 => h9) rfl dX13_read_194 ?_
                refine lv_iload_n hx hb dX13_read_197 rfl (lv_at hl 3 rfl) ?_
                refine pg_iast hx hb hK hP hD hS hi_1 0 hU1 rfl (vp_in_nI (by omega) (by omega)) dX13_read_198 (fun H locs hP hD hS => ?_)
                obtain ⟨F_75, he_76, hP, hD, hO, hR⟩ : ∃ G, G = va_up F_63 y0 (.inl (cs 16, 40, .inl (upd e0 ((nI cn)).toNatClampNeg ((nI j))))) ∧ va_P (dC, dI) vwCl (va_pl L G) H ∧ va_D A (va_pl L G) ∧ OKm cs ty gm L G ∧ FR ty [ρ, ρ + 70, ρ + 71] F G := ⟨_, rfl, hP, hD, hO.up (shm.idb ht_4 ⟨_, rfl, ixb_upd hq_72 _ _ (by omega)⟩), hR.up ht_4 (by simp)⟩
                have hF_77 : F_75 y0 = .inl (cs 16, 40, .inl (upd e0 ((nI cn)).toNatClampNeg ((nI j)))) := by rw [he_76]; exact up_self
                have hF_78 : F_75 tx = .inr (14, [.ref tbx, .int (nI zx)]) := by rw [he_76, up_ne (ne_ty hT_tx ht_4 (by simp))]; exact hF_68
                have hF_79 : F_75 tbx = .inl (cs 17, n, .inl fb) := by rw [he_76, up_ne (ne_ty ht_10 ht_4 (by simp))]; exact hF_69
                have hF_80 : F_75 h0 = .inr (13, [.ref tx, .ref y0, .ref y1, .ref y2, .int (nI cn)]) := by rw [he_76, up_ne (ne_ty hT_h0 ht_4 (by simp))]; exact hU0
                have hF_81 : F_75 y1 = .inl (cs 16, 40, .inl e1) := by rw [he_76, up_ne (ne_ty2 ht_5 ht_4 (by simp))]; exact hU2
                have hF_82 : F_75 y2 = .inl (cs 16, 40, .inl e2) := by rw [he_76, up_ne (ne_ty2 ht_6 ht_4 (by simp))]; exact hU3
                obtain ⟨f_83, hF_77, hq_84, hfe_85⟩ : ∃ f : Nat → Int32, F_75 y0 = .inl (cs 16, 40, .inl f) ∧ IXB Bn f ∧ f = upd e0 ((nI cn)).toNatClampNeg ((nI j)) := ⟨_, hF_77, ixb_upd hq_72 _ _ (by omega), rfl⟩
                refine lv_aload_n hx hb dX13_read_199 rfl (lv_at hl 4 rfl) ?_
                refine pg_get (ci := 13) (v := .ref y1) (C := RX13) (T := TX13) (N := 5) hx hb hts it_13 hown hK hP hL_h0 hF_80 rfl 2 (by decide) (hts _ kt_827) (fun _ h9 => h9) rfl dX13_read_200 ?_
                refine lv_aload_n hx hb dX13_read_203 rfl (lv_at hl 4 rfl) ?_
                refine pg_get (ci := 13) (v := .int (nI cn)) (C := RX13) (T := TX13) (N := 5) hx hb hts it_13 hown hK hP hL_h0 hF_80 rfl 4 (by decide) (hts _ kt_823) (fun _ h9 => h9) rfl dX13_read_204 ?_
                refine lv_iload hx hb dX13_read_207 (lv_at hl 1 rfl) ?_
                refine pg_iast hx hb hK hP hD hS hi_2 0 hF_81 rfl (vp_in_nI (by omega) (by omega)) dX13_read_209 (fun H locs hP hD hS => ?_)
                obtain ⟨F_86, he_87, hP, hD, hO, hR⟩ : ∃ G, G = va_up F_75 y1 (.inl (cs 16, 40, .inl (upd e1 ((nI cn)).toNatClampNeg ((nI ee))))) ∧ va_P (dC, dI) vwCl (va_pl L G) H ∧ va_D A (va_pl L G) ∧ OKm cs ty gm L G ∧ FR ty [ρ, ρ + 70, ρ + 71] F G := ⟨_, rfl, hP, hD, hO.up (shm.idb ht_5 ⟨_, rfl, ixb_upd hq_73 _ _ (by omega)⟩), hR.up ht_5 (by simp)⟩
                have hF_88 : F_86 y1 = .inl (cs 16, 40, .inl (upd e1 ((nI cn)).toNatClampNeg ((nI ee)))) := by rw [he_87]; exact up_self
                have hF_89 : F_86 y0 = .inl (cs 16, 40, .inl f_83) := by rw [he_87, up_ne (ne_ty2 ht_4 ht_5 (by simp))]; exact hF_77
                have hF_90 : F_86 tx = .inr (14, [.ref tbx, .int (nI zx)]) := by rw [he_87, up_ne (ne_ty hT_tx ht_5 (by simp))]; exact hF_78
                have hF_91 : F_86 tbx = .inl (cs 17, n, .inl fb) := by rw [he_87, up_ne (ne_ty ht_10 ht_5 (by simp))]; exact hF_79
                have hF_92 : F_86 h0 = .inr (13, [.ref tx, .ref y0, .ref y1, .ref y2, .int (nI cn)]) := by rw [he_87, up_ne (ne_ty hT_h0 ht_5 (by simp))]; exact hF_80
                have hF_93 : F_86 y2 = .inl (cs 16, 40, .inl e2) := by rw [he_87, up_ne (ne_ty2 ht_6 ht_5 (by simp))]; exact hF_82
                obtain ⟨f_94, hF_88, hq_95, hfe_96⟩ : ∃ f : Nat → Int32, F_86 y1 = .inl (cs 16, 40, .inl f) ∧ IXB Bn f ∧ f = upd e1 ((nI cn)).toNatClampNeg ((nI ee)) := ⟨_, hF_88, ixb_upd hq_73 _ _ (by omega), rfl⟩
                refine lv_aload_n hx hb dX13_read_210 rfl (lv_at hl 4 rfl) ?_
                refine pg_get (ci := 13) (v := .ref y2) (C := RX13) (T := TX13) (N := 5) hx hb hts it_13 hown hK hP hL_h0 hF_92 rfl 3 (by decide) (hts _ kt_833) (fun _ h9 => h9) rfl dX13_read_211 ?_
                refine lv_aload_n hx hb dX13_read_214 rfl (lv_at hl 4 rfl) ?_
                refine pg_get (ci := 13) (v := .int (nI cn)) (C := RX13) (T := TX13) (N := 5) hx hb hts it_13 hown hK hP hL_h0 hF_92 rfl 4 (by decide) (hts _ kt_823) (fun _ h9 => h9) rfl dX13_read_215 ?_
                refine lv_iload_n hx hb dX13_read_218 rfl (lv_at hl 2 rfl) ?_
                refine pg_iast hx hb hK hP hD hS hi_3 0 hF_93 rfl (vp_in_nI (by omega) (by omega)) dX13_read_219 (fun H locs hP hD hS => ?_)
                obtain ⟨F_97, he_98, hP, hD, hO, hR⟩ : ∃ G, G = va_up F_86 y2 (.inl (cs 16, 40, .inl (upd e2 ((nI cn)).toNatClampNeg ((nI i))))) ∧ va_P (dC, dI) vwCl (va_pl L G) H ∧ va_D A (va_pl L G) ∧ OKm cs ty gm L G ∧ FR ty [ρ, ρ + 70, ρ + 71] F G := ⟨_, rfl, hP, hD, hO.up (shm.idb ht_6 ⟨_, rfl, ixb_upd hq_74 _ _ (by omega)⟩), hR.up ht_6 (by simp)⟩
                have hF_99 : F_97 y2 = .inl (cs 16, 40, .inl (upd e2 ((nI cn)).toNatClampNeg ((nI i)))) := by rw [he_98]; exact up_self
                have hF_100 : F_97 y1 = .inl (cs 16, 40, .inl f_94) := by rw [he_98, up_ne (ne_ty2 ht_5 ht_6 (by simp))]; exact hF_88
                have hF_101 : F_97 y0 = .inl (cs 16, 40, .inl f_83) := by rw [he_98, up_ne (ne_ty2 ht_4 ht_6 (by simp))]; exact hF_89
                have hF_102 : F_97 tx = .inr (14, [.ref tbx, .int (nI zx)]) := by rw [he_98, up_ne (ne_ty hT_tx ht_6 (by simp))]; exact hF_90
                have hF_103 : F_97 tbx = .inl (cs 17, n, .inl fb) := by rw [he_98, up_ne (ne_ty ht_10 ht_6 (by simp))]; exact hF_91
                have hF_104 : F_97 h0 = .inr (13, [.ref tx, .ref y0, .ref y1, .ref y2, .int (nI cn)]) := by rw [he_98, up_ne (ne_ty hT_h0 ht_6 (by simp))]; exact hF_92
                obtain ⟨f_105, hF_99, hq_106, hfe_107⟩ : ∃ f : Nat → Int32, F_97 y2 = .inl (cs 16, 40, .inl f) ∧ IXB Bn f ∧ f = upd e2 ((nI cn)).toNatClampNeg ((nI i)) := ⟨_, hF_99, ixb_upd hq_74 _ _ (by omega), rfl⟩
                refine lv_aload_n hx hb dX13_read_220 rfl (lv_at hl 4 rfl) ?_
                refine lv_dup hx hb dX13_read_221 rfl ?_
                refine pg_get (ci := 13) (v := .int (nI cn)) (C := RX13) (T := TX13) (N := 5) hx hb hts it_13 hown hK hP hL_h0 hF_104 rfl 4 (by decide) (hts _ kt_823) (fun _ h9 => h9) rfl dX13_read_222 ?_
                refine lv_iconst (v := 1) hx hb dX13_read_225 (by decide) ?_
                refine lv_iadd hx hb dX13_read_226 ?_
                refine lv_topi (fun x_108 ex_108 => ?_)
                obtain rfl : x_108 = (nI (cn + 1)) := ex_108.trans (nI_add cn 1)
                refine pg_put (ci := 13) (v := .int (nI (cn + 1))) (ty := .int) (C := RX13) (T := TX13) (N := 5) hx hb hts it_13 tyX13 tyX13_ok nmX13 hown hK hP hD hS hL_h0 hF_104 rfl 4 (by decide) (hts _ kt_823) (fun _ h9 => h9) rfl (by decide +kernel) (rfl) (rfl) (Nat.le_of_ble_eq_true rfl) dX13_read_227 (fun H locs hP hD hS => ?_)
                obtain ⟨F_109, he_110, hP, hD, hO, hR⟩ : ∃ G, G = va_up F_97 h0 (.inr (13, [.ref tx, .ref y0, .ref y1, .ref y2, .int (nI (cn + 1))])) ∧ va_P (dC, dI) vwCl (va_pl L G) H ∧ va_D A (va_pl L G) ∧ OKm cs ty gm L G ∧ FR ty [ρ, ρ + 70, ρ + 71] F G := ⟨_, rfl, hP, hD, hO.up (shm.tags hT_h0 ⟨(cn + 1), rfl, (by first | omega | assumption | exact Or.inl rfl | exact Or.inr rfl)⟩), hR.up hT_h0 (by simp)⟩
                have hF_111 : F_109 h0 = .inr (13, [.ref tx, .ref y0, .ref y1, .ref y2, .int (nI (cn + 1))]) := by rw [he_110]; exact up_self
                have hF_112 : F_109 y2 = .inl (cs 16, 40, .inl f_105) := by rw [he_110, up_ne (ne_ty ht_6 hT_h0 (by simp))]; exact hF_99
                have hF_113 : F_109 y1 = .inl (cs 16, 40, .inl f_94) := by rw [he_110, up_ne (ne_ty ht_5 hT_h0 (by simp))]; exact hF_100
                have hF_114 : F_109 y0 = .inl (cs 16, 40, .inl f_83) := by rw [he_110, up_ne (ne_ty ht_4 hT_h0 (by simp))]; exact hF_101
                have hF_115 : F_109 tx = .inr (14, [.ref tbx, .int (nI zx)]) := by rw [he_110, up_ne (ne_ty hT_tx hT_h0 (by simp))]; exact hF_102
                have hF_116 : F_109 tbx = .inl (cs 17, n, .inl fb) := by rw [he_110, up_ne (ne_ty ht_10 hT_h0 (by simp))]; exact hF_103
                have hHL9 : HLD f_83 f_94 f_105 (cn + 1) (gpt gq cn j ee i) := by rw [hfe_85, hfe_96, hfe_107, nI_clamp (by omega)]; exact hN4.add
                have hTI9 : TGI zx (cn + 1) (gpt gq cn j ee i) := by have h8 := tgq_mk (T := (TC fb zx)) (g := gq) (e := i) (by omega) (by omega) (by omega) (by omega) hcs ht61 hkn; have h9 := hN5.add h8.2 hc2; rw [h8.1] at h9; exact h9
                refine lv_iload_n hx hb dX13_read_230 rfl (lv_at hl 2 rfl) ?_
                refine lv_iconst (v := 1) hx hb dX13_read_231 (by decide) ?_
                refine lv_iadd hx hb dX13_read_232 ?_
                refine lv_topi (fun x_117 ex_117 => ?_)
                obtain rfl : x_117 = (nI (i + 1)) := ex_117.trans (nI_add i 1)
                refine lv_istore_n (lv' := [(2, .int (nI (i + 1))), (5, .int (nI kk)), (4, .int (nI ee)), (3, .int (nI i)), (0, .ref h0), (1, .int 8)]) hx hb dX13_read_233 rfl hl (by decide) rfl (fun ls hl => ?_)
                refine lv_goto (tgt := 7) hx hb dX13_read_234 (by decide) ?_
                refine W.widen (k := 0) (n := 0) (by omega) (by omega) ?_
                exact ih_33 ((i + 1), (cn + 1), (gpt gq cn j ee i), f_83, f_94, f_105) F_109 (⟨by omega, by omega, by have h9 := tgw_y hv3 (by omega) hcE (tgq_mk (by omega) (by omega) (by omega) (by omega) hcs ht61 hkn).2 (Or.inl rfl); rw [(tgq_mk (T := (TC fb zx)) (g := gq) (by omega) (by omega) (by omega) (by omega) hcs ht61 hkn).1] at h9; exact h9, hF_111, hF_114, hF_113, hF_112, hHL9, hTI9⟩) (by show zx + 1 - (i + 1) < zx + 1 - j; omega) hO hR _ _ hP hD hS ls (lv_sub hl [0, 4, 5] rfl)
              ·
                have hi_118 : kk < cn := ltN (N := cn) c_70
                have hkz : kk < cn := Nat.not_le.mp (fun q => c_70 ((nI_leI (by omega) (by omega)).mpr q))
                obtain ⟨hg1, hg2, hg3⟩ := hN5 kk hkz
                refine lv_aload_n hx hb dX13_read_140 rfl (lv_at hl 4 rfl) ?_
                refine pg_get (ci := 13) (v := .ref y1) (C := RX13) (T := TX13) (N := 5) hx hb hts it_13 hown hK hP hL_h0 hU0 rfl 2 (by decide) (hts _ kt_827) (fun _ h9 => h9) rfl dX13_read_141 ?_
                refine lv_iload hx hb dX13_read_144 (lv_at hl 0 rfl) ?_
                refine pg_iald hx hb hK hP hi_2 0 hU2 rfl (vp_in_nI (by omega) (by omega)) dX13_read_146 ?_
                refine lv_topi (fun x_119 ex_119 => ?_)
                obtain rfl : x_119 = (nI (gq 1 kk)) := ex_119.trans (((congrArg e1 (nI_clamp (by omega))).trans (hN4 kk hkz).2.1))
                refine lv_aload_n hx hb dX13_read_147 rfl (lv_at hl 4 rfl) ?_
                refine pg_get (ci := 13) (v := .ref y0) (C := RX13) (T := TX13) (N := 5) hx hb hts it_13 hown hK hP hL_h0 hU0 rfl 1 (by decide) (hts _ kt_826) (fun _ h9 => h9) rfl dX13_read_148 ?_
                refine lv_iload hx hb dX13_read_151 (lv_at hl 0 rfl) ?_
                refine pg_iald hx hb hK hP hi_1 0 hU1 rfl (vp_in_nI (by omega) (by omega)) dX13_read_153 ?_
                refine lv_topi (fun x_120 ex_120 => ?_)
                obtain rfl : x_120 = (nI (gq 0 kk)) := ex_120.trans (((congrArg e0 (nI_clamp (by omega))).trans (hN4 kk hkz).1))
                refine lv_isub hx hb dX13_read_154 ?_
                refine lv_topi (fun x_121 ex_121 => ?_)
                obtain rfl : x_121 = (nI ((gq 1 kk) - (gq 0 kk))) := ex_121.trans (pk_sub (a := (gq 1 kk)) (b := (gq 0 kk)) (by omega))
                refine lv_iload hx hb dX13_read_155 (lv_at hl 1 rfl) ?_
                refine lv_iload_n hx hb dX13_read_157 rfl (lv_at hl 3 rfl) ?_
                refine lv_isub hx hb dX13_read_158 ?_
                refine lv_topi (fun x_122 ex_122 => ?_)
                obtain rfl : x_122 = (nI (ee - j)) := ex_122.trans (pk_sub (a := ee) (b := j) (by omega))
                refine lv_icmp_ne (tgt := 183) hx hb dX13_read_159 (by decide) (fun c_123 => ?_) (fun c_123 => ?_)
                ·
                  have hi_124 : ((gq 1 kk) - (gq 0 kk)) ≠ (ee - j) := fun q => c_123 (by rw [q])
                  have hle : ¬ gq 1 kk - gq 0 kk = ee - j := fun q => c_123 (by rw [q])
                  refine lv_iinc (v := (nI (kk + 1))) (lv' := [(5, .int (nI (kk + 1))), (4, .int (nI ee)), (3, .int (nI i)), (2, .int (nI j)), (0, .ref h0), (1, .int 8)]) hx hb dX13_read_183 hl (k := 0) rfl (nI_1 _) (by decide) rfl (fun ls hl => ?_)
                  refine lv_goto (tgt := 131) hx hb dX13_read_186 (by decide) ?_
                  refine W.widen (k := 0) (n := 0) (by omega) (by omega) ?_
                  exact ih_67 (kk + 1) F_63 (⟨by omega, all_step hf2 (fun q => hle q.1), hU0, hU1, hU2, hU3⟩) (by show cn - (kk + 1) < cn - kk; omega) hO hR _ _ hP hD hS ls (lv_sub hl [0, 1, 2, 3, 4, 5] rfl)
                ·
                  have hi_125 : ((gq 1 kk) - (gq 0 kk)) = (ee - j) := (nI_eq (a := ((gq 1 kk) - (gq 0 kk))) (b := (ee - j)) (by omega) (by omega)).mp c_123
                  have hle : gq 1 kk - gq 0 kk = ee - j := (nI_eq (by omega) (by omega)).mp c_123
                  refine lv_aload_n hx hb dX13_read_162 rfl (lv_at hl 4 rfl) ?_
                  refine lv_aload_n hx hb dX13_read_163 rfl (lv_at hl 4 rfl) ?_
                  refine pg_get (ci := 13) (v := .ref y0) (C := RX13) (T := TX13) (N := 5) hx hb hts it_13 hown hK hP hL_h0 hU0 rfl 1 (by decide) (hts _ kt_826) (fun _ h9 => h9) rfl dX13_read_164 ?_
                  refine lv_iload hx hb dX13_read_167 (lv_at hl 0 rfl) ?_
                  refine pg_iald hx hb hK hP hi_1 0 hU1 rfl (vp_in_nI (by omega) (by omega)) dX13_read_169 ?_
                  refine lv_topi (fun x_126 ex_126 => ?_)
                  obtain rfl : x_126 = (nI (gq 0 kk)) := ex_126.trans (((congrArg e0 (nI_clamp (by omega))).trans (hN4 kk hkz).1))
                  refine lv_iload_n hx hb dX13_read_170 rfl (lv_at hl 3 rfl) ?_
                  refine lv_iload hx hb dX13_read_171 (lv_at hl 1 rfl) ?_
                  refine lv_iload_n hx hb dX13_read_173 rfl (lv_at hl 3 rfl) ?_
                  refine lv_isub hx hb dX13_read_174 ?_
                  refine lv_topi (fun x_127 ex_127 => ?_)
                  obtain rfl : x_127 = (nI (ee - j)) := ex_127.trans (pk_sub (a := ee) (b := j) (by omega))
                  have hFc := pg_free hD hS hA
                  refine va_calli (va_runV (As := [.int (nI (gq 0 kk)), .int (nI j), .int (nI (ee - j))]) (rest := []) ⟨hx, hb, hml, hown, hts⟩ (s_X13_isSame_x l dC dI cs ty gm L H.size F_63 h0 ρ tx n Bn y0 y1 y2 tbx (gq 0 kk) j (ee - j) zx fb hW hL_h0 hT_h0 hL_tx hT_tx hF_68 hF_69 (hxn) (by omega) (by omega) (fun i9 h9 => hcs (j + i9) (by omega) (by omega))) ⟨callB_of 3 hts (gi kt_835) rfl rfl rfl (hts _ kt_829) (hts _ kt_836) (by decide +kernel) ⟨Nat.le_of_ble_eq_true rfl, Nat.le_of_ble_eq_true rfl⟩, (hts _ kt_837), (hts _ kt_838)⟩ ⟨fun a U g mk q => ⟨q.1, PTm.calling q.2⟩, pg_recv hK hP hL_h0 hU0 (q := (RX13, TX13, 5)) rfl, fun U hU hWm => ⟨rfl, PTm.mk hU hWm hP hK hD hE hO⟩⟩ rfl rfl hl.1 rfl (lv_room (Nat.le_of_ble_eq_true rfl)) dX13_read_175 ⟨by show _ + 0 ≤ 0; omega, by show _ + 0 ≤ 0; omega⟩) hS (fun q _ h => hFc q h) hFc (fun r_128 u t H1 locs ht hvm hw hB hz1 hk1 hS => ?_)
                  obtain ⟨F_129, hB1⟩ := hB
                  obtain rfl : F_63 = F_129 := (funext (fun a => hB1.2.2.2 a List.not_mem_nil)).symm
                  obtain ⟨hP, hD, hO, hR⟩ := QTm.back hB1 ht hFc hR (fun q h => absurd h List.not_mem_nil)
                  generalize H1 = H at hP hS ⊢
                  have hw : ((r_128 = 1 ∧ (∀ i, i < (ee - j) → (TC fb zx) ((gq 0 kk) + i) = (TC fb zx) (j + i))) ∨ (r_128 = 0 ∧ ¬ (∀ i, i < (ee - j) → (TC fb zx) ((gq 0 kk) + i) = (TC fb zx) (j + i)))) := hw
                  have hw_130 := hw
                  refine lv_if_eq (tgt := 183) hx hb dX13_read_178 (by decide) (fun c_131 => ?_) (fun c_131 => ?_)
                  ·
                    refine lv_iinc (v := (nI (kk + 1))) (lv' := [(5, .int (nI (kk + 1))), (4, .int (nI ee)), (3, .int (nI i)), (2, .int (nI j)), (0, .ref h0), (1, .int 8)]) hx hb dX13_read_183 hl (k := 0) rfl (nI_1 _) (by decide) rfl (fun ls hl => ?_)
                    refine lv_goto (tgt := 131) hx hb dX13_read_186 (by decide) ?_
                    refine W.widen (k := 0) (n := 0) (by omega) (by omega) ?_
                    exact ih_67 (kk + 1) F_63 (⟨by omega, all_step hf2 (fun q => orp0 hw_130 c_131 q.2), hU0, hU1, hU2, hU3⟩) (by show cn - (kk + 1) < cn - kk; omega) hO hR _ _ hP hD hS ls (lv_sub hl [0, 1, 2, 3, 4, 5] rfl)
                  ·
                    refine lv_iconst (v := 0) hx hb dX13_read_181 (by decide) ?_
                    refine W.widen (k := 0) (n := 0) (by omega) (by omega) ?_
                    exact W.zret (v := 0) (ty := .boolean) hx hb hr (by decide) (fun t ht hWm => ⟨⟨0, (cn, gq), rfl, (Or.inr ⟨rfl, tgw_n hv3 hjz hcE (fun q => (tgq_run q (by omega) hc3 hcs hce).2.2.2.2.2 ⟨kk, hkz, hle, orp1 hw_130 c_131⟩)⟩), ⟨F_63, e0, e1, e2, QTm.mk ht hP hD hO hR, hU0, hU1, hU2, hU3, hN4, ⟨hN5, hv1⟩⟩⟩, hS.F ht⟩) hS.2.2 dX13_read_182
            ·
              have hi_132 : cn = 40 := (nI_eq (a := cn) (b := 40) (by omega) (by omega)).mp c_61
              have hc40 : cn = 40 := (nI_eq (b := 40) (by omega) (by omega)).mp c_61
              refine lv_iconst (v := 0) hx hb dX13_read_126 (by decide) ?_
              refine W.widen (k := 0) (n := 0) (by omega) (by omega) ?_
              exact W.zret (v := 0) (ty := .boolean) hx hb hr (by decide) (fun t ht hWm => ⟨⟨0, (cn, gq), rfl, (Or.inr ⟨rfl, tgw_n hv3 hjz hcE (fun q => absurd (tgq_run q (by omega) hc3 hcs hce).2.2.2.2.1 (by omega))⟩), ⟨F_43, e0, e1, e2, QTm.mk ht hP hD hO hR, hM0, hM1, hM2, hM3, hN4, ⟨hN5, hv1⟩⟩⟩, hS.F ht⟩) hS.2.2 dX13_read_127
    ·
      refine lv_iload_n hx hb dX13_read_18 rfl (lv_at hl 0 rfl) ?_
      refine lv_istore_n (lv' := [(3, .int (nI j)), (2, .int (nI j)), (0, .ref h0), (1, .int 8)]) hx hb dX13_read_19 rfl hl (by decide) rfl (fun ls hl => ?_)
      refine lv_iload_n hx hb dX13_read_20 rfl (lv_at hl 1 rfl) ?_
      refine lv_istore (lv' := [(4, .int (nI j)), (3, .int (nI j)), (2, .int (nI j)), (0, .ref h0), (1, .int 8)]) hx hb dX13_read_21 hl (by decide) rfl (fun ls hl => ?_)
      refine W.widen (k := 0) (n := 0) (by omega) (by omega) ?_
      have hF_134 : F tx = .inr (14, [.ref tbx, .int (nI zx)]) := (hR tx (by rw [hT_tx]; simp)).symm.trans hF_34
      have hF_135 : F tbx = .inl (cs 17, n, .inl fb) := (hR tbx (by rw [ht_10]; simp)).symm.trans hF_35
      refine pl_loopm (σ := Nat) A (dC, dI) cs ty gm L [ρ, ρ + 70, ρ + 71] F 23 6 (fun ie => [(4, .int (nI j)), (3, .int (nI ie)), (2, .int (nI j)), (0, .ref h0), (1, .int 8)]) (fun ie => []) (fun ie FF => j ≤ ie ∧ ie ≤ zx ∧ (∀ q9, j ≤ q9 → q9 < ie → ¬ (TC fb zx) q9 = 59) ∧ FF h0 = .inr (13, [.ref tx, .ref y0, .ref y1, .ref y2, .int (nI cn)]) ∧ FF y0 = .inl (cs 16, 40, .inl e0) ∧ FF y1 = .inl (cs 16, 40, .inl e1) ∧ FF y2 = .inl (cs 16, 40, .inl e2)) (fun ie => zx - ie) ?_ j F_29 (⟨Nat.le_refl _, by omega, fun q9 h1 h2 => absurd h2 (by omega), hN0, hN1, hN2, hN3⟩) hO hR _ _ hP hD hS ls (lv_sub hl [0, 1, 2, 3, 4] rfl)
      rintro ie F_133 hv_136 hO hR ih_137 H locs hP hD hS ls hl
      have hl : lv_has ls 6 [(4, .int (nI j)), (3, .int (nI ie)), (2, .int (nI j)), (0, .ref h0), (1, .int 8)] := hl
      have hv_136 : j ≤ ie ∧ ie ≤ zx ∧ (∀ q9, j ≤ q9 → q9 < ie → ¬ (TC fb zx) q9 = 59) ∧ F_133 h0 = .inr (13, [.ref tx, .ref y0, .ref y1, .ref y2, .int (nI cn)]) ∧ F_133 y0 = .inl (cs 16, 40, .inl e0) ∧ F_133 y1 = .inl (cs 16, 40, .inl e1) ∧ F_133 y2 = .inl (cs 16, 40, .inl e2) := hv_136
      refine W.eq (g2 := F0 m 23 ls []) rfl ?_
      have hF_138 : F_133 tx = .inr (14, [.ref tbx, .int (nI zx)]) := (hR tx (by rw [hT_tx]; simp)).trans hF_134
      have hF_139 : F_133 tbx = .inl (cs 17, n, .inl fb) := (hR tbx (by rw [ht_10]; simp)).trans hF_135
      obtain ⟨hb1, hb2, hb3, hQ0, hQ1, hQ2, hQ3⟩ := id hv_136
      refine lv_iload_n hx hb dX13_read_23 rfl (lv_at hl 1 rfl) ?_
      refine lv_aload_n hx hb dX13_read_24 rfl (lv_at hl 3 rfl) ?_
      refine pg_get (ci := 13) (v := .ref tx) (C := RX13) (T := TX13) (N := 5) hx hb hts it_13 hown hK hP hL_h0 hQ0 rfl 0 (by decide) (hts _ kt_824) (fun _ h9 => h9) rfl dX13_read_25 ?_
      refine pg_get (ci := 14) (v := .int (nI zx)) (C := RX14) (T := TX14) (N := 2) hx hb hts it_14 hown hK hP hL_tx hF_138 rfl 1 (by decide) (hts _ kt_834) (fun _ h9 => h9) rfl dX13_read_28 ?_
      refine lv_icmp_ge (tgt := 54) hx hb dX13_read_31 (by decide) (fun c_140 => ?_) (fun c_140 => ?_)
      ·
        have hi_141 : zx ≤ ie := leN (N := zx) c_140
        have hiz : zx ≤ ie := (nI_leI (by omega) (by omega)).mp c_140
        refine W.widen (k := 0) (n := 0) (by omega) (by omega) ?_
        have hF_143 : F tx = .inr (14, [.ref tbx, .int (nI zx)]) := (hR tx (by rw [hT_tx]; simp)).symm.trans hF_138
        have hF_144 : F tbx = .inl (cs 17, n, .inl fb) := (hR tbx (by rw [ht_10]; simp)).symm.trans hF_139
        refine pl_loopm (σ := Nat) A (dC, dI) cs ty gm L [ρ, ρ + 70, ρ + 71] F 54 6 (fun ef => [(4, .int (nI ef)), (3, .int (nI ie)), (2, .int (nI j)), (0, .ref h0), (1, .int 8)]) (fun ef => []) (fun ef FF => j ≤ ef ∧ ef ≤ ie ∧ (∀ q9, j ≤ q9 → q9 < ef → SML ((TC fb zx) q9)) ∧ FF h0 = .inr (13, [.ref tx, .ref y0, .ref y1, .ref y2, .int (nI cn)]) ∧ FF y0 = .inl (cs 16, 40, .inl e0) ∧ FF y1 = .inl (cs 16, 40, .inl e1) ∧ FF y2 = .inl (cs 16, 40, .inl e2)) (fun ef => ie - ef) ?_ j F_133 (⟨Nat.le_refl _, by omega, fun q9 h1 h2 => absurd h2 (by omega), hQ0, hQ1, hQ2, hQ3⟩) hO hR _ _ hP hD hS ls (lv_sub hl [0, 1, 2, 3, 4] rfl)
        rintro ef F_142 hv_145 hO hR ih_146 H locs hP hD hS ls hl
        have hl : lv_has ls 6 [(4, .int (nI ef)), (3, .int (nI ie)), (2, .int (nI j)), (0, .ref h0), (1, .int 8)] := hl
        have hv_145 : j ≤ ef ∧ ef ≤ ie ∧ (∀ q9, j ≤ q9 → q9 < ef → SML ((TC fb zx) q9)) ∧ F_142 h0 = .inr (13, [.ref tx, .ref y0, .ref y1, .ref y2, .int (nI cn)]) ∧ F_142 y0 = .inl (cs 16, 40, .inl e0) ∧ F_142 y1 = .inl (cs 16, 40, .inl e1) ∧ F_142 y2 = .inl (cs 16, 40, .inl e2) := hv_145
        refine W.eq (g2 := F0 m 54 ls []) rfl ?_
        have hF_147 : F_142 tx = .inr (14, [.ref tbx, .int (nI zx)]) := (hR tx (by rw [hT_tx]; simp)).trans hF_143
        have hF_148 : F_142 tbx = .inl (cs 17, n, .inl fb) := (hR tbx (by rw [ht_10]; simp)).trans hF_144
        obtain ⟨hd1, hd2, hd3, hS0, hS1, hS2, hS3⟩ := id hv_145
        refine lv_iload hx hb dX13_read_54 (lv_at hl 0 rfl) ?_
        refine lv_iload_n hx hb dX13_read_56 rfl (lv_at hl 1 rfl) ?_
        refine lv_icmp_ge (tgt := 82) hx hb dX13_read_57 (by decide) (fun c_149 => ?_) (fun c_149 => ?_)
        ·
          have hi_150 : ie ≤ ef := leN (N := ie) c_149
          have hfi : ie ≤ ef := (nI_leI (by omega) (by omega)).mp c_149
          refine W.widen (k := 0) (n := 0) (by omega) (by omega) ?_
          exact jn_42 (ie, ef) F_142 (⟨hb1, hb2, fd_at hb1 hb2 hb3 (Or.inl (by omega)), hd1, hd2, hd3, (Or.inl (by omega)), hS0, hS1, hS2, hS3⟩) hO hR _ _ hP hD hS ls (lv_sub hl [0, 1, 2, 3, 4] rfl)
        ·
          have hi_151 : ef < ie := ltN (N := ie) c_149
          have hfi : ef < ie := Nat.not_le.mp (fun q => c_149 ((nI_leI (by omega) (by omega)).mpr q))
          refine lv_aload_n hx hb dX13_read_60 rfl (lv_at hl 3 rfl) ?_
          refine pg_get (ci := 13) (v := .ref tx) (C := RX13) (T := TX13) (N := 5) hx hb hts it_13 hown hK hP hL_h0 hS0 rfl 0 (by decide) (hts _ kt_824) (fun _ h9 => h9) rfl dX13_read_61 ?_
          refine pg_get (ci := 14) (v := .ref tbx) (C := RX14) (T := TX14) (N := 2) hx hb hts it_14 hown hK hP hL_tx hF_147 rfl 0 (by decide) (hts _ kt_825) (fun _ h9 => h9) rfl dX13_read_64 ?_
          refine lv_iload hx hb dX13_read_67 (lv_at hl 0 rfl) ?_
          obtain ⟨hq_152, hq_153⟩ := hW.octs hi_9 ht_10
          refine pg_bald hx hb hK hP hi_9 1 hF_148 rfl (vp_in_nI (by omega) (by omega)) dX13_read_69 ?_
          refine lv_topi (fun x_154 ex_154 => ?_)
          obtain rfl : x_154 = fb ef := ex_154.trans (congrArg fb (show ((nI ef) : Int32).toNatClampNeg = ef from nI_clamp (by omega)))
          have hFc := pg_free hD hS hA
          refine va_calli (va_runSN (As := [.int (fb ef)]) (rest := []) ⟨hx, hb, hml, hown, hts⟩ (s_X15_isSmall_e l dC dI cs ty gm L H.size F_142 (fb ef) hW ) ⟨va_cnB 1 hts (gi kt_668) rfl rfl rfl (hE.nestw kn_43) (hts _ kt_669) (by decide +kernel) ⟨Nat.le_of_ble_eq_true rfl, Nat.le_of_ble_eq_true rfl⟩, (hts _ kt_671), trivial⟩ ⟨fun a U g mk q => ⟨q.1, PTm.calling q.2⟩, fun U hU hWm => ⟨rfl, PTm.mk hU hWm hP hK hD hE hO⟩⟩ rfl rfl hl.1 rfl (lv_room (Nat.le_of_ble_eq_true rfl)) dX13_read_70 ⟨by show _ + 0 ≤ 0; omega, by show _ + 0 ≤ 0; omega⟩) hS (fun q _ h => hFc q h) hFc (fun r_155 u t H1 locs ht hvm hw hB hz1 hk1 hS => ?_)
          obtain ⟨F_156, hB1⟩ := hB
          obtain rfl : F_142 = F_156 := (funext (fun a => hB1.2.2.2 a List.not_mem_nil)).symm
          obtain ⟨hP, hD, hO, hR⟩ := QTm.back hB1 ht hFc hR (fun q h => absurd h List.not_mem_nil)
          generalize H1 = H at hP hS ⊢
          have hw : r_155 = (if 97 ≤ (fb ef) ∧ (fb ef) ≤ 122 then 1 else 0) := hw
          have hw_157 := hw
          refine lv_if_eq (tgt := 82) hx hb dX13_read_73 (by decide) (fun c_158 => ?_) (fun c_158 => ?_)
          ·
            have hnsm : ¬ SML ((TC fb zx) ef) := by rw [tcn_in (show ef < zx by omega)]; exact sms_n hw_157 c_158
            refine W.widen (k := 0) (n := 0) (by omega) (by omega) ?_
            exact jn_42 (ie, ef) F_142 (⟨hb1, hb2, fd_at hb1 hb2 hb3 (Or.inl (by omega)), hd1, hd2, hd3, (Or.inr hnsm), hS0, hS1, hS2, hS3⟩) hO hR _ _ hP hD hS ls (lv_sub hl [0, 1, 2, 3, 4] rfl)
          ·
            have hsm9 : SML ((TC fb zx) ef) := by rw [tcn_in (show ef < zx by omega)]; exact sms_d hw_157 c_158
            refine lv_iinc (v := (nI (ef + 1))) (lv' := [(4, .int (nI (ef + 1))), (3, .int (nI ie)), (2, .int (nI j)), (0, .ref h0), (1, .int 8)]) hx hb dX13_read_76 hl (k := 0) rfl (nI_1 _) (by decide) rfl (fun ls hl => ?_)
            refine lv_goto (tgt := 54) hx hb dX13_read_79 (by decide) ?_
            refine W.widen (k := 0) (n := 0) (by omega) (by omega) ?_
            exact ih_146 (ef + 1) F_142 (⟨by omega, by omega, fun q9 h1 h2 => by rcases Nat.lt_or_ge q9 ef with w9 | w9; exact hd3 q9 h1 w9; rw [show q9 = ef by omega]; exact hsm9, hS0, hS1, hS2, hS3⟩) (by show ie - (ef + 1) < ie - ef; omega) hO hR _ _ hP hD hS ls (lv_sub hl [0, 1, 2, 3, 4] rfl)
      ·
        have hi_159 : ie < zx := ltN (N := zx) c_140
        have hiz : ie < zx := Nat.not_le.mp (fun q => c_140 ((nI_leI (by omega) (by omega)).mpr q))
        refine lv_aload_n hx hb dX13_read_34 rfl (lv_at hl 3 rfl) ?_
        refine pg_get (ci := 13) (v := .ref tx) (C := RX13) (T := TX13) (N := 5) hx hb hts it_13 hown hK hP hL_h0 hQ0 rfl 0 (by decide) (hts _ kt_824) (fun _ h9 => h9) rfl dX13_read_35 ?_
        refine pg_get (ci := 14) (v := .ref tbx) (C := RX14) (T := TX14) (N := 2) hx hb hts it_14 hown hK hP hL_tx hF_138 rfl 0 (by decide) (hts _ kt_825) (fun _ h9 => h9) rfl dX13_read_38 ?_
        refine lv_iload_n hx hb dX13_read_41 rfl (lv_at hl 1 rfl) ?_
        obtain ⟨hq_160, hq_161⟩ := hW.octs hi_9 ht_10
        refine pg_bald hx hb hK hP hi_9 1 hF_139 rfl (vp_in_nI (by omega) (by omega)) dX13_read_42 ?_
        refine lv_topi (fun x_162 ex_162 => ?_)
        obtain rfl : x_162 = fb ie := ex_162.trans (congrArg fb (show ((nI ie) : Int32).toNatClampNeg = ie from nI_clamp (by omega)))
        refine lv_bipush (v := 59) hx hb dX13_read_43 (by decide) ?_
        refine lv_icmp_eq (tgt := 54) hx hb dX13_read_45 (by decide) (fun c_163 => ?_) (fun c_163 => ?_)
        ·
          have h59 : (TC fb zx) ie = 59 := (tcc hiz 59 (by omega)).mpr c_163
          refine W.widen (k := 0) (n := 0) (by omega) (by omega) ?_
          have hF_165 : F tx = .inr (14, [.ref tbx, .int (nI zx)]) := (hR tx (by rw [hT_tx]; simp)).symm.trans hF_138
          have hF_166 : F tbx = .inl (cs 17, n, .inl fb) := (hR tbx (by rw [ht_10]; simp)).symm.trans hF_139
          refine pl_loopm (σ := Nat) A (dC, dI) cs ty gm L [ρ, ρ + 70, ρ + 71] F 54 6 (fun ef => [(4, .int (nI ef)), (3, .int (nI ie)), (2, .int (nI j)), (0, .ref h0), (1, .int 8)]) (fun ef => []) (fun ef FF => j ≤ ef ∧ ef ≤ ie ∧ (∀ q9, j ≤ q9 → q9 < ef → SML ((TC fb zx) q9)) ∧ FF h0 = .inr (13, [.ref tx, .ref y0, .ref y1, .ref y2, .int (nI cn)]) ∧ FF y0 = .inl (cs 16, 40, .inl e0) ∧ FF y1 = .inl (cs 16, 40, .inl e1) ∧ FF y2 = .inl (cs 16, 40, .inl e2)) (fun ef => ie - ef) ?_ j F_133 (⟨Nat.le_refl _, by omega, fun q9 h1 h2 => absurd h2 (by omega), hQ0, hQ1, hQ2, hQ3⟩) hO hR _ _ hP hD hS ls (lv_sub hl [0, 1, 2, 3, 4] rfl)
          rintro ef F_164 hv_167 hO hR ih_168 H locs hP hD hS ls hl
          have hl : lv_has ls 6 [(4, .int (nI ef)), (3, .int (nI ie)), (2, .int (nI j)), (0, .ref h0), (1, .int 8)] := hl
          have hv_167 : j ≤ ef ∧ ef ≤ ie ∧ (∀ q9, j ≤ q9 → q9 < ef → SML ((TC fb zx) q9)) ∧ F_164 h0 = .inr (13, [.ref tx, .ref y0, .ref y1, .ref y2, .int (nI cn)]) ∧ F_164 y0 = .inl (cs 16, 40, .inl e0) ∧ F_164 y1 = .inl (cs 16, 40, .inl e1) ∧ F_164 y2 = .inl (cs 16, 40, .inl e2) := hv_167
          refine W.eq (g2 := F0 m 54 ls []) rfl ?_
          have hF_169 : F_164 tx = .inr (14, [.ref tbx, .int (nI zx)]) := (hR tx (by rw [hT_tx]; simp)).trans hF_165
          have hF_170 : F_164 tbx = .inl (cs 17, n, .inl fb) := (hR tbx (by rw [ht_10]; simp)).trans hF_166
          obtain ⟨hd1, hd2, hd3, hS0, hS1, hS2, hS3⟩ := id hv_167
          refine lv_iload hx hb dX13_read_54 (lv_at hl 0 rfl) ?_
          refine lv_iload_n hx hb dX13_read_56 rfl (lv_at hl 1 rfl) ?_
          refine lv_icmp_ge (tgt := 82) hx hb dX13_read_57 (by decide) (fun c_171 => ?_) (fun c_171 => ?_)
          ·
            have hi_172 : ie ≤ ef := leN (N := ie) c_171
            have hfi : ie ≤ ef := (nI_leI (by omega) (by omega)).mp c_171
            refine W.widen (k := 0) (n := 0) (by omega) (by omega) ?_
            exact jn_42 (ie, ef) F_164 (⟨hb1, hb2, fd_at hb1 hb2 hb3 (Or.inr h59), hd1, hd2, hd3, (Or.inl (by omega)), hS0, hS1, hS2, hS3⟩) hO hR _ _ hP hD hS ls (lv_sub hl [0, 1, 2, 3, 4] rfl)
          ·
            have hi_173 : ef < ie := ltN (N := ie) c_171
            have hfi : ef < ie := Nat.not_le.mp (fun q => c_171 ((nI_leI (by omega) (by omega)).mpr q))
            refine lv_aload_n hx hb dX13_read_60 rfl (lv_at hl 3 rfl) ?_
            refine pg_get (ci := 13) (v := .ref tx) (C := RX13) (T := TX13) (N := 5) hx hb hts it_13 hown hK hP hL_h0 hS0 rfl 0 (by decide) (hts _ kt_824) (fun _ h9 => h9) rfl dX13_read_61 ?_
            refine pg_get (ci := 14) (v := .ref tbx) (C := RX14) (T := TX14) (N := 2) hx hb hts it_14 hown hK hP hL_tx hF_169 rfl 0 (by decide) (hts _ kt_825) (fun _ h9 => h9) rfl dX13_read_64 ?_
            refine lv_iload hx hb dX13_read_67 (lv_at hl 0 rfl) ?_
            refine pg_bald hx hb hK hP hi_9 1 hF_170 rfl (vp_in_nI (by omega) (by omega)) dX13_read_69 ?_
            refine lv_topi (fun x_174 ex_174 => ?_)
            obtain rfl : x_174 = fb ef := ex_174.trans (congrArg fb (show ((nI ef) : Int32).toNatClampNeg = ef from nI_clamp (by omega)))
            have hFc := pg_free hD hS hA
            refine va_calli (va_runSN (As := [.int (fb ef)]) (rest := []) ⟨hx, hb, hml, hown, hts⟩ (s_X15_isSmall_e l dC dI cs ty gm L H.size F_164 (fb ef) hW ) ⟨va_cnB 1 hts (gi kt_668) rfl rfl rfl (hE.nestw kn_43) (hts _ kt_669) (by decide +kernel) ⟨Nat.le_of_ble_eq_true rfl, Nat.le_of_ble_eq_true rfl⟩, (hts _ kt_671), trivial⟩ ⟨fun a U g mk q => ⟨q.1, PTm.calling q.2⟩, fun U hU hWm => ⟨rfl, PTm.mk hU hWm hP hK hD hE hO⟩⟩ rfl rfl hl.1 rfl (lv_room (Nat.le_of_ble_eq_true rfl)) dX13_read_70 ⟨by show _ + 0 ≤ 0; omega, by show _ + 0 ≤ 0; omega⟩) hS (fun q _ h => hFc q h) hFc (fun r_175 u t H1 locs ht hvm hw hB hz1 hk1 hS => ?_)
            obtain ⟨F_176, hB1⟩ := hB
            obtain rfl : F_164 = F_176 := (funext (fun a => hB1.2.2.2 a List.not_mem_nil)).symm
            obtain ⟨hP, hD, hO, hR⟩ := QTm.back hB1 ht hFc hR (fun q h => absurd h List.not_mem_nil)
            generalize H1 = H at hP hS ⊢
            have hw : r_175 = (if 97 ≤ (fb ef) ∧ (fb ef) ≤ 122 then 1 else 0) := hw
            have hw_177 := hw
            refine lv_if_eq (tgt := 82) hx hb dX13_read_73 (by decide) (fun c_178 => ?_) (fun c_178 => ?_)
            ·
              have hnsm : ¬ SML ((TC fb zx) ef) := by rw [tcn_in (show ef < zx by omega)]; exact sms_n hw_177 c_178
              refine W.widen (k := 0) (n := 0) (by omega) (by omega) ?_
              exact jn_42 (ie, ef) F_164 (⟨hb1, hb2, fd_at hb1 hb2 hb3 (Or.inr h59), hd1, hd2, hd3, (Or.inr hnsm), hS0, hS1, hS2, hS3⟩) hO hR _ _ hP hD hS ls (lv_sub hl [0, 1, 2, 3, 4] rfl)
            ·
              have hsm9 : SML ((TC fb zx) ef) := by rw [tcn_in (show ef < zx by omega)]; exact sms_d hw_177 c_178
              refine lv_iinc (v := (nI (ef + 1))) (lv' := [(4, .int (nI (ef + 1))), (3, .int (nI ie)), (2, .int (nI j)), (0, .ref h0), (1, .int 8)]) hx hb dX13_read_76 hl (k := 0) rfl (nI_1 _) (by decide) rfl (fun ls hl => ?_)
              refine lv_goto (tgt := 54) hx hb dX13_read_79 (by decide) ?_
              refine W.widen (k := 0) (n := 0) (by omega) (by omega) ?_
              exact ih_168 (ef + 1) F_164 (⟨by omega, by omega, fun q9 h1 h2 => by rcases Nat.lt_or_ge q9 ef with w9 | w9; exact hd3 q9 h1 w9; rw [show q9 = ef by omega]; exact hsm9, hS0, hS1, hS2, hS3⟩) (by show ie - (ef + 1) < ie - ef; omega) hO hR _ _ hP hD hS ls (lv_sub hl [0, 1, 2, 3, 4] rfl)
        ·
          have h59n : ¬ (TC fb zx) ie = 59 := fun q => c_163 ((tcc hiz 59 (by omega)).mp q)
          refine lv_iinc (v := (nI (ie + 1))) (lv' := [(3, .int (nI (ie + 1))), (4, .int (nI j)), (2, .int (nI j)), (0, .ref h0), (1, .int 8)]) hx hb dX13_read_48 hl (k := 1) rfl (nI_1 _) (by decide) rfl (fun ls hl => ?_)
          refine lv_goto (tgt := 23) hx hb dX13_read_51 (by decide) ?_
          refine W.widen (k := 0) (n := 0) (by omega) (by omega) ?_
          exact ih_137 (ie + 1) F_133 (⟨by omega, by omega, fun q9 h1 h2 => by rcases Nat.lt_or_ge q9 ie with w9 | w9; exact hb3 q9 h1 w9; rw [show q9 = ie by omega]; exact h59n, hQ0, hQ1, hQ2, hQ3⟩) (by show zx - (ie + 1) < zx - ie; omega) hO hR _ _ hP hD hS ls (lv_sub hl [1, 0, 2, 3, 4] rfl)
set_option maxHeartbeats 4000000 in
set_option maxRecDepth 100000 in
theorem s_X13_find_x (l : Launch) (dC : Nat → ClassId) (dI : Nat → Nat → Nat) (cs : Nat → ClassId) (ty : TyM) (gm : Nat → Nat → Nat) (L : List Nat) (sz : Nat) (F : Nat → va_E) (h0 : Nat) (ρ : Nat) (tx : Nat) (n : Nat) (Bn : Nat) (y0 : Nat) (y1 : Nat) (y2 : Nat) (tbx : Nat) (zx : Nat) (nn : Nat) (fb : Nat → Int32) (e0 : Nat → Int32) (e1 : Nat → Int32) (e2 : Nat → Int32) (gq : Nat → Nat → Nat) (q : Nat) (v : Nat) (k0 : Nat) (C : Nat → Int32) (ll : List Nat) (hW : WTm ty gm L) (hL_h0 : h0 ∈ L) (hT_h0 : ty h0 = (13, ρ, [tx, n, Bn, y0, y1, y2])) (hL_tx : tx ∈ L) (hT_tx : ty tx = (14, ρ + 1, [tbx, n])) (hFx : F tx = .inr (14, [.ref tbx, .int (nI zx)])) (hFb : F tbx = .inl (cs 17, n, .inl fb)) (hxn : zx ≤ n) (hF0 : F h0 = .inr (13, [.ref tx, .ref y0, .ref y1, .ref y2, .int (nI nn)])) (hFy0 : F y0 = .inl (cs 16, 40, .inl e0)) (hFy1 : F y1 = .inl (cs 16, 40, .inl e1)) (hFy2 : F y2 = .inl (cs 16, 40, .inl e2)) (hcn : nn ≤ 40) (hhl : HLD e0 e1 e2 nn gq) (hTG : TGI zx nn gq) (hn3 : n ≤ 3000) (hCL : CLI C k0 ll) : Met l yX13_find (.code yX13_find cX13_find 3 (some .int) :: tb) ({ frames := 5, cells := 0, slots := 0, locals := 109 }) (va_Pc [.ref h0, .ref q] (PTEm (dC, dI) cs ty gm L F sz [(q, v, k0, C)])) (va_Qi (fun (r : Int32) (_ : Unit) => RWX (TC fb zx) gq nn ll r) (fun _ T9 => ∃ F2 : Nat → va_E, QTm (dC, dI) cs ty gm L [] F F2 (va_A (va_pl L F) sz) T9) (va_A (va_pl L F) sz)) 0 0 (va_A (va_pl L F) sz) := by
  refine Met.ofW (cc := cX13_find) (maxL := 3) (ret := (some .int)) (by decide) rfl ?_
  intro p e s m args below meth c s₁ B hml hv
  obtain ⟨rfl, ⟨hsz, hP, hK, hD0, hE, hO⟩, hG, hX⟩ := hv
  have hx := B.exec
  have hb := B.bytes
  have hr := B.returns
  have hts : ∀ w ∈ tb, w.before _ s = true := fun w h => atoms_spec (ws := .code yX13_find cX13_find 3 (some .int) :: tb) B.pre w (List.mem_cons_of_mem _ h)
  have hown : s.vm.findClass RX13 = some m.cls := findClass_of_methodNamed B.named
  have hlocks := B.notSynchronized
  subst hsz
  have hD := hD0.self (sz := s.heap.size)
  generalize hAe : va_A (va_pl L F) s.heap.size = A at hD hG hX ⊢
  have hX_q : SXc q v k0 C A s s.heap := hX (q, v, k0, C) (by simp)
  obtain ⟨xo_q, xc_q, xv_q, xt_q, xn_q⟩ := id hX_q
  have hA : ∀ q : Nat, s.heap.size ≤ q → A q := fun q h => by rw [← hAe]; exact Or.inr h
  have hS : va_S A s.heap s.heap [] := va_S.rf
  have hR : FR ty [] F F := FR.refl
  have hl := lv_entry ([.ref h0, .ref q]) (n := 3) (Nat.le_of_ble_eq_true rfl)
  rw [lg_entry_eq]
  generalize (lg_sl ([.ref h0, .ref q]) ++ List.replicate (3 - (lg_sl ([.ref h0, .ref q])).length) Slot.unset).toArray = ls at hl ⊢
  have hl : lv_has ls 3 [(0, .ref h0), (1, .ref q)] := hl
  obtain ⟨_, hi_1, hi_2, hi_3, _, ht_4, ht_5, ht_6, hq_7, hq_8⟩ := hW.tags hL_h0 hT_h0
  obtain ⟨hi_9, ht_10, hq_11⟩ := hW.txt hL_tx hT_tx
  refine lv_iconst (v := 0) hx hb dX13_find_0 (by decide) ?_
  refine lv_istore_n (lv' := [(2, .int 0), (0, .ref h0), (1, .ref q)]) hx hb dX13_find_1 rfl hl (by decide) rfl (fun ls hl => ?_)
  refine W.widen (k := 0) (n := 0) (by omega) (by omega) ?_
  refine pl_loopm (σ := Nat) A (dC, dI) cs ty gm L [] F 2 3 (fun j => [(2, .int (nI j)), (0, .ref h0), (1, .ref q)]) (fun j => []) (fun j _ => j ≤ nn ∧ ∀ k, k < j → ¬ ISL (TC fb zx) (gq 0 k) (gq 1 k) ll) (fun j => nn - j) ?_ 0 F (⟨Nat.zero_le _, fun k hk => absurd hk (Nat.not_lt_zero _)⟩) hO hR _ _ hP hD hS ls (lv_sub hl [0, 1, 2] rfl)
  rintro j F_12 hv_13 hO hR ih_14 H locs hP hD hS ls hl
  have hl : lv_has ls 3 [(2, .int (nI j)), (0, .ref h0), (1, .ref q)] := hl
  have hv_13 : j ≤ nn ∧ ∀ k, k < j → ¬ ISL (TC fb zx) (gq 0 k) (gq 1 k) ll := hv_13
  refine W.eq (g2 := F0 m 2 ls []) rfl ?_
  obtain rfl : F = F_12 := (funext (fun a => hR a List.not_mem_nil)).symm
  obtain ⟨hv1, hv2⟩ := id hv_13
  refine lv_iload_n hx hb dX13_find_2 rfl (lv_at hl 0 rfl) ?_
  refine lv_aload_n hx hb dX13_find_3 rfl (lv_at hl 1 rfl) ?_
  refine pg_get (ci := 13) (v := .int (nI nn)) (C := RX13) (T := TX13) (N := 5) hx hb hts it_13 hown hK hP hL_h0 hF0 rfl 4 (by decide) (hts _ kt_823) (fun _ h9 => h9) rfl dX13_find_4 ?_
  refine lv_icmp_ge (tgt := 44) hx hb dX13_find_7 (by decide) (fun c_15 => ?_) (fun c_15 => ?_)
  ·
    have hi_16 : nn ≤ j := leN (N := nn) c_15
    have hjz : nn ≤ j := (nI_leI (by omega) (by omega)).mp c_15
    refine lv_iconst (v := (-1)) hx hb dX13_find_44 (by decide) ?_
    refine W.widen (k := 0) (n := 0) (by omega) (by omega) ?_
    exact W.iret (v := (-1)) hx hb hr (fun t ht hWm => ⟨⟨(-1), (), rfl, (Or.inl ⟨rfl, fun k9 h9 => hv2 k9 (by omega)⟩), ⟨F, QTm.mk ht hP hD hO hR⟩⟩, hS.F ht⟩) hS.2.2 dX13_find_45
  ·
    have hi_17 : j < nn := ltN (N := nn) c_15
    have hjz : j < nn := Nat.not_le.mp (fun q => c_15 ((nI_leI (by omega) (by omega)).mpr q))
    obtain ⟨hg1, hg2, hg3⟩ := hTG j hjz
    refine lv_aload_n hx hb dX13_find_10 rfl (lv_at hl 1 rfl) ?_
    refine pg_get (ci := 13) (v := .ref tx) (C := RX13) (T := TX13) (N := 5) hx hb hts it_13 hown hK hP hL_h0 hF0 rfl 0 (by decide) (hts _ kt_824) (fun _ h9 => h9) rfl dX13_find_11 ?_
    refine pg_get (ci := 14) (v := .ref tbx) (C := RX14) (T := TX14) (N := 2) hx hb hts it_14 hown hK hP hL_tx hFx rfl 0 (by decide) (hts _ kt_825) (fun _ h9 => h9) rfl dX13_find_14 ?_
    refine lv_aload_n hx hb dX13_find_17 rfl (lv_at hl 1 rfl) ?_
    refine pg_get (ci := 13) (v := .ref y0) (C := RX13) (T := TX13) (N := 5) hx hb hts it_13 hown hK hP hL_h0 hF0 rfl 1 (by decide) (hts _ kt_826) (fun _ h9 => h9) rfl dX13_find_18 ?_
    refine lv_iload_n hx hb dX13_find_21 rfl (lv_at hl 0 rfl) ?_
    refine pg_iald hx hb hK hP hi_1 0 hFy0 rfl (vp_in_nI (by omega) (by omega)) dX13_find_22 ?_
    refine lv_topi (fun x_18 ex_18 => ?_)
    obtain rfl : x_18 = (nI (gq 0 j)) := ex_18.trans (((congrArg e0 (nI_clamp (by omega))).trans (hhl j hjz).1))
    refine lv_aload_n hx hb dX13_find_23 rfl (lv_at hl 1 rfl) ?_
    refine pg_get (ci := 13) (v := .ref y1) (C := RX13) (T := TX13) (N := 5) hx hb hts it_13 hown hK hP hL_h0 hF0 rfl 2 (by decide) (hts _ kt_827) (fun _ h9 => h9) rfl dX13_find_24 ?_
    refine lv_iload_n hx hb dX13_find_27 rfl (lv_at hl 0 rfl) ?_
    refine pg_iald hx hb hK hP hi_2 0 hFy1 rfl (vp_in_nI (by omega) (by omega)) dX13_find_28 ?_
    refine lv_topi (fun x_19 ex_19 => ?_)
    obtain rfl : x_19 = (nI (gq 1 j)) := ex_19.trans (((congrArg e1 (nI_clamp (by omega))).trans (hhl j hjz).2.1))
    refine lv_aload_n hx hb dX13_find_29 rfl (lv_at hl 2 rfl) ?_
    obtain ⟨hq_20, hq_21⟩ := hW.octs hi_9 ht_10
    have hFc := pg_free hD hS hA
    refine va_calli (va_runSN (As := [.ref tbx, .int (nI (gq 0 j)), .int (nI (gq 1 j)), .ref q]) (rest := []) ⟨hx, hb, hml, hown, hts⟩ (s_X15_is_x l dC dI cs ty gm L H.size F tbx (ρ + 1) n q v k0 C zx (gq 0 j) (gq 1 j) fb ll hW hi_9 ht_10 hFb (by omega) (hxn) (by omega) (by omega) (hCL)) ⟨va_cnB 4 hts (gi kt_694) rfl rfl rfl (hE.nestw kn_41) (hts _ kt_669) (by decide +kernel) ⟨Nat.le_of_ble_eq_true rfl, Nat.le_of_ble_eq_true rfl⟩, (hts _ kt_696), trivial⟩ ⟨fun a U g mk q => ⟨q.1, PTEm.calling q.2⟩, fun U hU hWm => ⟨rfl, PTEm.mk hU hWm hP hK hD hE hO hG (fun x hx => by rw [List.mem_singleton] at hx; subst hx; exact hX_q) hS hFc⟩⟩ rfl rfl hl.1 rfl (lv_room (Nat.le_of_ble_eq_true rfl)) dX13_find_30 ⟨by show _ + 0 ≤ 0; omega, by show _ + 0 ≤ 0; omega⟩) hS (fun q _ h => hFc q h) hFc (fun r_22 u t H1 locs ht hvm hw hB hz1 hk1 hS => ?_)
    obtain ⟨F_23, hB1⟩ := hB
    obtain rfl : F = F_23 := (funext (fun a => hB1.2.2.2 a List.not_mem_nil)).symm
    obtain ⟨hP, hD, hO, hR⟩ := QTm.back hB1 ht hFc hR (fun q h => absurd h List.not_mem_nil)
    generalize H1 = H at hP hS ⊢
    have hw : ((r_22 = 1 ∧ ISW (TC fb zx) (gq 0 j) (gq 1 j) k0 ll) ∨ (r_22 = 0 ∧ ¬ ISW (TC fb zx) (gq 0 j) (gq 1 j) k0 ll)) := hw
    have hw_24 := hw
    refine lv_if_eq (tgt := 38) hx hb dX13_find_33 (by decide) (fun c_25 => ?_) (fun c_25 => ?_)
    ·
      refine lv_iinc (v := (nI (j + 1))) (lv' := [(2, .int (nI (j + 1))), (0, .ref h0), (1, .ref q)]) hx hb dX13_find_38 hl (k := 0) rfl (nI_1 _) (by decide) rfl (fun ls hl => ?_)
      refine lv_goto (tgt := 2) hx hb dX13_find_41 (by decide) ?_
      refine W.widen (k := 0) (n := 0) (by omega) (by omega) ?_
      exact ih_14 (j + 1) F (⟨by omega, all_step hv2 (fun q => orp0 hw_24 c_25 ⟨by have h9 := q.1; rw [hCL.1] at h9; exact h9, q.2⟩)⟩) (by show nn - (j + 1) < nn - j; omega) hO hR _ _ hP hD hS ls (lv_sub hl [0, 1, 2] rfl)
    ·
      refine lv_iload_n hx hb dX13_find_36 rfl (lv_at hl 0 rfl) ?_
      refine W.widen (k := 0) (n := 0) (by omega) (by omega) ?_
      exact W.iret (v := (nI j)) hx hb hr (fun t ht hWm => ⟨⟨(nI j), (), rfl, (Or.inr ⟨j, hjz, rfl, (by have h9 := orp1 hw_24 c_25; exact ⟨by rw [hCL.1]; exact h9.1, h9.2⟩), hv2⟩), ⟨F, QTm.mk ht hP hD hO hR⟩⟩, hS.F ht⟩) hS.2.2 dX13_find_37
set_option maxHeartbeats 4000000 in
set_option maxRecDepth 100000 in
theorem s_X13_has_x (l : Launch) (dC : Nat → ClassId) (dI : Nat → Nat → Nat) (cs : Nat → ClassId) (ty : TyM) (gm : Nat → Nat → Nat) (L : List Nat) (sz : Nat) (F : Nat → va_E) (h0 : Nat) (ρ : Nat) (tx : Nat) (n : Nat) (Bn : Nat) (y0 : Nat) (y1 : Nat) (y2 : Nat) (tbx : Nat) (zx : Nat) (nn : Nat) (fb : Nat → Int32) (e0 : Nat → Int32) (e1 : Nat → Int32) (e2 : Nat → Int32) (gq : Nat → Nat → Nat) (q : Nat) (v : Nat) (k0 : Nat) (C : Nat → Int32) (q2 : Nat) (v2 : Nat) (k2 : Nat) (C2 : Nat → Int32) (ll : List Nat) (mm9 : List Nat) (hW : WTm ty gm L) (hL_h0 : h0 ∈ L) (hT_h0 : ty h0 = (13, ρ, [tx, n, Bn, y0, y1, y2])) (hL_tx : tx ∈ L) (hT_tx : ty tx = (14, ρ + 1, [tbx, n])) (hFx : F tx = .inr (14, [.ref tbx, .int (nI zx)])) (hFb : F tbx = .inl (cs 17, n, .inl fb)) (hxn : zx ≤ n) (hF0 : F h0 = .inr (13, [.ref tx, .ref y0, .ref y1, .ref y2, .int (nI nn)])) (hFy0 : F y0 = .inl (cs 16, 40, .inl e0)) (hFy1 : F y1 = .inl (cs 16, 40, .inl e1)) (hFy2 : F y2 = .inl (cs 16, 40, .inl e2)) (hcn : nn ≤ 40) (hhl : HLD e0 e1 e2 nn gq) (hTG : TGI zx nn gq) (hn3 : n ≤ 3000) (hCL : CLI C k0 ll) (hCM : CLI C2 k2 mm9) : Met l yX13_has (.code yX13_has cX13_has 4 (some .boolean) :: tb) ({ frames := 6, cells := 0, slots := 0, locals := 131 }) (va_Pc [.ref h0, .ref q, .ref q2] (PTEm (dC, dI) cs ty gm L F sz [(q, v, k0, C), (q2, v2, k2, C2)])) (va_Qi (fun (r : Int32) (_ : Unit) => ((r = 1 ∧ TGV (TC fb zx) gq nn ll mm9) ∨ (r = 0 ∧ ¬ TGV (TC fb zx) gq nn ll mm9))) (fun _ T9 => ∃ F2 : Nat → va_E, QTm (dC, dI) cs ty gm L [] F F2 (va_A (va_pl L F) sz) T9) (va_A (va_pl L F) sz)) 0 0 (va_A (va_pl L F) sz) := by
  refine Met.ofW (cc := cX13_has) (maxL := 4) (ret := (some .boolean)) (by decide) rfl ?_
  intro p e s m args below meth c s₁ B hml hv
  obtain ⟨rfl, ⟨hsz, hP, hK, hD0, hE, hO⟩, hG, hX⟩ := hv
  have hx := B.exec
  have hb := B.bytes
  have hr := B.returns
  have hts : ∀ w ∈ tb, w.before _ s = true := fun w h => atoms_spec (ws := .code yX13_has cX13_has 4 (some .boolean) :: tb) B.pre w (List.mem_cons_of_mem _ h)
  have hown : s.vm.findClass RX13 = some m.cls := findClass_of_methodNamed B.named
  have hlocks := B.notSynchronized
  subst hsz
  have hD := hD0.self (sz := s.heap.size)
  generalize hAe : va_A (va_pl L F) s.heap.size = A at hD hG hX ⊢
  have hX_q : SXc q v k0 C A s s.heap := hX (q, v, k0, C) (by simp)
  obtain ⟨xo_q, xc_q, xv_q, xt_q, xn_q⟩ := id hX_q
  have hX_q2 : SXc q2 v2 k2 C2 A s s.heap := hX (q2, v2, k2, C2) (by simp)
  obtain ⟨xo_q2, xc_q2, xv_q2, xt_q2, xn_q2⟩ := id hX_q2
  have hA : ∀ q : Nat, s.heap.size ≤ q → A q := fun q h => by rw [← hAe]; exact Or.inr h
  have hS : va_S A s.heap s.heap [] := va_S.rf
  have hR : FR ty [] F F := FR.refl
  have hl := lv_entry ([.ref h0, .ref q, .ref q2]) (n := 4) (Nat.le_of_ble_eq_true rfl)
  rw [lg_entry_eq]
  generalize (lg_sl ([.ref h0, .ref q, .ref q2]) ++ List.replicate (4 - (lg_sl ([.ref h0, .ref q, .ref q2])).length) Slot.unset).toArray = ls at hl ⊢
  have hl : lv_has ls 4 [(0, .ref h0), (1, .ref q), (2, .ref q2)] := hl
  obtain ⟨_, hi_1, hi_2, hi_3, _, ht_4, ht_5, ht_6, hq_7, hq_8⟩ := hW.tags hL_h0 hT_h0
  obtain ⟨hi_9, ht_10, hq_11⟩ := hW.txt hL_tx hT_tx
  refine lv_aload_n hx hb dX13_has_0 rfl (lv_at hl 0 rfl) ?_
  refine lv_aload_n hx hb dX13_has_1 rfl (lv_at hl 1 rfl) ?_
  obtain ⟨hq_12, hq_13⟩ := hW.octs hi_9 ht_10
  have hFc := pg_free hD hS hA
  refine va_calli (va_runV (As := [.ref q]) (rest := []) ⟨hx, hb, hml, hown, hts⟩ (s_X13_find_x l dC dI cs ty gm L s.heap.size F h0 ρ tx n Bn y0 y1 y2 tbx zx nn fb e0 e1 e2 gq q v k0 C ll hW hL_h0 hT_h0 hL_tx hT_tx hFx hFb (hxn) hF0 hFy0 hFy1 hFy2 (hcn) (hhl) (hTG) (hn3) (hCL)) ⟨callB_of 1 hts (gi kt_828) rfl rfl rfl (hts _ kt_829) (hts _ kt_830) (by decide +kernel) ⟨Nat.le_of_ble_eq_true rfl, Nat.le_of_ble_eq_true rfl⟩, (hts _ kt_831), (hts _ kt_832)⟩ ⟨fun a U g mk q => ⟨q.1, PTEm.calling q.2⟩, pg_recv hK hP hL_h0 hF0 (q := (RX13, TX13, 5)) rfl, fun U hU hWm => ⟨rfl, PTEm.mk hU hWm hP hK hD hE hO hG (fun x hx => by rw [List.mem_singleton] at hx; subst hx; exact hX_q) hS hFc⟩⟩ rfl rfl hl.1 rfl (lv_room (Nat.le_of_ble_eq_true rfl)) dX13_has_2 ⟨by show _ + 0 ≤ 0; omega, by show _ + 0 ≤ 0; omega⟩) hS (fun q _ h => hFc q h) hFc (fun r_14 u t H1 locs ht hvm hw hB hz1 hk1 hS => ?_)
  obtain ⟨F_15, hB1⟩ := hB
  obtain rfl : F = F_15 := (funext (fun a => hB1.2.2.2 a List.not_mem_nil)).symm
  obtain ⟨hP, hD, hO, hR⟩ := QTm.back hB1 ht hFc hR (fun q h => absurd h List.not_mem_nil)
  generalize H1 = H at hP hS ⊢
  have hw : RWX (TC fb zx) gq nn ll r_14 := hw
  have hw_16 := hw
  refine lv_istore_n (lv' := [(3, .int r_14), (0, .ref h0), (1, .ref q), (2, .ref q2)]) hx hb dX13_has_5 rfl hl (by decide) rfl (fun ls hl => ?_)
  refine lv_iload_n hx hb dX13_has_6 rfl (lv_at hl 0 rfl) ?_
  refine lv_if_lt (tgt := 42) hx hb dX13_has_7 (by decide) (fun c_17 => ?_) (fun c_17 => ?_)
  ·
    refine lv_iconst (v := 0) hx hb dX13_has_42 (by decide) ?_
    refine W.widen (k := 0) (n := 0) (by omega) (by omega) ?_
    exact W.zret (v := 0) (ty := .boolean) hx hb hr (by decide) (fun t ht hWm => ⟨⟨0, (), rfl, (Or.inr ⟨rfl, tgv_n (rwx_n hw_16 hcn c_17)⟩), ⟨F, QTm.mk ht hP hD hO hR⟩⟩, hS.F ht⟩) hS.2.2 dX13_has_43
  ·
    obtain ⟨j, hjz, ej, hj1, hj2⟩ := rwx_y hw_16 c_17
    subst ej
    obtain ⟨hg1, hg2, hg3⟩ := hTG j hjz
    refine lv_aload_n hx hb dX13_has_10 rfl (lv_at hl 1 rfl) ?_
    refine pg_get (ci := 13) (v := .ref tx) (C := RX13) (T := TX13) (N := 5) hx hb hts it_13 hown hK hP hL_h0 hF0 rfl 0 (by decide) (hts _ kt_824) (fun _ h9 => h9) rfl dX13_has_11 ?_
    refine pg_get (ci := 14) (v := .ref tbx) (C := RX14) (T := TX14) (N := 2) hx hb hts it_14 hown hK hP hL_tx hFx rfl 0 (by decide) (hts _ kt_825) (fun _ h9 => h9) rfl dX13_has_14 ?_
    refine lv_aload_n hx hb dX13_has_17 rfl (lv_at hl 1 rfl) ?_
    refine pg_get (ci := 13) (v := .ref y1) (C := RX13) (T := TX13) (N := 5) hx hb hts it_13 hown hK hP hL_h0 hF0 rfl 2 (by decide) (hts _ kt_827) (fun _ h9 => h9) rfl dX13_has_18 ?_
    refine lv_iload_n hx hb dX13_has_21 rfl (lv_at hl 0 rfl) ?_
    refine pg_iald hx hb hK hP hi_2 0 hFy1 rfl (vp_in_nI (by omega) (by omega)) dX13_has_22 ?_
    refine lv_topi (fun x_18 ex_18 => ?_)
    obtain rfl : x_18 = (nI (gq 1 j)) := ex_18.trans (((congrArg e1 (nI_clamp (by omega))).trans (hhl j hjz).2.1))
    refine lv_iconst (v := 1) hx hb dX13_has_23 (by decide) ?_
    refine lv_iadd hx hb dX13_has_24 ?_
    refine lv_topi (fun x_19 ex_19 => ?_)
    obtain rfl : x_19 = (nI (gq 1 j + 1)) := ex_19.trans (nI_1 _)
    refine lv_aload_n hx hb dX13_has_25 rfl (lv_at hl 1 rfl) ?_
    refine pg_get (ci := 13) (v := .ref y2) (C := RX13) (T := TX13) (N := 5) hx hb hts it_13 hown hK hP hL_h0 hF0 rfl 3 (by decide) (hts _ kt_833) (fun _ h9 => h9) rfl dX13_has_26 ?_
    refine lv_iload_n hx hb dX13_has_29 rfl (lv_at hl 0 rfl) ?_
    refine pg_iald hx hb hK hP hi_3 0 hFy2 rfl (vp_in_nI (by omega) (by omega)) dX13_has_30 ?_
    refine lv_topi (fun x_20 ex_20 => ?_)
    obtain rfl : x_20 = (nI (gq 2 j)) := ex_20.trans (((congrArg e2 (nI_clamp (by omega))).trans (hhl j hjz).2.2))
    refine lv_aload_n hx hb dX13_has_31 rfl (lv_at hl 3 rfl) ?_
    have hFc := pg_free hD hS hA
    refine va_calli (va_runSN (As := [.ref tbx, .int (nI (gq 1 j + 1)), .int (nI (gq 2 j)), .ref q2]) (rest := []) ⟨hx, hb, hml, hown, hts⟩ (s_X15_is_x l dC dI cs ty gm L H.size F tbx (ρ + 1) n q2 v2 k2 C2 zx (gq 1 j + 1) (gq 2 j) fb mm9 hW hi_9 ht_10 hFb (hg3) (hxn) (by omega) (by omega) (hCM)) ⟨va_cnB 4 hts (gi kt_694) rfl rfl rfl (hE.nestw kn_41) (hts _ kt_669) (by decide +kernel) ⟨Nat.le_of_ble_eq_true rfl, Nat.le_of_ble_eq_true rfl⟩, (hts _ kt_696), trivial⟩ ⟨fun a U g mk q => ⟨q.1, PTEm.calling q.2⟩, fun U hU hWm => ⟨rfl, PTEm.mk hU hWm hP hK hD hE hO hG (fun x hx => by rw [List.mem_singleton] at hx; subst hx; exact hX_q2) hS hFc⟩⟩ rfl rfl hl.1 rfl (lv_room (Nat.le_of_ble_eq_true rfl)) dX13_has_32 ⟨by show _ + 0 ≤ 0; omega, by show _ + 0 ≤ 0; omega⟩) hS (fun q _ h => hFc q h) hFc (fun r_21 u t H1 locs ht hvm hw hB hz1 hk1 hS => ?_)
    obtain ⟨F_22, hB1⟩ := hB
    obtain rfl : F = F_22 := (funext (fun a => hB1.2.2.2 a List.not_mem_nil)).symm
    obtain ⟨hP, hD, hO, hR⟩ := QTm.back hB1 ht hFc hR (fun q h => absurd h List.not_mem_nil)
    generalize H1 = H at hP hS ⊢
    have hw : ((r_21 = 1 ∧ ISW (TC fb zx) (gq 1 j + 1) (gq 2 j) k2 mm9) ∨ (r_21 = 0 ∧ ¬ ISW (TC fb zx) (gq 1 j + 1) (gq 2 j) k2 mm9)) := hw
    have hw_23 := hw
    refine lv_if_eq (tgt := 42) hx hb dX13_has_35 (by decide) (fun c_24 => ?_) (fun c_24 => ?_)
    ·
      refine lv_iconst (v := 0) hx hb dX13_has_42 (by decide) ?_
      refine W.widen (k := 0) (n := 0) (by omega) (by omega) ?_
      exact W.zret (v := 0) (ty := .boolean) hx hb hr (by decide) (fun t ht hWm => ⟨⟨0, (), rfl, (Or.inr ⟨rfl, tgv_d hj1 hj2 (fun q => orp0 hw_23 c_24 ⟨by have h9 := q.1; rw [hCM.1] at h9; exact h9, q.2⟩)⟩), ⟨F, QTm.mk ht hP hD hO hR⟩⟩, hS.F ht⟩) hS.2.2 dX13_has_43
    ·
      refine lv_iconst (v := 1) hx hb dX13_has_38 (by decide) ?_
      refine lv_goto (tgt := 43) hx hb dX13_has_39 (by decide) ?_
      refine W.widen (k := 0) (n := 0) (by omega) (by omega) ?_
      exact W.zret (v := 1) (ty := .boolean) hx hb hr (by decide) (fun t ht hWm => ⟨⟨1, (), rfl, (Or.inl ⟨rfl, j, hjz, hj1, hj2, (by have h9 := orp1 hw_23 c_24; exact ⟨by rw [hCM.1]; exact h9.1, h9.2⟩)⟩), ⟨F, QTm.mk ht hP hD hO hR⟩⟩, hS.F ht⟩) hS.2.2 dX13_has_43
