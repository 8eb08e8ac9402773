def ENDL (f : Nat → Int32) (z : Nat) (g : Nat → Int32) (y n : Nat) : Prop := ∀ i, 1 ≤ i → i ≤ n → f (z - i) = g (y - i)
def UND (f : Nat → Int32) (z : Nat) (g : Nat → Int32) (y : Nat) : Prop := y ≤ z ∧ ENDL f z g y y ∧ (z = y ∨ f (z - y - 1) = 46)
noncomputable def lgw (U : (Nat → Int32) → Nat → Prop) (D : Nat → ETY) : Nat → Nat
  | 0 => 0
  | k + 1 => @ite Nat ((D k).1 = 4 ∧ U (D k).2.2.2.1 (D k).2.2.1) (Classical.propDecidable _) (max (lgw U D k) ((D k).2.2.1 + 1)) (lgw U D k)
theorem lgw_s {U : (Nat → Int32) → Nat → Prop} {k : Nat} {D : Nat → ETY} : lgw U D (k + 1) = @ite Nat ((D k).1 = 4 ∧ U (D k).2.2.2.1 (D k).2.2.1) (Classical.propDecidable _) (max (lgw U D k) ((D k).2.2.1 + 1)) (lgw U D k) := rfl
def lsw (f : Nat → Int32) (x : Int32) : Nat → Nat
  | 0 => 0
  | k + 1 => if f k = x then k + 1 else lsw f x k
noncomputable def HST (U : (Nat → Int32) → Nat → Prop) (f : Nat → Int32) (z : Nat) (D : Nat → ETY) (ze : Nat) : Nat := if lgw U D ze = z + 1 then 0 else if lgw U D ze = 0 then lsw f 46 (lsw f 46 z - 1) else lsw f 46 (z - lgw U D ze)
theorem lsw_le {f : Nat → Int32} {x : Int32} : ∀ k, lsw f x k ≤ k
  | 0 => Nat.le_refl _
  | k + 1 => by
    unfold lsw
    split
    · exact Nat.le_refl _
    · have h9 := lsw_le (f := f) (x := x) k
      omega
theorem lgw_le {U : (Nat → Int32) → Nat → Prop} {z : Nat} {D : Nat → ETY} (hU : ∀ g y, U g y → y ≤ z) : ∀ k, lgw U D k ≤ z + 1
  | 0 => Nat.zero_le _
  | k + 1 => by
    have h := lgw_le (U := U) (D := D) hU k
    rw [lgw_s]
    by_cases c : (D k).1 = 4 ∧ U (D k).2.2.2.1 (D k).2.2.1
    · rw [if_pos c]
      have h9 := hU _ _ c.2
      omega
    · rw [if_neg c]
      exact h
theorem hst_le {U : (Nat → Int32) → Nat → Prop} {f : Nat → Int32} {z : Nat} {D : Nat → ETY} {ze : Nat} : HST U f z D ze ≤ z := by
  unfold HST
  by_cases c : lgw U D ze = z + 1
  · rw [if_pos c]
    exact Nat.zero_le _
  · rw [if_neg c]
    have h9 := lsw_le (f := f) (x := 46) z
    by_cases d : lgw U D ze = 0
    · rw [if_pos d]
      have h8 := lsw_le (f := f) (x := 46) (lsw f 46 z - 1)
      omega
    · rw [if_neg d]
      have h8 := lsw_le (f := f) (x := 46) (z - lgw U D ze)
      omega
theorem orp1 {r : Int32} {p9 : Prop} (h : (r = 1 ∧ p9) ∨ (r = 0 ∧ ¬ p9)) (c : ¬ r = 0) : p9 := h.elim And.right (fun q => absurd q.1 c)
theorem orp0 {r : Int32} {p9 : Prop} (h : (r = 1 ∧ p9) ∨ (r = 0 ∧ ¬ p9)) (c : r = 0) : ¬ p9 := h.elim (fun q => absurd (q.1.symm.trans c) (by decide)) And.right
def LSI (f : Nat → Int32) (x : Int32) (b : Nat) (i : Int32) : Prop := ∃ k, k ≤ b ∧ lsw f x k = lsw f x b ∧ (i.toInt = (k : Int) - 1 ∨ (k = 0 ∧ i.toInt < 0))
theorem nIm1 {k : Nat} (h : k ≤ 20000) : (nI k - 1).toInt = (k : Int) - 1 := pk_sub_toInt (b := 1) (by omega) (by omega)
theorem lsi_0 {f : Nat → Int32} {x x3 : Int32} {b : Nat} (h : x3 = nI b ∨ (b = 0 ∧ x3 = -1)) (hb : b ≤ 20000) : LSI f x b (x3 - 1) := by
  refine ⟨b, Nat.le_refl _, rfl, ?_⟩
  rcases h with h | ⟨h, h9⟩
  · rw [h]
    exact Or.inl (nIm1 hb)
  · rw [h9]
    exact Or.inr ⟨h, by decide⟩
theorem neg_int {i : Int32} (h : i < 0) : i.toInt < 0 := by
  rw [Int32.lt_iff_toInt_lt] at h
  exact h
theorem pos_int {i : Int32} (h : ¬ i < 0) : 0 ≤ i.toInt := by
  rw [Int32.lt_iff_toInt_lt] at h
  have h9 : (0 : Int32).toInt = 0 := by decide
  omega
theorem lsi_end {f : Nat → Int32} {x i : Int32} {b : Nat} (h : LSI f x b i) (hc : i < 0) : lsw f x b = 0 := by
  obtain ⟨k, h1, h2, h3⟩ := h
  have h9 := neg_int hc
  have h8 : k = 0 := by omega
  rw [← h2, h8]
  rfl
theorem lsi_go {f : Nat → Int32} {x i : Int32} {b : Nat} (h : LSI f x b i) (hc : ¬ i < 0) (hb : b ≤ 20000) : ∃ k, k < b ∧ i = nI k ∧ lsw f x (k + 1) = lsw f x b := by
  obtain ⟨k, h1, h2, h3⟩ := h
  have h9 := pos_int hc
  refine ⟨k - 1, by omega, ?_, ?_⟩
  · refine Int32.toInt_inj.mp ?_
    rw [nI_toInt (by omega)]
    omega
  · rw [show k - 1 + 1 = k by omega]
    exact h2
theorem lsi_s {f : Nat → Int32} {x x9 : Int32} {b k : Nat} (e : x9 = nI k + Int32.ofInt (-1)) (hk : k < b) (hb : b ≤ 20000) (h : lsw f x (k + 1) = lsw f x b) (hn : ¬ f k = x) : LSI f x b x9 := by
  refine ⟨k, by omega, ?_, Or.inl ?_⟩
  · rw [← h]
    exact (if_neg hn).symm
  · rw [e, show Int32.ofInt (-1) = -(1 : Int32) by decide, ← Int32.sub_eq_add_neg]
    exact nIm1 (by omega)
theorem lsi_f {f : Nat → Int32} {x : Int32} {b k : Nat} (hk : k < b) (hb : b ≤ 20000) (h : lsw f x (k + 1) = lsw f x b) (he : f k = x) : (nI k).toInt = (lsw f x b : Int) - 1 := by
  have h9 : lsw f x (k + 1) = k + 1 := if_pos he
  rw [nI_toInt (by omega), ← h, h9]
  omega
theorem lsx {r : Int32} {k : Nat} (h : r.toInt = (k : Int) - 1) (hk : k ≤ 20000) : r = nI (k - 1) ∨ (k - 1 = 0 ∧ r = -1) := by
  by_cases c : k = 0
  · subst c
    exact Or.inr ⟨rfl, Int32.toInt_inj.mp (by rw [h]; decide)⟩
  · refine Or.inl (Int32.toInt_inj.mp ?_)
    rw [nI_toInt (by omega), h]
    omega
theorem tI1 {r : Int32} {k : Nat} (h : r.toInt = (k : Int) - 1) (hk : k ≤ 20000) : r + 1 = nI k := by
  refine Int32.toInt_inj.mp ?_
  rw [Int32.toInt_add, h, nI_toInt (by omega), show (1 : Int32).toInt = 1 from by decide, show (k : Int) - 1 + 1 = (k : Int) by omega]
  exact Int.bmod_eq_of_le (by omega) (by omega)
def mxl (w : Int32) (n : Nat) : Int32 := if w < nI n then nI n else w
theorem lgw_y {U : (Nat → Int32) → Nat → Prop} {j : Nat} {D : Nat → ETY} {w : Int32} (h : w.toInt = (lgw U D j : Int) - 1) (hs : (D j).1 = 4) (hu : U (D j).2.2.2.1 (D j).2.2.1) (hn : (D j).2.2.1 ≤ 60) : (mxl w (D j).2.2.1).toInt = (lgw U D (j + 1) : Int) - 1 := by
  have h1 : lgw U D (j + 1) = max (lgw U D j) ((D j).2.2.1 + 1) := by
    rw [lgw_s, if_pos ⟨hs, hu⟩]
  rw [h1]
  unfold mxl
  by_cases c : w < nI (D j).2.2.1
  · rw [if_pos c, nI_toInt (by omega)]
    rw [Int32.lt_iff_toInt_lt, nI_toInt (by omega)] at c
    omega
  · rw [if_neg c]
    rw [Int32.lt_iff_toInt_lt, nI_toInt (by omega)] at c
    omega
theorem lgw_n {U : (Nat → Int32) → Nat → Prop} {j : Nat} {D : Nat → ETY} {w : Int32} (h : w.toInt = (lgw U D j : Int) - 1) (hs : ¬ ((D j).1 = 4 ∧ U (D j).2.2.2.1 (D j).2.2.1)) : w.toInt = (lgw U D (j + 1) : Int) - 1 := by
  have h1 : lgw U D (j + 1) = lgw U D j := by
    rw [lgw_s, if_neg hs]
  rw [h1]
  exact h
theorem lgw_k {k : Nat} {w : Int32} (h : w.toInt = (k : Int) - 1) (hk : k ≤ 20000) (hc : ¬ w < 0) : ∃ q, k = q + 1 ∧ w = nI q := by
  have h9 := pos_int hc
  refine ⟨k - 1, by omega, Int32.toInt_inj.mp ?_⟩
  rw [nI_toInt (by omega)]
  omega
theorem lgw_z {k : Nat} {w : Int32} (h : w.toInt = (k : Int) - 1) (hc : w < 0) : k = 0 := by
  have h9 := neg_int hc
  omega
theorem lgw_e {k z : Nat} {w : Int32} (h : w.toInt = (k : Int) - 1) (hz : z ≤ 10000) (hc : w = nI z) : k = z + 1 := by
  rw [hc, nI_toInt (by omega)] at h
  omega
theorem hst_0 {U : (Nat → Int32) → Nat → Prop} {f : Nat → Int32} {z : Nat} {D : Nat → ETY} {ze : Nat} (h : lgw U D ze = z + 1) : (0 : Int32) = nI (HST U f z D ze) := by
  unfold HST
  rw [if_pos h]
  rfl
theorem hst_n {U : (Nat → Int32) → Nat → Prop} {f : Nat → Int32} {z : Nat} {D : Nat → ETY} {ze : Nat} (h : lgw U D ze = 0) : nI (lsw f 46 (lsw f 46 z - 1)) = nI (HST U f z D ze) := by
  unfold HST
  rw [if_neg (by omega), if_pos h]
theorem hst_y {U : (Nat → Int32) → Nat → Prop} {f : Nat → Int32} {z q : Nat} {D : Nat → ETY} {ze : Nat} (h : lgw U D ze = q + 1) (hq : q ≠ z) : nI (lsw f 46 (z - q - 1)) = nI (HST U f z D ze) := by
  unfold HST
  rw [if_neg (by omega), if_neg (by omega), h, show z - (q + 1) = z - q - 1 by omega]
theorem DIRC.get {cs : Nat → ClassId} {ty : TyM} {L : List Nat} {F : Nat → va_E} {δ ea ze k b x y : Nat} {fe : Nat → Option Nat} {D : Nat → ETY} (h : DIRC cs F ea ze D) (hO : OK cs ty L F) (h1 : F ea = .inl (cs 21, 40, .inr (.inr (.inr (.inr fe))))) (hk : k < ze) (hb : fe k = some b) (k2 : b ∈ L) (k3 : ty b = (3, δ, [x, y])) : F b = .inr (3, [.ref x, .ref y, .int (D k).1, .int (D k).2.1]) ∧ (∀ δ r, x ∈ L → ty x = (0, δ, [r, 60]) → F x = .inr (0, [.ref r, .int (nI (D k).2.2.1), .int 0]) ∧ F r = .inl (cs 16, 60, .inl (D k).2.2.2.1)) ∧ (∀ δ r, y ∈ L → ty y = (0, δ, [r, 700]) → F y = .inr (0, [.ref r, .int (nI (D k).2.2.2.2.1), .int 0]) ∧ F r = .inl (cs 16, 700, .inl (D k).2.2.2.2.2)) ∧ (D k).2.2.1 ≤ 60 ∧ (D k).2.2.2.2.1 ≤ 700 := by
  obtain ⟨fe9, g1, g2⟩ := h
  obtain rfl : fe9 = fe := by
    have e9 := g1.symm.trans h1
    simpa using e9
  obtain ⟨b9, e1, x9, y9, r, q, f1, f2, f3, f4, f5, f6⟩ := g2 k hk
  obtain rfl : b9 = b := Option.some.inj (e1.symm.trans hb)
  obtain ⟨v0, v1, k4⟩ := hO.entry k2 k3
  have e9 := k4.symm.trans f1
  simp only [Sum.inr.injEq, Prod.mk.injEq, List.cons.injEq, Value.ref.injEq, true_and] at e9
  obtain ⟨rfl, rfl, -⟩ := e9
  refine ⟨f1, fun δ r9 w1 w3 => ?_, fun δ r9 w1 w3 => ?_, f6⟩
  · obtain ⟨z1, o1, u1, -, -⟩ := hO.bytes w1 w3
    have e8 := u1.symm.trans f2
    simp only [Sum.inr.injEq, Prod.mk.injEq, List.cons.injEq, Value.ref.injEq, true_and] at e8
    obtain ⟨rfl, -⟩ := e8
    exact ⟨f2, f3⟩
  · obtain ⟨z1, o1, u1, -, -⟩ := hO.bytes w1 w3
    have e8 := u1.symm.trans f4
    simp only [Sum.inr.injEq, Prod.mk.injEq, List.cons.injEq, Value.ref.injEq, true_and] at e8
    obtain ⟨rfl, -⟩ := e8
    exact ⟨f4, f5⟩
set_option maxHeartbeats 4000000 in
set_option maxRecDepth 100000 in
theorem s_X0_endsLike_e (l : Launch) (dC : Nat → ClassId) (dI : Nat → Nat → Nat) (cs : Nat → ClassId) (ty : TyM) (L : List Nat) (sz : Nat) (F : Nat → va_E) (h0 : Nat) (ρ : Nat) (r0 : Nat) (n : Nat) (g1 : Nat) (σ : Nat) (r1 : Nat) (n1 : Nat) (z : Nat) (y : Nat) (k : Nat) (f : Nat → Int32) (fa : Nat → Int32) (hW : WT ty L) (hL_h0 : h0 ∈ L) (hT_h0 : ty h0 = (0, ρ, [r0, n])) (hL_g1 : g1 ∈ L) (hT_g1 : ty g1 = (0, σ, [r1, n1])) (hF0 : F h0 = .inr (0, [.ref r0, .int (nI z), .int 0])) (hFr0 : F r0 = .inl (cs 16, n, .inl f)) (hFg : F g1 = .inr (0, [.ref r1, .int (nI y), .int 0])) (hFr1 : F r1 = .inl (cs 16, n1, .inl fa)) (hzn : z ≤ n) (hn9 : n ≤ 10000) (hyn : y ≤ n1) (hm9 : n1 ≤ 10000) (hkz : k ≤ z) (hky : k ≤ y) : Met l yX0_endsLike (.code yX0_endsLike cX0_endsLike 4 (some .boolean) :: tb) ({ frames := 0, cells := 0, slots := 0, locals := 0 }) (va_Pc [.ref h0, .ref g1, .int (nI k)] (PT (dC, dI) cs ty L F sz)) (va_Qi (fun (r : Int32) (_ : Unit) => (r = 1 ∧ ENDL f z fa y k) ∨ (r = 0 ∧ ¬ ENDL f z fa y k)) (fun _ T9 => ∃ F2 : Nat → va_E, QT (dC, dI) cs ty L [] F F2 (va_A (va_pl L F) sz) T9) (va_A (va_pl L F) sz)) 0 0 (va_A (va_pl L F) sz) := by
  refine Met.ofW (cc := cX0_endsLike) (maxL := 4) (ret := (some .boolean)) (by decide) rfl ?_
  intro p e s m args below meth c s₁ B hml hv
  obtain ⟨rfl, hsz, hP, hK, hD0, hE, hO⟩ := hv
  have hx := B.exec
  have hb := B.bytes
  have hr := B.returns
  have hts : ∀ w ∈ tb, w.before _ s = true := fun w h => atoms_spec (ws := .code yX0_endsLike cX0_endsLike 4 (some .boolean) :: tb) B.pre w (List.mem_cons_of_mem _ h)
  have hown : s.vm.findClass RX0 = some m.cls := findClass_of_methodNamed B.named
  have hlocks := B.notSynchronized
  subst hsz
  have hD := hD0.self (sz := s.heap.size)
  generalize hAe : va_A (va_pl L F) s.heap.size = A at hD ⊢
  have hA : ∀ q : Nat, s.heap.size ≤ q → A q := fun q h => by rw [← hAe]; exact Or.inr h
  have hS : va_S A s.heap s.heap [] := va_S.rf
  have hR : FR ty [] F F := FR.refl
  have hl := lv_entry ([.ref h0, .ref g1, .int (nI k)]) (n := 4) (Nat.le_of_ble_eq_true rfl)
  rw [lg_entry_eq]
  generalize (lg_sl ([.ref h0, .ref g1, .int (nI k)]) ++ List.replicate (4 - (lg_sl ([.ref h0, .ref g1, .int (nI k)])).length) Slot.unset).toArray = ls at hl ⊢
  have hl : lv_has ls 4 [(0, .ref h0), (1, .ref g1), (2, .int (nI k))] := hl
  refine lv_iload_n hx hb dX0_endsLike_0 rfl (lv_at hl 2 rfl) ?_
  refine lv_aload_n hx hb dX0_endsLike_1 rfl (lv_at hl 0 rfl) ?_
  obtain ⟨hi_1, ht_2, hq_3⟩ := hW.bytes hL_h0 hT_h0
  refine pg_get (ci := 0) (v := .int (nI z)) (C := RX0) (T := TX0) (N := 3) hx hb hts it_0 hown hK hP hL_h0 hF0 rfl 1 (by decide) (hts _ kt_10) (fun _ h9 => h9) rfl dX0_endsLike_2 ?_
  refine lv_icmp_gt (tgt := 16) hx hb dX0_endsLike_5 (by decide) (fun c_4 => absurd c_4 (fun q => absurd ((nI_ltI (by omega) (by omega)).mp q) (by omega))) (fun c_4 => ?_)
  refine lv_iload_n hx hb dX0_endsLike_8 rfl (lv_at hl 2 rfl) ?_
  refine lv_aload_n hx hb dX0_endsLike_9 rfl (lv_at hl 1 rfl) ?_
  obtain ⟨hi_5, ht_6, hq_7⟩ := hW.bytes hL_g1 hT_g1
  refine pg_get (ci := 0) (v := .int (nI y)) (C := RX0) (T := TX0) (N := 3) hx hb hts it_0 hown hK hP hL_g1 hFg rfl 1 (by decide) (hts _ kt_10) (fun _ h9 => h9) rfl dX0_endsLike_10 ?_
  refine lv_icmp_le (tgt := 18) hx hb dX0_endsLike_13 (by decide) (fun c_8 => ?_) (fun c_8 => absurd ((nI_leI (by omega) (by omega)).mpr hky) c_8)
  refine lv_iconst (v := 1) hx hb dX0_endsLike_18 (by decide) ?_
  refine lv_istore_n (lv' := [(3, .int 1), (0, .ref h0), (1, .ref g1), (2, .int (nI k))]) hx hb dX0_endsLike_19 rfl hl (by decide) rfl (fun ls hl => ?_)
  refine W.widen (k := 0) (n := 0) (by omega) (by omega) ?_
  refine pl_loop (σ := Nat) A (dC, dI) cs ty L [] F 20 4 (fun j => [(3, .int (nI j)), (0, .ref h0), (1, .ref g1), (2, .int (nI k))]) (fun j => []) (fun j _ => 1 ≤ j ∧ j ≤ k + 1 ∧ (∀ i, 1 ≤ i → i < j → f (z - i) = fa (y - i))) (fun j => k + 1 - j) ?_ 1 F (⟨by omega, by omega, fun i h1 h2 => absurd h2 (by omega)⟩) hO hR _ _ hP hD hS ls (lv_sub hl [0, 1, 2, 3] rfl)
  rintro j F_9 hv_10 hO hR ih_11 H locs hP hD hS ls hl
  have hl : lv_has ls 4 [(3, .int (nI j)), (0, .ref h0), (1, .ref g1), (2, .int (nI k))] := hl
  have hv_10 : 1 ≤ j ∧ j ≤ k + 1 ∧ (∀ i, 1 ≤ i → i < j → f (z - i) = fa (y - i)) := hv_10
  refine W.eq (g2 := F0 m 20 ls []) rfl ?_
  obtain rfl : F = F_9 := (funext (fun a => hR a List.not_mem_nil)).symm
  obtain ⟨hv1, hv2, hv3⟩ := id hv_10
  refine lv_iload_n hx hb dX0_endsLike_20 rfl (lv_at hl 0 rfl) ?_
  refine lv_iload_n hx hb dX0_endsLike_21 rfl (lv_at hl 3 rfl) ?_
  refine lv_icmp_gt (tgt := 58) hx hb dX0_endsLike_22 (by decide) (fun c_12 => ?_) (fun c_12 => ?_)
  ·
    have hi_13 : k < j := (nI_ltI (a := k) (b := j) (by omega) (by omega)).mp c_12
    have hjk : k < j := (nI_ltI (by omega) (by omega)).mp c_12
    refine lv_iconst (v := 1) hx hb dX0_endsLike_58 (by decide) ?_
    refine W.widen (k := 0) (n := 0) (by omega) (by omega) ?_
    exact W.zret (v := 1) (ty := .boolean) hx hb hr (by decide) (fun t ht hWm => ⟨⟨1, (), rfl, (Or.inl ⟨rfl, fun i h1 h2 => hv3 i h1 (by omega)⟩), ⟨F, QT.mk ht hP hD hO hR⟩⟩, hS.F ht⟩) hS.2.2 dX0_endsLike_59
  ·
    have hi_14 : j ≤ k := Nat.not_lt.mp (fun q => c_12 ((nI_ltI (a := k) (b := j) (by omega) (by omega)).mpr q))
    have hjk : j ≤ k := Nat.not_lt.mp (fun q => c_12 ((nI_ltI (by omega) (by omega)).mpr q))
    refine lv_aload_n hx hb dX0_endsLike_25 rfl (lv_at hl 1 rfl) ?_
    refine pg_get (ci := 0) (v := .ref r0) (C := RX0) (T := TX0) (N := 3) hx hb hts it_0 hown hK hP hL_h0 hF0 rfl 0 (by decide) (hts _ kt_12) (fun _ h9 => h9) rfl dX0_endsLike_26 ?_
    refine lv_aload_n hx hb dX0_endsLike_29 rfl (lv_at hl 1 rfl) ?_
    refine pg_get (ci := 0) (v := .int (nI z)) (C := RX0) (T := TX0) (N := 3) hx hb hts it_0 hown hK hP hL_h0 hF0 rfl 1 (by decide) (hts _ kt_10) (fun _ h9 => h9) rfl dX0_endsLike_30 ?_
    refine lv_iload_n hx hb dX0_endsLike_33 rfl (lv_at hl 0 rfl) ?_
    refine lv_isub hx hb dX0_endsLike_34 ?_
    refine lv_topi (fun x_15 ex_15 => ?_)
    obtain rfl : x_15 = (nI (z - j)) := ex_15.trans (pk_sub (by omega))
    refine pg_iald hx hb hK hP hi_1 0 hFr0 rfl (vp_in_nI (by omega) (by omega)) dX0_endsLike_35 ?_
    refine lv_topi (fun x_16 ex_16 => ?_)
    obtain rfl : x_16 = (f (z - j)) := ex_16.trans (congrArg f (nI_clamp (by omega)))
    refine lv_aload_n hx hb dX0_endsLike_36 rfl (lv_at hl 2 rfl) ?_
    refine pg_get (ci := 0) (v := .ref r1) (C := RX0) (T := TX0) (N := 3) hx hb hts it_0 hown hK hP hL_g1 hFg rfl 0 (by decide) (hts _ kt_12) (fun _ h9 => h9) rfl dX0_endsLike_37 ?_
    refine lv_aload_n hx hb dX0_endsLike_40 rfl (lv_at hl 2 rfl) ?_
    refine pg_get (ci := 0) (v := .int (nI y)) (C := RX0) (T := TX0) (N := 3) hx hb hts it_0 hown hK hP hL_g1 hFg rfl 1 (by decide) (hts _ kt_10) (fun _ h9 => h9) rfl dX0_endsLike_41 ?_
    refine lv_iload_n hx hb dX0_endsLike_44 rfl (lv_at hl 0 rfl) ?_
    refine lv_isub hx hb dX0_endsLike_45 ?_
    refine lv_topi (fun x_17 ex_17 => ?_)
    obtain rfl : x_17 = (nI (y - j)) := ex_17.trans (pk_sub (by omega))
    refine pg_iald hx hb hK hP hi_5 0 hFr1 rfl (vp_in_nI (by omega) (by omega)) dX0_endsLike_46 ?_
    refine lv_topi (fun x_18 ex_18 => ?_)
    obtain rfl : x_18 = (fa (y - j)) := ex_18.trans (congrArg fa (nI_clamp (by omega)))
    refine lv_icmp_eq (tgt := 52) hx hb dX0_endsLike_47 (by decide) (fun c_19 => ?_) (fun c_19 => ?_)
    ·
      refine lv_iinc (v := (nI (j + 1))) (lv' := [(3, .int (nI (j + 1))), (0, .ref h0), (1, .ref g1), (2, .int (nI k))]) hx hb dX0_endsLike_52 hl (k := 0) rfl (nI_1 _) (by decide) rfl (fun ls hl => ?_)
      refine lv_goto (tgt := 20) hx hb dX0_endsLike_55 (by decide) ?_
      refine W.widen (k := 0) (n := 0) (by omega) (by omega) ?_
      exact ih_11 (j + 1) F (⟨by omega, by omega, fun i h1 h2 => by rcases Nat.lt_or_ge i j with q | q; exact hv3 i h1 q; rw [show i = j by omega]; exact c_19⟩) (by show k + 1 - (j + 1) < k + 1 - j; omega) hO hR _ _ hP hD hS ls (lv_sub hl [0, 1, 2, 3] rfl)
    ·
      refine lv_iconst (v := 0) hx hb dX0_endsLike_50 (by decide) ?_
      refine W.widen (k := 0) (n := 0) (by omega) (by omega) ?_
      exact W.zret (v := 0) (ty := .boolean) hx hb hr (by decide) (fun t ht hWm => ⟨⟨0, (), rfl, (Or.inr ⟨rfl, fun q => c_19 (q j (by omega) (by omega))⟩), ⟨F, QT.mk ht hP hD hO hR⟩⟩, hS.F ht⟩) hS.2.2 dX0_endsLike_51
set_option maxHeartbeats 4000000 in
set_option maxRecDepth 100000 in
theorem s_X0_isUnder_e (l : Launch) (dC : Nat → ClassId) (dI : Nat → Nat → Nat) (cs : Nat → ClassId) (ty : TyM) (L : List Nat) (sz : Nat) (F : Nat → va_E) (h0 : Nat) (ρ : Nat) (r0 : Nat) (n : Nat) (g1 : Nat) (σ : Nat) (r1 : Nat) (n1 : Nat) (z : Nat) (y : Nat) (f : Nat → Int32) (fa : Nat → Int32) (hW : WT ty L) (hL_h0 : h0 ∈ L) (hT_h0 : ty h0 = (0, ρ, [r0, n])) (hL_g1 : g1 ∈ L) (hT_g1 : ty g1 = (0, σ, [r1, n1])) (hF0 : F h0 = .inr (0, [.ref r0, .int (nI z), .int 0])) (hFr0 : F r0 = .inl (cs 16, n, .inl f)) (hFg : F g1 = .inr (0, [.ref r1, .int (nI y), .int 0])) (hFr1 : F r1 = .inl (cs 16, n1, .inl fa)) (hzn : z ≤ n) (hn9 : n ≤ 10000) (hyn : y ≤ n1) (hm9 : n1 ≤ 10000) : Met l yX0_isUnder (.code yX0_isUnder cX0_isUnder 2 (some .boolean) :: tb) ({ frames := 1, cells := 0, slots := 0, locals := 23 }) (va_Pc [.ref h0, .ref g1] (PT (dC, dI) cs ty L F sz)) (va_Qi (fun (r : Int32) (_ : Unit) => (r = 1 ∧ UND f z fa y) ∨ (r = 0 ∧ ¬ UND f z fa y)) (fun _ T9 => ∃ F2 : Nat → va_E, QT (dC, dI) cs ty L [] F F2 (va_A (va_pl L F) sz) T9) (va_A (va_pl L F) sz)) 0 0 (va_A (va_pl L F) sz) := by
  refine Met.ofW (cc := cX0_isUnder) (maxL := 2) (ret := (some .boolean)) (by decide) rfl ?_
  intro p e s m args below meth c s₁ B hml hv
  obtain ⟨rfl, hsz, hP, hK, hD0, hE, hO⟩ := hv
  have hx := B.exec
  have hb := B.bytes
  have hr := B.returns
  have hts : ∀ w ∈ tb, w.before _ s = true := fun w h => atoms_spec (ws := .code yX0_isUnder cX0_isUnder 2 (some .boolean) :: tb) B.pre w (List.mem_cons_of_mem _ h)
  have hown : s.vm.findClass RX0 = some m.cls := findClass_of_methodNamed B.named
  have hlocks := B.notSynchronized
  subst hsz
  have hD := hD0.self (sz := s.heap.size)
  generalize hAe : va_A (va_pl L F) s.heap.size = A at hD ⊢
  have hA : ∀ q : Nat, s.heap.size ≤ q → A q := fun q h => by rw [← hAe]; exact Or.inr h
  have hS : va_S A s.heap s.heap [] := va_S.rf
  have hR : FR ty [] F F := FR.refl
  have hl := lv_entry ([.ref h0, .ref g1]) (n := 2) (Nat.le_of_ble_eq_true rfl)
  rw [lg_entry_eq]
  generalize (lg_sl ([.ref h0, .ref g1]) ++ List.replicate (2 - (lg_sl ([.ref h0, .ref g1])).length) Slot.unset).toArray = ls at hl ⊢
  have hl : lv_has ls 2 [(0, .ref h0), (1, .ref g1)] := hl
  refine lv_aload_n hx hb dX0_isUnder_0 rfl (lv_at hl 0 rfl) ?_
  obtain ⟨hi_1, ht_2, hq_3⟩ := hW.bytes hL_h0 hT_h0
  refine pg_get (ci := 0) (v := .int 0) (C := RX0) (T := TX0) (N := 3) hx hb hts it_0 hown hK hP hL_h0 hF0 rfl 2 (by decide) (hts _ kt_11) (fun _ h9 => h9) rfl dX0_isUnder_1 ?_
  refine lv_if_ne (tgt := 37) hx hb dX0_isUnder_4 (by decide) (fun c_4 => absurd (by decide) c_4) (fun c_4 => ?_)
  refine lv_aload_n hx hb dX0_isUnder_7 rfl (lv_at hl 1 rfl) ?_
  obtain ⟨hi_5, ht_6, hq_7⟩ := hW.bytes hL_g1 hT_g1
  refine pg_get (ci := 0) (v := .int 0) (C := RX0) (T := TX0) (N := 3) hx hb hts it_0 hown hK hP hL_g1 hFg rfl 2 (by decide) (hts _ kt_11) (fun _ h9 => h9) rfl dX0_isUnder_8 ?_
  refine lv_if_ne (tgt := 37) hx hb dX0_isUnder_11 (by decide) (fun c_8 => absurd (by decide) c_8) (fun c_8 => ?_)
  refine lv_aload_n hx hb dX0_isUnder_14 rfl (lv_at hl 0 rfl) ?_
  refine pg_get (ci := 0) (v := .int (nI z)) (C := RX0) (T := TX0) (N := 3) hx hb hts it_0 hown hK hP hL_h0 hF0 rfl 1 (by decide) (hts _ kt_10) (fun _ h9 => h9) rfl dX0_isUnder_15 ?_
  refine lv_aload_n hx hb dX0_isUnder_18 rfl (lv_at hl 1 rfl) ?_
  refine pg_get (ci := 0) (v := .int (nI y)) (C := RX0) (T := TX0) (N := 3) hx hb hts it_0 hown hK hP hL_g1 hFg rfl 1 (by decide) (hts _ kt_10) (fun _ h9 => h9) rfl dX0_isUnder_19 ?_
  refine lv_icmp_lt (tgt := 37) hx hb dX0_isUnder_22 (by decide) (fun c_9 => ?_) (fun c_9 => ?_)
  ·
    have hi_10 : z < y := ltN (N := y) (Int32.not_le.mpr c_9)
    have hlt : z < y := (nI_ltI (by omega) (by omega)).mp c_9
    refine lv_iconst (v := 0) hx hb dX0_isUnder_37 (by decide) ?_
    refine W.widen (k := 0) (n := 0) (by omega) (by omega) ?_
    exact W.zret (v := 0) (ty := .boolean) hx hb hr (by decide) (fun t ht hWm => ⟨⟨0, (), rfl, (Or.inr ⟨rfl, fun q => absurd q.1 (by omega)⟩), ⟨F, QT.mk ht hP hD hO hR⟩⟩, hS.F ht⟩) hS.2.2 dX0_isUnder_38
  ·
    have hi_11 : y ≤ z := leN (N := y) (Int32.not_lt.mp c_9)
    have hge : y ≤ z := Nat.not_lt.mp (fun q => c_9 ((nI_ltI (by omega) (by omega)).mpr q))
    refine lv_aload_n hx hb dX0_isUnder_25 rfl (lv_at hl 0 rfl) ?_
    refine lv_aload_n hx hb dX0_isUnder_26 rfl (lv_at hl 1 rfl) ?_
    refine lv_aload_n hx hb dX0_isUnder_27 rfl (lv_at hl 1 rfl) ?_
    refine pg_get (ci := 0) (v := .int (nI y)) (C := RX0) (T := TX0) (N := 3) hx hb hts it_0 hown hK hP hL_g1 hFg rfl 1 (by decide) (hts _ kt_10) (fun _ h9 => h9) rfl dX0_isUnder_28 ?_
    have hFc := pg_free hD hS hA
    refine va_calli (va_runV (As := [.ref g1, .int (nI y)]) (rest := []) ⟨hx, hb, hml, hown, hts⟩ (s_X0_endsLike_e l dC dI cs ty L s.heap.size F h0 ρ r0 n g1 σ r1 n1 z y y f fa hW hL_h0 hT_h0 hL_g1 hT_g1 hF0 hFr0 hFg hFr1 (by omega) (by omega) (by omega) (by omega) (by omega) (Nat.le_refl _)) ⟨callB_of 2 hts (gi kt_40) rfl rfl rfl (hts _ kt_1) (hts _ kt_41) (by decide +kernel) ⟨Nat.le_of_ble_eq_true rfl, Nat.le_of_ble_eq_true rfl⟩, (hts _ kt_42), (hts _ kt_43)⟩ ⟨fun a U g mk q => ⟨q.1, PT.calling q.2⟩, pg_recv hK hP hL_h0 hF0 (q := (RX0, TX0, 3)) rfl, fun U hU hWm => ⟨rfl, PT.mk hU hWm hP hK hD hE hO⟩⟩ rfl rfl hl.1 rfl (lv_room (Nat.le_of_ble_eq_true rfl)) dX0_isUnder_31 ⟨by show _ + 0 ≤ 0; omega, by show _ + 0 ≤ 0; omega⟩) hS (fun q _ h => hFc q h) hFc (fun r_12 u t H1 locs ht hvm hw hB hz1 hk1 hS => ?_)
    obtain ⟨F_13, hB1⟩ := hB
    obtain rfl : F = F_13 := (funext (fun a => hB1.2.2.2 a List.not_mem_nil)).symm
    obtain ⟨hP, hD, hO, hR⟩ := QT.back hB1 ht hFc hR (fun q h => absurd h List.not_mem_nil)
    generalize H1 = H at hP hS ⊢
    have hw : (r_12 = 1 ∧ ENDL f z fa y y) ∨ (r_12 = 0 ∧ ¬ ENDL f z fa y y) := hw
    have hw_14 := hw
    refine lv_if_ne (tgt := 39) hx hb dX0_isUnder_34 (by decide) (fun c_15 => ?_) (fun c_15 => ?_)
    ·
      refine lv_aload_n hx hb dX0_isUnder_39 rfl (lv_at hl 0 rfl) ?_
      refine pg_get (ci := 0) (v := .int (nI z)) (C := RX0) (T := TX0) (N := 3) hx hb hts it_0 hown hK hP hL_h0 hF0 rfl 1 (by decide) (hts _ kt_10) (fun _ h9 => h9) rfl dX0_isUnder_40 ?_
      refine lv_aload_n hx hb dX0_isUnder_43 rfl (lv_at hl 1 rfl) ?_
      refine pg_get (ci := 0) (v := .int (nI y)) (C := RX0) (T := TX0) (N := 3) hx hb hts it_0 hown hK hP hL_g1 hFg rfl 1 (by decide) (hts _ kt_10) (fun _ h9 => h9) rfl dX0_isUnder_44 ?_
      refine lv_icmp_eq (tgt := 71) hx hb dX0_isUnder_47 (by decide) (fun c_16 => ?_) (fun c_16 => ?_)
      ·
        have heq : z = y := (nI_eq (by omega) (by omega)).mp c_16
        refine lv_iconst (v := 1) hx hb dX0_isUnder_71 (by decide) ?_
        refine lv_goto (tgt := 76) hx hb dX0_isUnder_72 (by decide) ?_
        refine W.widen (k := 0) (n := 0) (by omega) (by omega) ?_
        exact W.zret (v := 1) (ty := .boolean) hx hb hr (by decide) (fun t ht hWm => ⟨⟨1, (), rfl, (Or.inl ⟨rfl, hge, orp1 hw_14 c_15, Or.inl heq⟩), ⟨F, QT.mk ht hP hD hO hR⟩⟩, hS.F ht⟩) hS.2.2 dX0_isUnder_76
      ·
        have hne : z ≠ y := fun q => c_16 (by rw [q])
        refine lv_aload_n hx hb dX0_isUnder_50 rfl (lv_at hl 0 rfl) ?_
        refine pg_get (ci := 0) (v := .ref r0) (C := RX0) (T := TX0) (N := 3) hx hb hts it_0 hown hK hP hL_h0 hF0 rfl 0 (by decide) (hts _ kt_12) (fun _ h9 => h9) rfl dX0_isUnder_51 ?_
        refine lv_aload_n hx hb dX0_isUnder_54 rfl (lv_at hl 0 rfl) ?_
        refine pg_get (ci := 0) (v := .int (nI z)) (C := RX0) (T := TX0) (N := 3) hx hb hts it_0 hown hK hP hL_h0 hF0 rfl 1 (by decide) (hts _ kt_10) (fun _ h9 => h9) rfl dX0_isUnder_55 ?_
        refine lv_aload_n hx hb dX0_isUnder_58 rfl (lv_at hl 1 rfl) ?_
        refine pg_get (ci := 0) (v := .int (nI y)) (C := RX0) (T := TX0) (N := 3) hx hb hts it_0 hown hK hP hL_g1 hFg rfl 1 (by decide) (hts _ kt_10) (fun _ h9 => h9) rfl dX0_isUnder_59 ?_
        refine lv_isub hx hb dX0_isUnder_62 ?_
        refine lv_topi (fun x_19 ex_19 => ?_)
        obtain rfl : x_19 = (nI (z - y)) := ex_19.trans (pk_sub hge)
        refine lv_iconst (v := 1) hx hb dX0_isUnder_63 (by decide) ?_
        refine lv_isub hx hb dX0_isUnder_64 ?_
        refine lv_topi (fun x_20 ex_20 => ?_)
        obtain rfl : x_20 = (nI (z - y - 1)) := ex_20.trans (pk_sub (b := 1) (by omega))
        refine pg_iald hx hb hK hP hi_1 0 hFr0 rfl (vp_in_nI (by omega) (by omega)) dX0_isUnder_65 ?_
        refine lv_topi (fun x_21 ex_21 => ?_)
        obtain rfl : x_21 = (f (z - y - 1)) := ex_21.trans (congrArg f (nI_clamp (by omega)))
        refine lv_bipush (v := 46) hx hb dX0_isUnder_66 (by decide) ?_
        refine lv_icmp_ne (tgt := 75) hx hb dX0_isUnder_68 (by decide) (fun c_22 => ?_) (fun c_22 => ?_)
        ·
          refine lv_iconst (v := 0) hx hb dX0_isUnder_75 (by decide) ?_
          refine W.widen (k := 0) (n := 0) (by omega) (by omega) ?_
          exact W.zret (v := 0) (ty := .boolean) hx hb hr (by decide) (fun t ht hWm => ⟨⟨0, (), rfl, (Or.inr ⟨rfl, fun q => q.2.2.elim hne c_22⟩), ⟨F, QT.mk ht hP hD hO hR⟩⟩, hS.F ht⟩) hS.2.2 dX0_isUnder_76
        ·
          refine lv_iconst (v := 1) hx hb dX0_isUnder_71 (by decide) ?_
          refine lv_goto (tgt := 76) hx hb dX0_isUnder_72 (by decide) ?_
          refine W.widen (k := 0) (n := 0) (by omega) (by omega) ?_
          exact W.zret (v := 1) (ty := .boolean) hx hb hr (by decide) (fun t ht hWm => ⟨⟨1, (), rfl, (Or.inl ⟨rfl, hge, orp1 hw_14 c_15, Or.inr c_22⟩), ⟨F, QT.mk ht hP hD hO hR⟩⟩, hS.F ht⟩) hS.2.2 dX0_isUnder_76
    ·
      refine lv_iconst (v := 0) hx hb dX0_isUnder_37 (by decide) ?_
      refine W.widen (k := 0) (n := 0) (by omega) (by omega) ?_
      exact W.zret (v := 0) (ty := .boolean) hx hb hr (by decide) (fun t ht hWm => ⟨⟨0, (), rfl, (Or.inr ⟨rfl, fun q => orp0 hw_14 c_15 q.2.1⟩), ⟨F, QT.mk ht hP hD hO hR⟩⟩, hS.F ht⟩) hS.2.2 dX0_isUnder_38
set_option maxHeartbeats 4000000 in
set_option maxRecDepth 100000 in
theorem s_X0_findLast_e (l : Launch) (dC : Nat → ClassId) (dI : Nat → Nat → Nat) (cs : Nat → ClassId) (ty : TyM) (L : List Nat) (sz : Nat) (F : Nat → va_E) (h0 : Nat) (ρ : Nat) (r0 : Nat) (n : Nat) (z : Nat) (b : Nat) (f : Nat → Int32) (x1 : Int32) (x3 : Int32) (hW : WT ty L) (hL_h0 : h0 ∈ L) (hT_h0 : ty h0 = (0, ρ, [r0, n])) (hF0 : F h0 = .inr (0, [.ref r0, .int (nI z), .int 0])) (hFr : F r0 = .inl (cs 16, n, .inl f)) (hzn : z ≤ n) (hn9 : n ≤ 10000) (hx3 : x3 = nI b ∨ (b = 0 ∧ x3 = -1)) (hbz : b ≤ z) : Met l yX0_findLast (.code yX0_findLast cX0_findLast 5 (some .int) :: tb) ({ frames := 1, cells := 0, slots := 0, locals := 21 }) (va_Pc [.ref h0, .int x1, .int 0, .int x3] (PT (dC, dI) cs ty L F sz)) (va_Qi (fun (r : Int32) (_ : Unit) => r.toInt = (lsw f x1 b : Int) - 1) (fun _ T9 => ∃ F2 : Nat → va_E, QT (dC, dI) cs ty L [] F F2 (va_A (va_pl L F) sz) T9) (va_A (va_pl L F) sz)) 0 0 (va_A (va_pl L F) sz) := by
  refine Met.ofW (cc := cX0_findLast) (maxL := 5) (ret := (some .int)) (by decide) rfl ?_
  intro p e s m args below meth c s₁ B hml hv
  obtain ⟨rfl, hsz, hP, hK, hD0, hE, hO⟩ := hv
  have hx := B.exec
  have hb := B.bytes
  have hr := B.returns
  have hts : ∀ w ∈ tb, w.before _ s = true := fun w h => atoms_spec (ws := .code yX0_findLast cX0_findLast 5 (some .int) :: tb) B.pre w (List.mem_cons_of_mem _ h)
  have hown : s.vm.findClass RX0 = some m.cls := findClass_of_methodNamed B.named
  have hlocks := B.notSynchronized
  subst hsz
  have hD := hD0.self (sz := s.heap.size)
  generalize hAe : va_A (va_pl L F) s.heap.size = A at hD ⊢
  have hA : ∀ q : Nat, s.heap.size ≤ q → A q := fun q h => by rw [← hAe]; exact Or.inr h
  have hS : va_S A s.heap s.heap [] := va_S.rf
  have hR : FR ty [] F F := FR.refl
  have hl := lv_entry ([.ref h0, .int x1, .int 0, .int x3]) (n := 5) (Nat.le_of_ble_eq_true rfl)
  rw [lg_entry_eq]
  generalize (lg_sl ([.ref h0, .int x1, .int 0, .int x3]) ++ List.replicate (5 - (lg_sl ([.ref h0, .int x1, .int 0, .int x3])).length) Slot.unset).toArray = ls at hl ⊢
  have hl : lv_has ls 5 [(0, .ref h0), (1, .int x1), (2, .int 0), (3, .int x3)] := hl
  refine lv_iload_n hx hb dX0_findLast_0 rfl (lv_at hl 3 rfl) ?_
  refine lv_iconst (v := 1) hx hb dX0_findLast_1 (by decide) ?_
  refine lv_isub hx hb dX0_findLast_2 ?_
  refine lv_topi (fun x_1 ex_1 => ?_)
  obtain rfl : x_1 = (x3 - 1) := ex_1.trans (rfl)
  refine lv_istore (lv' := [(4, .int (x3 - 1)), (0, .ref h0), (1, .int x1), (2, .int 0), (3, .int x3)]) hx hb dX0_findLast_3 hl (by decide) rfl (fun ls hl => ?_)
  refine W.widen (k := 0) (n := 0) (by omega) (by omega) ?_
  refine pl_loop (σ := Int32) A (dC, dI) cs ty L [] F 5 5 (fun i1 => [(4, .int i1), (0, .ref h0), (1, .int x1), (2, .int 0), (3, .int x3)]) (fun i1 => []) (fun i1 _ => LSI f x1 b i1) (fun i1 => (i1.toInt - (0 : Int32).toInt + 1).toNat) ?_ (x3 - 1) F (lsi_0 hx3 (by omega)) hO hR _ _ hP hD hS ls (lv_sub hl [0, 1, 2, 3, 4] rfl)
  rintro i1 F_2 hv_3 hO hR ih_4 H locs hP hD hS ls hl
  have hl : lv_has ls 5 [(4, .int i1), (0, .ref h0), (1, .int x1), (2, .int 0), (3, .int x3)] := hl
  have hv_3 : LSI f x1 b i1 := hv_3
  refine W.eq (g2 := F0 m 5 ls []) rfl ?_
  obtain rfl : F = F_2 := (funext (fun a => hR a List.not_mem_nil)).symm
  have hv1 := hv_3
  refine lv_iload hx hb dX0_findLast_5 (lv_at hl 0 rfl) ?_
  refine lv_iload_n hx hb dX0_findLast_7 rfl (lv_at hl 3 rfl) ?_
  refine lv_icmp_lt (tgt := 30) hx hb dX0_findLast_8 (by decide) (fun c_5 => ?_) (fun c_5 => ?_)
  ·
    have hz9 := lsi_end hv1 c_5
    refine lv_iload_n hx hb dX0_findLast_30 rfl (lv_at hl 3 rfl) ?_
    refine lv_iconst (v := 1) hx hb dX0_findLast_31 (by decide) ?_
    refine lv_isub hx hb dX0_findLast_32 ?_
    refine lv_topi (fun x_6 ex_6 => ?_)
    obtain rfl : x_6 = (-1) := ex_6.trans (by decide)
    refine W.widen (k := 0) (n := 0) (by omega) (by omega) ?_
    exact W.iret (v := (-1)) hx hb hr (fun t ht hWm => ⟨⟨(-1), (), rfl, (by rw [hz9]; decide), ⟨F, QT.mk ht hP hD hO hR⟩⟩, hS.F ht⟩) hS.2.2 dX0_findLast_33
  ·
    obtain ⟨k9, hkb, hi9, hls⟩ := lsi_go hv1 c_5 (by omega)
    subst hi9
    refine lv_aload_n hx hb dX0_findLast_11 rfl (lv_at hl 1 rfl) ?_
    refine lv_iload hx hb dX0_findLast_12 (lv_at hl 0 rfl) ?_
    obtain ⟨hi_7, ht_8, hq_9⟩ := hW.bytes hL_h0 hT_h0
    have hFc := pg_free hD hS hA
    refine va_calli (va_runV (As := [.int (nI k9)]) (rest := []) ⟨hx, hb, hml, hown, hts⟩ (s_X0_at_e l dC dI cs ty L H.size F h0 ρ r0 n z k9 f hW hL_h0 hT_h0 hF0 hFr (by omega) (by omega) (by omega)) ⟨callB_of 1 hts (gi kt_21) rfl rfl rfl (hts _ kt_1) (hts _ kt_22) (by decide +kernel) ⟨Nat.le_of_ble_eq_true rfl, Nat.le_of_ble_eq_true rfl⟩, (hts _ kt_23), (hts _ kt_24)⟩ ⟨fun a U g mk q => ⟨q.1, PT.calling q.2⟩, pg_recv hK hP hL_h0 hF0 (q := (RX0, TX0, 3)) rfl, fun U hU hWm => ⟨rfl, PT.mk hU hWm hP hK hD hE hO⟩⟩ rfl rfl hl.1 rfl (lv_room (Nat.le_of_ble_eq_true rfl)) dX0_findLast_14 ⟨by show _ + 0 ≤ 0; omega, by show _ + 0 ≤ 0; omega⟩) hS (fun q _ h => hFc q h) hFc (fun r_10 u t H1 locs ht hvm hw hB hz1 hk1 hS => ?_)
    obtain ⟨F_11, hB1⟩ := hB
    obtain rfl : F = F_11 := (funext (fun a => hB1.2.2.2 a List.not_mem_nil)).symm
    obtain ⟨hP, hD, hO, hR⟩ := QT.back hB1 ht hFc hR (fun q h => absurd h List.not_mem_nil)
    generalize H1 = H at hP hS ⊢
    have hw : r_10 = f k9 := hw
    have hw_12 := hw
    subst hw_12
    refine lv_iload_n hx hb dX0_findLast_17 rfl (lv_at hl 2 rfl) ?_
    refine lv_icmp_ne (tgt := 24) hx hb dX0_findLast_18 (by decide) (fun c_13 => ?_) (fun c_13 => ?_)
    ·
      obtain ⟨x_14, ex_14⟩ : ∃ y : Int32, y = (nI k9) + Int32.ofInt (-1) := ⟨_, rfl⟩
      refine lv_iinc (v := x_14) (lv' := [(4, .int x_14), (0, .ref h0), (1, .int x1), (2, .int 0), (3, .int x3)]) hx hb dX0_findLast_24 hl (k := 0) rfl (ex_14.symm) (by decide) rfl (fun ls hl => ?_)
      refine lv_goto (tgt := 5) hx hb dX0_findLast_27 (by decide) ?_
      refine W.widen (k := 0) (n := 0) (by omega) (by omega) ?_
      exact ih_4 x_14 F (lsi_s ex_14 hkb (by omega) hls c_13) (by show (x_14.toInt - (0 : Int32).toInt + 1).toNat < ((nI k9).toInt - (0 : Int32).toInt + 1).toNat; exact decN ex_14 c_5 (by decide)) hO hR _ _ hP hD hS ls (lv_sub hl [0, 1, 2, 3, 4] rfl)
    ·
      refine lv_iload hx hb dX0_findLast_21 (lv_at hl 0 rfl) ?_
      refine W.widen (k := 0) (n := 0) (by omega) (by omega) ?_
      exact W.iret (v := (nI k9)) hx hb hr (fun t ht hWm => ⟨⟨(nI k9), (), rfl, (lsi_f hkb (by omega) hls c_13), ⟨F, QT.mk ht hP hD hO hR⟩⟩, hS.F ht⟩) hS.2.2 dX0_findLast_23
set_option maxHeartbeats 4000000 in
set_option maxRecDepth 100000 in
theorem s_X2_houseStart_e (l : Launch) (dC : Nat → ClassId) (dI : Nat → Nat → Nat) (cs : Nat → ClassId) (ty : TyM) (L : List Nat) (sz : Nat) (F : Nat → va_E) (h0 : Nat) (ρ : Nat) (ea : Nat) (g1 : Nat) (σ : Nat) (r1 : Nat) (n1 : Nat) (z : Nat) (cn : Nat) (f : Nat → Int32) (D : Nat → ETY) (hW : WT ty L) (hL_h0 : h0 ∈ L) (hT_h0 : ty h0 = (2, ρ, [ea])) (hL_g1 : g1 ∈ L) (hT_g1 : ty g1 = (0, σ, [r1, n1])) (hFd : F h0 = .inr (2, [.ref ea, .int (nI cn)])) (hcn : cn ≤ 40) (hFg : F g1 = .inr (0, [.ref r1, .int (nI z), .int 0])) (hFr : F r1 = .inl (cs 16, n1, .inl f)) (hzn : z ≤ n1) (hn9 : n1 ≤ 10000) (hDI : DIRC cs F ea cn D) : Met l yX2_houseStart (.code yX2_houseStart cX2_houseStart 4 (some .int) :: tb) ({ frames := 2, cells := 0, slots := 0, locals := 45 }) (va_Pc [.ref h0, .ref g1] (PT (dC, dI) cs ty L F sz)) (va_Qi (fun (r : Int32) (_ : Unit) => r = nI (HST (UND f z) f z D cn)) (fun _ T9 => ∃ F2 : Nat → va_E, QT (dC, dI) cs ty L [] F F2 (va_A (va_pl L F) sz) T9) (va_A (va_pl L F) sz)) 0 0 (va_A (va_pl L F) sz) := by
  refine Met.ofW (cc := cX2_houseStart) (maxL := 4) (ret := (some .int)) (by decide) rfl ?_
  intro p e s m args below meth c s₁ B hml hv
  obtain ⟨rfl, hsz, hP, hK, hD0, hE, hO⟩ := hv
  have hx := B.exec
  have hb := B.bytes
  have hr := B.returns
  have hts : ∀ w ∈ tb, w.before _ s = true := fun w h => atoms_spec (ws := .code yX2_houseStart cX2_houseStart 4 (some .int) :: tb) B.pre w (List.mem_cons_of_mem _ h)
  have hown : s.vm.findClass RX2 = some m.cls := findClass_of_methodNamed B.named
  have hlocks := B.notSynchronized
  subst hsz
  have hD := hD0.self (sz := s.heap.size)
  generalize hAe : va_A (va_pl L F) s.heap.size = A at hD ⊢
  have hA : ∀ q : Nat, s.heap.size ≤ q → A q := fun q h => by rw [← hAe]; exact Or.inr h
  have hS : va_S A s.heap s.heap [] := va_S.rf
  have hR : FR ty [] F F := FR.refl
  have hl := lv_entry ([.ref h0, .ref g1]) (n := 4) (Nat.le_of_ble_eq_true rfl)
  rw [lg_entry_eq]
  generalize (lg_sl ([.ref h0, .ref g1]) ++ List.replicate (4 - (lg_sl ([.ref h0, .ref g1])).length) Slot.unset).toArray = ls at hl ⊢
  have hl : lv_has ls 4 [(0, .ref h0), (1, .ref g1)] := hl
  obtain ⟨hi_1, ht_2⟩ := hW.dir hL_h0 hT_h0
  obtain ⟨f_3, hF_4, hq_5⟩ := hO.rentry hi_1 ht_2
  obtain ⟨hi_6, ht_7, hq_8⟩ := hW.bytes hL_g1 hT_g1
  refine lv_iconst (v := (-1)) hx hb dX2_houseStart_0 (by decide) ?_
  refine lv_istore_n (lv' := [(2, .int (-1)), (0, .ref h0), (1, .ref g1)]) hx hb dX2_houseStart_1 rfl hl (by decide) rfl (fun ls hl => ?_)
  refine lv_iconst (v := 0) hx hb dX2_houseStart_2 (by decide) ?_
  refine lv_istore_n (lv' := [(3, .int 0), (2, .int (-1)), (0, .ref h0), (1, .ref g1)]) hx hb dX2_houseStart_3 rfl hl (by decide) rfl (fun ls hl => ?_)
  refine W.widen (k := 0) (n := 0) (by omega) (by omega) ?_
  refine pl_loop (σ := Nat × Int32) A (dC, dI) cs ty L [] F 4 4 (fun (j, w2) => [(3, .int (nI j)), (2, .int w2), (0, .ref h0), (1, .ref g1)]) (fun (j, w2) => []) (fun (j, w2) FF => j ≤ cn ∧ w2.toInt = (lgw (UND f z) D j : Int) - 1 ∧ DIRC cs FF ea cn D) (fun (j, w2) => cn - j) ?_ (0, (-1)) F (⟨by omega, by show (-1 : Int32).toInt = ((0 : Nat) : Int) - 1; decide, hDI⟩) hO hR _ _ hP hD hS ls (lv_sub hl [0, 1, 2, 3] rfl)
  rintro ⟨j, w2⟩ F_9 hv_10 hO hR ih_11 H locs hP hD hS ls hl
  have hl : lv_has ls 4 [(3, .int (nI j)), (2, .int w2), (0, .ref h0), (1, .ref g1)] := hl
  have hv_10 : j ≤ cn ∧ w2.toInt = (lgw (UND f z) D j : Int) - 1 ∧ DIRC cs F_9 ea cn D := hv_10
  refine W.eq (g2 := F0 m 4 ls []) rfl ?_
  obtain rfl : F = F_9 := (funext (fun a => hR a List.not_mem_nil)).symm
  obtain ⟨hv1, hv2, hv3⟩ := id hv_10
  refine lv_iload_n hx hb dX2_houseStart_4 rfl (lv_at hl 0 rfl) ?_
  refine lv_aload_n hx hb dX2_houseStart_5 rfl (lv_at hl 2 rfl) ?_
  refine pg_get (ci := 2) (v := .int (nI cn)) (C := RX2) (T := TX2) (N := 2) hx hb hts it_2 hown hK hP hL_h0 hFd rfl 1 (by decide) (hts _ kt_83) (fun _ h9 => h9) rfl dX2_houseStart_6 ?_
  refine lv_icmp_ge (tgt := 64) hx hb dX2_houseStart_9 (by decide) (fun c_12 => ?_) (fun c_12 => ?_)
  ·
    have hi_13 : cn ≤ j := leN (N := cn) c_12
    have hjc : j = cn := by have h9 : cn ≤ j := (nI_leI (by omega) (by omega)).mp c_12; omega
    rw [hjc] at hv2
    refine lv_iload_n hx hb dX2_houseStart_64 rfl (lv_at hl 1 rfl) ?_
    refine lv_aload_n hx hb dX2_houseStart_65 rfl (lv_at hl 3 rfl) ?_
    refine pg_getN (ci := 0) (v := .int (nI z)) (C := RX0) (T := TX0) (N := 3) hx hb hts it_0 hown hK hP hL_g1 hFg rfl 1 (by decide) (hE.nest kn_3) (fun _ h9 => h9) rfl dX2_houseStart_66 ?_
    refine lv_icmp_ne (tgt := 74) hx hb dX2_houseStart_69 (by decide) (fun c_14 => ?_) (fun c_14 => ?_)
    ·
      refine lv_iload_n hx hb dX2_houseStart_74 rfl (lv_at hl 1 rfl) ?_
      refine lv_if_ge (tgt := 92) hx hb dX2_houseStart_75 (by decide) (fun c_15 => ?_) (fun c_15 => ?_)
      ·
        have hlz := lgw_le (U := UND f z) (D := D) (fun _ _ h9 => h9.1) cn
        obtain ⟨k9, hq9, hw9⟩ := lgw_k hv2 (by omega) (Int32.not_lt.mpr c_15)
        have hkz : k9 ≠ z := fun q => c_14 (hw9.trans (by rw [q]))
        subst hw9
        refine lv_aload_n hx hb dX2_houseStart_92 rfl (lv_at hl 3 rfl) ?_
        refine pg_getN (ci := 0) (v := .int (nI z)) (C := RX0) (T := TX0) (N := 3) hx hb hts it_0 hown hK hP hL_g1 hFg rfl 1 (by decide) (hE.nest kn_3) (fun _ h9 => h9) rfl dX2_houseStart_93 ?_
        refine lv_iload_n hx hb dX2_houseStart_96 rfl (lv_at hl 1 rfl) ?_
        refine lv_isub hx hb dX2_houseStart_97 ?_
        refine lv_topi (fun x_16 ex_16 => ?_)
        obtain rfl : x_16 = (nI (z - k9)) := ex_16.trans (pk_sub (by omega))
        refine lv_iconst (v := 1) hx hb dX2_houseStart_98 (by decide) ?_
        refine lv_isub hx hb dX2_houseStart_99 ?_
        refine lv_topi (fun x_17 ex_17 => ?_)
        obtain rfl : x_17 = (nI (z - k9 - 1)) := ex_17.trans (pk_sub (b := 1) (by omega))
        refine lv_istore_n (lv' := [(3, .int (nI (z - k9 - 1))), (2, .int (nI k9)), (0, .ref h0), (1, .ref g1)]) hx hb dX2_houseStart_100 rfl hl (by decide) rfl (fun ls hl => ?_)
        refine lv_aload_n hx hb dX2_houseStart_101 rfl (lv_at hl 3 rfl) ?_
        refine lv_bipush (v := 46) hx hb dX2_houseStart_102 (by decide) ?_
        refine lv_iconst (v := 0) hx hb dX2_houseStart_104 (by decide) ?_
        refine lv_iload_n hx hb dX2_houseStart_105 rfl (lv_at hl 0 rfl) ?_
        have hFc := pg_free hD hS hA
        refine va_calli (va_runV (As := [.int 46, .int 0, .int (nI (z - k9 - 1))]) (rest := []) ⟨hx, hb, hml, hown, hts⟩ (s_X0_findLast_e l dC dI cs ty L H.size F g1 σ r1 n1 z (z - k9 - 1) f 46 (nI (z - k9 - 1)) hW hL_g1 hT_g1 hFg hFr (by omega) (by omega) (Or.inl rfl) (by omega)) ⟨callB_of 3 hts (gi kt_93) rfl rfl rfl (hts _ kt_1) (hts _ kt_94) (by decide +kernel) ⟨Nat.le_of_ble_eq_true rfl, Nat.le_of_ble_eq_true rfl⟩, (hts _ kt_95), (hts _ kt_96)⟩ ⟨fun a U g mk q => ⟨q.1, PT.calling q.2⟩, pg_recv hK hP hL_g1 hFg (q := (RX0, TX0, 3)) rfl, fun U hU hWm => ⟨rfl, PT.mk hU hWm hP hK hD hE hO⟩⟩ rfl rfl hl.1 rfl (lv_room (Nat.le_of_ble_eq_true rfl)) dX2_houseStart_106 ⟨by show _ + 0 ≤ 0; omega, by show _ + 0 ≤ 0; omega⟩) hS (fun q _ h => hFc q h) hFc (fun r_18 u t H1 locs ht hvm hw hB hz1 hk1 hS => ?_)
        obtain ⟨F_19, hB1⟩ := hB
        obtain rfl : F = F_19 := (funext (fun a => hB1.2.2.2 a List.not_mem_nil)).symm
        obtain ⟨hP, hD, hO, hR⟩ := QT.back hB1 ht hFc hR (fun q h => absurd h List.not_mem_nil)
        generalize H1 = H at hP hS ⊢
        have hw : r_18.toInt = (lsw f 46 (z - k9 - 1) : Int) - 1 := hw
        have hw_20 := hw
        refine lv_iconst (v := 1) hx hb dX2_houseStart_109 (by decide) ?_
        refine lv_iadd hx hb dX2_houseStart_110 ?_
        refine lv_topi (fun x_21 ex_21 => ?_)
        obtain rfl : x_21 = (nI (lsw f 46 (z - k9 - 1))) := ex_21.trans (tI1 hw_20 (by have h9 := lsw_le (f := f) (x := 46) (z - k9 - 1); have h8 := lsw_le (f := f) (x := 46) z; omega))
        refine W.widen (k := 0) (n := 0) (by omega) (by omega) ?_
        exact W.iret (v := (nI (lsw f 46 (z - k9 - 1)))) hx hb hr (fun t ht hWm => ⟨⟨(nI (lsw f 46 (z - k9 - 1))), (), rfl, (hst_y hq9 hkz), ⟨F, QT.mk ht hP hD hO hR⟩⟩, hS.F ht⟩) hS.2.2 dX2_houseStart_111
      ·
        have hq0 := lgw_z hv2 (Int32.not_le.mp c_15)
        refine lv_aload_n hx hb dX2_houseStart_78 rfl (lv_at hl 3 rfl) ?_
        refine lv_bipush (v := 46) hx hb dX2_houseStart_79 (by decide) ?_
        refine lv_iconst (v := 0) hx hb dX2_houseStart_81 (by decide) ?_
        refine lv_aload_n hx hb dX2_houseStart_82 rfl (lv_at hl 3 rfl) ?_
        refine pg_getN (ci := 0) (v := .int (nI z)) (C := RX0) (T := TX0) (N := 3) hx hb hts it_0 hown hK hP hL_g1 hFg rfl 1 (by decide) (hE.nest kn_3) (fun _ h9 => h9) rfl dX2_houseStart_83 ?_
        have hFc := pg_free hD hS hA
        refine va_calli (va_runV (As := [.int 46, .int 0, .int (nI z)]) (rest := []) ⟨hx, hb, hml, hown, hts⟩ (s_X0_findLast_e l dC dI cs ty L H.size F g1 σ r1 n1 z z f 46 (nI z) hW hL_g1 hT_g1 hFg hFr (by omega) (by omega) (Or.inl rfl) (Nat.le_refl _)) ⟨callB_of 3 hts (gi kt_93) rfl rfl rfl (hts _ kt_1) (hts _ kt_94) (by decide +kernel) ⟨Nat.le_of_ble_eq_true rfl, Nat.le_of_ble_eq_true rfl⟩, (hts _ kt_95), (hts _ kt_96)⟩ ⟨fun a U g mk q => ⟨q.1, PT.calling q.2⟩, pg_recv hK hP hL_g1 hFg (q := (RX0, TX0, 3)) rfl, fun U hU hWm => ⟨rfl, PT.mk hU hWm hP hK hD hE hO⟩⟩ rfl rfl hl.1 rfl (lv_room (Nat.le_of_ble_eq_true rfl)) dX2_houseStart_86 ⟨by show _ + 0 ≤ 0; omega, by show _ + 0 ≤ 0; omega⟩) hS (fun q _ h => hFc q h) hFc (fun r_22 u t H1 locs ht hvm hw hB hz1 hk1 hS => ?_)
        obtain ⟨F_23, hB1⟩ := hB
        obtain rfl : F = F_23 := (funext (fun a => hB1.2.2.2 a List.not_mem_nil)).symm
        obtain ⟨hP, hD, hO, hR⟩ := QT.back hB1 ht hFc hR (fun q h => absurd h List.not_mem_nil)
        generalize H1 = H at hP hS ⊢
        have hw : r_22.toInt = (lsw f 46 z : Int) - 1 := hw
        have hw_24 := hw
        refine lv_goto (tgt := 100) hx hb dX2_houseStart_89 (by decide) ?_
        refine lv_istore_n (lv' := [(3, .int r_22), (2, .int w2), (0, .ref h0), (1, .ref g1)]) hx hb dX2_houseStart_100 rfl hl (by decide) rfl (fun ls hl => ?_)
        refine lv_aload_n hx hb dX2_houseStart_101 rfl (lv_at hl 3 rfl) ?_
        refine lv_bipush (v := 46) hx hb dX2_houseStart_102 (by decide) ?_
        refine lv_iconst (v := 0) hx hb dX2_houseStart_104 (by decide) ?_
        refine lv_iload_n hx hb dX2_houseStart_105 rfl (lv_at hl 0 rfl) ?_
        have hFc := pg_free hD hS hA
        refine va_calli (va_runV (As := [.int 46, .int 0, .int r_22]) (rest := []) ⟨hx, hb, hml, hown, hts⟩ (s_X0_findLast_e l dC dI cs ty L H.size F g1 σ r1 n1 z (lsw f 46 z - 1) f 46 r_22 hW hL_g1 hT_g1 hFg hFr (by omega) (by omega) (lsx hw_24 (by have h9 := lsw_le (f := f) (x := 46) z; omega)) (by have h9 := lsw_le (f := f) (x := 46) z; omega)) ⟨callB_of 3 hts (gi kt_93) rfl rfl rfl (hts _ kt_1) (hts _ kt_94) (by decide +kernel) ⟨Nat.le_of_ble_eq_true rfl, Nat.le_of_ble_eq_true rfl⟩, (hts _ kt_95), (hts _ kt_96)⟩ ⟨fun a U g mk q => ⟨q.1, PT.calling q.2⟩, pg_recv hK hP hL_g1 hFg (q := (RX0, TX0, 3)) rfl, fun U hU hWm => ⟨rfl, PT.mk hU hWm hP hK hD hE hO⟩⟩ rfl rfl hl.1 rfl (lv_room (Nat.le_of_ble_eq_true rfl)) dX2_houseStart_106 ⟨by show _ + 0 ≤ 0; omega, by show _ + 0 ≤ 0; omega⟩) hS (fun q _ h => hFc q h) hFc (fun r_25 u t H1 locs ht hvm hw hB hz1 hk1 hS => ?_)
        obtain ⟨F_26, hB1⟩ := hB
        obtain rfl : F = F_26 := (funext (fun a => hB1.2.2.2 a List.not_mem_nil)).symm
        obtain ⟨hP, hD, hO, hR⟩ := QT.back hB1 ht hFc hR (fun q h => absurd h List.not_mem_nil)
        generalize H1 = H at hP hS ⊢
        have hw : r_25.toInt = (lsw f 46 (lsw f 46 z - 1) : Int) - 1 := hw
        have hw_27 := hw
        refine lv_iconst (v := 1) hx hb dX2_houseStart_109 (by decide) ?_
        refine lv_iadd hx hb dX2_houseStart_110 ?_
        refine lv_topi (fun x_28 ex_28 => ?_)
        obtain rfl : x_28 = (nI (lsw f 46 (lsw f 46 z - 1))) := ex_28.trans (tI1 hw_27 (by have h9 := lsw_le (f := f) (x := 46) (lsw f 46 z - 1); have h8 := lsw_le (f := f) (x := 46) z; omega))
        refine W.widen (k := 0) (n := 0) (by omega) (by omega) ?_
        exact W.iret (v := (nI (lsw f 46 (lsw f 46 z - 1)))) hx hb hr (fun t ht hWm => ⟨⟨(nI (lsw f 46 (lsw f 46 z - 1))), (), rfl, (hst_n hq0), ⟨F, QT.mk ht hP hD hO hR⟩⟩, hS.F ht⟩) hS.2.2 dX2_houseStart_111
    ·
      refine lv_iconst (v := 0) hx hb dX2_houseStart_72 (by decide) ?_
      refine W.widen (k := 0) (n := 0) (by omega) (by omega) ?_
      exact W.iret (v := 0) hx hb hr (fun t ht hWm => ⟨⟨0, (), rfl, (hst_0 (lgw_e hv2 (by omega) c_14)), ⟨F, QT.mk ht hP hD hO hR⟩⟩, hS.F ht⟩) hS.2.2 dX2_houseStart_73
  ·
    have hi_29 : j < cn := ltN (N := cn) c_12
    have hjz : j < cn := Nat.not_le.mp (fun q => c_12 ((nI_leI (by omega) (by omega)).mpr q))
    refine lv_aload_n hx hb dX2_houseStart_12 rfl (lv_at hl 2 rfl) ?_
    refine pg_get (ci := 2) (v := .ref ea) (C := RX2) (T := TX2) (N := 2) hx hb hts it_2 hown hK hP hL_h0 hFd rfl 0 (by decide) (hts _ kt_84) (fun _ h9 => h9) rfl dX2_houseStart_13 ?_
    refine lv_iload_n hx hb dX2_houseStart_16 rfl (lv_at hl 0 rfl) ?_
    obtain ⟨b_30, x_31, y_32, hbf_33, hi_34, ht_35⟩ := hq_5 j (by omega)
    refine pg_aald (r := b_30) hx hb hK hP hi_1 5 hF_4 rfl (vp_in_nI (by omega) (by omega)) (show f_3 ((nI j) : Int32).toNatClampNeg = _ from by rw [show ((nI j) : Int32) = nI j from rfl, nI_clamp (by omega)]; exact hbf_33) dX2_houseStart_17 ?_
    obtain ⟨hi_36, hi_37, ⟨r_38, ht_39⟩, ⟨r_40, ht_41⟩⟩ := hW.entry hi_34 ht_35
    have ht_39 : ty x_31 = (0, ρ + j + j + j + 101, [r_38, 60]) := ht_39
    have ht_41 : ty y_32 = (0, ρ + j + j + j + 102, [r_40, 700]) := ht_41
    obtain ⟨hen1, hen2, hen3, hen4, hen5⟩ := DIRC.get hv3 hO hF_4 hjz hbf_33 hi_34 ht_35
    obtain ⟨hen6, hen7⟩ := hen2 _ _ hi_36 ht_39
    obtain ⟨hi_42, ht_43, hq_44⟩ := hW.bytes hi_36 ht_39
    refine pg_getN (ci := 3) (v := .int ((D j).1)) (C := RX3) (T := TX3) (N := 4) hx hb hts it_3 hown hK hP hi_34 hen1 rfl 2 (by decide) (hE.nest kn_0) (fun _ h9 => h9) rfl dX2_houseStart_18 ?_
    refine lv_iconst (v := 4) hx hb dX2_houseStart_21 (by decide) ?_
    refine lv_icmp_ne (tgt := 58) hx hb dX2_houseStart_22 (by decide) (fun c_45 => ?_) (fun c_45 => ?_)
    ·
      refine lv_iinc (v := (nI (j + 1))) (lv' := [(3, .int (nI (j + 1))), (2, .int w2), (0, .ref h0), (1, .ref g1)]) hx hb dX2_houseStart_58 hl (k := 0) rfl (nI_1 _) (by decide) rfl (fun ls hl => ?_)
      refine lv_goto (tgt := 4) hx hb dX2_houseStart_61 (by decide) ?_
      refine W.widen (k := 0) (n := 0) (by omega) (by omega) ?_
      exact ih_11 ((j + 1), w2) F (⟨by omega, lgw_n hv2 (fun q => c_45 q.1), hv3⟩) (by show cn - (j + 1) < cn - j; omega) hO hR _ _ hP hD hS ls (lv_sub hl [0, 1, 2, 3] rfl)
    ·
      refine lv_aload_n hx hb dX2_houseStart_25 rfl (lv_at hl 3 rfl) ?_
      refine lv_aload_n hx hb dX2_houseStart_26 rfl (lv_at hl 2 rfl) ?_
      refine pg_get (ci := 2) (v := .ref ea) (C := RX2) (T := TX2) (N := 2) hx hb hts it_2 hown hK hP hL_h0 hFd rfl 0 (by decide) (hts _ kt_84) (fun _ h9 => h9) rfl dX2_houseStart_27 ?_
      refine lv_iload_n hx hb dX2_houseStart_30 rfl (lv_at hl 0 rfl) ?_
      refine pg_aald (r := b_30) hx hb hK hP hi_1 5 hF_4 rfl (vp_in_nI (by omega) (by omega)) (show f_3 ((nI j) : Int32).toNatClampNeg = _ from by rw [show ((nI j) : Int32) = nI j from rfl, nI_clamp (by omega)]; exact hbf_33) dX2_houseStart_31 ?_
      refine pg_getN (ci := 3) (v := .ref x_31) (C := RX3) (T := TX3) (N := 4) hx hb hts it_3 hown hK hP hi_34 hen1 rfl 0 (by decide) (hE.nest kn_1) (fun _ h9 => h9) rfl dX2_houseStart_32 ?_
      have hFc := pg_free hD hS hA
      refine va_calli (va_runV (As := [.ref x_31]) (rest := []) ⟨hx, hb, hml, hown, hts⟩ (s_X0_isUnder_e l dC dI cs ty L H.size F g1 σ r1 n1 x_31 (ρ + j + j + j + 101) r_38 60 z ((D j).2.2.1) f ((D j).2.2.2.1) hW hL_g1 hT_g1 hi_36 ht_39 hFg hFr hen6 hen7 (by omega) (by omega) (by omega) (by omega)) ⟨callB_of 1 hts (gi kt_97) rfl rfl rfl (hts _ kt_1) (hts _ kt_98) (by decide +kernel) ⟨Nat.le_of_ble_eq_true rfl, Nat.le_of_ble_eq_true rfl⟩, (hts _ kt_99), (hts _ kt_100)⟩ ⟨fun a U g mk q => ⟨q.1, PT.calling q.2⟩, pg_recv hK hP hL_g1 hFg (q := (RX0, TX0, 3)) rfl, fun U hU hWm => ⟨rfl, PT.mk hU hWm hP hK hD hE hO⟩⟩ rfl rfl hl.1 rfl (lv_room (Nat.le_of_ble_eq_true rfl)) dX2_houseStart_35 ⟨by show _ + 0 ≤ 0; omega, by show _ + 0 ≤ 0; omega⟩) hS (fun q _ h => hFc q h) hFc (fun r_46 u t H1 locs ht hvm hw hB hz1 hk1 hS => ?_)
      obtain ⟨F_47, hB1⟩ := hB
      obtain rfl : F = F_47 := (funext (fun a => hB1.2.2.2 a List.not_mem_nil)).symm
      obtain ⟨hP, hD, hO, hR⟩ := QT.back hB1 ht hFc hR (fun q h => absurd h List.not_mem_nil)
      generalize H1 = H at hP hS ⊢
      have hw : (r_46 = 1 ∧ UND f z (D j).2.2.2.1 (D j).2.2.1) ∨ (r_46 = 0 ∧ ¬ UND f z (D j).2.2.2.1 (D j).2.2.1) := hw
      have hw_48 := hw
      refine lv_if_eq (tgt := 58) hx hb dX2_houseStart_38 (by decide) (fun c_49 => ?_) (fun c_49 => ?_)
      ·
        refine lv_iinc (v := (nI (j + 1))) (lv' := [(3, .int (nI (j + 1))), (2, .int w2), (0, .ref h0), (1, .ref g1)]) hx hb dX2_houseStart_58 hl (k := 0) rfl (nI_1 _) (by decide) rfl (fun ls hl => ?_)
        refine lv_goto (tgt := 4) hx hb dX2_houseStart_61 (by decide) ?_
        refine W.widen (k := 0) (n := 0) (by omega) (by omega) ?_
        exact ih_11 ((j + 1), w2) F (⟨by omega, lgw_n hv2 (fun q => orp0 hw_48 c_49 q.2), hv3⟩) (by show cn - (j + 1) < cn - j; omega) hO hR _ _ hP hD hS ls (lv_sub hl [0, 1, 2, 3] rfl)
      ·
        refine lv_iload_n hx hb dX2_houseStart_41 rfl (lv_at hl 1 rfl) ?_
        refine lv_aload_n hx hb dX2_houseStart_42 rfl (lv_at hl 2 rfl) ?_
        refine pg_get (ci := 2) (v := .ref ea) (C := RX2) (T := TX2) (N := 2) hx hb hts it_2 hown hK hP hL_h0 hFd rfl 0 (by decide) (hts _ kt_84) (fun _ h9 => h9) rfl dX2_houseStart_43 ?_
        refine lv_iload_n hx hb dX2_houseStart_46 rfl (lv_at hl 0 rfl) ?_
        refine pg_aald (r := b_30) hx hb hK hP hi_1 5 hF_4 rfl (vp_in_nI (by omega) (by omega)) (show f_3 ((nI j) : Int32).toNatClampNeg = _ from by rw [show ((nI j) : Int32) = nI j from rfl, nI_clamp (by omega)]; exact hbf_33) dX2_houseStart_47 ?_
        refine pg_getN (ci := 3) (v := .ref x_31) (C := RX3) (T := TX3) (N := 4) hx hb hts it_3 hown hK hP hi_34 hen1 rfl 0 (by decide) (hE.nest kn_1) (fun _ h9 => h9) rfl dX2_houseStart_48 ?_
        refine pg_getN (ci := 0) (v := .int (nI (D j).2.2.1)) (C := RX0) (T := TX0) (N := 3) hx hb hts it_0 hown hK hP hi_36 hen6 rfl 1 (by decide) (hE.nest kn_3) (fun _ h9 => h9) rfl dX2_houseStart_51 ?_
        refine va_mmax hx hb (by rw [hml]; exact hl.1.symm) hown (hts _ kt_101) (hts _ kt_18) (hts _ kt_19) (hts _ kt_20) (Nat.le_of_ble_eq_true rfl) (Nat.le_of_ble_eq_true rfl) (by show _ ≤ 0; omega) (by show _ ≤ 0; omega) dX2_houseStart_54 ?_
        refine lv_topi (fun x_50 ex_50 => ?_)
        obtain rfl : x_50 = (mxl w2 (D j).2.2.1) := ex_50.trans (rfl)
        refine lv_istore_n (lv' := [(2, .int (mxl w2 (D j).2.2.1)), (3, .int (nI j)), (0, .ref h0), (1, .ref g1)]) hx hb dX2_houseStart_57 rfl hl (by decide) rfl (fun ls hl => ?_)
        refine lv_iinc (v := (nI (j + 1))) (lv' := [(3, .int (nI (j + 1))), (2, .int (mxl w2 (D j).2.2.1)), (0, .ref h0), (1, .ref g1)]) hx hb dX2_houseStart_58 hl (k := 1) rfl (nI_1 _) (by decide) rfl (fun ls hl => ?_)
        refine lv_goto (tgt := 4) hx hb dX2_houseStart_61 (by decide) ?_
        refine W.widen (k := 0) (n := 0) (by omega) (by omega) ?_
        exact ih_11 ((j + 1), (mxl w2 (D j).2.2.1)) F (⟨by omega, lgw_y hv2 c_45 (orp1 hw_48 c_49) hen4, hv3⟩) (by show cn - (j + 1) < cn - j; omega) hO hR _ _ hP hD hS ls (lv_sub hl [0, 1, 2, 3] rfl)
noncomputable def HSA (f : Nat → Int32) (z : Nat) (D : Nat → ETY) (ze : Nat) : Int32 := if NM f 0 z = true then nI (z - HST (UND f z) f z D ze) else (-1)
set_option maxHeartbeats 4000000 in
set_option maxRecDepth 100000 in
theorem s_X11_house_e (l : Launch) (dC : Nat → ClassId) (dI : Nat → Nat → Nat) (cs : Nat → ClassId) (ty : TyM) (L : List Nat) (sz : Nat) (F : Nat → va_E) (h0 : Nat) (ρ : Nat) (ta : Nat) (ou : Nat) (di : Nat) (ea : Nat) (ck : Nat) (sl : Nat) (po : Nat) (hs : Nat) (zt : Nat) (rt : Nat) (cn : Nat) (f : Nat → Int32) (ro : Nat) (D : Nat → ETY) (hW : WT ty L) (hL_h0 : h0 ∈ L) (hT_h0 : ty h0 = (11, ρ, [ta, ou, di, ea, ck, sl, po, hs])) (hL_ta : ta ∈ L) (hT_ta : ty ta = (0, ρ + 1, [rt, 3000])) (hL_ou : ou ∈ L) (hT_ou : ty ou = (0, ρ + 2, [ro, 3000])) (hFt : F ta = .inr (0, [.ref rt, .int (nI zt), .int 0])) (hFr : F rt = .inl (cs 16, 3000, .inl f)) (hzt : zt ≤ 3000) (hFd : F di = .inr (2, [.ref ea, .int (nI cn)])) (hcn : cn ≤ 40) (hDI : DIRC cs F ea cn D) : Met l yX11_house (.code yX11_house cX11_house 1 (some .int) :: tb) ({ frames := 3, cells := 0, slots := 0, locals := 74 }) (va_Pc [.ref h0] (PT (dC, dI) cs ty L F sz)) (va_Qi (fun (r : Int32) (_ : Unit) => r = HSA f zt D cn) (fun _ T9 => ∃ F2 : Nat → va_E, QT (dC, dI) cs ty L [ρ + 1, ρ + 2] F F2 (va_A (va_pl L F) sz) T9 ∧ F2 ta = .inr (0, [.ref rt, .int (nI 0), .int 0])) (va_A (va_pl L F) sz)) 0 0 (va_A (va_pl L F) sz) := by
  refine Met.ofW (cc := cX11_house) (maxL := 1) (ret := (some .int)) (by decide) rfl ?_
  intro p e s m args below meth c s₁ B hml hv
  obtain ⟨rfl, hsz, hP, hK, hD0, hE, hO⟩ := hv
  have hx := B.exec
  have hb := B.bytes
  have hr := B.returns
  have hts : ∀ w ∈ tb, w.before _ s = true := fun w h => atoms_spec (ws := .code yX11_house cX11_house 1 (some .int) :: tb) B.pre w (List.mem_cons_of_mem _ h)
  have hown : s.vm.findClass RX11 = some m.cls := findClass_of_methodNamed B.named
  have hlocks := B.notSynchronized
  subst hsz
  have hD := hD0.self (sz := s.heap.size)
  generalize hAe : va_A (va_pl L F) s.heap.size = A at hD ⊢
  have hA : ∀ q : Nat, s.heap.size ≤ q → A q := fun q h => by rw [← hAe]; exact Or.inr h
  have hS : va_S A s.heap s.heap [] := va_S.rf
  have hR : FR ty [ρ + 1, ρ + 2] F F := FR.refl
  have hl := lv_entry ([.ref h0]) (n := 1) (Nat.le_of_ble_eq_true rfl)
  rw [lg_entry_eq]
  generalize (lg_sl ([.ref h0]) ++ List.replicate (1 - (lg_sl ([.ref h0])).length) Slot.unset).toArray = ls at hl ⊢
  have hl : lv_has ls 1 [(0, .ref h0)] := hl
  obtain ⟨_, _, _, _, hi_1, ht_2, hi_3, ⟨w0_4, w1_5, w2_6, w3_7, nm_8, te_9, ht_10⟩, hi_11, ⟨l1_12, lx_13, ly0_14, ly1_15, ly2_16, k1_17, kx_18, ky0_19, ky1_20, ky2_21, w0_22, w1_23, w2_24, w3_25, w4_26, w5_27, w6_28, w7_29, w8_30, tk_31, h1_32, hx_33, hy_34, hw_35, pw_36, px_37, py_38, pz_39, pu_40, ht_41⟩, hi_42, ⟨w0_43, w1_44, rc_45, rx_46, ry0_47, ry1_48, ry2_49, ht_50⟩, hi_51, ⟨hx_52, hy_53, hw_54, ht_55⟩⟩ := hW.gate hL_h0 hT_h0
  obtain ⟨hi_56, ht_57⟩ := hW.dir hi_1 ht_2
  refine lv_aload_n hx hb dX11_house_0 rfl (lv_at hl 0 rfl) ?_
  obtain ⟨le_58, sp_59, μ_60, ν_61, hF_62, hq_63, hq_64, hq_65, hq_66, hq_67, hq_68⟩ := hO.gate hL_h0 hT_h0
  obtain ⟨x_69, y0_70, y1_71, y2_72, ht_73⟩ := id hq_64
  obtain ⟨x_74, y0_75, y1_76, y2_77, ht_78⟩ := id hq_66
  refine pg_get (ci := 11) (v := .ref ta) (C := RX11) (T := TX11) (N := 9) hx hb hts it_11 hown hK hP hL_h0 hF_62 rfl 0 (by decide) (hts _ kt_509) (fun _ h9 => h9) rfl dX11_house_1 ?_
  refine lv_iconst (v := 0) hx hb dX11_house_4 (by decide) ?_
  refine lv_aload_n hx hb dX11_house_5 rfl (lv_at hl 0 rfl) ?_
  refine pg_get (ci := 11) (v := .ref ta) (C := RX11) (T := TX11) (N := 9) hx hb hts it_11 hown hK hP hL_h0 hF_62 rfl 0 (by decide) (hts _ kt_509) (fun _ h9 => h9) rfl dX11_house_6 ?_
  obtain ⟨hi_79, ht_80, hq_81⟩ := hW.bytes hL_ta hT_ta
  refine pg_getN (ci := 0) (v := .int (nI zt)) (C := RX0) (T := TX0) (N := 3) hx hb hts it_0 hown hK hP hL_ta hFt rfl 1 (by decide) (hE.nest kn_17) (fun _ h9 => h9) rfl dX11_house_9 ?_
  refine W.eq (g2 := F0 m 12 ls [.int (nI zt), .int (nI 0), .ref ta]) rfl ?_
  have hFc := pg_free hD hS hA
  refine va_calli (va_runV (As := [.int (nI 0), .int (nI zt)]) (rest := []) ⟨hx, hb, hml, hown, hts⟩ (s_X0_isName_e l dC dI cs ty L s.heap.size F ta (ρ + 1) rt 3000 zt 0 zt f hW hL_ta hT_ta hFt hFr (by omega) (by omega) (Nat.zero_le _) (Nat.le_refl _)) ⟨callB_of 2 hts (gi kt_108) rfl rfl rfl (hts _ kt_1) (hts _ kt_530) (by decide +kernel) ⟨Nat.le_of_ble_eq_true rfl, Nat.le_of_ble_eq_true rfl⟩, (hts _ kt_110), (hts _ kt_111)⟩ ⟨fun a U g mk q => ⟨q.1, PT.calling q.2⟩, pg_recv hK hP hL_ta hFt (q := (RX0, TX0, 3)) rfl, fun U hU hWm => ⟨rfl, PT.mk hU hWm hP hK hD hE hO⟩⟩ rfl rfl hl.1 rfl (lv_room (Nat.le_of_ble_eq_true rfl)) dX11_house_12 ⟨by show _ + 0 ≤ 0; omega, by show _ + 0 ≤ 0; omega⟩) hS (fun q _ h => hFc q h) hFc (fun r_82 u t H1 locs ht hvm hw hB hz1 hk1 hS => ?_)
  obtain ⟨F_83, hB1⟩ := hB
  obtain rfl : F = F_83 := (funext (fun a => hB1.2.2.2 a List.not_mem_nil)).symm
  obtain ⟨hP, hD, hO, hR⟩ := QT.back hB1 ht hFc hR (fun q h => absurd h List.not_mem_nil)
  generalize H1 = H at hP hS ⊢
  have hw : r_82 = (if NM f 0 zt = true then 1 else 0) := hw
  have hw_84 := hw
  refine lv_if_ne (tgt := 27) hx hb dX11_house_15 (by decide) (fun c_85 => ?_) (fun c_85 => ?_)
  ·
    refine lv_aload_n hx hb dX11_house_27 rfl (lv_at hl 0 rfl) ?_
    refine pg_get (ci := 11) (v := .ref ou) (C := RX11) (T := TX11) (N := 9) hx hb hts it_11 hown hK hP hL_h0 hF_62 rfl 1 (by decide) (hts _ kt_526) (fun _ h9 => h9) rfl dX11_house_28 ?_
    have hO5 := hO
    have hFc := pg_free hD hS hA
    obtain ⟨hi_86, ht_87, hq_88⟩ := hW.bytes hL_ou hT_ou
    obtain ⟨z_89, o_90, hF_91, hq_92, hq_93⟩ := hO.bytes hL_ou hT_ou
    refine va_callv (va_runV (As := []) (rest := []) ⟨hx, hb, hml, hown, hts⟩ (s_X0_clear l dC dI cs ty L H.size F ou (ρ + 2) ro 3000 hW hL_ou hT_ou) ⟨callB_of 0 hts (gi kt_32) rfl rfl rfl (hts _ kt_1) (hts _ kt_527) (by decide +kernel) ⟨Nat.le_of_ble_eq_true rfl, Nat.le_of_ble_eq_true rfl⟩, (hts _ kt_34), (hts _ kt_35)⟩ ⟨fun a U g mk q => ⟨q.1, PT.calling q.2⟩, pg_recv hK hP hL_ou hF_91 (q := (RX0, TX0, 3)) rfl, fun U hU hWm => ⟨rfl, PT.mk hU hWm hP hK hD hE hO⟩⟩ rfl rfl hl.1 rfl (lv_room (Nat.le_of_ble_eq_true rfl)) dX11_house_31 ⟨by show _ + 0 ≤ 0; omega, by show _ + 0 ≤ 0; omega⟩) hS (fun q _ h => hFc q h) hFc (fun u t H1 locs ht hvm hw hB hz1 hk1 hS => ?_)
    obtain ⟨F_95, hB1, hq_96⟩ := hB
    obtain ⟨hP, hD, hO, hR⟩ := QT.back hB1 ht hFc hR (fun q h => by simp only [List.mem_cons, List.not_mem_nil, or_false] at h ⊢; omega)
    have hF_97 : F_95 ta = .inr (0, [.ref rt, .int (nI zt), .int 0]) := (hB1.2.2.2 ta (by rw [hT_ta]; simp)).trans hFt
    have hF_98 : F_95 rt = .inl (cs 16, 3000, .inl f) := (hB1.2.2.2 rt (by rw [ht_80]; simp)).trans hFr
    have hF_99 : F_95 di = .inr (2, [.ref ea, .int (nI cn)]) := (hB1.2.2.2 di (by rw [ht_2]; simp)).trans hFd
    have hF_100 : F_95 h0 = .inr (11, [.ref ta, .ref ou, .ref di, .ref ck, .ref sl, .ref po, .ref hs, .ref le_58, .ref sp_59]) := (hB1.2.2.2 h0 (by rw [hT_h0]; simp)).trans hF_62
    generalize H1 = H at hP hS ⊢
    have hDI5 := DIRC.fr hDI hO5 hW hi_56 ht_57 hcn hB1.2.2.2 (hB1.2.2.2 _ (by rw [ht_57]; simp)) (fun k hk => by simp only [List.mem_cons, List.not_mem_nil, or_false]; omega)
    refine lv_aload_n hx hb dX11_house_34 rfl (lv_at hl 0 rfl) ?_
    refine pg_get (ci := 11) (v := .ref ou) (C := RX11) (T := TX11) (N := 9) hx hb hts it_11 hown hK hP hL_h0 hF_100 rfl 1 (by decide) (hts _ kt_526) (fun _ h9 => h9) rfl dX11_house_35 ?_
    refine lv_aload_n hx hb dX11_house_38 rfl (lv_at hl 0 rfl) ?_
    refine pg_get (ci := 11) (v := .ref ta) (C := RX11) (T := TX11) (N := 9) hx hb hts it_11 hown hK hP hL_h0 hF_100 rfl 0 (by decide) (hts _ kt_509) (fun _ h9 => h9) rfl dX11_house_39 ?_
    refine lv_aload_n hx hb dX11_house_42 rfl (lv_at hl 0 rfl) ?_
    refine pg_get (ci := 11) (v := .ref di) (C := RX11) (T := TX11) (N := 9) hx hb hts it_11 hown hK hP hL_h0 hF_100 rfl 2 (by decide) (hts _ kt_512) (fun _ h9 => h9) rfl dX11_house_43 ?_
    refine lv_aload_n hx hb dX11_house_46 rfl (lv_at hl 0 rfl) ?_
    refine pg_get (ci := 11) (v := .ref ta) (C := RX11) (T := TX11) (N := 9) hx hb hts it_11 hown hK hP hL_h0 hF_100 rfl 0 (by decide) (hts _ kt_509) (fun _ h9 => h9) rfl dX11_house_47 ?_
    have hFc := pg_free hD hS hA
    refine va_calli (va_runV (As := [.ref ta]) (rest := [.ref ta, .ref ou]) ⟨hx, hb, hml, hown, hts⟩ (s_X2_houseStart_e l dC dI cs ty L H.size F_95 di (ρ + 3) ea ta (ρ + 1) rt 3000 zt cn f D hW hi_1 ht_2 hL_ta hT_ta hF_99 (by omega) hF_97 hF_98 (by omega) (by omega) (hDI5)) ⟨callB_of 1 hts (gi kt_102) rfl rfl rfl (hts _ kt_103) (hts _ kt_531) (by decide +kernel) ⟨Nat.le_of_ble_eq_true rfl, Nat.le_of_ble_eq_true rfl⟩, (hts _ kt_105), (hts _ kt_106)⟩ ⟨fun a U g mk q => ⟨q.1, PT.calling q.2⟩, pg_recv hK hP hi_1 hF_99 (q := (RX2, TX2, 2)) rfl, fun U hU hWm => ⟨rfl, PT.mk hU hWm hP hK hD hE hO⟩⟩ rfl rfl hl.1 rfl (lv_room (Nat.le_of_ble_eq_true rfl)) dX11_house_50 ⟨by show _ + 0 ≤ 0; omega, by show _ + 0 ≤ 0; omega⟩) hS (fun q _ h => hFc q h) hFc (fun r_101 u t H1 locs ht hvm hw hB hz1 hk1 hS => ?_)
    obtain ⟨F_102, hB1⟩ := hB
    obtain rfl : F_95 = F_102 := (funext (fun a => hB1.2.2.2 a List.not_mem_nil)).symm
    obtain ⟨hP, hD, hO, hR⟩ := QT.back hB1 ht hFc hR (fun q h => absurd h List.not_mem_nil)
    generalize H1 = H at hP hS ⊢
    have hw : r_101 = nI (HST (UND f zt) f zt D cn) := hw
    have hw_103 := hw
    subst hw_103
    refine lv_aload_n hx hb dX11_house_53 rfl (lv_at hl 0 rfl) ?_
    refine pg_get (ci := 11) (v := .ref ta) (C := RX11) (T := TX11) (N := 9) hx hb hts it_11 hown hK hP hL_h0 hF_100 rfl 0 (by decide) (hts _ kt_509) (fun _ h9 => h9) rfl dX11_house_54 ?_
    refine pg_getN (ci := 0) (v := .int (nI zt)) (C := RX0) (T := TX0) (N := 3) hx hb hts it_0 hown hK hP hL_ta hF_97 rfl 1 (by decide) (hE.nest kn_17) (fun _ h9 => h9) rfl dX11_house_57 ?_
    have hFc := pg_free hD hS hA
    refine va_callv (va_runV (As := [.ref ta, .int (nI (HST (UND f zt) f zt D cn)), .int (nI zt)]) (rest := []) ⟨hx, hb, hml, hown, hts⟩ (s_X0_addRange_e l dC dI cs ty L H.size F_95 ou (ρ + 2) ro 3000 ta (ρ + 1) rt 3000 zt (HST (UND f zt) f zt D cn) zt f hW hL_ou hT_ou hL_ta hT_ta hq_96 hF_97 hF_98 (by omega) (by omega) (by omega) (hst_le) (Nat.le_refl _) (by omega)) ⟨callB_of 3 hts (gi kt_36) rfl rfl rfl (hts _ kt_1) (hts _ kt_532) (by decide +kernel) ⟨Nat.le_of_ble_eq_true rfl, Nat.le_of_ble_eq_true rfl⟩, (hts _ kt_38), (hts _ kt_39)⟩ ⟨fun a U g mk q => ⟨q.1, PT.calling q.2⟩, pg_recv hK hP hL_ou hq_96 (q := (RX0, TX0, 3)) rfl, fun U hU hWm => ⟨rfl, PT.mk hU hWm hP hK hD hE hO⟩⟩ rfl rfl hl.1 rfl (lv_room (Nat.le_of_ble_eq_true rfl)) dX11_house_60 ⟨by show _ + 0 ≤ 0; omega, by show _ + 0 ≤ 0; omega⟩) hS (fun q _ h => hFc q h) hFc (fun u t H1 locs ht hvm hw hB hz1 hk1 hS => ?_)
    obtain ⟨F_105, fc_106, hB1, hq_107, hq_108, hq_109⟩ := hB
    obtain ⟨hP, hD, hO, hR⟩ := QT.back hB1 ht hFc hR (fun q h => by simp only [List.mem_cons, List.not_mem_nil, or_false] at h ⊢; omega)
    have hF_110 : F_105 ta = .inr (0, [.ref rt, .int (nI zt), .int 0]) := (hB1.2.2.2 ta (by rw [hT_ta]; simp)).trans hF_97
    have hF_111 : F_105 rt = .inl (cs 16, 3000, .inl f) := (hB1.2.2.2 rt (by rw [ht_80]; simp)).trans hF_98
    have hF_112 : F_105 di = .inr (2, [.ref ea, .int (nI cn)]) := (hB1.2.2.2 di (by rw [ht_2]; simp)).trans hF_99
    have hF_113 : F_105 h0 = .inr (11, [.ref ta, .ref ou, .ref di, .ref ck, .ref sl, .ref po, .ref hs, .ref le_58, .ref sp_59]) := (hB1.2.2.2 h0 (by rw [hT_h0]; simp)).trans hF_100
    generalize H1 = H at hP hS ⊢
    refine lv_aload_n hx hb dX11_house_63 rfl (lv_at hl 0 rfl) ?_
    refine pg_get (ci := 11) (v := .ref ta) (C := RX11) (T := TX11) (N := 9) hx hb hts it_11 hown hK hP hL_h0 hF_113 rfl 0 (by decide) (hts _ kt_509) (fun _ h9 => h9) rfl dX11_house_64 ?_
    have hFc := pg_free hD hS hA
    refine va_callv (va_runV (As := []) (rest := []) ⟨hx, hb, hml, hown, hts⟩ (s_X0_clear l dC dI cs ty L H.size F_105 ta (ρ + 1) rt 3000 hW hL_ta hT_ta) ⟨callB_of 0 hts (gi kt_32) rfl rfl rfl (hts _ kt_1) (hts _ kt_527) (by decide +kernel) ⟨Nat.le_of_ble_eq_true rfl, Nat.le_of_ble_eq_true rfl⟩, (hts _ kt_34), (hts _ kt_35)⟩ ⟨fun a U g mk q => ⟨q.1, PT.calling q.2⟩, pg_recv hK hP hL_ta hF_110 (q := (RX0, TX0, 3)) rfl, fun U hU hWm => ⟨rfl, PT.mk hU hWm hP hK hD hE hO⟩⟩ rfl rfl hl.1 rfl (lv_room (Nat.le_of_ble_eq_true rfl)) dX11_house_67 ⟨by show _ + 0 ≤ 0; omega, by show _ + 0 ≤ 0; omega⟩) hS (fun q _ h => hFc q h) hFc (fun u t H1 locs ht hvm hw hB hz1 hk1 hS => ?_)
    obtain ⟨F_115, hB1, hq_116⟩ := hB
    obtain ⟨hP, hD, hO, hR⟩ := QT.back hB1 ht hFc hR (fun q h => by simp only [List.mem_cons, List.not_mem_nil, or_false] at h ⊢; omega)
    have hF_117 : F_115 di = .inr (2, [.ref ea, .int (nI cn)]) := (hB1.2.2.2 di (by rw [ht_2]; simp)).trans hF_112
    have hF_118 : F_115 h0 = .inr (11, [.ref ta, .ref ou, .ref di, .ref ck, .ref sl, .ref po, .ref hs, .ref le_58, .ref sp_59]) := (hB1.2.2.2 h0 (by rw [hT_h0]; simp)).trans hF_113
    have hF_119 : F_115 ou = .inr (0, [.ref ro, .int (nI (zt - (HST (UND f zt) f zt D cn))), .int 0]) := (hB1.2.2.2 ou (by rw [hT_ou]; simp)).trans hq_107
    have hF_120 : F_115 ro = .inl (cs 16, 3000, .inl fc_106) := (hB1.2.2.2 ro (by rw [ht_87]; simp)).trans hq_108
    generalize H1 = H at hP hS ⊢
    refine lv_aload_n hx hb dX11_house_70 rfl (lv_at hl 0 rfl) ?_
    refine pg_get (ci := 11) (v := .ref ou) (C := RX11) (T := TX11) (N := 9) hx hb hts it_11 hown hK hP hL_h0 hF_118 rfl 1 (by decide) (hts _ kt_526) (fun _ h9 => h9) rfl dX11_house_71 ?_
    refine pg_getN (ci := 0) (v := .int (nI (zt - (HST (UND f zt) f zt D cn)))) (C := RX0) (T := TX0) (N := 3) hx hb hts it_0 hown hK hP hL_ou hF_119 rfl 1 (by decide) (hE.nest kn_17) (fun _ h9 => h9) rfl dX11_house_74 ?_
    refine W.widen (k := 0) (n := 0) (by omega) (by omega) ?_
    exact W.iret (v := (nI (zt - (HST (UND f zt) f zt D cn)))) hx hb hr (fun t ht hWm => ⟨⟨(nI (zt - (HST (UND f zt) f zt D cn))), (), rfl, ((if_pos (ifb1 hw_84 c_85)).symm), ⟨F_115, QT.mk ht hP hD hO hR, hq_116⟩⟩, hS.F ht⟩) hS.2.2 dX11_house_77
  ·
    refine lv_aload_n hx hb dX11_house_18 rfl (lv_at hl 0 rfl) ?_
    refine pg_get (ci := 11) (v := .ref ta) (C := RX11) (T := TX11) (N := 9) hx hb hts it_11 hown hK hP hL_h0 hF_62 rfl 0 (by decide) (hts _ kt_509) (fun _ h9 => h9) rfl dX11_house_19 ?_
    have hFc := pg_free hD hS hA
    refine va_callv (va_runV (As := []) (rest := []) ⟨hx, hb, hml, hown, hts⟩ (s_X0_clear l dC dI cs ty L H.size F ta (ρ + 1) rt 3000 hW hL_ta hT_ta) ⟨callB_of 0 hts (gi kt_32) rfl rfl rfl (hts _ kt_1) (hts _ kt_527) (by decide +kernel) ⟨Nat.le_of_ble_eq_true rfl, Nat.le_of_ble_eq_true rfl⟩, (hts _ kt_34), (hts _ kt_35)⟩ ⟨fun a U g mk q => ⟨q.1, PT.calling q.2⟩, pg_recv hK hP hL_ta hFt (q := (RX0, TX0, 3)) rfl, fun U hU hWm => ⟨rfl, PT.mk hU hWm hP hK hD hE hO⟩⟩ rfl rfl hl.1 rfl (lv_room (Nat.le_of_ble_eq_true rfl)) dX11_house_22 ⟨by show _ + 0 ≤ 0; omega, by show _ + 0 ≤ 0; omega⟩) hS (fun q _ h => hFc q h) hFc (fun u t H1 locs ht hvm hw hB hz1 hk1 hS => ?_)
    obtain ⟨F_122, hB1, hq_123⟩ := hB
    obtain ⟨hP, hD, hO, hR⟩ := QT.back hB1 ht hFc hR (fun q h => by simp only [List.mem_cons, List.not_mem_nil, or_false] at h ⊢; omega)
    have hF_124 : F_122 di = .inr (2, [.ref ea, .int (nI cn)]) := (hB1.2.2.2 di (by rw [ht_2]; simp)).trans hFd
    have hF_125 : F_122 h0 = .inr (11, [.ref ta, .ref ou, .ref di, .ref ck, .ref sl, .ref po, .ref hs, .ref le_58, .ref sp_59]) := (hB1.2.2.2 h0 (by rw [hT_h0]; simp)).trans hF_62
    generalize H1 = H at hP hS ⊢
    refine lv_iconst (v := (-1)) hx hb dX11_house_25 (by decide) ?_
    refine W.widen (k := 0) (n := 0) (by omega) (by omega) ?_
    exact W.iret (v := (-1)) hx hb hr (fun t ht hWm => ⟨⟨(-1), (), rfl, ((if_neg (ifb0 hw_84 c_85)).symm), ⟨F_122, QT.mk ht hP hD hO hR, hq_123⟩⟩, hS.F ht⟩) hS.2.2 dX11_house_26
