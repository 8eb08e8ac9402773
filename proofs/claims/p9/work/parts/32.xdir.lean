def FST (f : Nat → Int32) (c : Int32) (z k : Nat) : Prop := k ≤ z ∧ (∀ j, j < k → ¬ f j = c) ∧ (k = z ∨ f k = c)
theorem FST.uniq {f : Nat → Int32} {c : Int32} {z k k9 : Nat} (h : FST f c z k) (h9 : FST f c z k9) : k = k9 := by
  obtain ⟨a1, a2, a3⟩ := h
  obtain ⟨b1, b2, b3⟩ := h9
  rcases Nat.lt_trichotomy k k9 with q | q | q
  · rcases a3 with w | w
    · omega
    · exact absurd w (b2 k q)
  · exact q
  · rcases b3 with w | w
    · omega
    · exact absurd w (a2 k9 q)
theorem FST.ex (f : Nat → Int32) (c : Int32) (z : Nat) : ∃ k, FST f c z k := by
  induction z with
  | zero => exact ⟨0, Nat.le_refl _, fun j h => absurd h (Nat.not_lt_zero _), Or.inl rfl⟩
  | succ z ih =>
    obtain ⟨k, h1, h2, h3⟩ := ih
    rcases h3 with h3 | h3
    · by_cases q : f z = c
      · exact ⟨z, by omega, by rw [← h3]; exact h2, Or.inr q⟩
      · refine ⟨z + 1, Nat.le_refl _, fun j hj => ?_, Or.inl rfl⟩
        rcases Nat.lt_or_ge j z with w | w
        · exact h2 j (by omega)
        · rw [show j = z by omega]
          exact q
    · exact ⟨k, by omega, h2, Or.inr h3⟩
def ISV (x : Int32) (f : Nat → Int32) (z k : Nat) : Prop := k ≠ z ∧ (x = 2 → NM f (k + 1) z = true) ∧ (x ≠ 2 → z ≤ k + 701)
def VAL (x : Int32) (f : Nat → Int32) (z : Nat) : Prop := ¬ x < 0 ∧ ¬ 4 < x ∧ ∃ k, FST f 32 z k ∧ ((x = 0 ∨ x = 2) → NM f 0 k = true ∧ ISV x f z k) ∧ (¬ (x = 0 ∨ x = 2) → NM f 0 z = true)
def ENT (cn c2 : Nat) (x : Int32) (f : Nat → Int32) (z : Nat) (r : Int32) : Prop := (cn = 40 ∧ c2 = cn ∧ r = (-3)) ∨ (cn ≠ 40 ∧ ¬ VAL x f z ∧ c2 = cn ∧ r = (-1)) ∨ (cn ≠ 40 ∧ VAL x f z ∧ c2 = cn + 1 ∧ r = nI (cn + 1))
theorem ENT.same {cn c2 c3 : Nat} {x r r3 : Int32} {f g : Nat → Int32} {z : Nat} (hV : VAL x f z ↔ VAL x g z) (h : ENT cn c2 x f z r) (h3 : ENT cn c3 x g z r3) : c2 = c3 ∧ r = r3 := by
  rcases h with ⟨a1, a2, a3⟩ | ⟨a1, a0, a2, a3⟩ | ⟨a1, a0, a2, a3⟩ <;> rcases h3 with ⟨b1, b2, b3⟩ | ⟨b1, b0, b2, b3⟩ | ⟨b1, b0, b2, b3⟩
  all_goals first | exact absurd a1 b1 | exact absurd b1 a1 | exact absurd (hV.mpr b0) a0 | exact absurd (hV.mp a0) b0 | exact ⟨a2.trans b2.symm, a3.trans b3.symm⟩
theorem val_n1 {x : Int32} {f : Nat → Int32} {z : Nat} (h : x < 0) : ¬ VAL x f z := fun q => q.1 h
theorem val_n2 {x : Int32} {f : Nat → Int32} {z : Nat} (h : 4 < x) : ¬ VAL x f z := fun q => q.2.1 h
theorem val_nn {x : Int32} {f : Nat → Int32} {z k : Nat} (two : x = 0 ∨ x = 2) (hk : FST f 32 z k) (h : ¬ NM f 0 k = true) : ¬ VAL x f z := fun q => by
  obtain ⟨-, -, k9, q1, q2, -⟩ := q
  rw [q1.uniq hk] at q2
  exact h (q2 two).1
theorem val_nz {x : Int32} {f : Nat → Int32} {z : Nat} (two : ¬ (x = 0 ∨ x = 2)) (h : ¬ NM f 0 z = true) : ¬ VAL x f z := fun q => by
  obtain ⟨-, -, k9, -, -, q2⟩ := q
  exact h (q2 two)
theorem val_nv {x : Int32} {f : Nat → Int32} {z k : Nat} (two : x = 0 ∨ x = 2) (hk : FST f 32 z k) (h : ¬ ISV x f z k) : ¬ VAL x f z := fun q => by
  obtain ⟨-, -, k9, q1, q2, -⟩ := q
  rw [q1.uniq hk] at q2
  exact h (q2 two).2
theorem val_y2 {x : Int32} {f : Nat → Int32} {z k : Nat} (h1 : ¬ x < 0) (h2 : ¬ 4 < x) (two : x = 0 ∨ x = 2) (hk : FST f 32 z k) (hN : NM f 0 k = true) (hI : ISV x f z k) : VAL x f z := ⟨h1, h2, k, hk, fun _ => ⟨hN, hI⟩, fun q => absurd two q⟩
theorem val_y1 {x : Int32} {f : Nat → Int32} {z : Nat} (h1 : ¬ x < 0) (h2 : ¬ 4 < x) (two : ¬ (x = 0 ∨ x = 2)) (hN : NM f 0 z = true) : VAL x f z := by
  obtain ⟨k, hk⟩ := FST.ex f 32 z
  exact ⟨h1, h2, k, hk, fun q => absurd q two, fun _ => hN⟩
theorem ifN {P : Prop} [Decidable P] {r : Int32} (h : r = (if P then 1 else 0)) : narrow .boolean (.int r) = .int r := by
  rw [h]
  split <;> rfl
theorem isv2 {x r : Int32} {f : Nat → Int32} {z k : Nat} (hk : k ≠ z) (hx : x = 2) (h : r = (if NM f (k + 1) z = true then 1 else 0)) : (r = 1 ∧ ISV x f z k) ∨ (r = 0 ∧ ¬ ISV x f z k) := by
  by_cases q : NM f (k + 1) z = true
  · rw [if_pos q] at h
    exact Or.inl ⟨h, hk, fun _ => q, fun w => absurd hx w⟩
  · rw [if_neg q] at h
    exact Or.inr ⟨h, fun w => q (w.2.1 hx)⟩
theorem isv1 {x r : Int32} {f : Nat → Int32} {z k : Nat} (h : (r = 1 ∧ ISV x f z k) ∨ (r = 0 ∧ ¬ ISV x f z k)) (c : ¬ r = 0) : ISV x f z k := h.elim And.right (fun q => absurd q.1 c)
theorem isv0 {x r : Int32} {f : Nat → Int32} {z k : Nat} (h : (r = 1 ∧ ISV x f z k) ∨ (r = 0 ∧ ¬ ISV x f z k)) (c : r = 0) : ¬ ISV x f z k := h.elim (fun q => absurd (q.1.symm.trans c) (by decide)) And.right
set_option maxHeartbeats 4000000 in
set_option maxRecDepth 100000 in
theorem s_X2_isValue_e (l : Launch) (dC : Nat → ClassId) (dI : Nat → Nat → Nat) (cs : Nat → ClassId) (ty : TyM) (L : List Nat) (sz : Nat) (F : Nat → va_E) (g1 : Nat) (σ : Nat) (r1 : Nat) (n1 : Nat) (z : Nat) (k : Nat) (f : Nat → Int32) (x1 : Int32) (hW : WT ty L) (hL_g1 : g1 ∈ L) (hT_g1 : ty g1 = (0, σ, [r1, n1])) (hFg : F g1 = .inr (0, [.ref r1, .int (nI z), .int 0])) (hFr : F r1 = .inl (cs 16, n1, .inl f)) (hzn : z ≤ n1) (hn9 : n1 ≤ 10000) (hkz : k ≤ z) : Met l yX2_isValue (.code yX2_isValue cX2_isValue 3 (some .boolean) :: tb) ({ frames := 2, cells := 0, slots := 0, locals := 47 }) (va_Pc [.int x1, .ref g1, .int (nI k)] (PT (dC, dI) cs ty L F sz)) (va_Qi (fun (r : Int32) (_ : Unit) => (r = 1 ∧ ISV x1 f z k) ∨ (r = 0 ∧ ¬ ISV x1 f z k)) (fun _ T9 => ∃ F2 : Nat → va_E, QT (dC, dI) cs ty L [] F F2 (va_A (va_pl L F) sz) T9) (va_A (va_pl L F) sz)) 0 0 (va_A (va_pl L F) sz) := by
  refine Met.ofW (cc := cX2_isValue) (maxL := 3) (ret := (some .boolean)) (by decide) rfl ?_
  intro p e s m args below meth c s₁ B hml hv
  obtain ⟨rfl, hsz, hP, hK, hD0, hE, hO⟩ := hv
  have hx := B.exec
  have hb := B.bytes
  have hr := B.returns
  have hts : ∀ w ∈ tb, w.before _ s = true := fun w h => atoms_spec (ws := .code yX2_isValue cX2_isValue 3 (some .boolean) :: tb) B.pre w (List.mem_cons_of_mem _ h)
  have hown : s.vm.findClass RX2 = some m.cls := findClass_of_methodNamed B.named
  have hlocks := B.notSynchronized
  subst hsz
  have hD := hD0.self (sz := s.heap.size)
  generalize hAe : va_A (va_pl L F) s.heap.size = A at hD ⊢
  have hA : ∀ q : Nat, s.heap.size ≤ q → A q := fun q h => by rw [← hAe]; exact Or.inr h
  have hS : va_S A s.heap s.heap [] := va_S.rf
  have hR : FR ty [] F F := FR.refl
  have hl := lv_entry ([.int x1, .ref g1, .int (nI k)]) (n := 3) (Nat.le_of_ble_eq_true rfl)
  rw [lg_entry_eq]
  generalize (lg_sl ([.int x1, .ref g1, .int (nI k)]) ++ List.replicate (3 - (lg_sl ([.int x1, .ref g1, .int (nI k)])).length) Slot.unset).toArray = ls at hl ⊢
  have hl : lv_has ls 3 [(0, .int x1), (1, .ref g1), (2, .int (nI k))] := hl
  refine lv_iload_n hx hb dX2_isValue_0 rfl (lv_at hl 2 rfl) ?_
  refine lv_aload_n hx hb dX2_isValue_1 rfl (lv_at hl 1 rfl) ?_
  obtain ⟨hi_1, ht_2, hq_3⟩ := hW.bytes hL_g1 hT_g1
  refine pg_getN (ci := 0) (v := .int (nI z)) (C := RX0) (T := TX0) (N := 3) hx hb hts it_0 hown hK hP hL_g1 hFg rfl 1 (by decide) (hE.nest kn_3) (fun _ h9 => h9) rfl dX2_isValue_2 ?_
  refine lv_icmp_ne (tgt := 10) hx hb dX2_isValue_5 (by decide) (fun c_4 => ?_) (fun c_4 => ?_)
  ·
    have hne : k ≠ z := fun q => c_4 (by rw [q])
    refine lv_iload_n hx hb dX2_isValue_10 rfl (lv_at hl 0 rfl) ?_
    refine lv_iconst (v := 2) hx hb dX2_isValue_11 (by decide) ?_
    refine lv_icmp_ne (tgt := 29) hx hb dX2_isValue_12 (by decide) (fun c_6 => ?_) (fun c_6 => ?_)
    ·
      refine lv_aload_n hx hb dX2_isValue_29 rfl (lv_at hl 1 rfl) ?_
      refine pg_getN (ci := 0) (v := .int (nI z)) (C := RX0) (T := TX0) (N := 3) hx hb hts it_0 hown hK hP hL_g1 hFg rfl 1 (by decide) (hE.nest kn_3) (fun _ h9 => h9) rfl dX2_isValue_30 ?_
      refine lv_iload_n hx hb dX2_isValue_33 rfl (lv_at hl 2 rfl) ?_
      refine lv_isub hx hb dX2_isValue_34 ?_
      refine lv_topi (fun x_7 ex_7 => ?_)
      obtain rfl : x_7 = (nI (z - k)) := ex_7.trans (pk_sub hkz)
      refine lv_iconst (v := 1) hx hb dX2_isValue_35 (by decide) ?_
      refine lv_isub hx hb dX2_isValue_36 ?_
      refine lv_topi (fun x_8 ex_8 => ?_)
      obtain rfl : x_8 = (nI (z - k - 1)) := ex_8.trans (pk_sub (b := 1) (by omega))
      refine lv_sipush (v := 700) hx hb dX2_isValue_37 (by decide) ?_
      refine lv_icmp_gt (tgt := 47) hx hb dX2_isValue_40 (by decide) (fun c_9 => ?_) (fun c_9 => ?_)
      ·
        have hi_10 : 700 < (z - k - 1) := (nI_ltI (a := 700) (b := (z - k - 1)) (by omega) (by omega)).mp c_9
        have hbig : 700 < z - k - 1 := (nI_ltI (a := 700) (by omega) (by omega)).mp c_9
        refine lv_iconst (v := 0) hx hb dX2_isValue_47 (by decide) ?_
        refine W.widen (k := 0) (n := 0) (by omega) (by omega) ?_
        exact W.zret (v := 0) (ty := .boolean) hx hb hr (by decide) (fun t ht hWm => ⟨⟨0, (), rfl, (Or.inr ⟨rfl, fun q => absurd (q.2.2 c_6) (by omega)⟩), ⟨F, QT.mk ht hP hD hO hR⟩⟩, hS.F ht⟩) hS.2.2 dX2_isValue_48
      ·
        have hi_11 : (z - k - 1) ≤ 700 := Nat.not_lt.mp (fun q => c_9 ((nI_ltI (a := 700) (b := (z - k - 1)) (by omega) (by omega)).mpr q))
        have hbig : ¬ 700 < z - k - 1 := fun q => c_9 ((nI_ltI (a := 700) (by omega) (by omega)).mpr q)
        refine lv_iconst (v := 1) hx hb dX2_isValue_43 (by decide) ?_
        refine lv_goto (tgt := 48) hx hb dX2_isValue_44 (by decide) ?_
        refine W.widen (k := 0) (n := 0) (by omega) (by omega) ?_
        exact W.zret (v := 1) (ty := .boolean) hx hb hr (by decide) (fun t ht hWm => ⟨⟨1, (), rfl, (Or.inl ⟨rfl, hne, fun q => absurd q c_6, fun _ => by omega⟩), ⟨F, QT.mk ht hP hD hO hR⟩⟩, hS.F ht⟩) hS.2.2 dX2_isValue_48
    ·
      refine lv_aload_n hx hb dX2_isValue_15 rfl (lv_at hl 1 rfl) ?_
      refine lv_iload_n hx hb dX2_isValue_16 rfl (lv_at hl 2 rfl) ?_
      refine lv_iconst (v := 1) hx hb dX2_isValue_17 (by decide) ?_
      refine lv_iadd hx hb dX2_isValue_18 ?_
      refine lv_topi (fun x_12 ex_12 => ?_)
      obtain rfl : x_12 = (nI (k + 1)) := ex_12.trans (nI_1 k)
      refine lv_aload_n hx hb dX2_isValue_19 rfl (lv_at hl 1 rfl) ?_
      refine pg_getN (ci := 0) (v := .int (nI z)) (C := RX0) (T := TX0) (N := 3) hx hb hts it_0 hown hK hP hL_g1 hFg rfl 1 (by decide) (hE.nest kn_3) (fun _ h9 => h9) rfl dX2_isValue_20 ?_
      have hFc := pg_free hD hS hA
      refine va_calli (va_runV (As := [.int (nI (k + 1)), .int (nI z)]) (rest := []) ⟨hx, hb, hml, hown, hts⟩ (s_X0_isName_e l dC dI cs ty L s.heap.size F g1 σ r1 n1 z (k + 1) z f hW hL_g1 hT_g1 hFg hFr (by omega) (by omega) (by omega) (by omega)) ⟨callB_of 2 hts (gi kt_108) rfl rfl rfl (hts _ kt_1) (hts _ kt_109) (by decide +kernel) ⟨Nat.le_of_ble_eq_true rfl, Nat.le_of_ble_eq_true rfl⟩, (hts _ kt_110), (hts _ kt_111)⟩ ⟨fun a U g mk q => ⟨q.1, PT.calling q.2⟩, pg_recv hK hP hL_g1 hFg (q := (RX0, TX0, 3)) rfl, fun U hU hWm => ⟨rfl, PT.mk hU hWm hP hK hD hE hO⟩⟩ rfl rfl hl.1 rfl (lv_room (Nat.le_of_ble_eq_true rfl)) dX2_isValue_23 ⟨by show _ + 0 ≤ 0; omega, by show _ + 0 ≤ 0; omega⟩) hS (fun q _ h => hFc q h) hFc (fun r_13 u t H1 locs ht hvm hw hB hz1 hk1 hS => ?_)
      obtain ⟨F_14, hB1⟩ := hB
      obtain rfl : F = F_14 := (funext (fun a => hB1.2.2.2 a List.not_mem_nil)).symm
      obtain ⟨hP, hD, hO, hR⟩ := QT.back hB1 ht hFc hR (fun q h => absurd h List.not_mem_nil)
      generalize H1 = H at hP hS ⊢
      have hw : r_13 = (if NM f (k + 1) z = true then 1 else 0) := hw
      have hw_15 := hw
      refine lv_goto (tgt := 48) hx hb dX2_isValue_26 (by decide) ?_
      refine W.widen (k := 0) (n := 0) (by omega) (by omega) ?_
      exact W.zret (v := r_13) (ty := .boolean) hx hb hr (ifN hw_15) (fun t ht hWm => ⟨⟨r_13, (), rfl, (isv2 hne c_6 hw_15), ⟨F, QT.mk ht hP hD hO hR⟩⟩, hS.F ht⟩) hS.2.2 dX2_isValue_48
  ·
    have heq : k = z := (nI_eq (by omega) (by omega)).mp c_4
    refine lv_iconst (v := 0) hx hb dX2_isValue_8 (by decide) ?_
    refine W.widen (k := 0) (n := 0) (by omega) (by omega) ?_
    exact W.zret (v := 0) (ty := .boolean) hx hb hr (by decide) (fun t ht hWm => ⟨⟨0, (), rfl, (Or.inr ⟨rfl, fun q => q.1 heq⟩), ⟨F, QT.mk ht hP hD hO hR⟩⟩, hS.F ht⟩) hS.2.2 dX2_isValue_9
set_option maxHeartbeats 4000000 in
set_option maxRecDepth 100000 in
theorem s_X2_take_e (l : Launch) (dC : Nat → ClassId) (dI : Nat → Nat → Nat) (cs : Nat → ClassId) (ty : TyM) (L : List Nat) (sz : Nat) (F : Nat → va_E) (h0 : Nat) (ρ : Nat) (ea : Nat) (g1 : Nat) (σ : Nat) (r1 : Nat) (n1 : Nat) (z : Nat) (cn : Nat) (f : Nat → Int32) (x1 : Int32) (x2 : Int32) (hW : WT ty L) (hL_h0 : h0 ∈ L) (hT_h0 : ty h0 = (2, ρ, [ea])) (hL_g1 : g1 ∈ L) (hT_g1 : ty g1 = (0, σ, [r1, n1])) (hFd : F h0 = .inr (2, [.ref ea, .int (nI cn)])) (hcn : cn ≤ 40) (hFg : F g1 = .inr (0, [.ref r1, .int (nI z), .int 0])) (hFr : F r1 = .inl (cs 16, n1, .inl f)) (hzn : z ≤ n1) (hn9 : n1 ≤ 10000) : Met l yX2_take (.code yX2_take cX2_take 7 (some .int) :: tb) ({ frames := 3, cells := 0, slots := 0, locals := 74 }) (va_Pc [.ref h0, .int x1, .int x2, .ref g1] (PT (dC, dI) cs ty L F sz)) (va_Qi (fun (r : Int32) (c2 : Nat) => ENT cn c2 x1 f z r) (fun (c2 : Nat) T9 => ∃ F2 : Nat → va_E, QT (dC, dI) cs ty L [ρ, ρ + 1] F F2 (va_A (va_pl L F) sz) T9 ∧ F2 h0 = .inr (2, [.ref ea, .int (nI c2)])) (va_A (va_pl L F) sz)) 0 0 (va_A (va_pl L F) sz) := by
  refine Met.ofW (cc := cX2_take) (maxL := 7) (ret := (some .int)) (by decide) rfl ?_
  intro p e s m args below meth c s₁ B hml hv
  obtain ⟨rfl, hsz, hP, hK, hD0, hE, hO⟩ := hv
  have hx := B.exec
  have hb := B.bytes
  have hr := B.returns
  have hts : ∀ w ∈ tb, w.before _ s = true := fun w h => atoms_spec (ws := .code yX2_take cX2_take 7 (some .int) :: tb) B.pre w (List.mem_cons_of_mem _ h)
  have hown : s.vm.findClass RX2 = some m.cls := findClass_of_methodNamed B.named
  have hlocks := B.notSynchronized
  subst hsz
  have hD := hD0.self (sz := s.heap.size)
  generalize hAe : va_A (va_pl L F) s.heap.size = A at hD ⊢
  have hA : ∀ q : Nat, s.heap.size ≤ q → A q := fun q h => by rw [← hAe]; exact Or.inr h
  have hS : va_S A s.heap s.heap [] := va_S.rf
  have hR : FR ty [ρ, ρ + 1] F F := FR.refl
  have hl := lv_entry ([.ref h0, .int x1, .int x2, .ref g1]) (n := 7) (Nat.le_of_ble_eq_true rfl)
  rw [lg_entry_eq]
  generalize (lg_sl ([.ref h0, .int x1, .int x2, .ref g1]) ++ List.replicate (7 - (lg_sl ([.ref h0, .int x1, .int x2, .ref g1])).length) Slot.unset).toArray = ls at hl ⊢
  have hl : lv_has ls 7 [(0, .ref h0), (1, .int x1), (2, .int x2), (3, .ref g1)] := hl
  refine lv_aload_n hx hb dX2_take_0 rfl (lv_at hl 0 rfl) ?_
  obtain ⟨hi_1, ht_2⟩ := hW.dir hL_h0 hT_h0
  refine pg_get (ci := 2) (v := .int (nI cn)) (C := RX2) (T := TX2) (N := 2) hx hb hts it_2 hown hK hP hL_h0 hFd rfl 1 (by decide) (hts _ kt_83) (fun _ h9 => h9) rfl dX2_take_1 ?_
  refine lv_bipush (v := 40) hx hb dX2_take_4 (by decide) ?_
  refine lv_icmp_ne (tgt := 12) hx hb dX2_take_6 (by decide) (fun c_3 => ?_) (fun c_3 => ?_)
  ·
    have hc40 : cn ≠ 40 := fun q => c_3 (by rw [q]; rfl)
    refine lv_iload_n hx hb dX2_take_12 rfl (lv_at hl 1 rfl) ?_
    refine lv_if_eq (tgt := 21) hx hb dX2_take_13 (by decide) (fun c_5 => ?_) (fun c_5 => ?_)
    ·
      refine lv_iconst (v := 1) hx hb dX2_take_21 (by decide) ?_
      refine lv_goto (tgt := 26) hx hb dX2_take_22 (by decide) ?_
      refine lv_istore (lv' := [(4, .int 1), (0, .ref h0), (1, .int x1), (2, .int x2), (3, .ref g1)]) hx hb dX2_take_26 hl (by decide) rfl (fun ls hl => ?_)
      refine lv_iload hx hb dX2_take_28 (lv_at hl 0 rfl) ?_
      refine lv_if_eq (tgt := 47) hx hb dX2_take_30 (by decide) (fun c_6 => absurd c_6 (by decide)) (fun c_6 => ?_)
      refine lv_aload_n hx hb dX2_take_33 rfl (lv_at hl 4 rfl) ?_
      refine lv_bipush (v := 32) hx hb dX2_take_34 (by decide) ?_
      refine lv_iconst (v := 0) hx hb dX2_take_36 (by decide) ?_
      refine lv_aload_n hx hb dX2_take_37 rfl (lv_at hl 4 rfl) ?_
      obtain ⟨hi_7, ht_8, hq_9⟩ := hW.bytes hL_g1 hT_g1
      refine pg_getN (ci := 0) (v := .int (nI z)) (C := RX0) (T := TX0) (N := 3) hx hb hts it_0 hown hK hP hL_g1 hFg rfl 1 (by decide) (hE.nest kn_3) (fun _ h9 => h9) rfl dX2_take_38 ?_
      have hFc := pg_free hD hS hA
      refine va_calli (va_runV (As := [.int 32, .int 0, .int (nI z)]) (rest := []) ⟨hx, hb, hml, hown, hts⟩ (s_X0_find_e l dC dI cs ty L s.heap.size F g1 σ r1 n1 z z f 32 hW hL_g1 hT_g1 hFg hFr (by omega) (by omega) (by omega)) ⟨callB_of 3 hts (gi kt_123) rfl rfl rfl (hts _ kt_1) (hts _ kt_124) (by decide +kernel) ⟨Nat.le_of_ble_eq_true rfl, Nat.le_of_ble_eq_true rfl⟩, (hts _ kt_125), (hts _ kt_126)⟩ ⟨fun a U g mk q => ⟨q.1, PT.calling q.2⟩, pg_recv hK hP hL_g1 hFg (q := (RX0, TX0, 3)) rfl, fun U hU hWm => ⟨rfl, PT.mk hU hWm hP hK hD hE hO⟩⟩ rfl rfl hl.1 rfl (lv_room (Nat.le_of_ble_eq_true rfl)) dX2_take_41 ⟨by show _ + 0 ≤ 0; omega, by show _ + 0 ≤ 0; omega⟩) hS (fun q _ h => hFc q h) hFc (fun r_10 u t H1 locs ht hvm hw hB hz1 hk1 hS => ?_)
      obtain ⟨F_11, hB1⟩ := hB
      obtain rfl : F = F_11 := (funext (fun a => hB1.2.2.2 a List.not_mem_nil)).symm
      obtain ⟨hP, hD, hO, hR⟩ := QT.back hB1 ht hFc hR (fun q h => absurd h List.not_mem_nil)
      generalize H1 = H at hP hS ⊢
      have hw : (∃ k : Nat, k ≤ z ∧ r_10 = nI k ∧ (∀ j, j < k → ¬ f j = 32) ∧ (k = z ∨ f k = 32)) := hw
      have hw_12 := hw
      obtain ⟨k_13, h1k_13, h2k_13, h3k_13, h4k_13⟩ := hw_12
      subst h2k_13
      have hfs : FST f 32 z k_13 := ⟨h1k_13, h3k_13, h4k_13⟩
      refine lv_goto (tgt := 51) hx hb dX2_take_44 (by decide) ?_
      refine lv_istore (lv' := [(5, .int (nI k_13)), (4, .int 1), (0, .ref h0), (1, .int x1), (2, .int x2), (3, .ref g1)]) hx hb dX2_take_51 hl (by decide) rfl (fun ls hl => ?_)
      refine lv_iload_n hx hb dX2_take_53 rfl (lv_at hl 3 rfl) ?_
      refine lv_if_lt (tgt := 72) hx hb dX2_take_54 (by decide) (fun c_14 => ?_) (fun c_14 => ?_)
      ·
        refine lv_iconst (v := (-1)) hx hb dX2_take_72 (by decide) ?_
        refine W.widen (k := 0) (n := 0) (by omega) (by omega) ?_
        exact W.iret (v := (-1)) hx hb hr (fun t ht hWm => ⟨⟨(-1), cn, rfl, (Or.inr (Or.inl ⟨hc40, val_n1 c_14, rfl, rfl⟩)), ⟨F, QT.mk ht hP hD hO hR, hFd⟩⟩, hS.F ht⟩) hS.2.2 dX2_take_73
      ·
        refine lv_iload_n hx hb dX2_take_57 rfl (lv_at hl 3 rfl) ?_
        refine lv_iconst (v := 4) hx hb dX2_take_58 (by decide) ?_
        refine lv_icmp_gt (tgt := 72) hx hb dX2_take_59 (by decide) (fun c_15 => ?_) (fun c_15 => ?_)
        ·
          refine lv_iconst (v := (-1)) hx hb dX2_take_72 (by decide) ?_
          refine W.widen (k := 0) (n := 0) (by omega) (by omega) ?_
          exact W.iret (v := (-1)) hx hb hr (fun t ht hWm => ⟨⟨(-1), cn, rfl, (Or.inr (Or.inl ⟨hc40, val_n2 c_15, rfl, rfl⟩)), ⟨F, QT.mk ht hP hD hO hR, hFd⟩⟩, hS.F ht⟩) hS.2.2 dX2_take_73
        ·
          refine lv_aload_n hx hb dX2_take_62 rfl (lv_at hl 5 rfl) ?_
          refine lv_iconst (v := 0) hx hb dX2_take_63 (by decide) ?_
          refine lv_iload hx hb dX2_take_64 (lv_at hl 0 rfl) ?_
          refine W.eq (g2 := F0 m 66 ls [.int (nI k_13), .int (nI 0), .ref g1]) rfl ?_
          have hFc := pg_free hD hS hA
          refine va_calli (va_runV (As := [.int (nI 0), .int (nI k_13)]) (rest := []) ⟨hx, hb, hml, hown, hts⟩ (s_X0_isName_e l dC dI cs ty L H.size F g1 σ r1 n1 z 0 k_13 f hW hL_g1 hT_g1 hFg hFr (by omega) (by omega) (by omega) (by omega)) ⟨callB_of 2 hts (gi kt_108) rfl rfl rfl (hts _ kt_1) (hts _ kt_109) (by decide +kernel) ⟨Nat.le_of_ble_eq_true rfl, Nat.le_of_ble_eq_true rfl⟩, (hts _ kt_110), (hts _ kt_111)⟩ ⟨fun a U g mk q => ⟨q.1, PT.calling q.2⟩, pg_recv hK hP hL_g1 hFg (q := (RX0, TX0, 3)) rfl, fun U hU hWm => ⟨rfl, PT.mk hU hWm hP hK hD hE hO⟩⟩ rfl rfl hl.1 rfl (lv_room (Nat.le_of_ble_eq_true rfl)) dX2_take_66 ⟨by show _ + 0 ≤ 0; omega, by show _ + 0 ≤ 0; omega⟩) hS (fun q _ h => hFc q h) hFc (fun r_16 u t H1 locs ht hvm hw hB hz1 hk1 hS => ?_)
          obtain ⟨F_17, hB1⟩ := hB
          obtain rfl : F = F_17 := (funext (fun a => hB1.2.2.2 a List.not_mem_nil)).symm
          obtain ⟨hP, hD, hO, hR⟩ := QT.back hB1 ht hFc hR (fun q h => absurd h List.not_mem_nil)
          generalize H1 = H at hP hS ⊢
          have hw : r_16 = (if NM f 0 k_13 = true then 1 else 0) := hw
          have hw_18 := hw
          refine lv_if_ne (tgt := 74) hx hb dX2_take_69 (by decide) (fun c_19 => ?_) (fun c_19 => ?_)
          ·
            refine lv_iload hx hb dX2_take_74 (lv_at hl 1 rfl) ?_
            refine lv_if_eq (tgt := 91) hx hb dX2_take_76 (by decide) (fun c_20 => absurd c_20 (by decide)) (fun c_20 => ?_)
            refine lv_iload_n hx hb dX2_take_79 rfl (lv_at hl 3 rfl) ?_
            refine lv_aload_n hx hb dX2_take_80 rfl (lv_at hl 5 rfl) ?_
            refine lv_iload hx hb dX2_take_81 (lv_at hl 0 rfl) ?_
            have hFc := pg_free hD hS hA
            refine va_calli (va_runS (As := [.int x1, .ref g1, .int (nI k_13)]) (rest := []) ⟨hx, hb, hml, hown, hts⟩ (s_X2_isValue_e l dC dI cs ty L H.size F g1 σ r1 n1 z k_13 f x1 hW hL_g1 hT_g1 hFg hFr (by omega) (by omega) (by omega)) ⟨callB_of 3 hts (gi kt_120) rfl rfl rfl (hts _ kt_103) (hts _ kt_121) (by decide +kernel) ⟨Nat.le_of_ble_eq_true rfl, Nat.le_of_ble_eq_true rfl⟩, (hts _ kt_122)⟩ ⟨fun a U g mk q => ⟨q.1, PT.calling q.2⟩, fun U hU hWm => ⟨rfl, PT.mk hU hWm hP hK hD hE hO⟩⟩ rfl rfl hl.1 rfl (lv_room (Nat.le_of_ble_eq_true rfl)) dX2_take_83 ⟨by show _ + 0 ≤ 0; omega, by show _ + 0 ≤ 0; omega⟩) hS (fun q _ h => hFc q h) hFc (fun r_21 u t H1 locs ht hvm hw hB hz1 hk1 hS => ?_)
            obtain ⟨F_22, hB1⟩ := hB
            obtain rfl : F = F_22 := (funext (fun a => hB1.2.2.2 a List.not_mem_nil)).symm
            obtain ⟨hP, hD, hO, hR⟩ := QT.back hB1 ht hFc hR (fun q h => absurd h List.not_mem_nil)
            generalize H1 = H at hP hS ⊢
            have hw : (r_21 = 1 ∧ ISV x1 f z k_13) ∨ (r_21 = 0 ∧ ¬ ISV x1 f z k_13) := hw
            have hw_23 := hw
            refine lv_if_ne (tgt := 91) hx hb dX2_take_86 (by decide) (fun c_24 => ?_) (fun c_24 => ?_)
            ·
              refine lv_aload_n hx hb dX2_take_91 rfl (lv_at hl 2 rfl) ?_
              refine pg_get (ci := 2) (v := .ref ea) (C := RX2) (T := TX2) (N := 2) hx hb hts it_2 hown hK hP hL_h0 hFd rfl 0 (by decide) (hts _ kt_84) (fun _ h9 => h9) rfl dX2_take_92 ?_
              refine lv_aload_n hx hb dX2_take_95 rfl (lv_at hl 2 rfl) ?_
              refine pg_get (ci := 2) (v := .int (nI cn)) (C := RX2) (T := TX2) (N := 2) hx hb hts it_2 hown hK hP hL_h0 hFd rfl 1 (by decide) (hts _ kt_83) (fun _ h9 => h9) rfl dX2_take_96 ?_
              obtain ⟨f_25, hF_26, hq_27⟩ := hO.rentry hi_1 ht_2
              obtain ⟨b_28, x_29, y_30, hbf_31, hi_32, ht_33⟩ := hq_27 cn (by omega)
              refine pg_aald (r := b_28) hx hb hK hP hi_1 5 hF_26 rfl (vp_in_nI (by omega) (by omega)) (show f_25 ((nI cn) : Int32).toNatClampNeg = _ from by rw [show ((nI cn) : Int32) = nI cn from rfl, nI_clamp (by omega)]; exact hbf_31) dX2_take_99 ?_
              refine lv_astore (lv' := [(6, .ref b_28), (5, .int (nI k_13)), (4, .int 1), (0, .ref h0), (1, .int x1), (2, .int x2), (3, .ref g1)]) hx hb dX2_take_100 hl (by decide) rfl (fun ls hl => ?_)
              refine lv_aload hx hb dX2_take_102 (lv_at hl 0 rfl) ?_
              refine lv_iload_n hx hb dX2_take_104 rfl (lv_at hl 4 rfl) ?_
              obtain ⟨hi_34, hi_35, ⟨r_36, ht_37⟩, ⟨r_38, ht_39⟩⟩ := hW.entry hi_32 ht_33
              obtain ⟨v0_40, v1_41, hF_42⟩ := hO.entry hi_32 ht_33
              refine pg_putN (ci := 3) (v := .int x1) (ty := .int) (C := RX3) (T := TX3) (N := 4) hx hb hts it_3 tyX3 tyX3_ok nmX3 hown hK hP hD hS hi_32 hF_42 rfl 2 (by decide) (hE.nest kn_0) (fun _ h9 => h9) rfl (by decide +kernel) (rfl) (rfl) (Nat.le_of_ble_eq_true rfl) dX2_take_105 (fun H locs hP hD hS => ?_)
              obtain ⟨F_43, he_44, hP, hD, hO, hR⟩ : ∃ G, G = va_up F b_28 (.inr (3, [.ref x_29, .ref y_30, .int x1, .int v1_41])) ∧ va_P (dC, dI) vwCl (va_pl L G) H ∧ va_D A (va_pl L G) ∧ OK cs ty L G ∧ FR ty [ρ, ρ + 1] F G := ⟨_, rfl, hP, hD, hO.up (sh.entry ht_33 ⟨x1, v1_41, rfl⟩), hR.up ht_33 (by simp)⟩
              have hF_45 : F_43 b_28 = .inr (3, [.ref x_29, .ref y_30, .int x1, .int v1_41]) := by rw [he_44]; exact up_self
              have hF_46 : F_43 h0 = .inr (2, [.ref ea, .int (nI cn)]) := by rw [he_44, up_ne (ne_ty hT_h0 ht_33 (by simp))]; exact hFd
              have hF_47 : F_43 g1 = .inr (0, [.ref r1, .int (nI z), .int 0]) := by rw [he_44, up_ne (ne_ty hT_g1 ht_33 (by simp))]; exact hFg
              have hF_48 : F_43 r1 = .inl (cs 16, n1, .inl f) := by rw [he_44, up_ne (ne_ty ht_8 ht_33 (by simp))]; exact hFr
              have hF_49 : F_43 ea = .inl (cs 21, 40, .inr (.inr (.inr (.inr f_25)))) := by rw [he_44, up_ne (ne_ty ht_2 ht_33 (by simp))]; exact hF_26
              refine lv_aload hx hb dX2_take_108 (lv_at hl 0 rfl) ?_
              refine lv_iload_n hx hb dX2_take_110 rfl (lv_at hl 5 rfl) ?_
              refine pg_putN (ci := 3) (v := .int x2) (ty := .int) (C := RX3) (T := TX3) (N := 4) hx hb hts it_3 tyX3 tyX3_ok nmX3 hown hK hP hD hS hi_32 hF_45 rfl 3 (by decide) (hE.nest kn_2) (fun _ h9 => h9) rfl (by decide +kernel) (rfl) (rfl) (Nat.le_of_ble_eq_true rfl) dX2_take_111 (fun H locs hP hD hS => ?_)
              obtain ⟨F_50, he_51, hP, hD, hO, hR⟩ : ∃ G, G = va_up F_43 b_28 (.inr (3, [.ref x_29, .ref y_30, .int x1, .int x2])) ∧ va_P (dC, dI) vwCl (va_pl L G) H ∧ va_D A (va_pl L G) ∧ OK cs ty L G ∧ FR ty [ρ, ρ + 1] F G := ⟨_, rfl, hP, hD, hO.up (sh.entry ht_33 ⟨x1, x2, rfl⟩), hR.up ht_33 (by simp)⟩
              have hF_52 : F_50 b_28 = .inr (3, [.ref x_29, .ref y_30, .int x1, .int x2]) := by rw [he_51]; exact up_self
              have hF_53 : F_50 h0 = .inr (2, [.ref ea, .int (nI cn)]) := by rw [he_51, up_ne (ne_ty hT_h0 ht_33 (by simp))]; exact hF_46
              have hF_54 : F_50 g1 = .inr (0, [.ref r1, .int (nI z), .int 0]) := by rw [he_51, up_ne (ne_ty hT_g1 ht_33 (by simp))]; exact hF_47
              have hF_55 : F_50 r1 = .inl (cs 16, n1, .inl f) := by rw [he_51, up_ne (ne_ty ht_8 ht_33 (by simp))]; exact hF_48
              have hF_56 : F_50 ea = .inl (cs 21, 40, .inr (.inr (.inr (.inr f_25)))) := by rw [he_51, up_ne (ne_ty ht_2 ht_33 (by simp))]; exact hF_49
              refine lv_aload hx hb dX2_take_114 (lv_at hl 0 rfl) ?_
              refine pg_getN (ci := 3) (v := .ref x_29) (C := RX3) (T := TX3) (N := 4) hx hb hts it_3 hown hK hP hi_32 hF_52 rfl 0 (by decide) (hE.nest kn_1) (fun _ h9 => h9) rfl dX2_take_116 ?_
              have hFc := pg_free hD hS hA
              obtain ⟨hi_57, ht_58, hq_59⟩ := hW.bytes hi_34 ht_37
              obtain ⟨z_60, o_61, hF_62, hq_63, hq_64⟩ := hO.bytes hi_34 ht_37
              refine va_callv (va_runV (As := []) (rest := []) ⟨hx, hb, hml, hown, hts⟩ (s_X0_clear l dC dI cs ty L H.size F_50 x_29 (ρ + 1) r_36 60 hW hi_34 ht_37) ⟨callB_of 0 hts (gi kt_32) rfl rfl rfl (hts _ kt_1) (hts _ kt_118) (by decide +kernel) ⟨Nat.le_of_ble_eq_true rfl, Nat.le_of_ble_eq_true rfl⟩, (hts _ kt_34), (hts _ kt_35)⟩ ⟨fun a U g mk q => ⟨q.1, PT.calling q.2⟩, pg_recv hK hP hi_34 hF_62 (q := (RX0, TX0, 3)) rfl, fun U hU hWm => ⟨rfl, PT.mk hU hWm hP hK hD hE hO⟩⟩ rfl rfl hl.1 rfl (lv_room (Nat.le_of_ble_eq_true rfl)) dX2_take_119 ⟨by show _ + 0 ≤ 0; omega, by show _ + 0 ≤ 0; omega⟩) hS (fun q _ h => hFc q h) hFc (fun u t H1 locs ht hvm hw hB hz1 hk1 hS => ?_)
              obtain ⟨F_66, hB1, hq_67⟩ := hB
              obtain ⟨hP, hD, hO, hR⟩ := QT.back hB1 ht hFc hR (fun q h => by simp only [List.mem_cons, List.not_mem_nil, or_false] at h ⊢; omega)
              have hF_68 : F_66 b_28 = .inr (3, [.ref x_29, .ref y_30, .int x1, .int x2]) := (hB1.2.2.2 b_28 (by rw [ht_33]; simp)).trans hF_52
              have hF_69 : F_66 h0 = .inr (2, [.ref ea, .int (nI cn)]) := (hB1.2.2.2 h0 (by rw [hT_h0]; simp)).trans hF_53
              have hF_70 : F_66 ea = .inl (cs 21, 40, .inr (.inr (.inr (.inr f_25)))) := (hB1.2.2.2 ea (by rw [ht_2]; simp)).trans hF_56
              generalize H1 = H at hP hS ⊢
              refine lv_aload hx hb dX2_take_122 (lv_at hl 0 rfl) ?_
              refine pg_getN (ci := 3) (v := .ref x_29) (C := RX3) (T := TX3) (N := 4) hx hb hts it_3 hown hK hP hi_32 hF_68 rfl 0 (by decide) (hE.nest kn_1) (fun _ h9 => h9) rfl dX2_take_124 ?_
              refine lv_aload_n hx hb dX2_take_127 rfl (lv_at hl 6 rfl) ?_
              refine lv_iconst (v := 0) hx hb dX2_take_128 (by decide) ?_
              refine lv_iload hx hb dX2_take_129 (lv_at hl 1 rfl) ?_
              have hFc := pg_free hD hS hA
              refine va_callv (va_runV (As := [.ref g1, .int 0, .int (nI k_13)]) (rest := []) ⟨hx, hb, hml, hown, hts⟩ (s_X0_addRange l dC dI cs ty L H.size F_66 x_29 (ρ + 1) r_36 60 g1 σ r1 n1 0 (nI k_13) hW hi_34 ht_37 hL_g1 hT_g1 (nI_pos (by omega))) ⟨callB_of 3 hts (gi kt_36) rfl rfl rfl (hts _ kt_1) (hts _ kt_119) (by decide +kernel) ⟨Nat.le_of_ble_eq_true rfl, Nat.le_of_ble_eq_true rfl⟩, (hts _ kt_38), (hts _ kt_39)⟩ ⟨fun a U g mk q => ⟨q.1, PT.calling q.2⟩, pg_recv hK hP hi_34 hq_67 (q := (RX0, TX0, 3)) rfl, fun U hU hWm => ⟨rfl, PT.mk hU hWm hP hK hD hE hO⟩⟩ rfl rfl hl.1 rfl (lv_room (Nat.le_of_ble_eq_true rfl)) dX2_take_131 ⟨by show _ + 0 ≤ 0; omega, by show _ + 0 ≤ 0; omega⟩) hS (fun q _ h => hFc q h) hFc (fun u t H1 locs ht hvm hw hB hz1 hk1 hS => ?_)
              obtain ⟨F_72, hB1⟩ := hB
              obtain ⟨hP, hD, hO, hR⟩ := QT.back hB1 ht hFc hR (fun q h => by simp only [List.mem_cons, List.not_mem_nil, or_false] at h ⊢; omega)
              have hF_73 : F_72 b_28 = .inr (3, [.ref x_29, .ref y_30, .int x1, .int x2]) := (hB1.2.2.2 b_28 (by rw [ht_33]; simp)).trans hF_68
              have hF_74 : F_72 h0 = .inr (2, [.ref ea, .int (nI cn)]) := (hB1.2.2.2 h0 (by rw [hT_h0]; simp)).trans hF_69
              have hF_75 : F_72 ea = .inl (cs 21, 40, .inr (.inr (.inr (.inr f_25)))) := (hB1.2.2.2 ea (by rw [ht_2]; simp)).trans hF_70
              generalize H1 = H at hP hS ⊢
              refine lv_aload hx hb dX2_take_134 (lv_at hl 0 rfl) ?_
              refine pg_getN (ci := 3) (v := .ref y_30) (C := RX3) (T := TX3) (N := 4) hx hb hts it_3 hown hK hP hi_32 hF_73 rfl 1 (by decide) (hE.nest kn_4) (fun _ h9 => h9) rfl dX2_take_136 ?_
              have hFc := pg_free hD hS hA
              obtain ⟨hi_76, ht_77, hq_78⟩ := hW.bytes hi_35 ht_39
              obtain ⟨z_79, o_80, hF_81, hq_82, hq_83⟩ := hO.bytes hi_35 ht_39
              refine va_callv (va_runV (As := []) (rest := []) ⟨hx, hb, hml, hown, hts⟩ (s_X0_clear l dC dI cs ty L H.size F_72 y_30 (ρ + 1) r_38 700 hW hi_35 ht_39) ⟨callB_of 0 hts (gi kt_32) rfl rfl rfl (hts _ kt_1) (hts _ kt_118) (by decide +kernel) ⟨Nat.le_of_ble_eq_true rfl, Nat.le_of_ble_eq_true rfl⟩, (hts _ kt_34), (hts _ kt_35)⟩ ⟨fun a U g mk q => ⟨q.1, PT.calling q.2⟩, pg_recv hK hP hi_35 hF_81 (q := (RX0, TX0, 3)) rfl, fun U hU hWm => ⟨rfl, PT.mk hU hWm hP hK hD hE hO⟩⟩ rfl rfl hl.1 rfl (lv_room (Nat.le_of_ble_eq_true rfl)) dX2_take_139 ⟨by show _ + 0 ≤ 0; omega, by show _ + 0 ≤ 0; omega⟩) hS (fun q _ h => hFc q h) hFc (fun u t H1 locs ht hvm hw hB hz1 hk1 hS => ?_)
              obtain ⟨F_85, hB1, hq_86⟩ := hB
              obtain ⟨hP, hD, hO, hR⟩ := QT.back hB1 ht hFc hR (fun q h => by simp only [List.mem_cons, List.not_mem_nil, or_false] at h ⊢; omega)
              have hF_87 : F_85 b_28 = .inr (3, [.ref x_29, .ref y_30, .int x1, .int x2]) := (hB1.2.2.2 b_28 (by rw [ht_33]; simp)).trans hF_73
              have hF_88 : F_85 h0 = .inr (2, [.ref ea, .int (nI cn)]) := (hB1.2.2.2 h0 (by rw [hT_h0]; simp)).trans hF_74
              have hF_89 : F_85 ea = .inl (cs 21, 40, .inr (.inr (.inr (.inr f_25)))) := (hB1.2.2.2 ea (by rw [ht_2]; simp)).trans hF_75
              generalize H1 = H at hP hS ⊢
              refine lv_aload hx hb dX2_take_142 (lv_at hl 0 rfl) ?_
              refine pg_getN (ci := 3) (v := .ref y_30) (C := RX3) (T := TX3) (N := 4) hx hb hts it_3 hown hK hP hi_32 hF_87 rfl 1 (by decide) (hE.nest kn_4) (fun _ h9 => h9) rfl dX2_take_144 ?_
              refine lv_aload_n hx hb dX2_take_147 rfl (lv_at hl 6 rfl) ?_
              refine lv_iload hx hb dX2_take_148 (lv_at hl 1 rfl) ?_
              refine lv_iconst (v := 1) hx hb dX2_take_150 (by decide) ?_
              refine lv_iadd hx hb dX2_take_151 ?_
              refine lv_topi (fun x_90 _ => ?_)
              refine lv_aload_n hx hb dX2_take_152 rfl (lv_at hl 6 rfl) ?_
              obtain ⟨z_91, o_92, hF_93, hq_94, hq_95⟩ := hO.bytes hL_g1 hT_g1
              refine pg_getN (ci := 0) (v := .int (nI z_91)) (C := RX0) (T := TX0) (N := 3) hx hb hts it_0 hown hK hP hL_g1 hF_93 rfl 1 (by decide) (hE.nest kn_3) (fun _ h9 => h9) rfl dX2_take_153 ?_
              have hFc := pg_free hD hS hA
              refine va_callv (va_runV (As := [.ref g1, .int x_90, .int (nI z_91)]) (rest := []) ⟨hx, hb, hml, hown, hts⟩ (s_X0_addRange l dC dI cs ty L H.size F_85 y_30 (ρ + 1) r_38 700 g1 σ r1 n1 x_90 (nI z_91) hW hi_35 ht_39 hL_g1 hT_g1 (nI_pos (by omega))) ⟨callB_of 3 hts (gi kt_36) rfl rfl rfl (hts _ kt_1) (hts _ kt_119) (by decide +kernel) ⟨Nat.le_of_ble_eq_true rfl, Nat.le_of_ble_eq_true rfl⟩, (hts _ kt_38), (hts _ kt_39)⟩ ⟨fun a U g mk q => ⟨q.1, PT.calling q.2⟩, pg_recv hK hP hi_35 hq_86 (q := (RX0, TX0, 3)) rfl, fun U hU hWm => ⟨rfl, PT.mk hU hWm hP hK hD hE hO⟩⟩ rfl rfl hl.1 rfl (lv_room (Nat.le_of_ble_eq_true rfl)) dX2_take_156 ⟨by show _ + 0 ≤ 0; omega, by show _ + 0 ≤ 0; omega⟩) hS (fun q _ h => hFc q h) hFc (fun u t H1 locs ht hvm hw hB hz1 hk1 hS => ?_)
              obtain ⟨F_97, hB1⟩ := hB
              obtain ⟨hP, hD, hO, hR⟩ := QT.back hB1 ht hFc hR (fun q h => by simp only [List.mem_cons, List.not_mem_nil, or_false] at h ⊢; omega)
              have hF_98 : F_97 b_28 = .inr (3, [.ref x_29, .ref y_30, .int x1, .int x2]) := (hB1.2.2.2 b_28 (by rw [ht_33]; simp)).trans hF_87
              have hF_99 : F_97 h0 = .inr (2, [.ref ea, .int (nI cn)]) := (hB1.2.2.2 h0 (by rw [hT_h0]; simp)).trans hF_88
              have hF_100 : F_97 ea = .inl (cs 21, 40, .inr (.inr (.inr (.inr f_25)))) := (hB1.2.2.2 ea (by rw [ht_2]; simp)).trans hF_89
              generalize H1 = H at hP hS ⊢
              refine lv_aload_n hx hb dX2_take_159 rfl (lv_at hl 3 rfl) ?_
              refine lv_dup hx hb dX2_take_160 rfl ?_
              refine pg_get (ci := 2) (v := .int (nI cn)) (C := RX2) (T := TX2) (N := 2) hx hb hts it_2 hown hK hP hL_h0 hF_99 rfl 1 (by decide) (hts _ kt_83) (fun _ h9 => h9) rfl dX2_take_161 ?_
              refine lv_iconst (v := 1) hx hb dX2_take_164 (by decide) ?_
              refine lv_iadd hx hb dX2_take_165 ?_
              refine lv_topi (fun x_101 ex_101 => ?_)
              obtain rfl : x_101 = (nI (cn + 1)) := ex_101.trans (nI_1 cn)
              refine pg_put (ci := 2) (v := .int (nI (cn + 1))) (ty := .int) (C := RX2) (T := TX2) (N := 2) hx hb hts it_2 tyX2 tyX2_ok nmX2 hown hK hP hD hS hL_h0 hF_99 rfl 1 (by decide) (hts _ kt_83) (fun _ h9 => h9) rfl (by decide +kernel) (rfl) (rfl) (Nat.le_of_ble_eq_true rfl) dX2_take_166 (fun H locs hP hD hS => ?_)
              obtain ⟨F_102, he_103, hP, hD, hO, hR⟩ : ∃ G, G = va_up F_97 h0 (.inr (2, [.ref ea, .int (nI (cn + 1))])) ∧ va_P (dC, dI) vwCl (va_pl L G) H ∧ va_D A (va_pl L G) ∧ OK cs ty L G ∧ FR ty [ρ, ρ + 1] F G := ⟨_, rfl, hP, hD, hO.up (sh.dir hT_h0 ⟨(cn + 1), rfl, (by first | omega | assumption | exact Or.inl rfl | exact Or.inr rfl)⟩), hR.up hT_h0 (by simp)⟩
              have hF_104 : F_102 h0 = .inr (2, [.ref ea, .int (nI (cn + 1))]) := by rw [he_103]; exact up_self
              have hF_105 : F_102 b_28 = .inr (3, [.ref x_29, .ref y_30, .int x1, .int x2]) := by rw [he_103, up_ne (ne_ty ht_33 hT_h0 (by simp))]; exact hF_98
              have hF_106 : F_102 ea = .inl (cs 21, 40, .inr (.inr (.inr (.inr f_25)))) := by rw [he_103, up_ne (ne_ty ht_2 hT_h0 (by simp))]; exact hF_100
              refine lv_aload_n hx hb dX2_take_169 rfl (lv_at hl 3 rfl) ?_
              refine pg_get (ci := 2) (v := .int (nI (cn + 1))) (C := RX2) (T := TX2) (N := 2) hx hb hts it_2 hown hK hP hL_h0 hF_104 rfl 1 (by decide) (hts _ kt_83) (fun _ h9 => h9) rfl dX2_take_170 ?_
              refine W.widen (k := 0) (n := 0) (by omega) (by omega) ?_
              exact W.iret (v := (nI (cn + 1))) hx hb hr (fun t ht hWm => ⟨⟨(nI (cn + 1)), (cn + 1), rfl, (Or.inr (Or.inr ⟨hc40, val_y2 c_14 c_15 (Or.inl c_5) hfs (ifb1 hw_18 c_19) (isv1 hw_23 c_24), rfl, rfl⟩)), ⟨F_102, QT.mk ht hP hD hO hR, hF_104⟩⟩, hS.F ht⟩) hS.2.2 dX2_take_173
            ·
              refine lv_iconst (v := (-1)) hx hb dX2_take_89 (by decide) ?_
              refine W.widen (k := 0) (n := 0) (by omega) (by omega) ?_
              exact W.iret (v := (-1)) hx hb hr (fun t ht hWm => ⟨⟨(-1), cn, rfl, (Or.inr (Or.inl ⟨hc40, val_nv (Or.inl c_5) hfs (isv0 hw_23 c_24), rfl, rfl⟩)), ⟨F, QT.mk ht hP hD hO hR, hFd⟩⟩, hS.F ht⟩) hS.2.2 dX2_take_90
          ·
            refine lv_iconst (v := (-1)) hx hb dX2_take_72 (by decide) ?_
            refine W.widen (k := 0) (n := 0) (by omega) (by omega) ?_
            exact W.iret (v := (-1)) hx hb hr (fun t ht hWm => ⟨⟨(-1), cn, rfl, (Or.inr (Or.inl ⟨hc40, val_nn (Or.inl c_5) hfs (ifb0 hw_18 c_19), rfl, rfl⟩)), ⟨F, QT.mk ht hP hD hO hR, hFd⟩⟩, hS.F ht⟩) hS.2.2 dX2_take_73
    ·
      refine lv_iload_n hx hb dX2_take_16 rfl (lv_at hl 1 rfl) ?_
      refine lv_iconst (v := 2) hx hb dX2_take_17 (by decide) ?_
      refine lv_icmp_ne (tgt := 25) hx hb dX2_take_18 (by decide) (fun c_107 => ?_) (fun c_107 => ?_)
      ·
        refine lv_iconst (v := 0) hx hb dX2_take_25 (by decide) ?_
        refine lv_istore (lv' := [(4, .int 0), (0, .ref h0), (1, .int x1), (2, .int x2), (3, .ref g1)]) hx hb dX2_take_26 hl (by decide) rfl (fun ls hl => ?_)
        refine lv_iload hx hb dX2_take_28 (lv_at hl 0 rfl) ?_
        refine lv_if_eq (tgt := 47) hx hb dX2_take_30 (by decide) (fun c_108 => ?_) (fun c_108 => absurd (by decide) c_108)
        refine lv_aload_n hx hb dX2_take_47 rfl (lv_at hl 4 rfl) ?_
        obtain ⟨hi_109, ht_110, hq_111⟩ := hW.bytes hL_g1 hT_g1
        refine pg_getN (ci := 0) (v := .int (nI z)) (C := RX0) (T := TX0) (N := 3) hx hb hts it_0 hown hK hP hL_g1 hFg rfl 1 (by decide) (hE.nest kn_3) (fun _ h9 => h9) rfl dX2_take_48 ?_
        refine lv_istore (lv' := [(5, .int (nI z)), (4, .int 0), (0, .ref h0), (1, .int x1), (2, .int x2), (3, .ref g1)]) hx hb dX2_take_51 hl (by decide) rfl (fun ls hl => ?_)
        refine lv_iload_n hx hb dX2_take_53 rfl (lv_at hl 3 rfl) ?_
        refine lv_if_lt (tgt := 72) hx hb dX2_take_54 (by decide) (fun c_112 => ?_) (fun c_112 => ?_)
        ·
          refine lv_iconst (v := (-1)) hx hb dX2_take_72 (by decide) ?_
          refine W.widen (k := 0) (n := 0) (by omega) (by omega) ?_
          exact W.iret (v := (-1)) hx hb hr (fun t ht hWm => ⟨⟨(-1), cn, rfl, (Or.inr (Or.inl ⟨hc40, val_n1 c_112, rfl, rfl⟩)), ⟨F, QT.mk ht hP hD hO hR, hFd⟩⟩, hS.F ht⟩) hS.2.2 dX2_take_73
        ·
          refine lv_iload_n hx hb dX2_take_57 rfl (lv_at hl 3 rfl) ?_
          refine lv_iconst (v := 4) hx hb dX2_take_58 (by decide) ?_
          refine lv_icmp_gt (tgt := 72) hx hb dX2_take_59 (by decide) (fun c_113 => ?_) (fun c_113 => ?_)
          ·
            refine lv_iconst (v := (-1)) hx hb dX2_take_72 (by decide) ?_
            refine W.widen (k := 0) (n := 0) (by omega) (by omega) ?_
            exact W.iret (v := (-1)) hx hb hr (fun t ht hWm => ⟨⟨(-1), cn, rfl, (Or.inr (Or.inl ⟨hc40, val_n2 c_113, rfl, rfl⟩)), ⟨F, QT.mk ht hP hD hO hR, hFd⟩⟩, hS.F ht⟩) hS.2.2 dX2_take_73
          ·
            refine lv_aload_n hx hb dX2_take_62 rfl (lv_at hl 5 rfl) ?_
            refine lv_iconst (v := 0) hx hb dX2_take_63 (by decide) ?_
            refine lv_iload hx hb dX2_take_64 (lv_at hl 0 rfl) ?_
            refine W.eq (g2 := F0 m 66 ls [.int (nI z), .int (nI 0), .ref g1]) rfl ?_
            have hFc := pg_free hD hS hA
            refine va_calli (va_runV (As := [.int (nI 0), .int (nI z)]) (rest := []) ⟨hx, hb, hml, hown, hts⟩ (s_X0_isName_e l dC dI cs ty L s.heap.size F g1 σ r1 n1 z 0 z f hW hL_g1 hT_g1 hFg hFr (by omega) (by omega) (by omega) (by omega)) ⟨callB_of 2 hts (gi kt_108) rfl rfl rfl (hts _ kt_1) (hts _ kt_109) (by decide +kernel) ⟨Nat.le_of_ble_eq_true rfl, Nat.le_of_ble_eq_true rfl⟩, (hts _ kt_110), (hts _ kt_111)⟩ ⟨fun a U g mk q => ⟨q.1, PT.calling q.2⟩, pg_recv hK hP hL_g1 hFg (q := (RX0, TX0, 3)) rfl, fun U hU hWm => ⟨rfl, PT.mk hU hWm hP hK hD hE hO⟩⟩ rfl rfl hl.1 rfl (lv_room (Nat.le_of_ble_eq_true rfl)) dX2_take_66 ⟨by show _ + 0 ≤ 0; omega, by show _ + 0 ≤ 0; omega⟩) hS (fun q _ h => hFc q h) hFc (fun r_114 u t H1 locs ht hvm hw hB hz1 hk1 hS => ?_)
            obtain ⟨F_115, hB1⟩ := hB
            obtain rfl : F = F_115 := (funext (fun a => hB1.2.2.2 a List.not_mem_nil)).symm
            obtain ⟨hP, hD, hO, hR⟩ := QT.back hB1 ht hFc hR (fun q h => absurd h List.not_mem_nil)
            generalize H1 = H at hP hS ⊢
            have hw : r_114 = (if NM f 0 z = true then 1 else 0) := hw
            have hw_116 := hw
            refine lv_if_ne (tgt := 74) hx hb dX2_take_69 (by decide) (fun c_117 => ?_) (fun c_117 => ?_)
            ·
              refine lv_iload hx hb dX2_take_74 (lv_at hl 1 rfl) ?_
              refine lv_if_eq (tgt := 91) hx hb dX2_take_76 (by decide) (fun c_118 => ?_) (fun c_118 => absurd (by decide) c_118)
              refine lv_aload_n hx hb dX2_take_91 rfl (lv_at hl 2 rfl) ?_
              refine pg_get (ci := 2) (v := .ref ea) (C := RX2) (T := TX2) (N := 2) hx hb hts it_2 hown hK hP hL_h0 hFd rfl 0 (by decide) (hts _ kt_84) (fun _ h9 => h9) rfl dX2_take_92 ?_
              refine lv_aload_n hx hb dX2_take_95 rfl (lv_at hl 2 rfl) ?_
              refine pg_get (ci := 2) (v := .int (nI cn)) (C := RX2) (T := TX2) (N := 2) hx hb hts it_2 hown hK hP hL_h0 hFd rfl 1 (by decide) (hts _ kt_83) (fun _ h9 => h9) rfl dX2_take_96 ?_
              obtain ⟨f_119, hF_120, hq_121⟩ := hO.rentry hi_1 ht_2
              obtain ⟨b_122, x_123, y_124, hbf_125, hi_126, ht_127⟩ := hq_121 cn (by omega)
              refine pg_aald (r := b_122) hx hb hK hP hi_1 5 hF_120 rfl (vp_in_nI (by omega) (by omega)) (show f_119 ((nI cn) : Int32).toNatClampNeg = _ from by rw [show ((nI cn) : Int32) = nI cn from rfl, nI_clamp (by omega)]; exact hbf_125) dX2_take_99 ?_
              refine lv_astore (lv' := [(6, .ref b_122), (5, .int (nI z)), (4, .int 0), (0, .ref h0), (1, .int x1), (2, .int x2), (3, .ref g1)]) hx hb dX2_take_100 hl (by decide) rfl (fun ls hl => ?_)
              refine lv_aload hx hb dX2_take_102 (lv_at hl 0 rfl) ?_
              refine lv_iload_n hx hb dX2_take_104 rfl (lv_at hl 4 rfl) ?_
              obtain ⟨hi_128, hi_129, ⟨r_130, ht_131⟩, ⟨r_132, ht_133⟩⟩ := hW.entry hi_126 ht_127
              obtain ⟨v0_134, v1_135, hF_136⟩ := hO.entry hi_126 ht_127
              refine pg_putN (ci := 3) (v := .int x1) (ty := .int) (C := RX3) (T := TX3) (N := 4) hx hb hts it_3 tyX3 tyX3_ok nmX3 hown hK hP hD hS hi_126 hF_136 rfl 2 (by decide) (hE.nest kn_0) (fun _ h9 => h9) rfl (by decide +kernel) (rfl) (rfl) (Nat.le_of_ble_eq_true rfl) dX2_take_105 (fun H locs hP hD hS => ?_)
              obtain ⟨F_137, he_138, hP, hD, hO, hR⟩ : ∃ G, G = va_up F b_122 (.inr (3, [.ref x_123, .ref y_124, .int x1, .int v1_135])) ∧ va_P (dC, dI) vwCl (va_pl L G) H ∧ va_D A (va_pl L G) ∧ OK cs ty L G ∧ FR ty [ρ, ρ + 1] F G := ⟨_, rfl, hP, hD, hO.up (sh.entry ht_127 ⟨x1, v1_135, rfl⟩), hR.up ht_127 (by simp)⟩
              have hF_139 : F_137 b_122 = .inr (3, [.ref x_123, .ref y_124, .int x1, .int v1_135]) := by rw [he_138]; exact up_self
              have hF_140 : F_137 h0 = .inr (2, [.ref ea, .int (nI cn)]) := by rw [he_138, up_ne (ne_ty hT_h0 ht_127 (by simp))]; exact hFd
              have hF_141 : F_137 g1 = .inr (0, [.ref r1, .int (nI z), .int 0]) := by rw [he_138, up_ne (ne_ty hT_g1 ht_127 (by simp))]; exact hFg
              have hF_142 : F_137 r1 = .inl (cs 16, n1, .inl f) := by rw [he_138, up_ne (ne_ty ht_110 ht_127 (by simp))]; exact hFr
              have hF_143 : F_137 ea = .inl (cs 21, 40, .inr (.inr (.inr (.inr f_119)))) := by rw [he_138, up_ne (ne_ty ht_2 ht_127 (by simp))]; exact hF_120
              refine lv_aload hx hb dX2_take_108 (lv_at hl 0 rfl) ?_
              refine lv_iload_n hx hb dX2_take_110 rfl (lv_at hl 5 rfl) ?_
              refine pg_putN (ci := 3) (v := .int x2) (ty := .int) (C := RX3) (T := TX3) (N := 4) hx hb hts it_3 tyX3 tyX3_ok nmX3 hown hK hP hD hS hi_126 hF_139 rfl 3 (by decide) (hE.nest kn_2) (fun _ h9 => h9) rfl (by decide +kernel) (rfl) (rfl) (Nat.le_of_ble_eq_true rfl) dX2_take_111 (fun H locs hP hD hS => ?_)
              obtain ⟨F_144, he_145, hP, hD, hO, hR⟩ : ∃ G, G = va_up F_137 b_122 (.inr (3, [.ref x_123, .ref y_124, .int x1, .int x2])) ∧ va_P (dC, dI) vwCl (va_pl L G) H ∧ va_D A (va_pl L G) ∧ OK cs ty L G ∧ FR ty [ρ, ρ + 1] F G := ⟨_, rfl, hP, hD, hO.up (sh.entry ht_127 ⟨x1, x2, rfl⟩), hR.up ht_127 (by simp)⟩
              have hF_146 : F_144 b_122 = .inr (3, [.ref x_123, .ref y_124, .int x1, .int x2]) := by rw [he_145]; exact up_self
              have hF_147 : F_144 h0 = .inr (2, [.ref ea, .int (nI cn)]) := by rw [he_145, up_ne (ne_ty hT_h0 ht_127 (by simp))]; exact hF_140
              have hF_148 : F_144 g1 = .inr (0, [.ref r1, .int (nI z), .int 0]) := by rw [he_145, up_ne (ne_ty hT_g1 ht_127 (by simp))]; exact hF_141
              have hF_149 : F_144 r1 = .inl (cs 16, n1, .inl f) := by rw [he_145, up_ne (ne_ty ht_110 ht_127 (by simp))]; exact hF_142
              have hF_150 : F_144 ea = .inl (cs 21, 40, .inr (.inr (.inr (.inr f_119)))) := by rw [he_145, up_ne (ne_ty ht_2 ht_127 (by simp))]; exact hF_143
              refine lv_aload hx hb dX2_take_114 (lv_at hl 0 rfl) ?_
              refine pg_getN (ci := 3) (v := .ref x_123) (C := RX3) (T := TX3) (N := 4) hx hb hts it_3 hown hK hP hi_126 hF_146 rfl 0 (by decide) (hE.nest kn_1) (fun _ h9 => h9) rfl dX2_take_116 ?_
              have hFc := pg_free hD hS hA
              obtain ⟨hi_151, ht_152, hq_153⟩ := hW.bytes hi_128 ht_131
              obtain ⟨z_154, o_155, hF_156, hq_157, hq_158⟩ := hO.bytes hi_128 ht_131
              refine va_callv (va_runV (As := []) (rest := []) ⟨hx, hb, hml, hown, hts⟩ (s_X0_clear l dC dI cs ty L H.size F_144 x_123 (ρ + 1) r_130 60 hW hi_128 ht_131) ⟨callB_of 0 hts (gi kt_32) rfl rfl rfl (hts _ kt_1) (hts _ kt_118) (by decide +kernel) ⟨Nat.le_of_ble_eq_true rfl, Nat.le_of_ble_eq_true rfl⟩, (hts _ kt_34), (hts _ kt_35)⟩ ⟨fun a U g mk q => ⟨q.1, PT.calling q.2⟩, pg_recv hK hP hi_128 hF_156 (q := (RX0, TX0, 3)) rfl, fun U hU hWm => ⟨rfl, PT.mk hU hWm hP hK hD hE hO⟩⟩ rfl rfl hl.1 rfl (lv_room (Nat.le_of_ble_eq_true rfl)) dX2_take_119 ⟨by show _ + 0 ≤ 0; omega, by show _ + 0 ≤ 0; omega⟩) hS (fun q _ h => hFc q h) hFc (fun u t H1 locs ht hvm hw hB hz1 hk1 hS => ?_)
              obtain ⟨F_160, hB1, hq_161⟩ := hB
              obtain ⟨hP, hD, hO, hR⟩ := QT.back hB1 ht hFc hR (fun q h => by simp only [List.mem_cons, List.not_mem_nil, or_false] at h ⊢; omega)
              have hF_162 : F_160 b_122 = .inr (3, [.ref x_123, .ref y_124, .int x1, .int x2]) := (hB1.2.2.2 b_122 (by rw [ht_127]; simp)).trans hF_146
              have hF_163 : F_160 h0 = .inr (2, [.ref ea, .int (nI cn)]) := (hB1.2.2.2 h0 (by rw [hT_h0]; simp)).trans hF_147
              have hF_164 : F_160 ea = .inl (cs 21, 40, .inr (.inr (.inr (.inr f_119)))) := (hB1.2.2.2 ea (by rw [ht_2]; simp)).trans hF_150
              generalize H1 = H at hP hS ⊢
              refine lv_aload hx hb dX2_take_122 (lv_at hl 0 rfl) ?_
              refine pg_getN (ci := 3) (v := .ref x_123) (C := RX3) (T := TX3) (N := 4) hx hb hts it_3 hown hK hP hi_126 hF_162 rfl 0 (by decide) (hE.nest kn_1) (fun _ h9 => h9) rfl dX2_take_124 ?_
              refine lv_aload_n hx hb dX2_take_127 rfl (lv_at hl 6 rfl) ?_
              refine lv_iconst (v := 0) hx hb dX2_take_128 (by decide) ?_
              refine lv_iload hx hb dX2_take_129 (lv_at hl 1 rfl) ?_
              have hFc := pg_free hD hS hA
              refine va_callv (va_runV (As := [.ref g1, .int 0, .int (nI z)]) (rest := []) ⟨hx, hb, hml, hown, hts⟩ (s_X0_addRange l dC dI cs ty L H.size F_160 x_123 (ρ + 1) r_130 60 g1 σ r1 n1 0 (nI z) hW hi_128 ht_131 hL_g1 hT_g1 (nI_pos (by omega))) ⟨callB_of 3 hts (gi kt_36) rfl rfl rfl (hts _ kt_1) (hts _ kt_119) (by decide +kernel) ⟨Nat.le_of_ble_eq_true rfl, Nat.le_of_ble_eq_true rfl⟩, (hts _ kt_38), (hts _ kt_39)⟩ ⟨fun a U g mk q => ⟨q.1, PT.calling q.2⟩, pg_recv hK hP hi_128 hq_161 (q := (RX0, TX0, 3)) rfl, fun U hU hWm => ⟨rfl, PT.mk hU hWm hP hK hD hE hO⟩⟩ rfl rfl hl.1 rfl (lv_room (Nat.le_of_ble_eq_true rfl)) dX2_take_131 ⟨by show _ + 0 ≤ 0; omega, by show _ + 0 ≤ 0; omega⟩) hS (fun q _ h => hFc q h) hFc (fun u t H1 locs ht hvm hw hB hz1 hk1 hS => ?_)
              obtain ⟨F_166, hB1⟩ := hB
              obtain ⟨hP, hD, hO, hR⟩ := QT.back hB1 ht hFc hR (fun q h => by simp only [List.mem_cons, List.not_mem_nil, or_false] at h ⊢; omega)
              have hF_167 : F_166 b_122 = .inr (3, [.ref x_123, .ref y_124, .int x1, .int x2]) := (hB1.2.2.2 b_122 (by rw [ht_127]; simp)).trans hF_162
              have hF_168 : F_166 h0 = .inr (2, [.ref ea, .int (nI cn)]) := (hB1.2.2.2 h0 (by rw [hT_h0]; simp)).trans hF_163
              have hF_169 : F_166 ea = .inl (cs 21, 40, .inr (.inr (.inr (.inr f_119)))) := (hB1.2.2.2 ea (by rw [ht_2]; simp)).trans hF_164
              generalize H1 = H at hP hS ⊢
              refine lv_aload hx hb dX2_take_134 (lv_at hl 0 rfl) ?_
              refine pg_getN (ci := 3) (v := .ref y_124) (C := RX3) (T := TX3) (N := 4) hx hb hts it_3 hown hK hP hi_126 hF_167 rfl 1 (by decide) (hE.nest kn_4) (fun _ h9 => h9) rfl dX2_take_136 ?_
              have hFc := pg_free hD hS hA
              obtain ⟨hi_170, ht_171, hq_172⟩ := hW.bytes hi_129 ht_133
              obtain ⟨z_173, o_174, hF_175, hq_176, hq_177⟩ := hO.bytes hi_129 ht_133
              refine va_callv (va_runV (As := []) (rest := []) ⟨hx, hb, hml, hown, hts⟩ (s_X0_clear l dC dI cs ty L H.size F_166 y_124 (ρ + 1) r_132 700 hW hi_129 ht_133) ⟨callB_of 0 hts (gi kt_32) rfl rfl rfl (hts _ kt_1) (hts _ kt_118) (by decide +kernel) ⟨Nat.le_of_ble_eq_true rfl, Nat.le_of_ble_eq_true rfl⟩, (hts _ kt_34), (hts _ kt_35)⟩ ⟨fun a U g mk q => ⟨q.1, PT.calling q.2⟩, pg_recv hK hP hi_129 hF_175 (q := (RX0, TX0, 3)) rfl, fun U hU hWm => ⟨rfl, PT.mk hU hWm hP hK hD hE hO⟩⟩ rfl rfl hl.1 rfl (lv_room (Nat.le_of_ble_eq_true rfl)) dX2_take_139 ⟨by show _ + 0 ≤ 0; omega, by show _ + 0 ≤ 0; omega⟩) hS (fun q _ h => hFc q h) hFc (fun u t H1 locs ht hvm hw hB hz1 hk1 hS => ?_)
              obtain ⟨F_179, hB1, hq_180⟩ := hB
              obtain ⟨hP, hD, hO, hR⟩ := QT.back hB1 ht hFc hR (fun q h => by simp only [List.mem_cons, List.not_mem_nil, or_false] at h ⊢; omega)
              have hF_181 : F_179 b_122 = .inr (3, [.ref x_123, .ref y_124, .int x1, .int x2]) := (hB1.2.2.2 b_122 (by rw [ht_127]; simp)).trans hF_167
              have hF_182 : F_179 h0 = .inr (2, [.ref ea, .int (nI cn)]) := (hB1.2.2.2 h0 (by rw [hT_h0]; simp)).trans hF_168
              have hF_183 : F_179 ea = .inl (cs 21, 40, .inr (.inr (.inr (.inr f_119)))) := (hB1.2.2.2 ea (by rw [ht_2]; simp)).trans hF_169
              generalize H1 = H at hP hS ⊢
              refine lv_aload hx hb dX2_take_142 (lv_at hl 0 rfl) ?_
              refine pg_getN (ci := 3) (v := .ref y_124) (C := RX3) (T := TX3) (N := 4) hx hb hts it_3 hown hK hP hi_126 hF_181 rfl 1 (by decide) (hE.nest kn_4) (fun _ h9 => h9) rfl dX2_take_144 ?_
              refine lv_aload_n hx hb dX2_take_147 rfl (lv_at hl 6 rfl) ?_
              refine lv_iload hx hb dX2_take_148 (lv_at hl 1 rfl) ?_
              refine lv_iconst (v := 1) hx hb dX2_take_150 (by decide) ?_
              refine lv_iadd hx hb dX2_take_151 ?_
              refine lv_topi (fun x_184 _ => ?_)
              refine lv_aload_n hx hb dX2_take_152 rfl (lv_at hl 6 rfl) ?_
              obtain ⟨z_185, o_186, hF_187, hq_188, hq_189⟩ := hO.bytes hL_g1 hT_g1
              refine pg_getN (ci := 0) (v := .int (nI z_185)) (C := RX0) (T := TX0) (N := 3) hx hb hts it_0 hown hK hP hL_g1 hF_187 rfl 1 (by decide) (hE.nest kn_3) (fun _ h9 => h9) rfl dX2_take_153 ?_
              have hFc := pg_free hD hS hA
              refine va_callv (va_runV (As := [.ref g1, .int x_184, .int (nI z_185)]) (rest := []) ⟨hx, hb, hml, hown, hts⟩ (s_X0_addRange l dC dI cs ty L H.size F_179 y_124 (ρ + 1) r_132 700 g1 σ r1 n1 x_184 (nI z_185) hW hi_129 ht_133 hL_g1 hT_g1 (nI_pos (by omega))) ⟨callB_of 3 hts (gi kt_36) rfl rfl rfl (hts _ kt_1) (hts _ kt_119) (by decide +kernel) ⟨Nat.le_of_ble_eq_true rfl, Nat.le_of_ble_eq_true rfl⟩, (hts _ kt_38), (hts _ kt_39)⟩ ⟨fun a U g mk q => ⟨q.1, PT.calling q.2⟩, pg_recv hK hP hi_129 hq_180 (q := (RX0, TX0, 3)) rfl, fun U hU hWm => ⟨rfl, PT.mk hU hWm hP hK hD hE hO⟩⟩ rfl rfl hl.1 rfl (lv_room (Nat.le_of_ble_eq_true rfl)) dX2_take_156 ⟨by show _ + 0 ≤ 0; omega, by show _ + 0 ≤ 0; omega⟩) hS (fun q _ h => hFc q h) hFc (fun u t H1 locs ht hvm hw hB hz1 hk1 hS => ?_)
              obtain ⟨F_191, hB1⟩ := hB
              obtain ⟨hP, hD, hO, hR⟩ := QT.back hB1 ht hFc hR (fun q h => by simp only [List.mem_cons, List.not_mem_nil, or_false] at h ⊢; omega)
              have hF_192 : F_191 b_122 = .inr (3, [.ref x_123, .ref y_124, .int x1, .int x2]) := (hB1.2.2.2 b_122 (by rw [ht_127]; simp)).trans hF_181
              have hF_193 : F_191 h0 = .inr (2, [.ref ea, .int (nI cn)]) := (hB1.2.2.2 h0 (by rw [hT_h0]; simp)).trans hF_182
              have hF_194 : F_191 ea = .inl (cs 21, 40, .inr (.inr (.inr (.inr f_119)))) := (hB1.2.2.2 ea (by rw [ht_2]; simp)).trans hF_183
              generalize H1 = H at hP hS ⊢
              refine lv_aload_n hx hb dX2_take_159 rfl (lv_at hl 3 rfl) ?_
              refine lv_dup hx hb dX2_take_160 rfl ?_
              refine pg_get (ci := 2) (v := .int (nI cn)) (C := RX2) (T := TX2) (N := 2) hx hb hts it_2 hown hK hP hL_h0 hF_193 rfl 1 (by decide) (hts _ kt_83) (fun _ h9 => h9) rfl dX2_take_161 ?_
              refine lv_iconst (v := 1) hx hb dX2_take_164 (by decide) ?_
              refine lv_iadd hx hb dX2_take_165 ?_
              refine lv_topi (fun x_195 ex_195 => ?_)
              obtain rfl : x_195 = (nI (cn + 1)) := ex_195.trans (nI_1 cn)
              refine pg_put (ci := 2) (v := .int (nI (cn + 1))) (ty := .int) (C := RX2) (T := TX2) (N := 2) hx hb hts it_2 tyX2 tyX2_ok nmX2 hown hK hP hD hS hL_h0 hF_193 rfl 1 (by decide) (hts _ kt_83) (fun _ h9 => h9) rfl (by decide +kernel) (rfl) (rfl) (Nat.le_of_ble_eq_true rfl) dX2_take_166 (fun H locs hP hD hS => ?_)
              obtain ⟨F_196, he_197, hP, hD, hO, hR⟩ : ∃ G, G = va_up F_191 h0 (.inr (2, [.ref ea, .int (nI (cn + 1))])) ∧ va_P (dC, dI) vwCl (va_pl L G) H ∧ va_D A (va_pl L G) ∧ OK cs ty L G ∧ FR ty [ρ, ρ + 1] F G := ⟨_, rfl, hP, hD, hO.up (sh.dir hT_h0 ⟨(cn + 1), rfl, (by first | omega | assumption | exact Or.inl rfl | exact Or.inr rfl)⟩), hR.up hT_h0 (by simp)⟩
              have hF_198 : F_196 h0 = .inr (2, [.ref ea, .int (nI (cn + 1))]) := by rw [he_197]; exact up_self
              have hF_199 : F_196 b_122 = .inr (3, [.ref x_123, .ref y_124, .int x1, .int x2]) := by rw [he_197, up_ne (ne_ty ht_127 hT_h0 (by simp))]; exact hF_192
              have hF_200 : F_196 ea = .inl (cs 21, 40, .inr (.inr (.inr (.inr f_119)))) := by rw [he_197, up_ne (ne_ty ht_2 hT_h0 (by simp))]; exact hF_194
              refine lv_aload_n hx hb dX2_take_169 rfl (lv_at hl 3 rfl) ?_
              refine pg_get (ci := 2) (v := .int (nI (cn + 1))) (C := RX2) (T := TX2) (N := 2) hx hb hts it_2 hown hK hP hL_h0 hF_198 rfl 1 (by decide) (hts _ kt_83) (fun _ h9 => h9) rfl dX2_take_170 ?_
              refine W.widen (k := 0) (n := 0) (by omega) (by omega) ?_
              exact W.iret (v := (nI (cn + 1))) hx hb hr (fun t ht hWm => ⟨⟨(nI (cn + 1)), (cn + 1), rfl, (Or.inr (Or.inr ⟨hc40, val_y1 c_112 c_113 (fun q => q.elim c_5 c_107) (ifb1 hw_116 c_117), rfl, rfl⟩)), ⟨F_196, QT.mk ht hP hD hO hR, hF_198⟩⟩, hS.F ht⟩) hS.2.2 dX2_take_173
            ·
              refine lv_iconst (v := (-1)) hx hb dX2_take_72 (by decide) ?_
              refine W.widen (k := 0) (n := 0) (by omega) (by omega) ?_
              exact W.iret (v := (-1)) hx hb hr (fun t ht hWm => ⟨⟨(-1), cn, rfl, (Or.inr (Or.inl ⟨hc40, val_nz (fun q => q.elim c_5 c_107) (ifb0 hw_116 c_117), rfl, rfl⟩)), ⟨F, QT.mk ht hP hD hO hR, hFd⟩⟩, hS.F ht⟩) hS.2.2 dX2_take_73
      ·
        refine lv_iconst (v := 1) hx hb dX2_take_21 (by decide) ?_
        refine lv_goto (tgt := 26) hx hb dX2_take_22 (by decide) ?_
        refine lv_istore (lv' := [(4, .int 1), (0, .ref h0), (1, .int x1), (2, .int x2), (3, .ref g1)]) hx hb dX2_take_26 hl (by decide) rfl (fun ls hl => ?_)
        refine lv_iload hx hb dX2_take_28 (lv_at hl 0 rfl) ?_
        refine lv_if_eq (tgt := 47) hx hb dX2_take_30 (by decide) (fun c_201 => absurd c_201 (by decide)) (fun c_201 => ?_)
        refine lv_aload_n hx hb dX2_take_33 rfl (lv_at hl 4 rfl) ?_
        refine lv_bipush (v := 32) hx hb dX2_take_34 (by decide) ?_
        refine lv_iconst (v := 0) hx hb dX2_take_36 (by decide) ?_
        refine lv_aload_n hx hb dX2_take_37 rfl (lv_at hl 4 rfl) ?_
        obtain ⟨hi_202, ht_203, hq_204⟩ := hW.bytes hL_g1 hT_g1
        refine pg_getN (ci := 0) (v := .int (nI z)) (C := RX0) (T := TX0) (N := 3) hx hb hts it_0 hown hK hP hL_g1 hFg rfl 1 (by decide) (hE.nest kn_3) (fun _ h9 => h9) rfl dX2_take_38 ?_
        have hFc := pg_free hD hS hA
        refine va_calli (va_runV (As := [.int 32, .int 0, .int (nI z)]) (rest := []) ⟨hx, hb, hml, hown, hts⟩ (s_X0_find_e l dC dI cs ty L s.heap.size F g1 σ r1 n1 z z f 32 hW hL_g1 hT_g1 hFg hFr (by omega) (by omega) (by omega)) ⟨callB_of 3 hts (gi kt_123) rfl rfl rfl (hts _ kt_1) (hts _ kt_124) (by decide +kernel) ⟨Nat.le_of_ble_eq_true rfl, Nat.le_of_ble_eq_true rfl⟩, (hts _ kt_125), (hts _ kt_126)⟩ ⟨fun a U g mk q => ⟨q.1, PT.calling q.2⟩, pg_recv hK hP hL_g1 hFg (q := (RX0, TX0, 3)) rfl, fun U hU hWm => ⟨rfl, PT.mk hU hWm hP hK hD hE hO⟩⟩ rfl rfl hl.1 rfl (lv_room (Nat.le_of_ble_eq_true rfl)) dX2_take_41 ⟨by show _ + 0 ≤ 0; omega, by show _ + 0 ≤ 0; omega⟩) hS (fun q _ h => hFc q h) hFc (fun r_205 u t H1 locs ht hvm hw hB hz1 hk1 hS => ?_)
        obtain ⟨F_206, hB1⟩ := hB
        obtain rfl : F = F_206 := (funext (fun a => hB1.2.2.2 a List.not_mem_nil)).symm
        obtain ⟨hP, hD, hO, hR⟩ := QT.back hB1 ht hFc hR (fun q h => absurd h List.not_mem_nil)
        generalize H1 = H at hP hS ⊢
        have hw : (∃ k : Nat, k ≤ z ∧ r_205 = nI k ∧ (∀ j, j < k → ¬ f j = 32) ∧ (k = z ∨ f k = 32)) := hw
        have hw_207 := hw
        obtain ⟨k_208, h1k_208, h2k_208, h3k_208, h4k_208⟩ := hw_207
        subst h2k_208
        have hfs : FST f 32 z k_208 := ⟨h1k_208, h3k_208, h4k_208⟩
        refine lv_goto (tgt := 51) hx hb dX2_take_44 (by decide) ?_
        refine lv_istore (lv' := [(5, .int (nI k_208)), (4, .int 1), (0, .ref h0), (1, .int x1), (2, .int x2), (3, .ref g1)]) hx hb dX2_take_51 hl (by decide) rfl (fun ls hl => ?_)
        refine lv_iload_n hx hb dX2_take_53 rfl (lv_at hl 3 rfl) ?_
        refine lv_if_lt (tgt := 72) hx hb dX2_take_54 (by decide) (fun c_209 => ?_) (fun c_209 => ?_)
        ·
          refine lv_iconst (v := (-1)) hx hb dX2_take_72 (by decide) ?_
          refine W.widen (k := 0) (n := 0) (by omega) (by omega) ?_
          exact W.iret (v := (-1)) hx hb hr (fun t ht hWm => ⟨⟨(-1), cn, rfl, (Or.inr (Or.inl ⟨hc40, val_n1 c_209, rfl, rfl⟩)), ⟨F, QT.mk ht hP hD hO hR, hFd⟩⟩, hS.F ht⟩) hS.2.2 dX2_take_73
        ·
          refine lv_iload_n hx hb dX2_take_57 rfl (lv_at hl 3 rfl) ?_
          refine lv_iconst (v := 4) hx hb dX2_take_58 (by decide) ?_
          refine lv_icmp_gt (tgt := 72) hx hb dX2_take_59 (by decide) (fun c_210 => ?_) (fun c_210 => ?_)
          ·
            refine lv_iconst (v := (-1)) hx hb dX2_take_72 (by decide) ?_
            refine W.widen (k := 0) (n := 0) (by omega) (by omega) ?_
            exact W.iret (v := (-1)) hx hb hr (fun t ht hWm => ⟨⟨(-1), cn, rfl, (Or.inr (Or.inl ⟨hc40, val_n2 c_210, rfl, rfl⟩)), ⟨F, QT.mk ht hP hD hO hR, hFd⟩⟩, hS.F ht⟩) hS.2.2 dX2_take_73
          ·
            refine lv_aload_n hx hb dX2_take_62 rfl (lv_at hl 5 rfl) ?_
            refine lv_iconst (v := 0) hx hb dX2_take_63 (by decide) ?_
            refine lv_iload hx hb dX2_take_64 (lv_at hl 0 rfl) ?_
            refine W.eq (g2 := F0 m 66 ls [.int (nI k_208), .int (nI 0), .ref g1]) rfl ?_
            have hFc := pg_free hD hS hA
            refine va_calli (va_runV (As := [.int (nI 0), .int (nI k_208)]) (rest := []) ⟨hx, hb, hml, hown, hts⟩ (s_X0_isName_e l dC dI cs ty L H.size F g1 σ r1 n1 z 0 k_208 f hW hL_g1 hT_g1 hFg hFr (by omega) (by omega) (by omega) (by omega)) ⟨callB_of 2 hts (gi kt_108) rfl rfl rfl (hts _ kt_1) (hts _ kt_109) (by decide +kernel) ⟨Nat.le_of_ble_eq_true rfl, Nat.le_of_ble_eq_true rfl⟩, (hts _ kt_110), (hts _ kt_111)⟩ ⟨fun a U g mk q => ⟨q.1, PT.calling q.2⟩, pg_recv hK hP hL_g1 hFg (q := (RX0, TX0, 3)) rfl, fun U hU hWm => ⟨rfl, PT.mk hU hWm hP hK hD hE hO⟩⟩ rfl rfl hl.1 rfl (lv_room (Nat.le_of_ble_eq_true rfl)) dX2_take_66 ⟨by show _ + 0 ≤ 0; omega, by show _ + 0 ≤ 0; omega⟩) hS (fun q _ h => hFc q h) hFc (fun r_211 u t H1 locs ht hvm hw hB hz1 hk1 hS => ?_)
            obtain ⟨F_212, hB1⟩ := hB
            obtain rfl : F = F_212 := (funext (fun a => hB1.2.2.2 a List.not_mem_nil)).symm
            obtain ⟨hP, hD, hO, hR⟩ := QT.back hB1 ht hFc hR (fun q h => absurd h List.not_mem_nil)
            generalize H1 = H at hP hS ⊢
            have hw : r_211 = (if NM f 0 k_208 = true then 1 else 0) := hw
            have hw_213 := hw
            refine lv_if_ne (tgt := 74) hx hb dX2_take_69 (by decide) (fun c_214 => ?_) (fun c_214 => ?_)
            ·
              refine lv_iload hx hb dX2_take_74 (lv_at hl 1 rfl) ?_
              refine lv_if_eq (tgt := 91) hx hb dX2_take_76 (by decide) (fun c_215 => absurd c_215 (by decide)) (fun c_215 => ?_)
              refine lv_iload_n hx hb dX2_take_79 rfl (lv_at hl 3 rfl) ?_
              refine lv_aload_n hx hb dX2_take_80 rfl (lv_at hl 5 rfl) ?_
              refine lv_iload hx hb dX2_take_81 (lv_at hl 0 rfl) ?_
              have hFc := pg_free hD hS hA
              refine va_calli (va_runS (As := [.int x1, .ref g1, .int (nI k_208)]) (rest := []) ⟨hx, hb, hml, hown, hts⟩ (s_X2_isValue_e l dC dI cs ty L H.size F g1 σ r1 n1 z k_208 f x1 hW hL_g1 hT_g1 hFg hFr (by omega) (by omega) (by omega)) ⟨callB_of 3 hts (gi kt_120) rfl rfl rfl (hts _ kt_103) (hts _ kt_121) (by decide +kernel) ⟨Nat.le_of_ble_eq_true rfl, Nat.le_of_ble_eq_true rfl⟩, (hts _ kt_122)⟩ ⟨fun a U g mk q => ⟨q.1, PT.calling q.2⟩, fun U hU hWm => ⟨rfl, PT.mk hU hWm hP hK hD hE hO⟩⟩ rfl rfl hl.1 rfl (lv_room (Nat.le_of_ble_eq_true rfl)) dX2_take_83 ⟨by show _ + 0 ≤ 0; omega, by show _ + 0 ≤ 0; omega⟩) hS (fun q _ h => hFc q h) hFc (fun r_216 u t H1 locs ht hvm hw hB hz1 hk1 hS => ?_)
              obtain ⟨F_217, hB1⟩ := hB
              obtain rfl : F = F_217 := (funext (fun a => hB1.2.2.2 a List.not_mem_nil)).symm
              obtain ⟨hP, hD, hO, hR⟩ := QT.back hB1 ht hFc hR (fun q h => absurd h List.not_mem_nil)
              generalize H1 = H at hP hS ⊢
              have hw : (r_216 = 1 ∧ ISV x1 f z k_208) ∨ (r_216 = 0 ∧ ¬ ISV x1 f z k_208) := hw
              have hw_218 := hw
              refine lv_if_ne (tgt := 91) hx hb dX2_take_86 (by decide) (fun c_219 => ?_) (fun c_219 => ?_)
              ·
                refine lv_aload_n hx hb dX2_take_91 rfl (lv_at hl 2 rfl) ?_
                refine pg_get (ci := 2) (v := .ref ea) (C := RX2) (T := TX2) (N := 2) hx hb hts it_2 hown hK hP hL_h0 hFd rfl 0 (by decide) (hts _ kt_84) (fun _ h9 => h9) rfl dX2_take_92 ?_
                refine lv_aload_n hx hb dX2_take_95 rfl (lv_at hl 2 rfl) ?_
                refine pg_get (ci := 2) (v := .int (nI cn)) (C := RX2) (T := TX2) (N := 2) hx hb hts it_2 hown hK hP hL_h0 hFd rfl 1 (by decide) (hts _ kt_83) (fun _ h9 => h9) rfl dX2_take_96 ?_
                obtain ⟨f_220, hF_221, hq_222⟩ := hO.rentry hi_1 ht_2
                obtain ⟨b_223, x_224, y_225, hbf_226, hi_227, ht_228⟩ := hq_222 cn (by omega)
                refine pg_aald (r := b_223) hx hb hK hP hi_1 5 hF_221 rfl (vp_in_nI (by omega) (by omega)) (show f_220 ((nI cn) : Int32).toNatClampNeg = _ from by rw [show ((nI cn) : Int32) = nI cn from rfl, nI_clamp (by omega)]; exact hbf_226) dX2_take_99 ?_
                refine lv_astore (lv' := [(6, .ref b_223), (5, .int (nI k_208)), (4, .int 1), (0, .ref h0), (1, .int x1), (2, .int x2), (3, .ref g1)]) hx hb dX2_take_100 hl (by decide) rfl (fun ls hl => ?_)
                refine lv_aload hx hb dX2_take_102 (lv_at hl 0 rfl) ?_
                refine lv_iload_n hx hb dX2_take_104 rfl (lv_at hl 4 rfl) ?_
                obtain ⟨hi_229, hi_230, ⟨r_231, ht_232⟩, ⟨r_233, ht_234⟩⟩ := hW.entry hi_227 ht_228
                obtain ⟨v0_235, v1_236, hF_237⟩ := hO.entry hi_227 ht_228
                refine pg_putN (ci := 3) (v := .int x1) (ty := .int) (C := RX3) (T := TX3) (N := 4) hx hb hts it_3 tyX3 tyX3_ok nmX3 hown hK hP hD hS hi_227 hF_237 rfl 2 (by decide) (hE.nest kn_0) (fun _ h9 => h9) rfl (by decide +kernel) (rfl) (rfl) (Nat.le_of_ble_eq_true rfl) dX2_take_105 (fun H locs hP hD hS => ?_)
                obtain ⟨F_238, he_239, hP, hD, hO, hR⟩ : ∃ G, G = va_up F b_223 (.inr (3, [.ref x_224, .ref y_225, .int x1, .int v1_236])) ∧ va_P (dC, dI) vwCl (va_pl L G) H ∧ va_D A (va_pl L G) ∧ OK cs ty L G ∧ FR ty [ρ, ρ + 1] F G := ⟨_, rfl, hP, hD, hO.up (sh.entry ht_228 ⟨x1, v1_236, rfl⟩), hR.up ht_228 (by simp)⟩
                have hF_240 : F_238 b_223 = .inr (3, [.ref x_224, .ref y_225, .int x1, .int v1_236]) := by rw [he_239]; exact up_self
                have hF_241 : F_238 h0 = .inr (2, [.ref ea, .int (nI cn)]) := by rw [he_239, up_ne (ne_ty hT_h0 ht_228 (by simp))]; exact hFd
                have hF_242 : F_238 g1 = .inr (0, [.ref r1, .int (nI z), .int 0]) := by rw [he_239, up_ne (ne_ty hT_g1 ht_228 (by simp))]; exact hFg
                have hF_243 : F_238 r1 = .inl (cs 16, n1, .inl f) := by rw [he_239, up_ne (ne_ty ht_203 ht_228 (by simp))]; exact hFr
                have hF_244 : F_238 ea = .inl (cs 21, 40, .inr (.inr (.inr (.inr f_220)))) := by rw [he_239, up_ne (ne_ty ht_2 ht_228 (by simp))]; exact hF_221
                refine lv_aload hx hb dX2_take_108 (lv_at hl 0 rfl) ?_
                refine lv_iload_n hx hb dX2_take_110 rfl (lv_at hl 5 rfl) ?_
                refine pg_putN (ci := 3) (v := .int x2) (ty := .int) (C := RX3) (T := TX3) (N := 4) hx hb hts it_3 tyX3 tyX3_ok nmX3 hown hK hP hD hS hi_227 hF_240 rfl 3 (by decide) (hE.nest kn_2) (fun _ h9 => h9) rfl (by decide +kernel) (rfl) (rfl) (Nat.le_of_ble_eq_true rfl) dX2_take_111 (fun H locs hP hD hS => ?_)
                obtain ⟨F_245, he_246, hP, hD, hO, hR⟩ : ∃ G, G = va_up F_238 b_223 (.inr (3, [.ref x_224, .ref y_225, .int x1, .int x2])) ∧ va_P (dC, dI) vwCl (va_pl L G) H ∧ va_D A (va_pl L G) ∧ OK cs ty L G ∧ FR ty [ρ, ρ + 1] F G := ⟨_, rfl, hP, hD, hO.up (sh.entry ht_228 ⟨x1, x2, rfl⟩), hR.up ht_228 (by simp)⟩
                have hF_247 : F_245 b_223 = .inr (3, [.ref x_224, .ref y_225, .int x1, .int x2]) := by rw [he_246]; exact up_self
                have hF_248 : F_245 h0 = .inr (2, [.ref ea, .int (nI cn)]) := by rw [he_246, up_ne (ne_ty hT_h0 ht_228 (by simp))]; exact hF_241
                have hF_249 : F_245 g1 = .inr (0, [.ref r1, .int (nI z), .int 0]) := by rw [he_246, up_ne (ne_ty hT_g1 ht_228 (by simp))]; exact hF_242
                have hF_250 : F_245 r1 = .inl (cs 16, n1, .inl f) := by rw [he_246, up_ne (ne_ty ht_203 ht_228 (by simp))]; exact hF_243
                have hF_251 : F_245 ea = .inl (cs 21, 40, .inr (.inr (.inr (.inr f_220)))) := by rw [he_246, up_ne (ne_ty ht_2 ht_228 (by simp))]; exact hF_244
                refine lv_aload hx hb dX2_take_114 (lv_at hl 0 rfl) ?_
                refine pg_getN (ci := 3) (v := .ref x_224) (C := RX3) (T := TX3) (N := 4) hx hb hts it_3 hown hK hP hi_227 hF_247 rfl 0 (by decide) (hE.nest kn_1) (fun _ h9 => h9) rfl dX2_take_116 ?_
                have hFc := pg_free hD hS hA
                obtain ⟨hi_252, ht_253, hq_254⟩ := hW.bytes hi_229 ht_232
                obtain ⟨z_255, o_256, hF_257, hq_258, hq_259⟩ := hO.bytes hi_229 ht_232
                refine va_callv (va_runV (As := []) (rest := []) ⟨hx, hb, hml, hown, hts⟩ (s_X0_clear l dC dI cs ty L H.size F_245 x_224 (ρ + 1) r_231 60 hW hi_229 ht_232) ⟨callB_of 0 hts (gi kt_32) rfl rfl rfl (hts _ kt_1) (hts _ kt_118) (by decide +kernel) ⟨Nat.le_of_ble_eq_true rfl, Nat.le_of_ble_eq_true rfl⟩, (hts _ kt_34), (hts _ kt_35)⟩ ⟨fun a U g mk q => ⟨q.1, PT.calling q.2⟩, pg_recv hK hP hi_229 hF_257 (q := (RX0, TX0, 3)) rfl, fun U hU hWm => ⟨rfl, PT.mk hU hWm hP hK hD hE hO⟩⟩ rfl rfl hl.1 rfl (lv_room (Nat.le_of_ble_eq_true rfl)) dX2_take_119 ⟨by show _ + 0 ≤ 0; omega, by show _ + 0 ≤ 0; omega⟩) hS (fun q _ h => hFc q h) hFc (fun u t H1 locs ht hvm hw hB hz1 hk1 hS => ?_)
                obtain ⟨F_261, hB1, hq_262⟩ := hB
                obtain ⟨hP, hD, hO, hR⟩ := QT.back hB1 ht hFc hR (fun q h => by simp only [List.mem_cons, List.not_mem_nil, or_false] at h ⊢; omega)
                have hF_263 : F_261 b_223 = .inr (3, [.ref x_224, .ref y_225, .int x1, .int x2]) := (hB1.2.2.2 b_223 (by rw [ht_228]; simp)).trans hF_247
                have hF_264 : F_261 h0 = .inr (2, [.ref ea, .int (nI cn)]) := (hB1.2.2.2 h0 (by rw [hT_h0]; simp)).trans hF_248
                have hF_265 : F_261 ea = .inl (cs 21, 40, .inr (.inr (.inr (.inr f_220)))) := (hB1.2.2.2 ea (by rw [ht_2]; simp)).trans hF_251
                generalize H1 = H at hP hS ⊢
                refine lv_aload hx hb dX2_take_122 (lv_at hl 0 rfl) ?_
                refine pg_getN (ci := 3) (v := .ref x_224) (C := RX3) (T := TX3) (N := 4) hx hb hts it_3 hown hK hP hi_227 hF_263 rfl 0 (by decide) (hE.nest kn_1) (fun _ h9 => h9) rfl dX2_take_124 ?_
                refine lv_aload_n hx hb dX2_take_127 rfl (lv_at hl 6 rfl) ?_
                refine lv_iconst (v := 0) hx hb dX2_take_128 (by decide) ?_
                refine lv_iload hx hb dX2_take_129 (lv_at hl 1 rfl) ?_
                have hFc := pg_free hD hS hA
                refine va_callv (va_runV (As := [.ref g1, .int 0, .int (nI k_208)]) (rest := []) ⟨hx, hb, hml, hown, hts⟩ (s_X0_addRange l dC dI cs ty L H.size F_261 x_224 (ρ + 1) r_231 60 g1 σ r1 n1 0 (nI k_208) hW hi_229 ht_232 hL_g1 hT_g1 (nI_pos (by omega))) ⟨callB_of 3 hts (gi kt_36) rfl rfl rfl (hts _ kt_1) (hts _ kt_119) (by decide +kernel) ⟨Nat.le_of_ble_eq_true rfl, Nat.le_of_ble_eq_true rfl⟩, (hts _ kt_38), (hts _ kt_39)⟩ ⟨fun a U g mk q => ⟨q.1, PT.calling q.2⟩, pg_recv hK hP hi_229 hq_262 (q := (RX0, TX0, 3)) rfl, fun U hU hWm => ⟨rfl, PT.mk hU hWm hP hK hD hE hO⟩⟩ rfl rfl hl.1 rfl (lv_room (Nat.le_of_ble_eq_true rfl)) dX2_take_131 ⟨by show _ + 0 ≤ 0; omega, by show _ + 0 ≤ 0; omega⟩) hS (fun q _ h => hFc q h) hFc (fun u t H1 locs ht hvm hw hB hz1 hk1 hS => ?_)
                obtain ⟨F_267, hB1⟩ := hB
                obtain ⟨hP, hD, hO, hR⟩ := QT.back hB1 ht hFc hR (fun q h => by simp only [List.mem_cons, List.not_mem_nil, or_false] at h ⊢; omega)
                have hF_268 : F_267 b_223 = .inr (3, [.ref x_224, .ref y_225, .int x1, .int x2]) := (hB1.2.2.2 b_223 (by rw [ht_228]; simp)).trans hF_263
                have hF_269 : F_267 h0 = .inr (2, [.ref ea, .int (nI cn)]) := (hB1.2.2.2 h0 (by rw [hT_h0]; simp)).trans hF_264
                have hF_270 : F_267 ea = .inl (cs 21, 40, .inr (.inr (.inr (.inr f_220)))) := (hB1.2.2.2 ea (by rw [ht_2]; simp)).trans hF_265
                generalize H1 = H at hP hS ⊢
                refine lv_aload hx hb dX2_take_134 (lv_at hl 0 rfl) ?_
                refine pg_getN (ci := 3) (v := .ref y_225) (C := RX3) (T := TX3) (N := 4) hx hb hts it_3 hown hK hP hi_227 hF_268 rfl 1 (by decide) (hE.nest kn_4) (fun _ h9 => h9) rfl dX2_take_136 ?_
                have hFc := pg_free hD hS hA
                obtain ⟨hi_271, ht_272, hq_273⟩ := hW.bytes hi_230 ht_234
                obtain ⟨z_274, o_275, hF_276, hq_277, hq_278⟩ := hO.bytes hi_230 ht_234
                refine va_callv (va_runV (As := []) (rest := []) ⟨hx, hb, hml, hown, hts⟩ (s_X0_clear l dC dI cs ty L H.size F_267 y_225 (ρ + 1) r_233 700 hW hi_230 ht_234) ⟨callB_of 0 hts (gi kt_32) rfl rfl rfl (hts _ kt_1) (hts _ kt_118) (by decide +kernel) ⟨Nat.le_of_ble_eq_true rfl, Nat.le_of_ble_eq_true rfl⟩, (hts _ kt_34), (hts _ kt_35)⟩ ⟨fun a U g mk q => ⟨q.1, PT.calling q.2⟩, pg_recv hK hP hi_230 hF_276 (q := (RX0, TX0, 3)) rfl, fun U hU hWm => ⟨rfl, PT.mk hU hWm hP hK hD hE hO⟩⟩ rfl rfl hl.1 rfl (lv_room (Nat.le_of_ble_eq_true rfl)) dX2_take_139 ⟨by show _ + 0 ≤ 0; omega, by show _ + 0 ≤ 0; omega⟩) hS (fun q _ h => hFc q h) hFc (fun u t H1 locs ht hvm hw hB hz1 hk1 hS => ?_)
                obtain ⟨F_280, hB1, hq_281⟩ := hB
                obtain ⟨hP, hD, hO, hR⟩ := QT.back hB1 ht hFc hR (fun q h => by simp only [List.mem_cons, List.not_mem_nil, or_false] at h ⊢; omega)
                have hF_282 : F_280 b_223 = .inr (3, [.ref x_224, .ref y_225, .int x1, .int x2]) := (hB1.2.2.2 b_223 (by rw [ht_228]; simp)).trans hF_268
                have hF_283 : F_280 h0 = .inr (2, [.ref ea, .int (nI cn)]) := (hB1.2.2.2 h0 (by rw [hT_h0]; simp)).trans hF_269
                have hF_284 : F_280 ea = .inl (cs 21, 40, .inr (.inr (.inr (.inr f_220)))) := (hB1.2.2.2 ea (by rw [ht_2]; simp)).trans hF_270
                generalize H1 = H at hP hS ⊢
                refine lv_aload hx hb dX2_take_142 (lv_at hl 0 rfl) ?_
                refine pg_getN (ci := 3) (v := .ref y_225) (C := RX3) (T := TX3) (N := 4) hx hb hts it_3 hown hK hP hi_227 hF_282 rfl 1 (by decide) (hE.nest kn_4) (fun _ h9 => h9) rfl dX2_take_144 ?_
                refine lv_aload_n hx hb dX2_take_147 rfl (lv_at hl 6 rfl) ?_
                refine lv_iload hx hb dX2_take_148 (lv_at hl 1 rfl) ?_
                refine lv_iconst (v := 1) hx hb dX2_take_150 (by decide) ?_
                refine lv_iadd hx hb dX2_take_151 ?_
                refine lv_topi (fun x_285 _ => ?_)
                refine lv_aload_n hx hb dX2_take_152 rfl (lv_at hl 6 rfl) ?_
                obtain ⟨z_286, o_287, hF_288, hq_289, hq_290⟩ := hO.bytes hL_g1 hT_g1
                refine pg_getN (ci := 0) (v := .int (nI z_286)) (C := RX0) (T := TX0) (N := 3) hx hb hts it_0 hown hK hP hL_g1 hF_288 rfl 1 (by decide) (hE.nest kn_3) (fun _ h9 => h9) rfl dX2_take_153 ?_
                have hFc := pg_free hD hS hA
                refine va_callv (va_runV (As := [.ref g1, .int x_285, .int (nI z_286)]) (rest := []) ⟨hx, hb, hml, hown, hts⟩ (s_X0_addRange l dC dI cs ty L H.size F_280 y_225 (ρ + 1) r_233 700 g1 σ r1 n1 x_285 (nI z_286) hW hi_230 ht_234 hL_g1 hT_g1 (nI_pos (by omega))) ⟨callB_of 3 hts (gi kt_36) rfl rfl rfl (hts _ kt_1) (hts _ kt_119) (by decide +kernel) ⟨Nat.le_of_ble_eq_true rfl, Nat.le_of_ble_eq_true rfl⟩, (hts _ kt_38), (hts _ kt_39)⟩ ⟨fun a U g mk q => ⟨q.1, PT.calling q.2⟩, pg_recv hK hP hi_230 hq_281 (q := (RX0, TX0, 3)) rfl, fun U hU hWm => ⟨rfl, PT.mk hU hWm hP hK hD hE hO⟩⟩ rfl rfl hl.1 rfl (lv_room (Nat.le_of_ble_eq_true rfl)) dX2_take_156 ⟨by show _ + 0 ≤ 0; omega, by show _ + 0 ≤ 0; omega⟩) hS (fun q _ h => hFc q h) hFc (fun u t H1 locs ht hvm hw hB hz1 hk1 hS => ?_)
                obtain ⟨F_292, hB1⟩ := hB
                obtain ⟨hP, hD, hO, hR⟩ := QT.back hB1 ht hFc hR (fun q h => by simp only [List.mem_cons, List.not_mem_nil, or_false] at h ⊢; omega)
                have hF_293 : F_292 b_223 = .inr (3, [.ref x_224, .ref y_225, .int x1, .int x2]) := (hB1.2.2.2 b_223 (by rw [ht_228]; simp)).trans hF_282
                have hF_294 : F_292 h0 = .inr (2, [.ref ea, .int (nI cn)]) := (hB1.2.2.2 h0 (by rw [hT_h0]; simp)).trans hF_283
                have hF_295 : F_292 ea = .inl (cs 21, 40, .inr (.inr (.inr (.inr f_220)))) := (hB1.2.2.2 ea (by rw [ht_2]; simp)).trans hF_284
                generalize H1 = H at hP hS ⊢
                refine lv_aload_n hx hb dX2_take_159 rfl (lv_at hl 3 rfl) ?_
                refine lv_dup hx hb dX2_take_160 rfl ?_
                refine pg_get (ci := 2) (v := .int (nI cn)) (C := RX2) (T := TX2) (N := 2) hx hb hts it_2 hown hK hP hL_h0 hF_294 rfl 1 (by decide) (hts _ kt_83) (fun _ h9 => h9) rfl dX2_take_161 ?_
                refine lv_iconst (v := 1) hx hb dX2_take_164 (by decide) ?_
                refine lv_iadd hx hb dX2_take_165 ?_
                refine lv_topi (fun x_296 ex_296 => ?_)
                obtain rfl : x_296 = (nI (cn + 1)) := ex_296.trans (nI_1 cn)
                refine pg_put (ci := 2) (v := .int (nI (cn + 1))) (ty := .int) (C := RX2) (T := TX2) (N := 2) hx hb hts it_2 tyX2 tyX2_ok nmX2 hown hK hP hD hS hL_h0 hF_294 rfl 1 (by decide) (hts _ kt_83) (fun _ h9 => h9) rfl (by decide +kernel) (rfl) (rfl) (Nat.le_of_ble_eq_true rfl) dX2_take_166 (fun H locs hP hD hS => ?_)
                obtain ⟨F_297, he_298, hP, hD, hO, hR⟩ : ∃ G, G = va_up F_292 h0 (.inr (2, [.ref ea, .int (nI (cn + 1))])) ∧ va_P (dC, dI) vwCl (va_pl L G) H ∧ va_D A (va_pl L G) ∧ OK cs ty L G ∧ FR ty [ρ, ρ + 1] F G := ⟨_, rfl, hP, hD, hO.up (sh.dir hT_h0 ⟨(cn + 1), rfl, (by first | omega | assumption | exact Or.inl rfl | exact Or.inr rfl)⟩), hR.up hT_h0 (by simp)⟩
                have hF_299 : F_297 h0 = .inr (2, [.ref ea, .int (nI (cn + 1))]) := by rw [he_298]; exact up_self
                have hF_300 : F_297 b_223 = .inr (3, [.ref x_224, .ref y_225, .int x1, .int x2]) := by rw [he_298, up_ne (ne_ty ht_228 hT_h0 (by simp))]; exact hF_293
                have hF_301 : F_297 ea = .inl (cs 21, 40, .inr (.inr (.inr (.inr f_220)))) := by rw [he_298, up_ne (ne_ty ht_2 hT_h0 (by simp))]; exact hF_295
                refine lv_aload_n hx hb dX2_take_169 rfl (lv_at hl 3 rfl) ?_
                refine pg_get (ci := 2) (v := .int (nI (cn + 1))) (C := RX2) (T := TX2) (N := 2) hx hb hts it_2 hown hK hP hL_h0 hF_299 rfl 1 (by decide) (hts _ kt_83) (fun _ h9 => h9) rfl dX2_take_170 ?_
                refine W.widen (k := 0) (n := 0) (by omega) (by omega) ?_
                exact W.iret (v := (nI (cn + 1))) hx hb hr (fun t ht hWm => ⟨⟨(nI (cn + 1)), (cn + 1), rfl, (Or.inr (Or.inr ⟨hc40, val_y2 c_209 c_210 (Or.inr c_107) hfs (ifb1 hw_213 c_214) (isv1 hw_218 c_219), rfl, rfl⟩)), ⟨F_297, QT.mk ht hP hD hO hR, hF_299⟩⟩, hS.F ht⟩) hS.2.2 dX2_take_173
              ·
                refine lv_iconst (v := (-1)) hx hb dX2_take_89 (by decide) ?_
                refine W.widen (k := 0) (n := 0) (by omega) (by omega) ?_
                exact W.iret (v := (-1)) hx hb hr (fun t ht hWm => ⟨⟨(-1), cn, rfl, (Or.inr (Or.inl ⟨hc40, val_nv (Or.inr c_107) hfs (isv0 hw_218 c_219), rfl, rfl⟩)), ⟨F, QT.mk ht hP hD hO hR, hFd⟩⟩, hS.F ht⟩) hS.2.2 dX2_take_90
            ·
              refine lv_iconst (v := (-1)) hx hb dX2_take_72 (by decide) ?_
              refine W.widen (k := 0) (n := 0) (by omega) (by omega) ?_
              exact W.iret (v := (-1)) hx hb hr (fun t ht hWm => ⟨⟨(-1), cn, rfl, (Or.inr (Or.inl ⟨hc40, val_nn (Or.inr c_107) hfs (ifb0 hw_213 c_214), rfl, rfl⟩)), ⟨F, QT.mk ht hP hD hO hR, hFd⟩⟩, hS.F ht⟩) hS.2.2 dX2_take_73
  ·
    have hc40 : cn = 40 := (nI_eq (b := 40) (by omega) (by omega)).mp c_3
    refine lv_bipush (v := (-3)) hx hb dX2_take_9 (by decide) ?_
    refine W.widen (k := 0) (n := 0) (by omega) (by omega) ?_
    exact W.iret (v := (-3)) hx hb hr (fun t ht hWm => ⟨⟨(-3), cn, rfl, (Or.inl ⟨hc40, rfl, rfl⟩), ⟨F, QT.mk ht hP hD hO hR, hFd⟩⟩, hS.F ht⟩) hS.2.2 dX2_take_11
set_option maxHeartbeats 4000000 in
set_option maxRecDepth 100000 in
theorem s_X2_clear_e (l : Launch) (dC : Nat → ClassId) (dI : Nat → Nat → Nat) (cs : Nat → ClassId) (ty : TyM) (L : List Nat) (sz : Nat) (F : Nat → va_E) (h0 : Nat) (ρ : Nat) (ea : Nat) (cn : Nat) (hW : WT ty L) (hL_h0 : h0 ∈ L) (hT_h0 : ty h0 = (2, ρ, [ea])) (hFd : F h0 = .inr (2, [.ref ea, .int (nI cn)])) (hcn : cn ≤ 40) : Met l yX2_clear (.code yX2_clear cX2_clear 2 (some .int) :: tb) ({ frames := 0, cells := 0, slots := 0, locals := 0 }) (va_Pc [.ref h0] (PT (dC, dI) cs ty L F sz)) (va_Qi (fun (r : Int32) (_ : Unit) => r = nI cn) (fun _ T9 => ∃ F2 : Nat → va_E, QT (dC, dI) cs ty L [ρ] F F2 (va_A (va_pl L F) sz) T9 ∧ F2 h0 = .inr (2, [.ref ea, .int (nI 0)])) (va_A (va_pl L F) sz)) 0 0 (va_A (va_pl L F) sz) := by
  refine Met.ofW (cc := cX2_clear) (maxL := 2) (ret := (some .int)) (by decide) rfl ?_
  intro p e s m args below meth c s₁ B hml hv
  obtain ⟨rfl, hsz, hP, hK, hD0, hE, hO⟩ := hv
  have hx := B.exec
  have hb := B.bytes
  have hr := B.returns
  have hts : ∀ w ∈ tb, w.before _ s = true := fun w h => atoms_spec (ws := .code yX2_clear cX2_clear 2 (some .int) :: tb) B.pre w (List.mem_cons_of_mem _ h)
  have hown : s.vm.findClass RX2 = some m.cls := findClass_of_methodNamed B.named
  have hlocks := B.notSynchronized
  subst hsz
  have hD := hD0.self (sz := s.heap.size)
  generalize hAe : va_A (va_pl L F) s.heap.size = A at hD ⊢
  have hA : ∀ q : Nat, s.heap.size ≤ q → A q := fun q h => by rw [← hAe]; exact Or.inr h
  have hS : va_S A s.heap s.heap [] := va_S.rf
  have hR : FR ty [ρ] F F := FR.refl
  have hl := lv_entry ([.ref h0]) (n := 2) (Nat.le_of_ble_eq_true rfl)
  rw [lg_entry_eq]
  generalize (lg_sl ([.ref h0]) ++ List.replicate (2 - (lg_sl ([.ref h0])).length) Slot.unset).toArray = ls at hl ⊢
  have hl : lv_has ls 2 [(0, .ref h0)] := hl
  refine lv_aload_n hx hb dX2_clear_0 rfl (lv_at hl 0 rfl) ?_
  obtain ⟨hi_1, ht_2⟩ := hW.dir hL_h0 hT_h0
  refine pg_get (ci := 2) (v := .int (nI cn)) (C := RX2) (T := TX2) (N := 2) hx hb hts it_2 hown hK hP hL_h0 hFd rfl 1 (by decide) (hts _ kt_83) (fun _ h9 => h9) rfl dX2_clear_1 ?_
  refine lv_istore_n (lv' := [(1, .int (nI cn)), (0, .ref h0)]) hx hb dX2_clear_4 rfl hl (by decide) rfl (fun ls hl => ?_)
  refine lv_aload_n hx hb dX2_clear_5 rfl (lv_at hl 1 rfl) ?_
  refine lv_iconst (v := 0) hx hb dX2_clear_6 (by decide) ?_
  refine pg_put (ci := 2) (v := .int 0) (ty := .int) (C := RX2) (T := TX2) (N := 2) hx hb hts it_2 tyX2 tyX2_ok nmX2 hown hK hP hD hS hL_h0 hFd rfl 1 (by decide) (hts _ kt_83) (fun _ h9 => h9) rfl (by decide +kernel) (rfl) (rfl) (Nat.le_of_ble_eq_true rfl) dX2_clear_7 (fun H locs hP hD hS => ?_)
  obtain ⟨F_3, he_4, hP, hD, hO, hR⟩ : ∃ G, G = va_up F h0 (.inr (2, [.ref ea, .int 0])) ∧ va_P (dC, dI) vwCl (va_pl L G) H ∧ va_D A (va_pl L G) ∧ OK cs ty L G ∧ FR ty [ρ] F G := ⟨_, rfl, hP, hD, hO.up (sh.dir hT_h0 ⟨0, rfl, (by first | omega | assumption | exact Or.inl rfl | exact Or.inr rfl)⟩), hR.up hT_h0 (by simp)⟩
  have hF_5 : F_3 h0 = .inr (2, [.ref ea, .int 0]) := by rw [he_4]; exact up_self
  refine lv_iload_n hx hb dX2_clear_10 rfl (lv_at hl 0 rfl) ?_
  refine W.widen (k := 0) (n := 0) (by omega) (by omega) ?_
  exact W.iret (v := (nI cn)) hx hb hr (fun t ht hWm => ⟨⟨(nI cn), (), rfl, rfl, ⟨F_3, QT.mk ht hP hD hO hR, hF_5⟩⟩, hS.F ht⟩) hS.2.2 dX2_clear_11
