def FST (f : Nat → Int32) (c : Int32) (z k : Nat) : Prop := k ≤ z ∧ (∀ j, j < k → ¬ f j = c) ∧ (k = z ∨ f k = c)
theorem FST.uniq {f : Nat → Int32} {c : Int32} {z k k9 : Nat} (h : FST f c z k) (h9 : FST f c z k9) : k = k9 := by
  obtain ⟨a1, a2, a3⟩ := h
  obtain ⟨b1, b2, b3⟩ := h9
  rcases Nat.lt_trichotomy k k9 with q | q | q
  · rcases a3 with w | w
    · omega
    · exact absurd w (b2 k q)
  · exact q
  · rcases b3 with w | w
    · omega
    · exact absurd w (a2 k9 q)
theorem FST.ex (f : Nat → Int32) (c : Int32) (z : Nat) : ∃ k, FST f c z k := by
  induction z with
  | zero => exact ⟨0, Nat.le_refl _, fun j h => absurd h (Nat.not_lt_zero _), Or.inl rfl⟩
  | succ z ih =>
    obtain ⟨k, h1, h2, h3⟩ := ih
    rcases h3 with h3 | h3
    · by_cases q : f z = c
      · exact ⟨z, by omega, by rw [← h3]; exact h2, Or.inr q⟩
      · refine ⟨z + 1, Nat.le_refl _, fun j hj => ?_, Or.inl rfl⟩
        rcases Nat.lt_or_ge j z with w | w
        · exact h2 j (by omega)
        · rw [show j = z by omega]
          exact q
    · exact ⟨k, by omega, h2, Or.inr h3⟩
def ISV (x : Int32) (f : Nat → Int32) (z k : Nat) : Prop := k ≠ z ∧ (x = 2 → NM f (k + 1) z = true) ∧ (x ≠ 2 → z ≤ k + 701)
def VAL (x : Int32) (f : Nat → Int32) (z : Nat) : Prop := ¬ x < 0 ∧ ¬ 4 < x ∧ ∃ k, FST f 32 z k ∧ ((x = 0 ∨ x = 2) → NM f 0 k = true ∧ ISV x f z k) ∧ (¬ (x = 0 ∨ x = 2) → NM f 0 z = true)
def ENT (cn c2 : Nat) (x : Int32) (f : Nat → Int32) (z : Nat) (r : Int32) : Prop := (cn = 40 ∧ c2 = cn ∧ r = (-3)) ∨ (cn ≠ 40 ∧ ¬ VAL x f z ∧ c2 = cn ∧ r = (-1)) ∨ (cn ≠ 40 ∧ VAL x f z ∧ c2 = cn + 1 ∧ r = nI (cn + 1))
theorem ENT.same {cn c2 c3 : Nat} {x r r3 : Int32} {f g : Nat → Int32} {z : Nat} (hV : VAL x f z ↔ VAL x g z) (h : ENT cn c2 x f z r) (h3 : ENT cn c3 x g z r3) : c2 = c3 ∧ r = r3 := by
  rcases h with ⟨a1, a2, a3⟩ | ⟨a1, a0, a2, a3⟩ | ⟨a1, a0, a2, a3⟩ <;> rcases h3 with ⟨b1, b2, b3⟩ | ⟨b1, b0, b2, b3⟩ | ⟨b1, b0, b2, b3⟩
  all_goals first | exact absurd a1 b1 | exact absurd b1 a1 | exact absurd (hV.mpr b0) a0 | exact absurd (hV.mp a0) b0 | exact ⟨a2.trans b2.symm, a3.trans b3.symm⟩
theorem val_n1 {x : Int32} {f : Nat → Int32} {z : Nat} (h : x < 0) : ¬ VAL x f z := fun q => q.1 h
theorem val_n2 {x : Int32} {f : Nat → Int32} {z : Nat} (h : 4 < x) : ¬ VAL x f z := fun q => q.2.1 h
theorem val_nn {x : Int32} {f : Nat → Int32} {z k : Nat} (two : x = 0 ∨ x = 2) (hk : FST f 32 z k) (h : ¬ NM f 0 k = true) : ¬ VAL x f z := fun q => by
  obtain ⟨-, -, k9, q1, q2, -⟩ := q
  rw [q1.uniq hk] at q2
  exact h (q2 two).1
theorem val_nz {x : Int32} {f : Nat → Int32} {z : Nat} (two : ¬ (x = 0 ∨ x = 2)) (h : ¬ NM f 0 z = true) : ¬ VAL x f z := fun q => by
  obtain ⟨-, -, k9, -, -, q2⟩ := q
  exact h (q2 two)
theorem val_nv {x : Int32} {f : Nat → Int32} {z k : Nat} (two : x = 0 ∨ x = 2) (hk : FST f 32 z k) (h : ¬ ISV x f z k) : ¬ VAL x f z := fun q => by
  obtain ⟨-, -, k9, q1, q2, -⟩ := q
  rw [q1.uniq hk] at q2
  exact h (q2 two).2
theorem val_y2 {x : Int32} {f : Nat → Int32} {z k : Nat} (h1 : ¬ x < 0) (h2 : ¬ 4 < x) (two : x = 0 ∨ x = 2) (hk : FST f 32 z k) (hN : NM f 0 k = true) (hI : ISV x f z k) : VAL x f z := ⟨h1, h2, k, hk, fun _ => ⟨hN, hI⟩, fun q => absurd two q⟩
theorem val_y1 {x : Int32} {f : Nat → Int32} {z : Nat} (h1 : ¬ x < 0) (h2 : ¬ 4 < x) (two : ¬ (x = 0 ∨ x = 2)) (hN : NM f 0 z = true) : VAL x f z := by
  obtain ⟨k, hk⟩ := FST.ex f 32 z
  exact ⟨h1, h2, k, hk, fun q => absurd q two, fun _ => hN⟩
theorem ifN {P : Prop} [Decidable P] {r : Int32} (h : r = (if P then 1 else 0)) : narrow .boolean (.int r) = .int r := by
  rw [h]
  split <;> rfl
theorem isv2 {x r : Int32} {f : Nat → Int32} {z k : Nat} (hk : k ≠ z) (hx : x = 2) (h : r = (if NM f (k + 1) z = true then 1 else 0)) : (r = 1 ∧ ISV x f z k) ∨ (r = 0 ∧ ¬ ISV x f z k) := by
  by_cases q : NM f (k + 1) z = true
  · rw [if_pos q] at h
    exact Or.inl ⟨h, hk, fun _ => q, fun w => absurd hx w⟩
  · rw [if_neg q] at h
    exact Or.inr ⟨h, fun w => q (w.2.1 hx)⟩
theorem isv1 {x r : Int32} {f : Nat → Int32} {z k : Nat} (h : (r = 1 ∧ ISV x f z k) ∨ (r = 0 ∧ ¬ ISV x f z k)) (c : ¬ r = 0) : ISV x f z k := h.elim And.right (fun q => absurd q.1 c)
theorem isv0 {x r : Int32} {f : Nat → Int32} {z k : Nat} (h : (r = 1 ∧ ISV x f z k) ∨ (r = 0 ∧ ¬ ISV x f z k)) (c : r = 0) : ¬ ISV x f z k := h.elim (fun q => absurd (q.1.symm.trans c) (by decide)) And.right
set_option maxHeartbeats 4000000 in
set_option maxRecDepth 100000 in
theorem s_X2_isValue_e (l : Launch) (dC : Nat → ClassId) (dI : Nat → Nat → Nat) (cs : Nat → ClassId) (ty : TyM) (L : List Nat) (sz : Nat) (F : Nat → va_E) (g1 : Nat) (σ : Nat) (r1 : Nat) (n1 : Nat) (z : Nat) (k : Nat) (f : Nat → Int32) (x1 : Int32) (hW : WT ty L) (hL_g1 : g1 ∈ L) (hT_g1 : ty g1 = (0, σ, [r1, n1])) (hFg : F g1 = .inr (0, [.ref r1, .int (nI z), .int 0])) (hFr : F r1 = .inl (cs 16, n1, .inl f)) (hzn : z ≤ n1) (hn9 : n1 ≤ 10000) (hkz : k ≤ z) : Met l yX2_isValue (.code yX2_isValue cX2_isValue 3 (some .boolean) :: tb) ({ frames := 2, cells := 0, slots := 0, locals := 47 }) (va_Pc [.int x1, .ref g1, .int (nI k)] (PT (dC, dI) cs ty L F sz)) (va_Qi (fun (r : Int32) (_ : Unit) => (r = 1 ∧ ISV x1 f z k) ∨ (r = 0 ∧ ¬ ISV x1 f z k)) (fun _ T9 => ∃ F2 : Nat → va_E, QT (dC, dI) cs ty L [] F F2 (va_A (va_pl L F) sz) T9) (va_A (va_pl L F) sz)) 0 0 (va_A (va_pl L F) sz) := by
  refine Met.ofW (cc := cX2_isValue) (maxL := 3) (ret := (some .boolean)) (by decide) rfl ?_
  intro p e s m args below meth c s₁ B hml hv
  obtain ⟨rfl, hsz, hP, hK, hD0, hE, hO⟩ := hv
  have hx := B.exec
  have hb := B.bytes
  have hr := B.returns
  have hts : ∀ w ∈ tb, w.before _ s = true := fun w h => atoms_spec (ws := .code yX2_isValue cX2_isValue 3 (some .boolean) :: tb) B.pre w (List.mem_cons_of_mem _ h)
  have hown : s.vm.findClass RX2 = some m.cls := findClass_of_methodNamed B.named
  have hlocks := B.notSynchronized
  subst hsz
  have hD := hD0.self (sz := s.heap.size)
  generalize hAe : va_A (va_pl L F) s.heap.size = A at hD ⊢
  have hA : ∀ q : Nat, s.heap.size ≤ q → A q := fun q h => by rw [← hAe]; exact Or.inr h
  have hS : va_S A s.heap s.heap [] := va_S.rf
  have hR : FR ty [] F F := FR.refl
  have hl := lv_entry ([.int x1, .ref g1, .int (nI k)]) (n := 3) (Nat.le_of_ble_eq_true rfl)
  rw [lg_entry_eq]
  generalize (lg_sl ([.int x1, .ref g1, .int (nI k)]) ++ List.replicate (3 - (lg_sl ([.int x1, .ref g1, .int (nI k)])).length) Slot.unset).toArray = ls at hl ⊢
  have hl : lv_has ls 3 [(0, .int x1), (1, .ref g1), (2, .int (nI k))] := hl
  refine lv_iload_n hx hb dX2_isValue_0 rfl (lv_at hl 2 rfl) ?_
  refine lv_aload_n hx hb dX2_isValue_1 rfl (lv_at hl 1 rfl) ?_
  obtain ⟨hi_1, ht_2, hq_3⟩ := hW.bytes hL_g1 hT_g1
  refine pg_getN (ci := 0) (v := .int (nI z)) (C := RX0) (T := TX0) (N := 3) hx hb hts it_0 hown hK hP hL_g1 hFg rfl 1 (by decide) (hE.nest kn_3) (fun _ h9 => h9) rfl dX2_isValue_2 ?_
  refine lv_icmp_ne (tgt := 10) hx hb dX2_isValue_5 (by decide) (fun c_4 => ?_) (fun c_4 => ?_)
  ·
    have hne : k ≠ z := fun q => c_4 (by rw [q])
    refine lv_iload_n hx hb dX2_isValue_10 rfl (lv_at hl 0 rfl) ?_
    refine lv_iconst (v := 2) hx hb dX2_isValue_11 (by decide) ?_
    refine lv_icmp_ne (tgt := 29) hx hb dX2_isValue_12 (by decide) (fun c_6 => ?_) (fun c_6 => ?_)
    ·
      refine lv_aload_n hx hb dX2_isValue_29 rfl (lv_at hl 1 rfl) ?_
      refine pg_getN (ci := 0) (v := .int (nI z)) (C := RX0) (T := TX0) (N := 3) hx hb hts it_0 hown hK hP hL_g1 hFg rfl 1 (by decide) (hE.nest kn_3) (fun _ h9 => h9) rfl dX2_isValue_30 ?_
      refine lv_iload_n hx hb dX2_isValue_33 rfl (lv_at hl 2 rfl) ?_
      refine lv_isub hx hb dX2_isValue_34 ?_
      refine lv_topi (fun x_7 ex_7 => ?_)
      obtain rfl : x_7 = (nI (z - k)) := ex_7.trans (pk_sub hkz)
      refine lv_iconst (v := 1) hx hb dX2_isValue_35 (by decide) ?_
      refine lv_isub hx hb dX2_isValue_36 ?_
      refine lv_topi (fun x_8 ex_8 => ?_)
      obtain rfl : x_8 = (nI (z - k - 1)) := ex_8.trans (pk_sub (b := 1) (by omega))
      refine lv_sipush (v := 700) hx hb dX2_isValue_37 (by decide) ?_
      refine lv_icmp_gt (tgt := 47) hx hb dX2_isValue_40 (by decide) (fun c_9 => ?_) (fun c_9 => ?_)
      ·
        have hi_10 : 700 < (z - k - 1) := (nI_ltI (a := 700) (b := (z - k - 1)) (by omega) (by omega)).mp c_9
        have hbig : 700 < z - k - 1 := (nI_ltI (a := 700) (by omega) (by omega)).mp c_9
        refine lv_iconst (v := 0) hx hb dX2_isValue_47 (by decide) ?_
        refine W.widen (k := 0) (n := 0) (by omega) (by omega) ?_
        exact W.zret (v := 0) (ty := .boolean) hx hb hr (by decide) (fun t ht hWm => ⟨⟨0, (), rfl, (Or.inr ⟨rfl, fun q => absurd (q.2.2 c_6) (by omega)⟩), ⟨F, QT.mk ht hP hD hO hR⟩⟩, hS.F ht⟩) hS.2.2 dX2_isValue_48
      ·
        have hi_11 : (z - k - 1) ≤ 700 := Nat.not_lt.mp (fun q => c_9 ((nI_ltI (a := 700) (b := (z - k - 1)) (by omega) (by omega)).mpr q))
        have hbig : ¬ 700 < z - k - 1 := fun q => c_9 ((nI_ltI (a := 700) (by omega) (by omega)).mpr q)
        refine lv_iconst (v := 1) hx hb dX2_isValue_43 (by decide) ?_
        refine lv_goto (tgt := 48) hx hb dX2_isValue_44 (by decide) ?_
        refine W.widen (k := 0) (n := 0) (by omega) (by omega) ?_
        exact W.zret (v := 1) (ty := .boolean) hx hb hr (by decide) (fun t ht hWm => ⟨⟨1, (), rfl, (Or.inl ⟨rfl, hne, fun q => absurd q c_6, fun _ => by omega⟩), ⟨F, QT.mk ht hP hD hO hR⟩⟩, hS.F ht⟩) hS.2.2 dX2_isValue_48
    ·
      refine lv_aload_n hx hb dX2_isValue_15 rfl (lv_at hl 1 rfl) ?_
      refine lv_iload_n hx hb dX2_isValue_16 rfl (lv_at hl 2 rfl) ?_
      refine lv_iconst (v := 1) hx hb dX2_isValue_17 (by decide) ?_
      refine lv_iadd hx hb dX2_isValue_18 ?_
      refine lv_topi (fun x_12 ex_12 => ?_)
      obtain rfl : x_12 = (nI (k + 1)) := ex_12.trans (nI_1 k)
      refine lv_aload_n hx hb dX2_isValue_19 rfl (lv_at hl 1 rfl) ?_
      refine pg_getN (ci := 0) (v := .int (nI z)) (C := RX0) (T := TX0) (N := 3) hx hb hts it_0 hown hK hP hL_g1 hFg rfl 1 (by decide) (hE.nest kn_3) (fun _ h9 => h9) rfl dX2_isValue_20 ?_
      have hFc := pg_free hD hS hA
      refine va_calli (va_runV (As := [.int (nI (k + 1)), .int (nI z)]) (rest := []) ⟨hx, hb, hml, hown, hts⟩ (s_X0_isName_e l dC dI cs ty L s.heap.size F g1 σ r1 n1 z (k + 1) z f hW hL_g1 hT_g1 hFg hFr (by omega) (by omega) (by omega) (by omega)) ⟨callB_of 2 hts (gi kt_108) rfl rfl rfl (hts _ kt_1) (hts _ kt_109) (by decide +kernel) ⟨Nat.le_of_ble_eq_true rfl, Nat.le_of_ble_eq_true rfl⟩, (hts _ kt_110), (hts _ kt_111)⟩ ⟨fun a U g mk q => ⟨q.1, PT.calling q.2⟩, pg_recv hK hP hL_g1 hFg (q := (RX0, TX0, 3)) rfl, fun U hU hWm => ⟨rfl, PT.mk hU hWm hP hK hD hE hO⟩⟩ rfl rfl hl.1 rfl (lv_room (Nat.le_of_ble_eq_true rfl)) dX2_isValue_23 ⟨by show _ + 0 ≤ 0; omega, by show _ + 0 ≤ 0; omega⟩) hS (fun q _ h => hFc q h) hFc (fun r_13 u t H1 locs ht hvm hw hB hz1 hk1 hS => ?_)
      obtain ⟨F_14, hB1⟩ := hB
      obtain rfl : F = F_14 := (funext (fun a => hB1.2.2.2 a List.not_mem_nil)).symm
      obtain ⟨hP, hD, hO, hR⟩ := QT.back hB1 ht hFc hR (fun q h => absurd h List.not_mem_nil)
      generalize H1 = H at hP hS ⊢
      have hw : r_13 = (if NM f (k + 1) z = true then 1 else 0) := hw
      have hw_15 := hw
      refine lv_goto (tgt := 48) hx hb dX2_isValue_26 (by decide) ?_
      refine W.widen (k := 0) (n := 0) (by omega) (by omega) ?_
      exact W.zret (v := r_13) (ty := .boolean) hx hb hr (ifN hw_15) (fun t ht hWm => ⟨⟨r_13, (), rfl, (isv2 hne c_6 hw_15), ⟨F, QT.mk ht hP hD hO hR⟩⟩, hS.F ht⟩) hS.2.2 dX2_isValue_48
  ·
    have heq : k = z := (nI_eq (by omega) (by omega)).mp c_4
    refine lv_iconst (v := 0) hx hb dX2_isValue_8 (by decide) ?_
    refine W.widen (k := 0) (n := 0) (by omega) (by omega) ?_
    exact W.zret (v := 0) (ty := .boolean) hx hb hr (by decide) (fun t ht hWm => ⟨⟨0, (), rfl, (Or.inr ⟨rfl, fun q => q.1 heq⟩), ⟨F, QT.mk ht hP hD hO hR⟩⟩, hS.F ht⟩) hS.2.2 dX2_isValue_9
set_option maxHeartbeats 4000000 in
set_option maxRecDepth 100000 in
theorem s_X2_clear_e (l : Launch) (dC : Nat → ClassId) (dI : Nat → Nat → Nat) (cs : Nat → ClassId) (ty : TyM) (L : List Nat) (sz : Nat) (F : Nat → va_E) (h0 : Nat) (ρ : Nat) (ea : Nat) (cn : Nat) (hW : WT ty L) (hL_h0 : h0 ∈ L) (hT_h0 : ty h0 = (2, ρ, [ea])) (hFd : F h0 = .inr (2, [.ref ea, .int (nI cn)])) (hcn : cn ≤ 40) : Met l yX2_clear (.code yX2_clear cX2_clear 2 (some .int) :: tb) ({ frames := 0, cells := 0, slots := 0, locals := 0 }) (va_Pc [.ref h0] (PT (dC, dI) cs ty L F sz)) (va_Qi (fun (r : Int32) (_ : Unit) => r = nI cn) (fun _ T9 => ∃ F2 : Nat → va_E, QT (dC, dI) cs ty L [ρ] F F2 (va_A (va_pl L F) sz) T9 ∧ F2 h0 = .inr (2, [.ref ea, .int (nI 0)])) (va_A (va_pl L F) sz)) 0 0 (va_A (va_pl L F) sz) := by
  refine Met.ofW (cc := cX2_clear) (maxL := 2) (ret := (some .int)) (by decide) rfl ?_
  intro p e s m args below meth c s₁ B hml hv
  obtain ⟨rfl, hsz, hP, hK, hD0, hE, hO⟩ := hv
  have hx := B.exec
  have hb := B.bytes
  have hr := B.returns
  have hts : ∀ w ∈ tb, w.before _ s = true := fun w h => atoms_spec (ws := .code yX2_clear cX2_clear 2 (some .int) :: tb) B.pre w (List.mem_cons_of_mem _ h)
  have hown : s.vm.findClass RX2 = some m.cls := findClass_of_methodNamed B.named
  have hlocks := B.notSynchronized
  subst hsz
  have hD := hD0.self (sz := s.heap.size)
  generalize hAe : va_A (va_pl L F) s.heap.size = A at hD ⊢
  have hA : ∀ q : Nat, s.heap.size ≤ q → A q := fun q h => by rw [← hAe]; exact Or.inr h
  have hS : va_S A s.heap s.heap [] := va_S.rf
  have hR : FR ty [ρ] F F := FR.refl
  have hl := lv_entry ([.ref h0]) (n := 2) (Nat.le_of_ble_eq_true rfl)
  rw [lg_entry_eq]
  generalize (lg_sl ([.ref h0]) ++ List.replicate (2 - (lg_sl ([.ref h0])).length) Slot.unset).toArray = ls at hl ⊢
  have hl : lv_has ls 2 [(0, .ref h0)] := hl
  refine lv_aload_n hx hb dX2_clear_0 rfl (lv_at hl 0 rfl) ?_
  obtain ⟨hi_1, ht_2⟩ := hW.dir hL_h0 hT_h0
  refine pg_get (ci := 2) (v := .int (nI cn)) (C := RX2) (T := TX2) (N := 2) hx hb hts it_2 hown hK hP hL_h0 hFd rfl 1 (by decide) (hts _ kt_83) (fun _ h9 => h9) rfl dX2_clear_1 ?_
  refine lv_istore_n (lv' := [(1, .int (nI cn)), (0, .ref h0)]) hx hb dX2_clear_4 rfl hl (by decide) rfl (fun ls hl => ?_)
  refine lv_aload_n hx hb dX2_clear_5 rfl (lv_at hl 1 rfl) ?_
  refine lv_iconst (v := 0) hx hb dX2_clear_6 (by decide) ?_
  refine pg_put (ci := 2) (v := .int 0) (ty := .int) (C := RX2) (T := TX2) (N := 2) hx hb hts it_2 tyX2 tyX2_ok nmX2 hown hK hP hD hS hL_h0 hFd rfl 1 (by decide) (hts _ kt_83) (fun _ h9 => h9) rfl (by decide +kernel) (rfl) (rfl) (Nat.le_of_ble_eq_true rfl) dX2_clear_7 (fun H locs hP hD hS => ?_)
  obtain ⟨F_3, he_4, hP, hD, hO, hR⟩ : ∃ G, G = va_up F h0 (.inr (2, [.ref ea, .int 0])) ∧ va_P (dC, dI) vwCl (va_pl L G) H ∧ va_D A (va_pl L G) ∧ OK cs ty L G ∧ FR ty [ρ] F G := ⟨_, rfl, hP, hD, hO.up (sh.dir hT_h0 ⟨0, rfl, (by first | omega | assumption | exact Or.inl rfl | exact Or.inr rfl)⟩), hR.up hT_h0 (by simp)⟩
  have hF_5 : F_3 h0 = .inr (2, [.ref ea, .int 0]) := by rw [he_4]; exact up_self
  refine lv_iload_n hx hb dX2_clear_10 rfl (lv_at hl 0 rfl) ?_
  refine W.widen (k := 0) (n := 0) (by omega) (by omega) ?_
  exact W.iret (v := (nI cn)) hx hb hr (fun t ht hWm => ⟨⟨(nI cn), (), rfl, rfl, ⟨F_3, QT.mk ht hP hD hO hR, hF_5⟩⟩, hS.F ht⟩) hS.2.2 dX2_clear_11
