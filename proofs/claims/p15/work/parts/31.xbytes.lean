def OKC (c : Int32) : Bool := decide ((97 ≤ c ∧ c ≤ 122) ∨ (48 ≤ c ∧ c ≤ 57) ∨ c = 45 ∨ c = 95)
def nmw (f : Nat → Int32) : Nat → Nat → Nat → Bool
  | 0, _, p => decide (0 < p)
  | k + 1, i, p => if f i = 46 then (if p = 0 then false else nmw f k (i + 1) 0) else if p = 20 ∨ OKC (f i) = false then false else nmw f k (i + 1) (p + 1)
def NM (f : Nat → Int32) (a b : Nat) : Bool := decide (a + 1 ≤ b ∧ b ≤ a + 60) && nmw f (b - a) a 0
theorem nmw_s (f : Nat → Int32) {i b p : Nat} (h : i < b) : nmw f (b - i) i p = if f i = 46 then (if p = 0 then false else nmw f (b - (i + 1)) (i + 1) 0) else if p = 20 ∨ OKC (f i) = false then false else nmw f (b - (i + 1)) (i + 1) (p + 1) := by
  obtain ⟨k, hk⟩ : ∃ k, b - i = k + 1 := ⟨b - i - 1, by omega⟩
  rw [hk, show b - (i + 1) = k by omega]
  rfl
theorem nm_dot {f : Nat → Int32} {i b p : Nat} {X : Bool} (hv : nmw f (b - i) i p = X) (h : i < b) (h1 : f i = 46) (h2 : p ≠ 0) : nmw f (b - (i + 1)) (i + 1) 0 = X := by
  rw [nmw_s f h, if_pos h1, if_neg h2] at hv
  exact hv
theorem nm_dot0 {f : Nat → Int32} {i b p : Nat} {X : Bool} (hv : nmw f (b - i) i p = X) (h : i < b) (h1 : f i = 46) (h2 : p = 0) : X = false := by
  rw [nmw_s f h, if_pos h1, if_pos h2] at hv
  exact hv.symm
theorem nm_chr {f : Nat → Int32} {i b p : Nat} {X : Bool} (hv : nmw f (b - i) i p = X) (h : i < b) (h1 : ¬ f i = 46) (h2 : p ≠ 20) (h3 : OKC (f i) = true) : nmw f (b - (i + 1)) (i + 1) (p + 1) = X := by
  rw [nmw_s f h, if_neg h1, if_neg (fun q => q.elim h2 (fun q => by rw [h3] at q; exact absurd q (by decide)))] at hv
  exact hv
theorem nm_bad {f : Nat → Int32} {i b p : Nat} {X : Bool} (hv : nmw f (b - i) i p = X) (h : i < b) (h1 : ¬ f i = 46) (h2 : p = 20 ∨ OKC (f i) = false) : X = false := by
  rw [nmw_s f h, if_neg h1, if_pos h2] at hv
  exact hv.symm
theorem nm_end {f : Nat → Int32} {b p : Nat} {X : Bool} (hv : nmw f (b - b) b p = X) : X = decide (0 < p) := by
  rw [Nat.sub_self] at hv
  exact hv.symm
theorem nm_len {f : Nat → Int32} {a b : Nat} (h : ¬ (a + 1 ≤ b ∧ b ≤ a + 60)) : (0 : Int32) = (if NM f a b = true then 1 else 0) := by
  unfold NM
  rw [decide_eq_false h]
  rfl
theorem nm_of {f : Nat → Int32} {a b : Nat} (h1 : a + 1 ≤ b) (h2 : b ≤ a + 60) : NM f a b = nmw f (b - a) a 0 := by
  unfold NM
  rw [decide_eq_true (⟨h1, h2⟩ : a + 1 ≤ b ∧ b ≤ a + 60)]
  rfl
theorem nm_z {f : Nat → Int32} {a b : Nat} (h1 : a + 1 ≤ b) (h2 : b ≤ a + 60) (h : nmw f (b - a) a 0 = false) : (0 : Int32) = (if NM f a b = true then 1 else 0) := by
  rw [nm_of h1 h2, h]
  rfl
theorem nm_o {f : Nat → Int32} {a b : Nat} (h1 : a + 1 ≤ b) (h2 : b ≤ a + 60) (h : nmw f (b - a) a 0 = true) : (1 : Int32) = (if NM f a b = true then 1 else 0) := by
  rw [nm_of h1 h2, h]
  rfl
theorem nm_60 {f : Nat → Int32} {a b : Nat} (h : NM f a b = true) : b ≤ a + 60 := by
  unfold NM at h
  rw [Bool.and_eq_true] at h
  exact (of_decide_eq_true h.1).2
theorem ifb1 {P : Prop} [Decidable P] {r : Int32} (h : r = (if P then 1 else 0)) (c : ¬ r = 0) : P := by
  by_cases q : P
  · exact q
  · rw [if_neg q] at h
    exact absurd h c
theorem ifb0 {P : Prop} [Decidable P] {r : Int32} (h : r = (if P then 1 else 0)) (c : r = 0) : ¬ P := fun q => by
  rw [if_pos q] at h
  rw [h] at c
  exact absurd c (by decide)
set_option maxHeartbeats 4000000 in
set_option maxRecDepth 100000 in
theorem s_X0_isSmall_e (l : Launch) (dC : Nat → ClassId) (dI : Nat → Nat → Nat) (cs : Nat → ClassId) (ty : TyM) (L : List Nat) (sz : Nat) (F : Nat → va_E) (x1 : Int32) (hW : WT ty L) : Met l yX0_isSmall (.code yX0_isSmall cX0_isSmall 1 (some .boolean) :: tb) ({ frames := 0, cells := 0, slots := 0, locals := 0 }) (va_Pc [.int x1] (PT (dC, dI) cs ty L F sz)) (va_Qi (fun (r : Int32) (_ : Unit) => r = (if 97 ≤ x1 ∧ x1 ≤ 122 then 1 else 0)) (fun _ T9 => ∃ F2 : Nat → va_E, QT (dC, dI) cs ty L [] F F2 (va_A (va_pl L F) sz) T9) (va_A (va_pl L F) sz)) 0 0 (va_A (va_pl L F) sz) := by
  refine Met.ofW (cc := cX0_isSmall) (maxL := 1) (ret := (some .boolean)) (by decide) rfl ?_
  intro p e s m args below meth c s₁ B hml hv
  obtain ⟨rfl, hsz, hP, hK, hD0, hE, hO⟩ := hv
  have hx := B.exec
  have hb := B.bytes
  have hr := B.returns
  have hts : ∀ w ∈ tb, w.before _ s = true := fun w h => atoms_spec (ws := .code yX0_isSmall cX0_isSmall 1 (some .boolean) :: tb) B.pre w (List.mem_cons_of_mem _ h)
  have hown : s.vm.findClass RX0 = some m.cls := findClass_of_methodNamed B.named
  have hlocks := B.notSynchronized
  subst hsz
  have hD := hD0.self (sz := s.heap.size)
  generalize hAe : va_A (va_pl L F) s.heap.size = A at hD ⊢
  have hA : ∀ q : Nat, s.heap.size ≤ q → A q := fun q h => by rw [← hAe]; exact Or.inr h
  have hS : va_S A s.heap s.heap [] := va_S.rf
  have hR : FR ty [] F F := FR.refl
  have hl := lv_entry ([.int x1]) (n := 1) (Nat.le_of_ble_eq_true rfl)
  rw [lg_entry_eq]
  generalize (lg_sl ([.int x1]) ++ List.replicate (1 - (lg_sl ([.int x1])).length) Slot.unset).toArray = ls at hl ⊢
  have hl : lv_has ls 1 [(0, .int x1)] := hl
  refine lv_iload_n hx hb dX0_isSmall_0 rfl (lv_at hl 0 rfl) ?_
  refine lv_bipush (v := 97) hx hb dX0_isSmall_1 (by decide) ?_
  refine lv_icmp_lt (tgt := 16) hx hb dX0_isSmall_3 (by decide) (fun c_1 => ?_) (fun c_1 => ?_)
  ·
    refine lv_iconst (v := 0) hx hb dX0_isSmall_16 (by decide) ?_
    refine W.widen (k := 0) (n := 0) (by omega) (by omega) ?_
    exact W.zret (v := 0) (ty := .boolean) hx hb hr (by decide) (fun t ht hWm => ⟨⟨0, (), rfl, ((if_neg (fun q => absurd c_1 (Int32.not_lt.mpr q.1))).symm), ⟨F, QT.mk ht hP hD hO hR⟩⟩, hS.F ht⟩) hS.2.2 dX0_isSmall_17
  ·
    refine lv_iload_n hx hb dX0_isSmall_6 rfl (lv_at hl 0 rfl) ?_
    refine lv_bipush (v := 122) hx hb dX0_isSmall_7 (by decide) ?_
    refine lv_icmp_gt (tgt := 16) hx hb dX0_isSmall_9 (by decide) (fun c_2 => ?_) (fun c_2 => ?_)
    ·
      refine lv_iconst (v := 0) hx hb dX0_isSmall_16 (by decide) ?_
      refine W.widen (k := 0) (n := 0) (by omega) (by omega) ?_
      exact W.zret (v := 0) (ty := .boolean) hx hb hr (by decide) (fun t ht hWm => ⟨⟨0, (), rfl, ((if_neg (fun q => absurd c_2 (Int32.not_lt.mpr q.2))).symm), ⟨F, QT.mk ht hP hD hO hR⟩⟩, hS.F ht⟩) hS.2.2 dX0_isSmall_17
    ·
      refine lv_iconst (v := 1) hx hb dX0_isSmall_12 (by decide) ?_
      refine lv_goto (tgt := 17) hx hb dX0_isSmall_13 (by decide) ?_
      refine W.widen (k := 0) (n := 0) (by omega) (by omega) ?_
      exact W.zret (v := 1) (ty := .boolean) hx hb hr (by decide) (fun t ht hWm => ⟨⟨1, (), rfl, ((if_pos ⟨Int32.not_lt.mp c_1, Int32.not_lt.mp c_2⟩).symm), ⟨F, QT.mk ht hP hD hO hR⟩⟩, hS.F ht⟩) hS.2.2 dX0_isSmall_17
set_option maxHeartbeats 4000000 in
set_option maxRecDepth 100000 in
theorem s_X0_isDigit_e (l : Launch) (dC : Nat → ClassId) (dI : Nat → Nat → Nat) (cs : Nat → ClassId) (ty : TyM) (L : List Nat) (sz : Nat) (F : Nat → va_E) (x1 : Int32) (hW : WT ty L) : Met l yX0_isDigit (.code yX0_isDigit cX0_isDigit 1 (some .boolean) :: tb) ({ frames := 0, cells := 0, slots := 0, locals := 0 }) (va_Pc [.int x1] (PT (dC, dI) cs ty L F sz)) (va_Qi (fun (r : Int32) (_ : Unit) => r = (if 48 ≤ x1 ∧ x1 ≤ 57 then 1 else 0)) (fun _ T9 => ∃ F2 : Nat → va_E, QT (dC, dI) cs ty L [] F F2 (va_A (va_pl L F) sz) T9) (va_A (va_pl L F) sz)) 0 0 (va_A (va_pl L F) sz) := by
  refine Met.ofW (cc := cX0_isDigit) (maxL := 1) (ret := (some .boolean)) (by decide) rfl ?_
  intro p e s m args below meth c s₁ B hml hv
  obtain ⟨rfl, hsz, hP, hK, hD0, hE, hO⟩ := hv
  have hx := B.exec
  have hb := B.bytes
  have hr := B.returns
  have hts : ∀ w ∈ tb, w.before _ s = true := fun w h => atoms_spec (ws := .code yX0_isDigit cX0_isDigit 1 (some .boolean) :: tb) B.pre w (List.mem_cons_of_mem _ h)
  have hown : s.vm.findClass RX0 = some m.cls := findClass_of_methodNamed B.named
  have hlocks := B.notSynchronized
  subst hsz
  have hD := hD0.self (sz := s.heap.size)
  generalize hAe : va_A (va_pl L F) s.heap.size = A at hD ⊢
  have hA : ∀ q : Nat, s.heap.size ≤ q → A q := fun q h => by rw [← hAe]; exact Or.inr h
  have hS : va_S A s.heap s.heap [] := va_S.rf
  have hR : FR ty [] F F := FR.refl
  have hl := lv_entry ([.int x1]) (n := 1) (Nat.le_of_ble_eq_true rfl)
  rw [lg_entry_eq]
  generalize (lg_sl ([.int x1]) ++ List.replicate (1 - (lg_sl ([.int x1])).length) Slot.unset).toArray = ls at hl ⊢
  have hl : lv_has ls 1 [(0, .int x1)] := hl
  refine lv_iload_n hx hb dX0_isDigit_0 rfl (lv_at hl 0 rfl) ?_
  refine lv_bipush (v := 48) hx hb dX0_isDigit_1 (by decide) ?_
  refine lv_icmp_lt (tgt := 16) hx hb dX0_isDigit_3 (by decide) (fun c_1 => ?_) (fun c_1 => ?_)
  ·
    refine lv_iconst (v := 0) hx hb dX0_isDigit_16 (by decide) ?_
    refine W.widen (k := 0) (n := 0) (by omega) (by omega) ?_
    exact W.zret (v := 0) (ty := .boolean) hx hb hr (by decide) (fun t ht hWm => ⟨⟨0, (), rfl, ((if_neg (fun q => absurd c_1 (Int32.not_lt.mpr q.1))).symm), ⟨F, QT.mk ht hP hD hO hR⟩⟩, hS.F ht⟩) hS.2.2 dX0_isDigit_17
  ·
    refine lv_iload_n hx hb dX0_isDigit_6 rfl (lv_at hl 0 rfl) ?_
    refine lv_bipush (v := 57) hx hb dX0_isDigit_7 (by decide) ?_
    refine lv_icmp_gt (tgt := 16) hx hb dX0_isDigit_9 (by decide) (fun c_2 => ?_) (fun c_2 => ?_)
    ·
      refine lv_iconst (v := 0) hx hb dX0_isDigit_16 (by decide) ?_
      refine W.widen (k := 0) (n := 0) (by omega) (by omega) ?_
      exact W.zret (v := 0) (ty := .boolean) hx hb hr (by decide) (fun t ht hWm => ⟨⟨0, (), rfl, ((if_neg (fun q => absurd c_2 (Int32.not_lt.mpr q.2))).symm), ⟨F, QT.mk ht hP hD hO hR⟩⟩, hS.F ht⟩) hS.2.2 dX0_isDigit_17
    ·
      refine lv_iconst (v := 1) hx hb dX0_isDigit_12 (by decide) ?_
      refine lv_goto (tgt := 17) hx hb dX0_isDigit_13 (by decide) ?_
      refine W.widen (k := 0) (n := 0) (by omega) (by omega) ?_
      exact W.zret (v := 1) (ty := .boolean) hx hb hr (by decide) (fun t ht hWm => ⟨⟨1, (), rfl, ((if_pos ⟨Int32.not_lt.mp c_1, Int32.not_lt.mp c_2⟩).symm), ⟨F, QT.mk ht hP hD hO hR⟩⟩, hS.F ht⟩) hS.2.2 dX0_isDigit_17
set_option maxHeartbeats 4000000 in
set_option maxRecDepth 100000 in
theorem s_X0_at_e (l : Launch) (dC : Nat → ClassId) (dI : Nat → Nat → Nat) (cs : Nat → ClassId) (ty : TyM) (L : List Nat) (sz : Nat) (F : Nat → va_E) (h0 : Nat) (ρ : Nat) (r0 : Nat) (n : Nat) (z : Nat) (j : Nat) (f : Nat → Int32) (hW : WT ty L) (hL_h0 : h0 ∈ L) (hT_h0 : ty h0 = (0, ρ, [r0, n])) (hF0 : F h0 = .inr (0, [.ref r0, .int (nI z), .int 0])) (hFr : F r0 = .inl (cs 16, n, .inl f)) (hzn : z ≤ n) (hn9 : n ≤ 10000) (hjz : j < z) : Met l yX0_at (.code yX0_at cX0_at 2 (some .int) :: tb) ({ frames := 0, cells := 0, slots := 0, locals := 0 }) (va_Pc [.ref h0, .int (nI j)] (PT (dC, dI) cs ty L F sz)) (va_Qi (fun (r : Int32) (_ : Unit) => r = f j) (fun _ T9 => ∃ F2 : Nat → va_E, QT (dC, dI) cs ty L [] F F2 (va_A (va_pl L F) sz) T9) (va_A (va_pl L F) sz)) 0 0 (va_A (va_pl L F) sz) := by
  refine Met.ofW (cc := cX0_at) (maxL := 2) (ret := (some .int)) (by decide) rfl ?_
  intro p e s m args below meth c s₁ B hml hv
  obtain ⟨rfl, hsz, hP, hK, hD0, hE, hO⟩ := hv
  have hx := B.exec
  have hb := B.bytes
  have hr := B.returns
  have hts : ∀ w ∈ tb, w.before _ s = true := fun w h => atoms_spec (ws := .code yX0_at cX0_at 2 (some .int) :: tb) B.pre w (List.mem_cons_of_mem _ h)
  have hown : s.vm.findClass RX0 = some m.cls := findClass_of_methodNamed B.named
  have hlocks := B.notSynchronized
  subst hsz
  have hD := hD0.self (sz := s.heap.size)
  generalize hAe : va_A (va_pl L F) s.heap.size = A at hD ⊢
  have hA : ∀ q : Nat, s.heap.size ≤ q → A q := fun q h => by rw [← hAe]; exact Or.inr h
  have hS : va_S A s.heap s.heap [] := va_S.rf
  have hR : FR ty [] F F := FR.refl
  have hl := lv_entry ([.ref h0, .int (nI j)]) (n := 2) (Nat.le_of_ble_eq_true rfl)
  rw [lg_entry_eq]
  generalize (lg_sl ([.ref h0, .int (nI j)]) ++ List.replicate (2 - (lg_sl ([.ref h0, .int (nI j)])).length) Slot.unset).toArray = ls at hl ⊢
  have hl : lv_has ls 2 [(0, .ref h0), (1, .int (nI j))] := hl
  refine lv_iload_n hx hb dX0_at_0 rfl (lv_at hl 1 rfl) ?_
  refine lv_if_lt (tgt := 12) hx hb dX0_at_1 (by decide) (fun c_1 => absurd c_1 (nI_pos (by omega))) (fun c_1 => ?_)
  refine lv_iload_n hx hb dX0_at_4 rfl (lv_at hl 1 rfl) ?_
  refine lv_aload_n hx hb dX0_at_5 rfl (lv_at hl 0 rfl) ?_
  obtain ⟨hi_2, ht_3, hq_4⟩ := hW.bytes hL_h0 hT_h0
  refine pg_get (ci := 0) (v := .int (nI z)) (C := RX0) (T := TX0) (N := 3) hx hb hts it_0 hown hK hP hL_h0 hF0 rfl 1 (by decide) (hts _ kt_10) (fun _ h9 => h9) rfl dX0_at_6 ?_
  refine lv_icmp_lt (tgt := 16) hx hb dX0_at_9 (by decide) (fun c_5 => ?_) (fun c_5 => absurd ((nI_ltI (by omega) (by omega)).mpr hjz) c_5)
  refine lv_aload_n hx hb dX0_at_16 rfl (lv_at hl 0 rfl) ?_
  refine pg_get (ci := 0) (v := .ref r0) (C := RX0) (T := TX0) (N := 3) hx hb hts it_0 hown hK hP hL_h0 hF0 rfl 0 (by decide) (hts _ kt_12) (fun _ h9 => h9) rfl dX0_at_17 ?_
  refine lv_iload_n hx hb dX0_at_20 rfl (lv_at hl 1 rfl) ?_
  refine pg_iald hx hb hK hP hi_2 0 hFr rfl (vp_in_nI (by omega) (by omega)) dX0_at_21 ?_
  refine lv_topi (fun x_6 ex_6 => ?_)
  obtain rfl : x_6 = (f j) := ex_6.trans (congrArg f (nI_clamp (by omega)))
  refine W.widen (k := 0) (n := 0) (by omega) (by omega) ?_
  exact W.iret (v := (f j)) hx hb hr (fun t ht hWm => ⟨⟨(f j), (), rfl, rfl, ⟨F, QT.mk ht hP hD hO hR⟩⟩, hS.F ht⟩) hS.2.2 dX0_at_22
set_option maxHeartbeats 4000000 in
set_option maxRecDepth 100000 in
theorem s_X0_find_e (l : Launch) (dC : Nat → ClassId) (dI : Nat → Nat → Nat) (cs : Nat → ClassId) (ty : TyM) (L : List Nat) (sz : Nat) (F : Nat → va_E) (h0 : Nat) (ρ : Nat) (r0 : Nat) (n : Nat) (z : Nat) (b : Nat) (f : Nat → Int32) (x1 : Int32) (hW : WT ty L) (hL_h0 : h0 ∈ L) (hT_h0 : ty h0 = (0, ρ, [r0, n])) (hF0 : F h0 = .inr (0, [.ref r0, .int (nI z), .int 0])) (hFr : F r0 = .inl (cs 16, n, .inl f)) (hzn : z ≤ n) (hn9 : n ≤ 10000) (hbz : b ≤ z) : Met l yX0_find (.code yX0_find cX0_find 5 (some .int) :: tb) ({ frames := 1, cells := 0, slots := 0, locals := 21 }) (va_Pc [.ref h0, .int x1, .int 0, .int (nI b)] (PT (dC, dI) cs ty L F sz)) (va_Qi (fun (r : Int32) (_ : Unit) => (∃ k : Nat, k ≤ b ∧ r = nI k ∧ (∀ j, j < k → ¬ f j = x1) ∧ (k = b ∨ f k = x1))) (fun _ T9 => ∃ F2 : Nat → va_E, QT (dC, dI) cs ty L [] F F2 (va_A (va_pl L F) sz) T9) (va_A (va_pl L F) sz)) 0 0 (va_A (va_pl L F) sz) := by
  refine Met.ofW (cc := cX0_find) (maxL := 5) (ret := (some .int)) (by decide) rfl ?_
  intro p e s m args below meth c s₁ B hml hv
  obtain ⟨rfl, hsz, hP, hK, hD0, hE, hO⟩ := hv
  have hx := B.exec
  have hb := B.bytes
  have hr := B.returns
  have hts : ∀ w ∈ tb, w.before _ s = true := fun w h => atoms_spec (ws := .code yX0_find cX0_find 5 (some .int) :: tb) B.pre w (List.mem_cons_of_mem _ h)
  have hown : s.vm.findClass RX0 = some m.cls := findClass_of_methodNamed B.named
  have hlocks := B.notSynchronized
  subst hsz
  have hD := hD0.self (sz := s.heap.size)
  generalize hAe : va_A (va_pl L F) s.heap.size = A at hD ⊢
  have hA : ∀ q : Nat, s.heap.size ≤ q → A q := fun q h => by rw [← hAe]; exact Or.inr h
  have hS : va_S A s.heap s.heap [] := va_S.rf
  have hR : FR ty [] F F := FR.refl
  have hl := lv_entry ([.ref h0, .int x1, .int 0, .int (nI b)]) (n := 5) (Nat.le_of_ble_eq_true rfl)
  rw [lg_entry_eq]
  generalize (lg_sl ([.ref h0, .int x1, .int 0, .int (nI b)]) ++ List.replicate (5 - (lg_sl ([.ref h0, .int x1, .int 0, .int (nI b)])).length) Slot.unset).toArray = ls at hl ⊢
  have hl : lv_has ls 5 [(0, .ref h0), (1, .int x1), (2, .int 0), (3, .int (nI b))] := hl
  refine lv_iconst (v := 0) hx hb dX0_find_0 (by decide) ?_
  refine lv_iload_n hx hb dX0_find_1 rfl (lv_at hl 2 rfl) ?_
  refine va_mmax hx hb (by rw [hml]; exact hl.1.symm) hown (hts _ kt_17) (hts _ kt_18) (hts _ kt_19) (hts _ kt_20) (Nat.le_of_ble_eq_true rfl) (Nat.le_of_ble_eq_true rfl) (by show _ ≤ 0; omega) (by show _ ≤ 0; omega) dX0_find_2 ?_
  refine lv_topi (fun x_1 ex_1 => ?_)
  obtain rfl : x_1 = 0 := ex_1.trans (by decide)
  refine lv_istore (lv' := [(4, .int 0), (0, .ref h0), (1, .int x1), (2, .int 0), (3, .int (nI b))]) hx hb dX0_find_5 hl (by decide) rfl (fun ls hl => ?_)
  refine W.widen (k := 0) (n := 0) (by omega) (by omega) ?_
  refine pl_loop (σ := Nat) A (dC, dI) cs ty L [] F 7 5 (fun k1 => [(4, .int (nI k1)), (0, .ref h0), (1, .int x1), (2, .int 0), (3, .int (nI b))]) (fun k1 => []) (fun k1 _ => k1 ≤ b ∧ ∀ j, j < k1 → ¬ f j = x1) (fun k1 => b - k1) ?_ 0 F (⟨by omega, fun j hj => absurd hj (Nat.not_lt_zero _)⟩) hO hR _ _ hP hD hS ls (lv_sub hl [0, 1, 2, 3, 4] rfl)
  rintro k1 F_2 hv_3 hO hR ih_4 H locs hP hD hS ls hl
  have hl : lv_has ls 5 [(4, .int (nI k1)), (0, .ref h0), (1, .int x1), (2, .int 0), (3, .int (nI b))] := hl
  have hv_3 : k1 ≤ b ∧ ∀ j, j < k1 → ¬ f j = x1 := hv_3
  refine W.eq (g2 := F0 m 7 ls []) rfl ?_
  obtain rfl : F = F_2 := (funext (fun a => hR a List.not_mem_nil)).symm
  obtain ⟨hv1, hv2⟩ := id hv_3
  refine lv_iload hx hb dX0_find_7 (lv_at hl 0 rfl) ?_
  refine lv_iload_n hx hb dX0_find_9 rfl (lv_at hl 4 rfl) ?_
  refine lv_icmp_ge (tgt := 42) hx hb dX0_find_10 (by decide) (fun c_5 => ?_) (fun c_5 => ?_)
  ·
    have hi_6 : b ≤ k1 := leN (N := b) c_5
    have hkb : b ≤ k1 := (nI_leI (by omega) (by omega)).mp c_5
    refine lv_iload_n hx hb dX0_find_42 rfl (lv_at hl 4 rfl) ?_
    refine W.widen (k := 0) (n := 0) (by omega) (by omega) ?_
    exact W.iret (v := (nI b)) hx hb hr (fun t ht hWm => ⟨⟨(nI b), (), rfl, ⟨b, Nat.le_refl _, rfl, fun j hj => hv2 j (by omega), Or.inl rfl⟩, ⟨F, QT.mk ht hP hD hO hR⟩⟩, hS.F ht⟩) hS.2.2 dX0_find_43
  ·
    have hi_7 : k1 < b := ltN (N := b) c_5
    have hkb : k1 < b := Nat.not_le.mp (fun q => c_5 ((nI_leI (by omega) (by omega)).mpr q))
    refine lv_iload hx hb dX0_find_13 (lv_at hl 0 rfl) ?_
    refine lv_aload_n hx hb dX0_find_15 rfl (lv_at hl 1 rfl) ?_
    obtain ⟨hi_8, ht_9, hq_10⟩ := hW.bytes hL_h0 hT_h0
    refine pg_get (ci := 0) (v := .int (nI z)) (C := RX0) (T := TX0) (N := 3) hx hb hts it_0 hown hK hP hL_h0 hF0 rfl 1 (by decide) (hts _ kt_10) (fun _ h9 => h9) rfl dX0_find_16 ?_
    refine lv_icmp_ge (tgt := 42) hx hb dX0_find_19 (by decide) (fun c_11 => absurd c_11 (fun q => absurd ((nI_leI (by omega) (by omega)).mp q) (by omega))) (fun c_11 => ?_)
    refine lv_aload_n hx hb dX0_find_22 rfl (lv_at hl 1 rfl) ?_
    refine pg_get (ci := 0) (v := .ref r0) (C := RX0) (T := TX0) (N := 3) hx hb hts it_0 hown hK hP hL_h0 hF0 rfl 0 (by decide) (hts _ kt_12) (fun _ h9 => h9) rfl dX0_find_23 ?_
    refine lv_iload hx hb dX0_find_26 (lv_at hl 0 rfl) ?_
    refine pg_iald hx hb hK hP hi_8 0 hFr rfl (vp_in_nI (by omega) (by omega)) dX0_find_28 ?_
    refine lv_topi (fun x_12 ex_12 => ?_)
    obtain rfl : x_12 = (f k1) := ex_12.trans (congrArg f (nI_clamp (by omega)))
    refine lv_iload_n hx hb dX0_find_29 rfl (lv_at hl 2 rfl) ?_
    refine lv_icmp_ne (tgt := 36) hx hb dX0_find_30 (by decide) (fun c_13 => ?_) (fun c_13 => ?_)
    ·
      refine lv_iinc (v := (nI (k1 + 1))) (lv' := [(4, .int (nI (k1 + 1))), (0, .ref h0), (1, .int x1), (2, .int 0), (3, .int (nI b))]) hx hb dX0_find_36 hl (k := 0) rfl (nI_1 _) (by decide) rfl (fun ls hl => ?_)
      refine lv_goto (tgt := 7) hx hb dX0_find_39 (by decide) ?_
      refine W.widen (k := 0) (n := 0) (by omega) (by omega) ?_
      exact ih_4 (k1 + 1) F (⟨by omega, fun j hj => by rcases Nat.lt_or_ge j k1 with q | q; exact hv2 j q; rw [show j = k1 by omega]; exact c_13⟩) (by show b - (k1 + 1) < b - k1; omega) hO hR _ _ hP hD hS ls (lv_sub hl [0, 1, 2, 3, 4] rfl)
    ·
      refine lv_iload hx hb dX0_find_33 (lv_at hl 0 rfl) ?_
      refine W.widen (k := 0) (n := 0) (by omega) (by omega) ?_
      exact W.iret (v := (nI k1)) hx hb hr (fun t ht hWm => ⟨⟨(nI k1), (), rfl, ⟨k1, by omega, rfl, hv2, Or.inr c_13⟩, ⟨F, QT.mk ht hP hD hO hR⟩⟩, hS.F ht⟩) hS.2.2 dX0_find_35
set_option maxHeartbeats 4000000 in
set_option maxRecDepth 100000 in
theorem s_X0_isName_e (l : Launch) (dC : Nat → ClassId) (dI : Nat → Nat → Nat) (cs : Nat → ClassId) (ty : TyM) (L : List Nat) (sz : Nat) (F : Nat → va_E) (h0 : Nat) (ρ : Nat) (r0 : Nat) (n : Nat) (z : Nat) (a : Nat) (b : Nat) (f : Nat → Int32) (hW : WT ty L) (hL_h0 : h0 ∈ L) (hT_h0 : ty h0 = (0, ρ, [r0, n])) (hF0 : F h0 = .inr (0, [.ref r0, .int (nI z), .int 0])) (hFr : F r0 = .inl (cs 16, n, .inl f)) (hzn : z ≤ n) (hn9 : n ≤ 10000) (hab : a ≤ b) (hbz : b ≤ z) : Met l yX0_isName (.code yX0_isName cX0_isName 7 (some .boolean) :: tb) ({ frames := 1, cells := 0, slots := 0, locals := 21 }) (va_Pc [.ref h0, .int (nI a), .int (nI b)] (PT (dC, dI) cs ty L F sz)) (va_Qi (fun (r : Int32) (_ : Unit) => r = (if NM f a b = true then 1 else 0)) (fun _ T9 => ∃ F2 : Nat → va_E, QT (dC, dI) cs ty L [] F F2 (va_A (va_pl L F) sz) T9) (va_A (va_pl L F) sz)) 0 0 (va_A (va_pl L F) sz) := by
  refine Met.ofW (cc := cX0_isName) (maxL := 7) (ret := (some .boolean)) (by decide) rfl ?_
  intro p e s m args below meth c s₁ B hml hv
  obtain ⟨rfl, hsz, hP, hK, hD0, hE, hO⟩ := hv
  have hx := B.exec
  have hb := B.bytes
  have hr := B.returns
  have hts : ∀ w ∈ tb, w.before _ s = true := fun w h => atoms_spec (ws := .code yX0_isName cX0_isName 7 (some .boolean) :: tb) B.pre w (List.mem_cons_of_mem _ h)
  have hown : s.vm.findClass RX0 = some m.cls := findClass_of_methodNamed B.named
  have hlocks := B.notSynchronized
  subst hsz
  have hD := hD0.self (sz := s.heap.size)
  generalize hAe : va_A (va_pl L F) s.heap.size = A at hD ⊢
  have hA : ∀ q : Nat, s.heap.size ≤ q → A q := fun q h => by rw [← hAe]; exact Or.inr h
  have hS : va_S A s.heap s.heap [] := va_S.rf
  have hR : FR ty [] F F := FR.refl
  have hl := lv_entry ([.ref h0, .int (nI a), .int (nI b)]) (n := 7) (Nat.le_of_ble_eq_true rfl)
  rw [lg_entry_eq]
  generalize (lg_sl ([.ref h0, .int (nI a), .int (nI b)]) ++ List.replicate (7 - (lg_sl ([.ref h0, .int (nI a), .int (nI b)])).length) Slot.unset).toArray = ls at hl ⊢
  have hl : lv_has ls 7 [(0, .ref h0), (1, .int (nI a)), (2, .int (nI b))] := hl
  refine lv_aload_n hx hb dX0_isName_0 rfl (lv_at hl 0 rfl) ?_
  obtain ⟨hi_1, ht_2, hq_3⟩ := hW.bytes hL_h0 hT_h0
  refine pg_get (ci := 0) (v := .int 0) (C := RX0) (T := TX0) (N := 3) hx hb hts it_0 hown hK hP hL_h0 hF0 rfl 2 (by decide) (hts _ kt_11) (fun _ h9 => h9) rfl dX0_isName_1 ?_
  refine lv_if_ne (tgt := 22) hx hb dX0_isName_4 (by decide) (fun c_4 => absurd (by decide) c_4) (fun c_4 => ?_)
  refine lv_iload_n hx hb dX0_isName_7 rfl (lv_at hl 2 rfl) ?_
  refine lv_iload_n hx hb dX0_isName_8 rfl (lv_at hl 1 rfl) ?_
  refine lv_isub hx hb dX0_isName_9 ?_
  refine lv_topi (fun x_5 ex_5 => ?_)
  obtain rfl : x_5 = (nI (b - a)) := ex_5.trans (pk_sub (by omega))
  refine lv_iconst (v := 1) hx hb dX0_isName_10 (by decide) ?_
  refine lv_icmp_lt (tgt := 22) hx hb dX0_isName_11 (by decide) (fun c_6 => ?_) (fun c_6 => ?_)
  ·
    have hi_7 : (b - a) < 1 := ltN (N := 1) (Int32.not_le.mpr c_6)
    have hl1 : b - a < 1 := (nI_ltI (b := 1) (by omega) (by omega)).mp c_6
    refine lv_iconst (v := 0) hx hb dX0_isName_22 (by decide) ?_
    refine W.widen (k := 0) (n := 0) (by omega) (by omega) ?_
    exact W.zret (v := 0) (ty := .boolean) hx hb hr (by decide) (fun t ht hWm => ⟨⟨0, (), rfl, (nm_len (fun q => by omega)), ⟨F, QT.mk ht hP hD hO hR⟩⟩, hS.F ht⟩) hS.2.2 dX0_isName_23
  ·
    have hi_8 : 1 ≤ (b - a) := leN (N := 1) (Int32.not_lt.mp c_6)
    have hl1 : a + 1 ≤ b := by have h9 : ¬ b - a < 1 := fun q => c_6 ((nI_ltI (b := 1) (by omega) (by omega)).mpr q); omega
    refine lv_iload_n hx hb dX0_isName_14 rfl (lv_at hl 2 rfl) ?_
    refine lv_iload_n hx hb dX0_isName_15 rfl (lv_at hl 1 rfl) ?_
    refine lv_isub hx hb dX0_isName_16 ?_
    refine lv_topi (fun x_9 ex_9 => ?_)
    obtain rfl : x_9 = (nI (b - a)) := ex_9.trans (pk_sub (by omega))
    refine lv_bipush (v := 60) hx hb dX0_isName_17 (by decide) ?_
    refine lv_icmp_le (tgt := 24) hx hb dX0_isName_19 (by decide) (fun c_10 => ?_) (fun c_10 => ?_)
    ·
      have hl2 : b ≤ a + 60 := by have h9 : b - a ≤ 60 := (nI_leI (b := 60) (by omega) (by omega)).mp c_10; omega
      refine lv_iconst (v := 0) hx hb dX0_isName_24 (by decide) ?_
      refine lv_istore_n (lv' := [(3, .int 0), (0, .ref h0), (1, .int (nI a)), (2, .int (nI b))]) hx hb dX0_isName_25 rfl hl (by decide) rfl (fun ls hl => ?_)
      refine lv_iload_n hx hb dX0_isName_26 rfl (lv_at hl 2 rfl) ?_
      refine lv_istore (lv' := [(4, .int (nI a)), (3, .int 0), (0, .ref h0), (1, .int (nI a)), (2, .int (nI b))]) hx hb dX0_isName_27 hl (by decide) rfl (fun ls hl => ?_)
      refine W.widen (k := 0) (n := 0) (by omega) (by omega) ?_
      refine pl_loop (σ := Nat × Nat) A (dC, dI) cs ty L [] F 29 7 (fun (i1, p1) => [(4, .int (nI i1)), (3, .int (nI p1)), (0, .ref h0), (1, .int (nI a)), (2, .int (nI b))]) (fun (i1, p1) => []) (fun (i1, p1) _ => a ≤ i1 ∧ i1 ≤ b ∧ p1 ≤ 20 ∧ nmw f (b - i1) i1 p1 = nmw f (b - a) a 0) (fun (i1, p1) => b - i1) ?_ (a, 0) F (⟨by omega, by omega, by omega, rfl⟩) hO hR _ _ hP hD hS ls (lv_sub hl [0, 1, 2, 3, 4] rfl)
      rintro ⟨i1, p1⟩ F_12 hv_13 hO hR ih_14 H locs hP hD hS ls hl
      have hl : lv_has ls 7 [(4, .int (nI i1)), (3, .int (nI p1)), (0, .ref h0), (1, .int (nI a)), (2, .int (nI b))] := hl
      have hv_13 : a ≤ i1 ∧ i1 ≤ b ∧ p1 ≤ 20 ∧ nmw f (b - i1) i1 p1 = nmw f (b - a) a 0 := hv_13
      refine W.eq (g2 := F0 m 29 ls []) rfl ?_
      obtain rfl : F = F_12 := (funext (fun a => hR a List.not_mem_nil)).symm
      obtain ⟨hv1, hv2, hv3, hv4⟩ := id hv_13
      refine lv_iload hx hb dX0_isName_29 (lv_at hl 0 rfl) ?_
      refine lv_iload_n hx hb dX0_isName_31 rfl (lv_at hl 4 rfl) ?_
      refine lv_icmp_ge (tgt := 126) hx hb dX0_isName_32 (by decide) (fun c_15 => ?_) (fun c_15 => ?_)
      ·
        have hi_16 : b ≤ i1 := leN (N := b) c_15
        obtain rfl : i1 = b := by have h9 : b ≤ i1 := (nI_leI (by omega) (by omega)).mp c_15; omega
        refine lv_iload_n hx hb dX0_isName_126 rfl (lv_at hl 1 rfl) ?_
        refine lv_if_le (tgt := 134) hx hb dX0_isName_127 (by decide) (fun c_17 => ?_) (fun c_17 => ?_)
        ·
          refine lv_iconst (v := 0) hx hb dX0_isName_134 (by decide) ?_
          refine W.widen (k := 0) (n := 0) (by omega) (by omega) ?_
          exact W.zret (v := 0) (ty := .boolean) hx hb hr (by decide) (fun t ht hWm => ⟨⟨0, (), rfl, (nm_z hl1 hl2 ((nm_end hv4).trans (decide_eq_false (fun q => absurd ((nI_leI (b := 0) (by omega) (by omega)).mp c_17) (by omega))))), ⟨F, QT.mk ht hP hD hO hR⟩⟩, hS.F ht⟩) hS.2.2 dX0_isName_135
        ·
          refine lv_iconst (v := 1) hx hb dX0_isName_130 (by decide) ?_
          refine lv_goto (tgt := 135) hx hb dX0_isName_131 (by decide) ?_
          refine W.widen (k := 0) (n := 0) (by omega) (by omega) ?_
          exact W.zret (v := 1) (ty := .boolean) hx hb hr (by decide) (fun t ht hWm => ⟨⟨1, (), rfl, (nm_o hl1 hl2 ((nm_end hv4).trans (decide_eq_true (Nat.pos_of_ne_zero (fun q => c_17 (by rw [q]; decide)))))), ⟨F, QT.mk ht hP hD hO hR⟩⟩, hS.F ht⟩) hS.2.2 dX0_isName_135
      ·
        have hi_20 : i1 < b := ltN (N := b) c_15
        have hib : i1 < b := Nat.not_le.mp (fun q => c_15 ((nI_leI (by omega) (by omega)).mpr q))
        refine lv_aload_n hx hb dX0_isName_35 rfl (lv_at hl 2 rfl) ?_
        refine lv_iload hx hb dX0_isName_36 (lv_at hl 0 rfl) ?_
        have hFc := pg_free hD hS hA
        refine va_calli (va_runV (As := [.int (nI i1)]) (rest := []) ⟨hx, hb, hml, hown, hts⟩ (s_X0_at_e l dC dI cs ty L H.size F h0 ρ r0 n z i1 f hW hL_h0 hT_h0 hF0 hFr (by omega) (by omega) (by omega)) ⟨callB_of 1 hts (gi kt_21) rfl rfl rfl (hts _ kt_1) (hts _ kt_22) (by decide +kernel) ⟨Nat.le_of_ble_eq_true rfl, Nat.le_of_ble_eq_true rfl⟩, (hts _ kt_23), (hts _ kt_24)⟩ ⟨fun a U g mk q => ⟨q.1, PT.calling q.2⟩, pg_recv hK hP hL_h0 hF0 (q := (RX0, TX0, 3)) rfl, fun U hU hWm => ⟨rfl, PT.mk hU hWm hP hK hD hE hO⟩⟩ rfl rfl hl.1 rfl (lv_room (Nat.le_of_ble_eq_true rfl)) dX0_isName_38 ⟨by show _ + 0 ≤ 0; omega, by show _ + 0 ≤ 0; omega⟩) hS (fun q _ h => hFc q h) hFc (fun r_21 u t H1 locs ht hvm hw hB hz1 hk1 hS => ?_)
        obtain ⟨F_22, hB1⟩ := hB
        obtain rfl : F = F_22 := (funext (fun a => hB1.2.2.2 a List.not_mem_nil)).symm
        obtain ⟨hP, hD, hO, hR⟩ := QT.back hB1 ht hFc hR (fun q h => absurd h List.not_mem_nil)
        generalize H1 = H at hP hS ⊢
        have hw : r_21 = f i1 := hw
        have hw_23 := hw
        subst hw_23
        refine lv_istore (lv' := [(5, .int (f i1)), (4, .int (nI i1)), (3, .int (nI p1)), (0, .ref h0), (1, .int (nI a)), (2, .int (nI b))]) hx hb dX0_isName_41 hl (by decide) rfl (fun ls hl => ?_)
        refine lv_iload hx hb dX0_isName_43 (lv_at hl 0 rfl) ?_
        refine lv_bipush (v := 46) hx hb dX0_isName_45 (by decide) ?_
        refine lv_icmp_ne (tgt := 54) hx hb dX0_isName_47 (by decide) (fun c_24 => ?_) (fun c_24 => ?_)
        ·
          refine lv_iconst (v := 0) hx hb dX0_isName_54 (by decide) ?_
          refine lv_istore (lv' := [(6, .int 0), (5, .int (f i1)), (4, .int (nI i1)), (3, .int (nI p1)), (0, .ref h0), (1, .int (nI a)), (2, .int (nI b))]) hx hb dX0_isName_55 hl (by decide) rfl (fun ls hl => ?_)
          refine lv_iload hx hb dX0_isName_57 (lv_at hl 0 rfl) ?_
          refine lv_if_eq (tgt := 69) hx hb dX0_isName_59 (by decide) (fun c_25 => ?_) (fun c_25 => absurd (by decide) c_25)
          refine lv_iload_n hx hb dX0_isName_69 rfl (lv_at hl 3 rfl) ?_
          refine lv_bipush (v := 20) hx hb dX0_isName_70 (by decide) ?_
          refine lv_icmp_eq (tgt := 105) hx hb dX0_isName_72 (by decide) (fun c_26 => ?_) (fun c_26 => ?_)
          ·
            refine lv_iconst (v := 0) hx hb dX0_isName_105 (by decide) ?_
            refine W.widen (k := 0) (n := 0) (by omega) (by omega) ?_
            exact W.zret (v := 0) (ty := .boolean) hx hb hr (by decide) (fun t ht hWm => ⟨⟨0, (), rfl, (nm_z hl1 hl2 (nm_bad hv4 hib c_24 (Or.inl ((nI_eq (a := p1) (b := 20) (by omega) (by omega)).mp c_26)))), ⟨F, QT.mk ht hP hD hO hR⟩⟩, hS.F ht⟩) hS.2.2 dX0_isName_106
          ·
            refine lv_iload hx hb dX0_isName_75 (lv_at hl 1 rfl) ?_
            have hFc := pg_free hD hS hA
            refine va_calli (va_runS (As := [.int (f i1)]) (rest := []) ⟨hx, hb, hml, hown, hts⟩ (s_X0_isSmall_e l dC dI cs ty L H.size F (f i1) hW ) ⟨callB_of 1 hts (gi kt_4) rfl rfl rfl (hts _ kt_1) (hts _ kt_5) (by decide +kernel) ⟨Nat.le_of_ble_eq_true rfl, Nat.le_of_ble_eq_true rfl⟩, (hts _ kt_6)⟩ ⟨fun a U g mk q => ⟨q.1, PT.calling q.2⟩, fun U hU hWm => ⟨rfl, PT.mk hU hWm hP hK hD hE hO⟩⟩ rfl rfl hl.1 rfl (lv_room (Nat.le_of_ble_eq_true rfl)) dX0_isName_77 ⟨by show _ + 0 ≤ 0; omega, by show _ + 0 ≤ 0; omega⟩) hS (fun q _ h => hFc q h) hFc (fun r_29 u t H1 locs ht hvm hw hB hz1 hk1 hS => ?_)
            obtain ⟨F_30, hB1⟩ := hB
            obtain rfl : F = F_30 := (funext (fun a => hB1.2.2.2 a List.not_mem_nil)).symm
            obtain ⟨hP, hD, hO, hR⟩ := QT.back hB1 ht hFc hR (fun q h => absurd h List.not_mem_nil)
            generalize H1 = H at hP hS ⊢
            have hw : r_29 = (if 97 ≤ (f i1) ∧ (f i1) ≤ 122 then 1 else 0) := hw
            have hw_31 := hw
            refine lv_if_ne (tgt := 107) hx hb dX0_isName_80 (by decide) (fun c_32 => ?_) (fun c_32 => ?_)
            ·
              refine lv_iload hx hb dX0_isName_107 (lv_at hl 0 rfl) ?_
              refine lv_if_eq (tgt := 116) hx hb dX0_isName_109 (by decide) (fun c_33 => ?_) (fun c_33 => absurd (by decide) c_33)
              refine lv_iload_n hx hb dX0_isName_116 rfl (lv_at hl 3 rfl) ?_
              refine lv_iconst (v := 1) hx hb dX0_isName_117 (by decide) ?_
              refine lv_iadd hx hb dX0_isName_118 ?_
              refine lv_topi (fun x_34 ex_34 => ?_)
              obtain rfl : x_34 = (nI (p1 + 1)) := ex_34.trans (nI_1 p1)
              refine lv_istore_n (lv' := [(3, .int (nI (p1 + 1))), (6, .int 0), (5, .int (f i1)), (4, .int (nI i1)), (0, .ref h0), (1, .int (nI a)), (2, .int (nI b))]) hx hb dX0_isName_119 rfl hl (by decide) rfl (fun ls hl => ?_)
              refine lv_iinc (v := (nI (i1 + 1))) (lv' := [(4, .int (nI (i1 + 1))), (3, .int (nI (p1 + 1))), (6, .int 0), (5, .int (f i1)), (0, .ref h0), (1, .int (nI a)), (2, .int (nI b))]) hx hb dX0_isName_120 hl (k := 3) rfl (nI_1 _) (by decide) rfl (fun ls hl => ?_)
              refine lv_goto (tgt := 29) hx hb dX0_isName_123 (by decide) ?_
              refine W.widen (k := 0) (n := 0) (by omega) (by omega) ?_
              exact ih_14 ((i1 + 1), (p1 + 1)) F (⟨by omega, by omega, by have h9 : p1 ≠ 20 := (fun q => c_26 (by rw [q]; rfl)); omega, nm_chr hv4 hib c_24 (fun q => c_26 (by rw [q]; rfl)) (decide_eq_true (Or.inl (ifb1 hw_31 c_32)))⟩) (by show b - (i1 + 1) < b - i1; omega) hO hR _ _ hP hD hS ls (lv_sub hl [0, 1, 4, 5, 6] rfl)
            ·
              refine lv_iload hx hb dX0_isName_83 (lv_at hl 1 rfl) ?_
              have hFc := pg_free hD hS hA
              refine va_calli (va_runS (As := [.int (f i1)]) (rest := []) ⟨hx, hb, hml, hown, hts⟩ (s_X0_isDigit_e l dC dI cs ty L H.size F (f i1) hW ) ⟨callB_of 1 hts (gi kt_7) rfl rfl rfl (hts _ kt_1) (hts _ kt_8) (by decide +kernel) ⟨Nat.le_of_ble_eq_true rfl, Nat.le_of_ble_eq_true rfl⟩, (hts _ kt_9)⟩ ⟨fun a U g mk q => ⟨q.1, PT.calling q.2⟩, fun U hU hWm => ⟨rfl, PT.mk hU hWm hP hK hD hE hO⟩⟩ rfl rfl hl.1 rfl (lv_room (Nat.le_of_ble_eq_true rfl)) dX0_isName_85 ⟨by show _ + 0 ≤ 0; omega, by show _ + 0 ≤ 0; omega⟩) hS (fun q _ h => hFc q h) hFc (fun r_35 u t H1 locs ht hvm hw hB hz1 hk1 hS => ?_)
              obtain ⟨F_36, hB1⟩ := hB
              obtain rfl : F = F_36 := (funext (fun a => hB1.2.2.2 a List.not_mem_nil)).symm
              obtain ⟨hP, hD, hO, hR⟩ := QT.back hB1 ht hFc hR (fun q h => absurd h List.not_mem_nil)
              generalize H1 = H at hP hS ⊢
              have hw : r_35 = (if 48 ≤ (f i1) ∧ (f i1) ≤ 57 then 1 else 0) := hw
              have hw_37 := hw
              refine lv_if_ne (tgt := 107) hx hb dX0_isName_88 (by decide) (fun c_38 => ?_) (fun c_38 => ?_)
              ·
                refine lv_iload hx hb dX0_isName_107 (lv_at hl 0 rfl) ?_
                refine lv_if_eq (tgt := 116) hx hb dX0_isName_109 (by decide) (fun c_39 => ?_) (fun c_39 => absurd (by decide) c_39)
                refine lv_iload_n hx hb dX0_isName_116 rfl (lv_at hl 3 rfl) ?_
                refine lv_iconst (v := 1) hx hb dX0_isName_117 (by decide) ?_
                refine lv_iadd hx hb dX0_isName_118 ?_
                refine lv_topi (fun x_40 ex_40 => ?_)
                obtain rfl : x_40 = (nI (p1 + 1)) := ex_40.trans (nI_1 p1)
                refine lv_istore_n (lv' := [(3, .int (nI (p1 + 1))), (6, .int 0), (5, .int (f i1)), (4, .int (nI i1)), (0, .ref h0), (1, .int (nI a)), (2, .int (nI b))]) hx hb dX0_isName_119 rfl hl (by decide) rfl (fun ls hl => ?_)
                refine lv_iinc (v := (nI (i1 + 1))) (lv' := [(4, .int (nI (i1 + 1))), (3, .int (nI (p1 + 1))), (6, .int 0), (5, .int (f i1)), (0, .ref h0), (1, .int (nI a)), (2, .int (nI b))]) hx hb dX0_isName_120 hl (k := 3) rfl (nI_1 _) (by decide) rfl (fun ls hl => ?_)
                refine lv_goto (tgt := 29) hx hb dX0_isName_123 (by decide) ?_
                refine W.widen (k := 0) (n := 0) (by omega) (by omega) ?_
                exact ih_14 ((i1 + 1), (p1 + 1)) F (⟨by omega, by omega, by have h9 : p1 ≠ 20 := (fun q => c_26 (by rw [q]; rfl)); omega, nm_chr hv4 hib c_24 (fun q => c_26 (by rw [q]; rfl)) (decide_eq_true (Or.inr (Or.inl (ifb1 hw_37 c_38))))⟩) (by show b - (i1 + 1) < b - i1; omega) hO hR _ _ hP hD hS ls (lv_sub hl [0, 1, 4, 5, 6] rfl)
              ·
                refine lv_iload hx hb dX0_isName_91 (lv_at hl 1 rfl) ?_
                refine lv_bipush (v := 45) hx hb dX0_isName_93 (by decide) ?_
                refine lv_icmp_eq (tgt := 107) hx hb dX0_isName_95 (by decide) (fun c_41 => ?_) (fun c_41 => ?_)
                ·
                  refine lv_iload hx hb dX0_isName_107 (lv_at hl 0 rfl) ?_
                  refine lv_if_eq (tgt := 116) hx hb dX0_isName_109 (by decide) (fun c_42 => ?_) (fun c_42 => absurd (by decide) c_42)
                  refine lv_iload_n hx hb dX0_isName_116 rfl (lv_at hl 3 rfl) ?_
                  refine lv_iconst (v := 1) hx hb dX0_isName_117 (by decide) ?_
                  refine lv_iadd hx hb dX0_isName_118 ?_
                  refine lv_topi (fun x_43 ex_43 => ?_)
                  obtain rfl : x_43 = (nI (p1 + 1)) := ex_43.trans (nI_1 p1)
                  refine lv_istore_n (lv' := [(3, .int (nI (p1 + 1))), (6, .int 0), (5, .int (f i1)), (4, .int (nI i1)), (0, .ref h0), (1, .int (nI a)), (2, .int (nI b))]) hx hb dX0_isName_119 rfl hl (by decide) rfl (fun ls hl => ?_)
                  refine lv_iinc (v := (nI (i1 + 1))) (lv' := [(4, .int (nI (i1 + 1))), (3, .int (nI (p1 + 1))), (6, .int 0), (5, .int (f i1)), (0, .ref h0), (1, .int (nI a)), (2, .int (nI b))]) hx hb dX0_isName_120 hl (k := 3) rfl (nI_1 _) (by decide) rfl (fun ls hl => ?_)
                  refine lv_goto (tgt := 29) hx hb dX0_isName_123 (by decide) ?_
                  refine W.widen (k := 0) (n := 0) (by omega) (by omega) ?_
                  exact ih_14 ((i1 + 1), (p1 + 1)) F (⟨by omega, by omega, by have h9 : p1 ≠ 20 := (fun q => c_26 (by rw [q]; rfl)); omega, nm_chr hv4 hib c_24 (fun q => c_26 (by rw [q]; rfl)) (decide_eq_true (Or.inr (Or.inr (Or.inl c_41))))⟩) (by show b - (i1 + 1) < b - i1; omega) hO hR _ _ hP hD hS ls (lv_sub hl [0, 1, 4, 5, 6] rfl)
                ·
                  refine lv_iload hx hb dX0_isName_98 (lv_at hl 1 rfl) ?_
                  refine lv_bipush (v := 95) hx hb dX0_isName_100 (by decide) ?_
                  refine lv_icmp_eq (tgt := 107) hx hb dX0_isName_102 (by decide) (fun c_44 => ?_) (fun c_44 => ?_)
                  ·
                    refine lv_iload hx hb dX0_isName_107 (lv_at hl 0 rfl) ?_
                    refine lv_if_eq (tgt := 116) hx hb dX0_isName_109 (by decide) (fun c_45 => ?_) (fun c_45 => absurd (by decide) c_45)
                    refine lv_iload_n hx hb dX0_isName_116 rfl (lv_at hl 3 rfl) ?_
                    refine lv_iconst (v := 1) hx hb dX0_isName_117 (by decide) ?_
                    refine lv_iadd hx hb dX0_isName_118 ?_
                    refine lv_topi (fun x_46 ex_46 => ?_)
                    obtain rfl : x_46 = (nI (p1 + 1)) := ex_46.trans (nI_1 p1)
                    refine lv_istore_n (lv' := [(3, .int (nI (p1 + 1))), (6, .int 0), (5, .int (f i1)), (4, .int (nI i1)), (0, .ref h0), (1, .int (nI a)), (2, .int (nI b))]) hx hb dX0_isName_119 rfl hl (by decide) rfl (fun ls hl => ?_)
                    refine lv_iinc (v := (nI (i1 + 1))) (lv' := [(4, .int (nI (i1 + 1))), (3, .int (nI (p1 + 1))), (6, .int 0), (5, .int (f i1)), (0, .ref h0), (1, .int (nI a)), (2, .int (nI b))]) hx hb dX0_isName_120 hl (k := 3) rfl (nI_1 _) (by decide) rfl (fun ls hl => ?_)
                    refine lv_goto (tgt := 29) hx hb dX0_isName_123 (by decide) ?_
                    refine W.widen (k := 0) (n := 0) (by omega) (by omega) ?_
                    exact ih_14 ((i1 + 1), (p1 + 1)) F (⟨by omega, by omega, by have h9 : p1 ≠ 20 := (fun q => c_26 (by rw [q]; rfl)); omega, nm_chr hv4 hib c_24 (fun q => c_26 (by rw [q]; rfl)) (decide_eq_true (Or.inr (Or.inr (Or.inr c_44))))⟩) (by show b - (i1 + 1) < b - i1; omega) hO hR _ _ hP hD hS ls (lv_sub hl [0, 1, 4, 5, 6] rfl)
                  ·
                    refine lv_iconst (v := 0) hx hb dX0_isName_105 (by decide) ?_
                    refine W.widen (k := 0) (n := 0) (by omega) (by omega) ?_
                    exact W.zret (v := 0) (ty := .boolean) hx hb hr (by decide) (fun t ht hWm => ⟨⟨0, (), rfl, (nm_z hl1 hl2 (nm_bad hv4 hib c_24 (Or.inr (decide_eq_false (fun q => q.elim (ifb0 hw_31 c_32) (fun q => q.elim (ifb0 hw_37 c_38) (fun q => q.elim (c_41) (c_44)))))))), ⟨F, QT.mk ht hP hD hO hR⟩⟩, hS.F ht⟩) hS.2.2 dX0_isName_106
        ·
          refine lv_iconst (v := 1) hx hb dX0_isName_50 (by decide) ?_
          refine lv_goto (tgt := 55) hx hb dX0_isName_51 (by decide) ?_
          refine lv_istore (lv' := [(6, .int 1), (5, .int (f i1)), (4, .int (nI i1)), (3, .int (nI p1)), (0, .ref h0), (1, .int (nI a)), (2, .int (nI b))]) hx hb dX0_isName_55 hl (by decide) rfl (fun ls hl => ?_)
          refine lv_iload hx hb dX0_isName_57 (lv_at hl 0 rfl) ?_
          refine lv_if_eq (tgt := 69) hx hb dX0_isName_59 (by decide) (fun c_47 => absurd c_47 (by decide)) (fun c_47 => ?_)
          refine lv_iload_n hx hb dX0_isName_62 rfl (lv_at hl 3 rfl) ?_
          refine lv_if_ne (tgt := 107) hx hb dX0_isName_63 (by decide) (fun c_48 => ?_) (fun c_48 => ?_)
          ·
            refine lv_iload hx hb dX0_isName_107 (lv_at hl 0 rfl) ?_
            refine lv_if_eq (tgt := 116) hx hb dX0_isName_109 (by decide) (fun c_50 => absurd c_50 (by decide)) (fun c_50 => ?_)
            refine lv_iconst (v := 0) hx hb dX0_isName_112 (by decide) ?_
            refine lv_goto (tgt := 119) hx hb dX0_isName_113 (by decide) ?_
            refine lv_istore_n (lv' := [(3, .int 0), (6, .int 1), (5, .int (f i1)), (4, .int (nI i1)), (0, .ref h0), (1, .int (nI a)), (2, .int (nI b))]) hx hb dX0_isName_119 rfl hl (by decide) rfl (fun ls hl => ?_)
            refine lv_iinc (v := (nI (i1 + 1))) (lv' := [(4, .int (nI (i1 + 1))), (3, .int 0), (6, .int 1), (5, .int (f i1)), (0, .ref h0), (1, .int (nI a)), (2, .int (nI b))]) hx hb dX0_isName_120 hl (k := 3) rfl (nI_1 _) (by decide) rfl (fun ls hl => ?_)
            refine lv_goto (tgt := 29) hx hb dX0_isName_123 (by decide) ?_
            refine W.widen (k := 0) (n := 0) (by omega) (by omega) ?_
            exact ih_14 ((i1 + 1), 0) F (⟨by omega, by omega, by omega, nm_dot hv4 hib c_24 (fun q => c_48 (by rw [q]; rfl))⟩) (by show b - (i1 + 1) < b - i1; omega) hO hR _ _ hP hD hS ls (lv_sub hl [0, 1, 4, 5, 6] rfl)
          ·
            refine lv_goto (tgt := 105) hx hb dX0_isName_66 (by decide) ?_
            refine lv_iconst (v := 0) hx hb dX0_isName_105 (by decide) ?_
            refine W.widen (k := 0) (n := 0) (by omega) (by omega) ?_
            exact W.zret (v := 0) (ty := .boolean) hx hb hr (by decide) (fun t ht hWm => ⟨⟨0, (), rfl, (nm_z hl1 hl2 (nm_dot0 hv4 hib c_24 ((nI_eq (a := p1) (b := 0) (by omega) (by omega)).mp c_48))), ⟨F, QT.mk ht hP hD hO hR⟩⟩, hS.F ht⟩) hS.2.2 dX0_isName_106
    ·
      have hl2 : ¬ b - a ≤ 60 := fun q => c_10 ((nI_leI (b := 60) (by omega) (by omega)).mpr q)
      refine lv_iconst (v := 0) hx hb dX0_isName_22 (by decide) ?_
      refine W.widen (k := 0) (n := 0) (by omega) (by omega) ?_
      exact W.zret (v := 0) (ty := .boolean) hx hb hr (by decide) (fun t ht hWm => ⟨⟨0, (), rfl, (nm_len (fun q => by omega)), ⟨F, QT.mk ht hP hD hO hR⟩⟩, hS.F ht⟩) hS.2.2 dX0_isName_23
set_option maxHeartbeats 4000000 in
set_option maxRecDepth 100000 in
theorem s_X0_add_e (l : Launch) (dC : Nat → ClassId) (dI : Nat → Nat → Nat) (cs : Nat → ClassId) (ty : TyM) (L : List Nat) (sz : Nat) (F : Nat → va_E) (h0 : Nat) (ρ : Nat) (r0 : Nat) (n : Nat) (z : Nat) (f : Nat → Int32) (x1 : Int32) (hW : WT ty L) (hL_h0 : h0 ∈ L) (hT_h0 : ty h0 = (0, ρ, [r0, n])) (hF0 : F h0 = .inr (0, [.ref r0, .int (nI z), .int 0])) (hFr : F r0 = .inl (cs 16, n, .inl f)) (hz0 : z < n) (hn9 : n ≤ 10000) : Met l yX0_add (.code yX0_add cX0_add 2 none :: tb) ({ frames := 0, cells := 0, slots := 0, locals := 0 }) (va_Pc [.ref h0, .int x1] (PT (dC, dI) cs ty L F sz)) (va_Qv (fun _ : Unit => True) (fun _ T9 => ∃ F2 : Nat → va_E, QT (dC, dI) cs ty L [ρ] F F2 (va_A (va_pl L F) sz) T9 ∧ F2 h0 = .inr (0, [.ref r0, .int (nI (z + 1)), .int 0]) ∧ F2 r0 = .inl (cs 16, n, .inl (upd f z x1))) (va_A (va_pl L F) sz)) 0 0 (va_A (va_pl L F) sz) := by
  refine Met.ofW (cc := cX0_add) (maxL := 2) (ret := none) (by decide) rfl ?_
  intro p e s m args below meth c s₁ B hml hv
  obtain ⟨rfl, hsz, hP, hK, hD0, hE, hO⟩ := hv
  have hx := B.exec
  have hb := B.bytes
  have hr := B.returns
  have hts : ∀ w ∈ tb, w.before _ s = true := fun w h => atoms_spec (ws := .code yX0_add cX0_add 2 none :: tb) B.pre w (List.mem_cons_of_mem _ h)
  have hown : s.vm.findClass RX0 = some m.cls := findClass_of_methodNamed B.named
  have hlocks := B.notSynchronized
  subst hsz
  have hD := hD0.self (sz := s.heap.size)
  generalize hAe : va_A (va_pl L F) s.heap.size = A at hD ⊢
  have hA : ∀ q : Nat, s.heap.size ≤ q → A q := fun q h => by rw [← hAe]; exact Or.inr h
  have hS : va_S A s.heap s.heap [] := va_S.rf
  have hR : FR ty [ρ] F F := FR.refl
  have hl := lv_entry ([.ref h0, .int x1]) (n := 2) (Nat.le_of_ble_eq_true rfl)
  rw [lg_entry_eq]
  generalize (lg_sl ([.ref h0, .int x1]) ++ List.replicate (2 - (lg_sl ([.ref h0, .int x1])).length) Slot.unset).toArray = ls at hl ⊢
  have hl : lv_has ls 2 [(0, .ref h0), (1, .int x1)] := hl
  refine lv_aload_n hx hb dX0_add_0 rfl (lv_at hl 0 rfl) ?_
  obtain ⟨hi_1, ht_2, hq_3⟩ := hW.bytes hL_h0 hT_h0
  refine pg_get (ci := 0) (v := .int (nI z)) (C := RX0) (T := TX0) (N := 3) hx hb hts it_0 hown hK hP hL_h0 hF0 rfl 1 (by decide) (hts _ kt_10) (fun _ h9 => h9) rfl dX0_add_1 ?_
  refine lv_aload_n hx hb dX0_add_4 rfl (lv_at hl 0 rfl) ?_
  refine pg_get (ci := 0) (v := .ref r0) (C := RX0) (T := TX0) (N := 3) hx hb hts it_0 hown hK hP hL_h0 hF0 rfl 0 (by decide) (hts _ kt_12) (fun _ h9 => h9) rfl dX0_add_5 ?_
  refine pg_alen (v := (nI n)) hx hb hK hP hi_1 0 hFr rfl rfl dX0_add_8 ?_
  refine lv_icmp_ge (tgt := 35) hx hb dX0_add_9 (by decide) (fun c_4 => absurd c_4 (show ¬ nI n ≤ nI z from nI_ge hz0 (by omega))) (fun c_4 => ?_)
  refine lv_aload_n hx hb dX0_add_12 rfl (lv_at hl 0 rfl) ?_
  refine pg_get (ci := 0) (v := .ref r0) (C := RX0) (T := TX0) (N := 3) hx hb hts it_0 hown hK hP hL_h0 hF0 rfl 0 (by decide) (hts _ kt_12) (fun _ h9 => h9) rfl dX0_add_13 ?_
  refine lv_aload_n hx hb dX0_add_16 rfl (lv_at hl 0 rfl) ?_
  refine pg_get (ci := 0) (v := .int (nI z)) (C := RX0) (T := TX0) (N := 3) hx hb hts it_0 hown hK hP hL_h0 hF0 rfl 1 (by decide) (hts _ kt_10) (fun _ h9 => h9) rfl dX0_add_17 ?_
  refine lv_iload_n hx hb dX0_add_20 rfl (lv_at hl 1 rfl) ?_
  refine pg_iast hx hb hK hP hD hS hi_1 0 hFr rfl (vp_in_nI (by omega) (by omega)) dX0_add_21 (fun H locs hP hD hS => ?_)
  obtain ⟨F_5, he_6, hP, hD, hO, hR⟩ : ∃ G, G = va_up F r0 (.inl (cs 16, n, .inl (upd f ((nI z)).toNatClampNeg (x1)))) ∧ va_P (dC, dI) vwCl (va_pl L G) H ∧ va_D A (va_pl L G) ∧ OK cs ty L G ∧ FR ty [ρ] F G := ⟨_, rfl, hP, hD, hO.up (sh.ints ht_2 ⟨_, rfl⟩), hR.up ht_2 (by simp)⟩
  have hF_7 : F_5 r0 = .inl (cs 16, n, .inl (upd f ((nI z)).toNatClampNeg (x1))) := by rw [he_6]; exact up_self
  have hF_8 : F_5 h0 = .inr (0, [.ref r0, .int (nI z), .int 0]) := by rw [he_6, up_ne (ne_ty hT_h0 ht_2 (by simp))]; exact hF0
  have hF_9 : F_5 r0 = .inl (cs 16, n, .inl (upd f z x1)) := by have h9 := hF_7; rwa [nI_clamp (by omega)] at h9
  refine lv_aload_n hx hb dX0_add_22 rfl (lv_at hl 0 rfl) ?_
  refine lv_dup hx hb dX0_add_23 rfl ?_
  refine pg_get (ci := 0) (v := .int (nI z)) (C := RX0) (T := TX0) (N := 3) hx hb hts it_0 hown hK hP hL_h0 hF_8 rfl 1 (by decide) (hts _ kt_10) (fun _ h9 => h9) rfl dX0_add_24 ?_
  refine lv_iconst (v := 1) hx hb dX0_add_27 (by decide) ?_
  refine lv_iadd hx hb dX0_add_28 ?_
  refine lv_topi (fun x_10 ex_10 => ?_)
  obtain rfl : x_10 = (nI (z + 1)) := ex_10.trans (nI_1 z)
  refine pg_put (ci := 0) (v := .int (nI (z + 1))) (ty := .int) (C := RX0) (T := TX0) (N := 3) hx hb hts it_0 tyX0 tyX0_ok nmX0 hown hK hP hD hS hL_h0 hF_8 rfl 1 (by decide) (hts _ kt_10) (fun _ h9 => h9) rfl (by decide +kernel) (rfl) (rfl) (Nat.le_of_ble_eq_true rfl) dX0_add_29 (fun H locs hP hD hS => ?_)
  obtain ⟨F_11, he_12, hP, hD, hO, hR⟩ : ∃ G, G = va_up F_5 h0 (.inr (0, [.ref r0, .int (nI (z + 1)), .int 0])) ∧ va_P (dC, dI) vwCl (va_pl L G) H ∧ va_D A (va_pl L G) ∧ OK cs ty L G ∧ FR ty [ρ] F G := ⟨_, rfl, hP, hD, hO.up (sh.bytes hT_h0 ⟨(z + 1), 0, rfl, (by first | omega | assumption | exact Or.inl rfl | exact Or.inr rfl), (by first | omega | assumption | exact Or.inl rfl | exact Or.inr rfl)⟩), hR.up hT_h0 (by simp)⟩
  have hF_13 : F_11 h0 = .inr (0, [.ref r0, .int (nI (z + 1)), .int 0]) := by rw [he_12]; exact up_self
  have hF_14 : F_11 r0 = .inl (cs 16, n, .inl (upd f z x1)) := by rw [he_12, up_ne (ne_ty ht_2 hT_h0 (by simp))]; exact hF_9
  refine lv_goto (tgt := 40) hx hb dX0_add_32 (by decide) ?_
  refine W.widen (k := 0) (n := 0) (by omega) (by omega) ?_
  exact W.vret hx hb hr (fun t ht hWm => ⟨⟨(), rfl, trivial, ⟨F_11, QT.mk ht hP hD hO hR, hF_13, hF_14⟩⟩, hS.F ht⟩) hS.2.2 dX0_add_40
def up4 (f : Nat → Int32) (z : Nat) (a b c d : Int32) : Nat → Int32 := upd (upd (upd (upd f z a) (z + 1) b) (z + 2) c) (z + 3) d
def ocT (x s : Int32) : Int32 := (x.toUInt32 >>> (s.toUInt32 &&& (31 : Int32).toUInt32)).toInt32 &&& 255
set_option maxHeartbeats 4000000 in
set_option maxRecDepth 100000 in
theorem s_X0_addFour_e (l : Launch) (dC : Nat → ClassId) (dI : Nat → Nat → Nat) (cs : Nat → ClassId) (ty : TyM) (L : List Nat) (sz : Nat) (F : Nat → va_E) (h0 : Nat) (ρ : Nat) (r0 : Nat) (n : Nat) (z : Nat) (f : Nat → Int32) (x1 : Int32) (hW : WT ty L) (hL_h0 : h0 ∈ L) (hT_h0 : ty h0 = (0, ρ, [r0, n])) (hF0 : F h0 = .inr (0, [.ref r0, .int (nI z), .int 0])) (hFr : F r0 = .inl (cs 16, n, .inl f)) (hz0 : z + 4 ≤ n) (hn9 : n ≤ 10000) : Met l yX0_addFour (.code yX0_addFour cX0_addFour 3 none :: tb) ({ frames := 1, cells := 0, slots := 0, locals := 21 }) (va_Pc [.ref h0, .int x1] (PT (dC, dI) cs ty L F sz)) (va_Qv (fun _ : Unit => True) (fun _ T9 => ∃ F2 : Nat → va_E, QT (dC, dI) cs ty L [ρ] F F2 (va_A (va_pl L F) sz) T9 ∧ F2 h0 = .inr (0, [.ref r0, .int (nI (z + 4)), .int 0]) ∧ F2 r0 = .inl (cs 16, n, .inl (up4 f z (ocT x1 24) (ocT x1 16) (ocT x1 8) (ocT x1 0)))) (va_A (va_pl L F) sz)) 0 0 (va_A (va_pl L F) sz) := by
  refine Met.ofW (cc := cX0_addFour) (maxL := 3) (ret := none) (by decide) rfl ?_
  intro p e s m args below meth c s₁ B hml hv
  obtain ⟨rfl, hsz, hP, hK, hD0, hE, hO⟩ := hv
  have hx := B.exec
  have hb := B.bytes
  have hr := B.returns
  have hts : ∀ w ∈ tb, w.before _ s = true := fun w h => atoms_spec (ws := .code yX0_addFour cX0_addFour 3 none :: tb) B.pre w (List.mem_cons_of_mem _ h)
  have hown : s.vm.findClass RX0 = some m.cls := findClass_of_methodNamed B.named
  have hlocks := B.notSynchronized
  subst hsz
  have hD := hD0.self (sz := s.heap.size)
  generalize hAe : va_A (va_pl L F) s.heap.size = A at hD ⊢
  have hA : ∀ q : Nat, s.heap.size ≤ q → A q := fun q h => by rw [← hAe]; exact Or.inr h
  have hS : va_S A s.heap s.heap [] := va_S.rf
  have hR : FR ty [ρ] F F := FR.refl
  have hl := lv_entry ([.ref h0, .int x1]) (n := 3) (Nat.le_of_ble_eq_true rfl)
  rw [lg_entry_eq]
  generalize (lg_sl ([.ref h0, .int x1]) ++ List.replicate (3 - (lg_sl ([.ref h0, .int x1])).length) Slot.unset).toArray = ls at hl ⊢
  have hl : lv_has ls 3 [(0, .ref h0), (1, .int x1)] := hl
  refine lv_bipush (v := 24) hx hb dX0_addFour_0 (by decide) ?_
  refine lv_istore_n (lv' := [(2, .int 24), (0, .ref h0), (1, .int x1)]) hx hb dX0_addFour_2 rfl hl (by decide) rfl (fun ls hl => ?_)
  refine lv_iload_n hx hb dX0_addFour_3 rfl (lv_at hl 0 rfl) ?_
  refine lv_if_lt (tgt := 24) hx hb dX0_addFour_4 (by decide) (fun c_1 => absurd c_1 (by decide)) (fun c_1 => ?_)
  refine lv_aload_n hx hb dX0_addFour_7 rfl (lv_at hl 1 rfl) ?_
  refine lv_iload_n hx hb dX0_addFour_8 rfl (lv_at hl 2 rfl) ?_
  refine lv_iload_n hx hb dX0_addFour_9 rfl (lv_at hl 0 rfl) ?_
  refine lv_iushr hx hb dX0_addFour_10 rfl ?_
  refine lv_topi (fun x_3 ex_3 => ?_)
  obtain rfl : x_3 = (x1.toUInt32 >>> ((24 : Int32).toUInt32 &&& (31 : Int32).toUInt32)).toInt32 := ex_3.trans (rfl)
  refine lv_sipush (v := 255) hx hb dX0_addFour_11 (by decide) ?_
  refine lv_iand hx hb dX0_addFour_14 ?_
  refine lv_topi (fun x_4 ex_4 => ?_)
  obtain rfl : x_4 = (ocT x1 24) := ex_4.trans (rfl)
  obtain ⟨hi_5, ht_6, hq_7⟩ := hW.bytes hL_h0 hT_h0
  have hFc := pg_free hD hS hA
  refine va_callv (va_runV (As := [.int (ocT x1 24)]) (rest := []) ⟨hx, hb, hml, hown, hts⟩ (s_X0_add_e l dC dI cs ty L s.heap.size F h0 ρ r0 n z f (ocT x1 24) hW hL_h0 hT_h0 hF0 hFr (by omega) (by omega)) ⟨callB_of 1 hts (gi kt_13) rfl rfl rfl (hts _ kt_1) (hts _ kt_14) (by decide +kernel) ⟨Nat.le_of_ble_eq_true rfl, Nat.le_of_ble_eq_true rfl⟩, (hts _ kt_15), (hts _ kt_16)⟩ ⟨fun a U g mk q => ⟨q.1, PT.calling q.2⟩, pg_recv hK hP hL_h0 hF0 (q := (RX0, TX0, 3)) rfl, fun U hU hWm => ⟨rfl, PT.mk hU hWm hP hK hD hE hO⟩⟩ rfl rfl hl.1 rfl (lv_room (Nat.le_of_ble_eq_true rfl)) dX0_addFour_15 ⟨by show _ + 0 ≤ 0; omega, by show _ + 0 ≤ 0; omega⟩) hS (fun q _ h => hFc q h) hFc (fun u t H1 locs ht hvm hw hB hz1 hk1 hS => ?_)
  obtain ⟨F_9, hB1, hq_10, hq_11⟩ := hB
  obtain ⟨hP, hD, hO, hR⟩ := QT.back hB1 ht hFc hR (fun q h => by simp only [List.mem_cons, List.not_mem_nil, or_false] at h ⊢; omega)
  generalize H1 = H at hP hS ⊢
  refine lv_iinc (v := 16) (lv' := [(2, .int 16), (0, .ref h0), (1, .int x1)]) hx hb dX0_addFour_18 hl (k := 0) rfl (by decide) (by decide) rfl (fun ls hl => ?_)
  refine lv_goto (tgt := 3) hx hb dX0_addFour_21 (by decide) ?_
  refine lv_iload_n hx hb dX0_addFour_3 rfl (lv_at hl 0 rfl) ?_
  refine lv_if_lt (tgt := 24) hx hb dX0_addFour_4 (by decide) (fun c_12 => absurd c_12 (by decide)) (fun c_12 => ?_)
  refine lv_aload_n hx hb dX0_addFour_7 rfl (lv_at hl 1 rfl) ?_
  refine lv_iload_n hx hb dX0_addFour_8 rfl (lv_at hl 2 rfl) ?_
  refine lv_iload_n hx hb dX0_addFour_9 rfl (lv_at hl 0 rfl) ?_
  refine lv_iushr hx hb dX0_addFour_10 rfl ?_
  refine lv_topi (fun x_14 ex_14 => ?_)
  obtain rfl : x_14 = (x1.toUInt32 >>> ((16 : Int32).toUInt32 &&& (31 : Int32).toUInt32)).toInt32 := ex_14.trans (rfl)
  refine lv_sipush (v := 255) hx hb dX0_addFour_11 (by decide) ?_
  refine lv_iand hx hb dX0_addFour_14 ?_
  refine lv_topi (fun x_15 ex_15 => ?_)
  obtain rfl : x_15 = (ocT x1 16) := ex_15.trans (rfl)
  have hFc := pg_free hD hS hA
  refine va_callv (va_runV (As := [.int (ocT x1 16)]) (rest := []) ⟨hx, hb, hml, hown, hts⟩ (s_X0_add_e l dC dI cs ty L H.size F_9 h0 ρ r0 n (z + 1) (upd f z (ocT x1 24)) (ocT x1 16) hW hL_h0 hT_h0 hq_10 hq_11 (by omega) (by omega)) ⟨callB_of 1 hts (gi kt_13) rfl rfl rfl (hts _ kt_1) (hts _ kt_14) (by decide +kernel) ⟨Nat.le_of_ble_eq_true rfl, Nat.le_of_ble_eq_true rfl⟩, (hts _ kt_15), (hts _ kt_16)⟩ ⟨fun a U g mk q => ⟨q.1, PT.calling q.2⟩, pg_recv hK hP hL_h0 hq_10 (q := (RX0, TX0, 3)) rfl, fun U hU hWm => ⟨rfl, PT.mk hU hWm hP hK hD hE hO⟩⟩ rfl rfl hl.1 rfl (lv_room (Nat.le_of_ble_eq_true rfl)) dX0_addFour_15 ⟨by show _ + 0 ≤ 0; omega, by show _ + 0 ≤ 0; omega⟩) hS (fun q _ h => hFc q h) hFc (fun u t H1 locs ht hvm hw hB hz1 hk1 hS => ?_)
  obtain ⟨F_17, hB1, hq_18, hq_19⟩ := hB
  obtain ⟨hP, hD, hO, hR⟩ := QT.back hB1 ht hFc hR (fun q h => by simp only [List.mem_cons, List.not_mem_nil, or_false] at h ⊢; omega)
  generalize H1 = H at hP hS ⊢
  refine lv_iinc (v := 8) (lv' := [(2, .int 8), (0, .ref h0), (1, .int x1)]) hx hb dX0_addFour_18 hl (k := 0) rfl (by decide) (by decide) rfl (fun ls hl => ?_)
  refine lv_goto (tgt := 3) hx hb dX0_addFour_21 (by decide) ?_
  refine lv_iload_n hx hb dX0_addFour_3 rfl (lv_at hl 0 rfl) ?_
  refine lv_if_lt (tgt := 24) hx hb dX0_addFour_4 (by decide) (fun c_20 => absurd c_20 (by decide)) (fun c_20 => ?_)
  refine lv_aload_n hx hb dX0_addFour_7 rfl (lv_at hl 1 rfl) ?_
  refine lv_iload_n hx hb dX0_addFour_8 rfl (lv_at hl 2 rfl) ?_
  refine lv_iload_n hx hb dX0_addFour_9 rfl (lv_at hl 0 rfl) ?_
  refine lv_iushr hx hb dX0_addFour_10 rfl ?_
  refine lv_topi (fun x_22 ex_22 => ?_)
  obtain rfl : x_22 = (x1.toUInt32 >>> ((8 : Int32).toUInt32 &&& (31 : Int32).toUInt32)).toInt32 := ex_22.trans (rfl)
  refine lv_sipush (v := 255) hx hb dX0_addFour_11 (by decide) ?_
  refine lv_iand hx hb dX0_addFour_14 ?_
  refine lv_topi (fun x_23 ex_23 => ?_)
  obtain rfl : x_23 = (ocT x1 8) := ex_23.trans (rfl)
  have hFc := pg_free hD hS hA
  refine va_callv (va_runV (As := [.int (ocT x1 8)]) (rest := []) ⟨hx, hb, hml, hown, hts⟩ (s_X0_add_e l dC dI cs ty L H.size F_17 h0 ρ r0 n (z + 2) (upd (upd f z (ocT x1 24)) (z + 1) (ocT x1 16)) (ocT x1 8) hW hL_h0 hT_h0 hq_18 hq_19 (by omega) (by omega)) ⟨callB_of 1 hts (gi kt_13) rfl rfl rfl (hts _ kt_1) (hts _ kt_14) (by decide +kernel) ⟨Nat.le_of_ble_eq_true rfl, Nat.le_of_ble_eq_true rfl⟩, (hts _ kt_15), (hts _ kt_16)⟩ ⟨fun a U g mk q => ⟨q.1, PT.calling q.2⟩, pg_recv hK hP hL_h0 hq_18 (q := (RX0, TX0, 3)) rfl, fun U hU hWm => ⟨rfl, PT.mk hU hWm hP hK hD hE hO⟩⟩ rfl rfl hl.1 rfl (lv_room (Nat.le_of_ble_eq_true rfl)) dX0_addFour_15 ⟨by show _ + 0 ≤ 0; omega, by show _ + 0 ≤ 0; omega⟩) hS (fun q _ h => hFc q h) hFc (fun u t H1 locs ht hvm hw hB hz1 hk1 hS => ?_)
  obtain ⟨F_25, hB1, hq_26, hq_27⟩ := hB
  obtain ⟨hP, hD, hO, hR⟩ := QT.back hB1 ht hFc hR (fun q h => by simp only [List.mem_cons, List.not_mem_nil, or_false] at h ⊢; omega)
  generalize H1 = H at hP hS ⊢
  refine lv_iinc (v := 0) (lv' := [(2, .int 0), (0, .ref h0), (1, .int x1)]) hx hb dX0_addFour_18 hl (k := 0) rfl (by decide) (by decide) rfl (fun ls hl => ?_)
  refine lv_goto (tgt := 3) hx hb dX0_addFour_21 (by decide) ?_
  refine lv_iload_n hx hb dX0_addFour_3 rfl (lv_at hl 0 rfl) ?_
  refine lv_if_lt (tgt := 24) hx hb dX0_addFour_4 (by decide) (fun c_28 => absurd c_28 (by decide)) (fun c_28 => ?_)
  refine lv_aload_n hx hb dX0_addFour_7 rfl (lv_at hl 1 rfl) ?_
  refine lv_iload_n hx hb dX0_addFour_8 rfl (lv_at hl 2 rfl) ?_
  refine lv_iload_n hx hb dX0_addFour_9 rfl (lv_at hl 0 rfl) ?_
  refine lv_iushr hx hb dX0_addFour_10 rfl ?_
  refine lv_topi (fun x_30 ex_30 => ?_)
  obtain rfl : x_30 = (x1.toUInt32 >>> ((0 : Int32).toUInt32 &&& (31 : Int32).toUInt32)).toInt32 := ex_30.trans (rfl)
  refine lv_sipush (v := 255) hx hb dX0_addFour_11 (by decide) ?_
  refine lv_iand hx hb dX0_addFour_14 ?_
  refine lv_topi (fun x_31 ex_31 => ?_)
  obtain rfl : x_31 = (ocT x1 0) := ex_31.trans (rfl)
  have hFc := pg_free hD hS hA
  refine va_callv (va_runV (As := [.int (ocT x1 0)]) (rest := []) ⟨hx, hb, hml, hown, hts⟩ (s_X0_add_e l dC dI cs ty L H.size F_25 h0 ρ r0 n (z + 3) (upd (upd (upd f z (ocT x1 24)) (z + 1) (ocT x1 16)) (z + 2) (ocT x1 8)) (ocT x1 0) hW hL_h0 hT_h0 hq_26 hq_27 (by omega) (by omega)) ⟨callB_of 1 hts (gi kt_13) rfl rfl rfl (hts _ kt_1) (hts _ kt_14) (by decide +kernel) ⟨Nat.le_of_ble_eq_true rfl, Nat.le_of_ble_eq_true rfl⟩, (hts _ kt_15), (hts _ kt_16)⟩ ⟨fun a U g mk q => ⟨q.1, PT.calling q.2⟩, pg_recv hK hP hL_h0 hq_26 (q := (RX0, TX0, 3)) rfl, fun U hU hWm => ⟨rfl, PT.mk hU hWm hP hK hD hE hO⟩⟩ rfl rfl hl.1 rfl (lv_room (Nat.le_of_ble_eq_true rfl)) dX0_addFour_15 ⟨by show _ + 0 ≤ 0; omega, by show _ + 0 ≤ 0; omega⟩) hS (fun q _ h => hFc q h) hFc (fun u t H1 locs ht hvm hw hB hz1 hk1 hS => ?_)
  obtain ⟨F_33, hB1, hq_34, hq_35⟩ := hB
  obtain ⟨hP, hD, hO, hR⟩ := QT.back hB1 ht hFc hR (fun q h => by simp only [List.mem_cons, List.not_mem_nil, or_false] at h ⊢; omega)
  generalize H1 = H at hP hS ⊢
  refine lv_iinc (v := (-8)) (lv' := [(2, .int (-8)), (0, .ref h0), (1, .int x1)]) hx hb dX0_addFour_18 hl (k := 0) rfl (by decide) (by decide) rfl (fun ls hl => ?_)
  refine lv_goto (tgt := 3) hx hb dX0_addFour_21 (by decide) ?_
  refine lv_iload_n hx hb dX0_addFour_3 rfl (lv_at hl 0 rfl) ?_
  refine lv_if_lt (tgt := 24) hx hb dX0_addFour_4 (by decide) (fun c_36 => ?_) (fun c_36 => absurd (by decide) c_36)
  refine W.widen (k := 0) (n := 0) (by omega) (by omega) ?_
  exact W.vret hx hb hr (fun t ht hWm => ⟨⟨(), rfl, trivial, ⟨F_33, QT.mk ht hP hD hO hR, hq_34, hq_35⟩⟩, hS.F ht⟩) hS.2.2 dX0_addFour_24
set_option maxHeartbeats 4000000 in
set_option maxRecDepth 100000 in
theorem s_X0_cut_e (l : Launch) (dC : Nat → ClassId) (dI : Nat → Nat → Nat) (cs : Nat → ClassId) (ty : TyM) (L : List Nat) (sz : Nat) (F : Nat → va_E) (h0 : Nat) (ρ : Nat) (r0 : Nat) (n : Nat) (z : Nat) (k : Nat) (f : Nat → Int32) (hW : WT ty L) (hL_h0 : h0 ∈ L) (hT_h0 : ty h0 = (0, ρ, [r0, n])) (hF0 : F h0 = .inr (0, [.ref r0, .int (nI z), .int 0])) (hFr : F r0 = .inl (cs 16, n, .inl f)) (hk0 : k ≤ z) (hzn : z ≤ n) (hz1 : z ≤ 10000) : Met l yX0_cut (.code yX0_cut cX0_cut 2 none :: tb) ({ frames := 0, cells := 0, slots := 0, locals := 0 }) (va_Pc [.ref h0, .int (nI k)] (PT (dC, dI) cs ty L F sz)) (va_Qv (fun _ : Unit => True) (fun _ T9 => ∃ F2 : Nat → va_E, QT (dC, dI) cs ty L [ρ] F F2 (va_A (va_pl L F) sz) T9 ∧ F2 h0 = .inr (0, [.ref r0, .int (nI k), .int 0]) ∧ F2 r0 = .inl (cs 16, n, .inl f)) (va_A (va_pl L F) sz)) 0 0 (va_A (va_pl L F) sz) := by
  refine Met.ofW (cc := cX0_cut) (maxL := 2) (ret := none) (by decide) rfl ?_
  intro p e s m args below meth c s₁ B hml hv
  obtain ⟨rfl, hsz, hP, hK, hD0, hE, hO⟩ := hv
  have hx := B.exec
  have hb := B.bytes
  have hr := B.returns
  have hts : ∀ w ∈ tb, w.before _ s = true := fun w h => atoms_spec (ws := .code yX0_cut cX0_cut 2 none :: tb) B.pre w (List.mem_cons_of_mem _ h)
  have hown : s.vm.findClass RX0 = some m.cls := findClass_of_methodNamed B.named
  have hlocks := B.notSynchronized
  subst hsz
  have hD := hD0.self (sz := s.heap.size)
  generalize hAe : va_A (va_pl L F) s.heap.size = A at hD ⊢
  have hA : ∀ q : Nat, s.heap.size ≤ q → A q := fun q h => by rw [← hAe]; exact Or.inr h
  have hS : va_S A s.heap s.heap [] := va_S.rf
  have hR : FR ty [ρ] F F := FR.refl
  have hl := lv_entry ([.ref h0, .int (nI k)]) (n := 2) (Nat.le_of_ble_eq_true rfl)
  rw [lg_entry_eq]
  generalize (lg_sl ([.ref h0, .int (nI k)]) ++ List.replicate (2 - (lg_sl ([.ref h0, .int (nI k)])).length) Slot.unset).toArray = ls at hl ⊢
  have hl : lv_has ls 2 [(0, .ref h0), (1, .int (nI k))] := hl
  refine lv_iload_n hx hb dX0_cut_0 rfl (lv_at hl 1 rfl) ?_
  refine lv_if_lt (tgt := 17) hx hb dX0_cut_1 (by decide) (fun c_1 => absurd c_1 (nI_pos (by omega))) (fun c_1 => ?_)
  refine lv_iload_n hx hb dX0_cut_4 rfl (lv_at hl 1 rfl) ?_
  refine lv_aload_n hx hb dX0_cut_5 rfl (lv_at hl 0 rfl) ?_
  obtain ⟨hi_2, ht_3, hq_4⟩ := hW.bytes hL_h0 hT_h0
  refine pg_get (ci := 0) (v := .int (nI z)) (C := RX0) (T := TX0) (N := 3) hx hb hts it_0 hown hK hP hL_h0 hF0 rfl 1 (by decide) (hts _ kt_10) (fun _ h9 => h9) rfl dX0_cut_6 ?_
  refine lv_icmp_ge (tgt := 17) hx hb dX0_cut_9 (by decide) (fun c_5 => ?_) (fun c_5 => ?_)
  ·
    have hi_6 : z ≤ k := leN (N := z) c_5
    have hkz : k = z := by
      have h9 : z ≤ k := (nI_leI (by omega) (by omega)).mp c_5
      omega
    subst hkz
    refine W.widen (k := 0) (n := 0) (by omega) (by omega) ?_
    exact W.vret hx hb hr (fun t ht hWm => ⟨⟨(), rfl, trivial, ⟨F, QT.mk ht hP hD hO hR, hF0, hFr⟩⟩, hS.F ht⟩) hS.2.2 dX0_cut_17
  ·
    have hi_7 : k < z := ltN (N := z) c_5
    refine lv_aload_n hx hb dX0_cut_12 rfl (lv_at hl 0 rfl) ?_
    refine lv_iload_n hx hb dX0_cut_13 rfl (lv_at hl 1 rfl) ?_
    refine pg_put (ci := 0) (v := .int (nI k)) (ty := .int) (C := RX0) (T := TX0) (N := 3) hx hb hts it_0 tyX0 tyX0_ok nmX0 hown hK hP hD hS hL_h0 hF0 rfl 1 (by decide) (hts _ kt_10) (fun _ h9 => h9) rfl (by decide +kernel) (rfl) (rfl) (Nat.le_of_ble_eq_true rfl) dX0_cut_14 (fun H locs hP hD hS => ?_)
    obtain ⟨F_8, he_9, hP, hD, hO, hR⟩ : ∃ G, G = va_up F h0 (.inr (0, [.ref r0, .int (nI k), .int 0])) ∧ va_P (dC, dI) vwCl (va_pl L G) H ∧ va_D A (va_pl L G) ∧ OK cs ty L G ∧ FR ty [ρ] F G := ⟨_, rfl, hP, hD, hO.up (sh.bytes hT_h0 ⟨k, 0, rfl, (by first | omega | assumption | exact Or.inl rfl | exact Or.inr rfl), (by first | omega | assumption | exact Or.inl rfl | exact Or.inr rfl)⟩), hR.up hT_h0 (by simp)⟩
    have hF_10 : F_8 h0 = .inr (0, [.ref r0, .int (nI k), .int 0]) := by rw [he_9]; exact up_self
    have hF_11 : F_8 r0 = .inl (cs 16, n, .inl f) := by rw [he_9, up_ne (ne_ty ht_3 hT_h0 (by simp))]; exact hFr
    refine W.widen (k := 0) (n := 0) (by omega) (by omega) ?_
    exact W.vret hx hb hr (fun t ht hWm => ⟨⟨(), rfl, trivial, ⟨F_8, QT.mk ht hP hD hO hR, hF_10, hF_11⟩⟩, hS.F ht⟩) hS.2.2 dX0_cut_17
