theorem bfm_kn {F : Nat → va_E} {a n : Nat} {c : ClassId} {f : Nat → Int32} (hF : F a = .inl (c, n, .inl f)) (h : ∃ g : Nat → Int32, F a = .inl (c, n, .inl g) ∧ BFm g) : BFm f := by
  obtain ⟨g, h1, h2⟩ := h
  rw [hF] at h1
  cases h1
  exact h2
set_option maxHeartbeats 4000000 in
set_option maxRecDepth 100000 in
theorem s_X15_isWhite_e (l : Launch) (dC : Nat → ClassId) (dI : Nat → Nat → Nat) (cs : Nat → ClassId) (ty : TyM) (gm : Nat → Nat → Nat) (L : List Nat) (sz : Nat) (F : Nat → va_E) (x1 : Int32) (hW : WTm ty gm L) : Met l yX15_isWhite (.code yX15_isWhite cX15_isWhite 1 (some .boolean) :: tb) ({ frames := 0, cells := 0, slots := 0, locals := 0 }) (va_Pc [.int x1] (PTm (dC, dI) cs ty gm L F sz)) (va_Qi (fun (r : Int32) (_ : Unit) => r = (if x1 = 32 ∨ x1 = 9 then 1 else 0)) (fun _ T9 => ∃ F2 : Nat → va_E, QTm (dC, dI) cs ty gm L [] F F2 (va_A (va_pl L F) sz) T9) (va_A (va_pl L F) sz)) 0 0 (va_A (va_pl L F) sz) := by
  refine Met.ofW (cc := cX15_isWhite) (maxL := 1) (ret := (some .boolean)) (by decide) rfl ?_
  intro p e s m args below meth c s₁ B hml hv
  obtain ⟨rfl, hsz, hP, hK, hD0, hE, hO⟩ := hv
  have hx := B.exec
  have hb := B.bytes
  have hr := B.returns
  have hts : ∀ w ∈ tb, w.before _ s = true := fun w h => atoms_spec (ws := .code yX15_isWhite cX15_isWhite 1 (some .boolean) :: tb) B.pre w (List.mem_cons_of_mem _ h)
  have hown : s.vm.findClass RX15 = some m.cls := findClass_of_methodNamed B.named
  have hlocks := B.notSynchronized
  subst hsz
  have hD := hD0.self (sz := s.heap.size)
  generalize hAe : va_A (va_pl L F) s.heap.size = A at hD ⊢
  have hA : ∀ q : Nat, s.heap.size ≤ q → A q := fun q h => by rw [← hAe]; exact Or.inr h
  have hS : va_S A s.heap s.heap [] := va_S.rf
  have hR : FR ty [] F F := FR.refl
  have hl := lv_entry ([.int x1]) (n := 1) (Nat.le_of_ble_eq_true rfl)
  rw [lg_entry_eq]
  generalize (lg_sl ([.int x1]) ++ List.replicate (1 - (lg_sl ([.int x1])).length) Slot.unset).toArray = ls at hl ⊢
  have hl : lv_has ls 1 [(0, .int x1)] := hl
  refine lv_iload_n hx hb dX15_isWhite_0 rfl (lv_at hl 0 rfl) ?_
  refine lv_bipush (v := 32) hx hb dX15_isWhite_1 (by decide) ?_
  refine lv_icmp_eq (tgt := 12) hx hb dX15_isWhite_3 (by decide) (fun c_1 => ?_) (fun c_1 => ?_)
  ·
    refine lv_iconst (v := 1) hx hb dX15_isWhite_12 (by decide) ?_
    refine lv_goto (tgt := 17) hx hb dX15_isWhite_13 (by decide) ?_
    refine W.widen (k := 0) (n := 0) (by omega) (by omega) ?_
    exact W.zret (v := 1) (ty := .boolean) hx hb hr (by decide) (fun t ht hWm => ⟨⟨1, (), rfl, ((if_pos (Or.inl c_1)).symm), ⟨F, QTm.mk ht hP hD hO hR⟩⟩, hS.F ht⟩) hS.2.2 dX15_isWhite_17
  ·
    refine lv_iload_n hx hb dX15_isWhite_6 rfl (lv_at hl 0 rfl) ?_
    refine lv_bipush (v := 9) hx hb dX15_isWhite_7 (by decide) ?_
    refine lv_icmp_ne (tgt := 16) hx hb dX15_isWhite_9 (by decide) (fun c_2 => ?_) (fun c_2 => ?_)
    ·
      refine lv_iconst (v := 0) hx hb dX15_isWhite_16 (by decide) ?_
      refine W.widen (k := 0) (n := 0) (by omega) (by omega) ?_
      exact W.zret (v := 0) (ty := .boolean) hx hb hr (by decide) (fun t ht hWm => ⟨⟨0, (), rfl, ((if_neg (fun q => q.elim c_1 c_2)).symm), ⟨F, QTm.mk ht hP hD hO hR⟩⟩, hS.F ht⟩) hS.2.2 dX15_isWhite_17
    ·
      refine lv_iconst (v := 1) hx hb dX15_isWhite_12 (by decide) ?_
      refine lv_goto (tgt := 17) hx hb dX15_isWhite_13 (by decide) ?_
      refine W.widen (k := 0) (n := 0) (by omega) (by omega) ?_
      exact W.zret (v := 1) (ty := .boolean) hx hb hr (by decide) (fun t ht hWm => ⟨⟨1, (), rfl, ((if_pos (Or.inr c_2)).symm), ⟨F, QTm.mk ht hP hD hO hR⟩⟩, hS.F ht⟩) hS.2.2 dX15_isWhite_17
set_option maxHeartbeats 4000000 in
set_option maxRecDepth 100000 in
theorem s_X15_isLetter_e (l : Launch) (dC : Nat → ClassId) (dI : Nat → Nat → Nat) (cs : Nat → ClassId) (ty : TyM) (gm : Nat → Nat → Nat) (L : List Nat) (sz : Nat) (F : Nat → va_E) (x1 : Int32) (hW : WTm ty gm L) : Met l yX15_isLetter (.code yX15_isLetter cX15_isLetter 1 (some .boolean) :: tb) ({ frames := 1, cells := 0, slots := 0, locals := 20 }) (va_Pc [.int x1] (PTm (dC, dI) cs ty gm L F sz)) (va_Qi (fun (r : Int32) (_ : Unit) => r = (if (97 ≤ x1 ∧ x1 ≤ 122) ∨ (65 ≤ x1 ∧ x1 ≤ 90) then 1 else 0)) (fun _ T9 => ∃ F2 : Nat → va_E, QTm (dC, dI) cs ty gm L [] F F2 (va_A (va_pl L F) sz) T9) (va_A (va_pl L F) sz)) 0 0 (va_A (va_pl L F) sz) := by
  refine Met.ofW (cc := cX15_isLetter) (maxL := 1) (ret := (some .boolean)) (by decide) rfl ?_
  intro p e s m args below meth c s₁ B hml hv
  obtain ⟨rfl, hsz, hP, hK, hD0, hE, hO⟩ := hv
  have hx := B.exec
  have hb := B.bytes
  have hr := B.returns
  have hts : ∀ w ∈ tb, w.before _ s = true := fun w h => atoms_spec (ws := .code yX15_isLetter cX15_isLetter 1 (some .boolean) :: tb) B.pre w (List.mem_cons_of_mem _ h)
  have hown : s.vm.findClass RX15 = some m.cls := findClass_of_methodNamed B.named
  have hlocks := B.notSynchronized
  subst hsz
  have hD := hD0.self (sz := s.heap.size)
  generalize hAe : va_A (va_pl L F) s.heap.size = A at hD ⊢
  have hA : ∀ q : Nat, s.heap.size ≤ q → A q := fun q h => by rw [← hAe]; exact Or.inr h
  have hS : va_S A s.heap s.heap [] := va_S.rf
  have hR : FR ty [] F F := FR.refl
  have hl := lv_entry ([.int x1]) (n := 1) (Nat.le_of_ble_eq_true rfl)
  rw [lg_entry_eq]
  generalize (lg_sl ([.int x1]) ++ List.replicate (1 - (lg_sl ([.int x1])).length) Slot.unset).toArray = ls at hl ⊢
  have hl : lv_has ls 1 [(0, .int x1)] := hl
  refine lv_iload_n hx hb dX15_isLetter_0 rfl (lv_at hl 0 rfl) ?_
  have hFc := pg_free hD hS hA
  refine va_calli (va_runS (As := [.int x1]) (rest := []) ⟨hx, hb, hml, hown, hts⟩ (s_X15_isSmall_e l dC dI cs ty gm L s.heap.size F x1 hW ) ⟨callB_of 1 hts (gi kt_668) rfl rfl rfl (hts _ kt_669) (hts _ kt_670) (by decide +kernel) ⟨Nat.le_of_ble_eq_true rfl, Nat.le_of_ble_eq_true rfl⟩, (hts _ kt_671)⟩ ⟨fun a U g mk q => ⟨q.1, PTm.calling q.2⟩, fun U hU hWm => ⟨rfl, PTm.mk hU hWm hP hK hD hE hO⟩⟩ rfl rfl hl.1 rfl (lv_room (Nat.le_of_ble_eq_true rfl)) dX15_isLetter_1 ⟨by show _ + 0 ≤ 0; omega, by show _ + 0 ≤ 0; omega⟩) hS (fun q _ h => hFc q h) hFc (fun r_1 u t H1 locs ht hvm hw hB hz1 hk1 hS => ?_)
  obtain ⟨F_2, hB1⟩ := hB
  obtain rfl : F = F_2 := (funext (fun a => hB1.2.2.2 a List.not_mem_nil)).symm
  obtain ⟨hP, hD, hO, hR⟩ := QTm.back hB1 ht hFc hR (fun q h => absurd h List.not_mem_nil)
  generalize H1 = H at hP hS ⊢
  have hw : r_1 = (if 97 ≤ x1 ∧ x1 ≤ 122 then 1 else 0) := hw
  have hw_3 := hw
  refine lv_if_ne (tgt := 19) hx hb dX15_isLetter_4 (by decide) (fun c_4 => ?_) (fun c_4 => ?_)
  ·
    refine lv_iconst (v := 1) hx hb dX15_isLetter_19 (by decide) ?_
    refine lv_goto (tgt := 24) hx hb dX15_isLetter_20 (by decide) ?_
    refine W.widen (k := 0) (n := 0) (by omega) (by omega) ?_
    exact W.zret (v := 1) (ty := .boolean) hx hb hr (by decide) (fun t ht hWm => ⟨⟨1, (), rfl, ((if_pos (Or.inl (ifb1 hw_3 c_4))).symm), ⟨F, QTm.mk ht hP hD hO hR⟩⟩, hS.F ht⟩) hS.2.2 dX15_isLetter_24
  ·
    refine lv_iload_n hx hb dX15_isLetter_7 rfl (lv_at hl 0 rfl) ?_
    refine lv_bipush (v := 65) hx hb dX15_isLetter_8 (by decide) ?_
    refine lv_icmp_lt (tgt := 23) hx hb dX15_isLetter_10 (by decide) (fun c_5 => ?_) (fun c_5 => ?_)
    ·
      refine lv_iconst (v := 0) hx hb dX15_isLetter_23 (by decide) ?_
      refine W.widen (k := 0) (n := 0) (by omega) (by omega) ?_
      exact W.zret (v := 0) (ty := .boolean) hx hb hr (by decide) (fun t ht hWm => ⟨⟨0, (), rfl, ((if_neg (fun q => q.elim (ifb0 hw_3 c_4) (fun q => absurd c_5 (Int32.not_lt.mpr q.1)))).symm), ⟨F, QTm.mk ht hP hD hO hR⟩⟩, hS.F ht⟩) hS.2.2 dX15_isLetter_24
    ·
      refine lv_iload_n hx hb dX15_isLetter_13 rfl (lv_at hl 0 rfl) ?_
      refine lv_bipush (v := 90) hx hb dX15_isLetter_14 (by decide) ?_
      refine lv_icmp_gt (tgt := 23) hx hb dX15_isLetter_16 (by decide) (fun c_6 => ?_) (fun c_6 => ?_)
      ·
        refine lv_iconst (v := 0) hx hb dX15_isLetter_23 (by decide) ?_
        refine W.widen (k := 0) (n := 0) (by omega) (by omega) ?_
        exact W.zret (v := 0) (ty := .boolean) hx hb hr (by decide) (fun t ht hWm => ⟨⟨0, (), rfl, ((if_neg (fun q => q.elim (ifb0 hw_3 c_4) (fun q => absurd c_6 (Int32.not_lt.mpr q.2)))).symm), ⟨F, QTm.mk ht hP hD hO hR⟩⟩, hS.F ht⟩) hS.2.2 dX15_isLetter_24
      ·
        refine lv_iconst (v := 1) hx hb dX15_isLetter_19 (by decide) ?_
        refine lv_goto (tgt := 24) hx hb dX15_isLetter_20 (by decide) ?_
        refine W.widen (k := 0) (n := 0) (by omega) (by omega) ?_
        exact W.zret (v := 1) (ty := .boolean) hx hb hr (by decide) (fun t ht hWm => ⟨⟨1, (), rfl, ((if_pos (Or.inr ⟨Int32.not_lt.mp c_5, Int32.not_lt.mp c_6⟩)).symm), ⟨F, QTm.mk ht hP hD hO hR⟩⟩, hS.F ht⟩) hS.2.2 dX15_isLetter_24
set_option maxHeartbeats 4000000 in
set_option maxRecDepth 100000 in
theorem s_X15_lineEnd_e (l : Launch) (dC : Nat → ClassId) (dI : Nat → Nat → Nat) (cs : Nat → ClassId) (ty : TyM) (gm : Nat → Nat → Nat) (L : List Nat) (sz : Nat) (F : Nat → va_E) (g1 : Nat) (σ : Nat) (n1 : Nat) (a : Nat) (tt : Nat) (gt : Nat → Int32) (hW : WTm ty gm L) (hL_g1 : g1 ∈ L) (hT_g1 : ty g1 = (17, σ, [n1])) (hFg : F g1 = .inl (cs 17, n1, .inl gt)) (htn : tt ≤ n1) (ha : a < tt) : Met l yX15_lineEnd (.code yX15_lineEnd cX15_lineEnd 4 (some .int) :: tb) ({ frames := 1, cells := 0, slots := 0, locals := 21 }) (va_Pc [.ref g1, .int (nI a), .int (nI tt)] (PTm (dC, dI) cs ty gm L F sz)) (va_Qi (fun (r : Int32) (_ : Unit) => (∃ e9 : Nat, r = nI (min tt (e9 + 1)) ∧ FSF (clr gt) 0 a tt e9)) (fun _ T9 => ∃ F2 : Nat → va_E, QTm (dC, dI) cs ty gm L [] F F2 (va_A (va_pl L F) sz) T9) (va_A (va_pl L F) sz)) 0 0 (va_A (va_pl L F) sz) := by
  refine Met.ofW (cc := cX15_lineEnd) (maxL := 4) (ret := (some .int)) (by decide) rfl ?_
  intro p e s m args below meth c s₁ B hml hv
  obtain ⟨rfl, hsz, hP, hK, hD0, hE, hO⟩ := hv
  have hx := B.exec
  have hb := B.bytes
  have hr := B.returns
  have hts : ∀ w ∈ tb, w.before _ s = true := fun w h => atoms_spec (ws := .code yX15_lineEnd cX15_lineEnd 4 (some .int) :: tb) B.pre w (List.mem_cons_of_mem _ h)
  have hown : s.vm.findClass RX15 = some m.cls := findClass_of_methodNamed B.named
  have hlocks := B.notSynchronized
  subst hsz
  have hD := hD0.self (sz := s.heap.size)
  generalize hAe : va_A (va_pl L F) s.heap.size = A at hD ⊢
  have hA : ∀ q : Nat, s.heap.size ≤ q → A q := fun q h => by rw [← hAe]; exact Or.inr h
  have hS : va_S A s.heap s.heap [] := va_S.rf
  have hR : FR ty [] F F := FR.refl
  have hl := lv_entry ([.ref g1, .int (nI a), .int (nI tt)]) (n := 4) (Nat.le_of_ble_eq_true rfl)
  rw [lg_entry_eq]
  generalize (lg_sl ([.ref g1, .int (nI a), .int (nI tt)]) ++ List.replicate (4 - (lg_sl ([.ref g1, .int (nI a), .int (nI tt)])).length) Slot.unset).toArray = ls at hl ⊢
  have hl : lv_has ls 4 [(0, .ref g1), (1, .int (nI a)), (2, .int (nI tt))] := hl
  obtain ⟨hq_1, hq_2⟩ := hW.octs hL_g1 hT_g1
  refine lv_iload_n hx hb dX15_lineEnd_0 rfl (lv_at hl 1 rfl) ?_
  refine lv_istore_n (lv' := [(3, .int (nI a)), (0, .ref g1), (1, .int (nI a)), (2, .int (nI tt))]) hx hb dX15_lineEnd_1 rfl hl (by decide) rfl (fun ls hl => ?_)
  refine W.widen (k := 0) (n := 0) (by omega) (by omega) ?_
  refine pl_loopm (σ := Nat) A (dC, dI) cs ty gm L [] F 2 4 (fun j => [(3, .int (nI j)), (0, .ref g1), (1, .int (nI a)), (2, .int (nI tt))]) (fun j => []) (fun j _ => a ≤ j ∧ j ≤ tt ∧ ∀ i, a ≤ i → i < j → ¬ gt i = 10) (fun j => tt - j) ?_ a F (⟨by omega, by omega, fun i h1 h2 => absurd h2 (by omega)⟩) hO hR _ _ hP hD hS ls (lv_sub hl [0, 1, 2, 3] rfl)
  rintro j F_3 hv_4 hO hR ih_5 H locs hP hD hS ls hl
  have hl : lv_has ls 4 [(3, .int (nI j)), (0, .ref g1), (1, .int (nI a)), (2, .int (nI tt))] := hl
  have hv_4 : a ≤ j ∧ j ≤ tt ∧ ∀ i, a ≤ i → i < j → ¬ gt i = 10 := hv_4
  refine W.eq (g2 := F0 m 2 ls []) rfl ?_
  obtain rfl : F = F_3 := (funext (fun a => hR a List.not_mem_nil)).symm
  obtain ⟨hv1, hv2, hv3⟩ := id hv_4
  refine lv_iload_n hx hb dX15_lineEnd_2 rfl (lv_at hl 0 rfl) ?_
  refine lv_iload_n hx hb dX15_lineEnd_3 rfl (lv_at hl 3 rfl) ?_
  refine lv_icmp_ge (tgt := 21) hx hb dX15_lineEnd_4 (by decide) (fun c_6 => ?_) (fun c_6 => ?_)
  ·
    have hi_7 : tt ≤ j := leN (N := tt) c_6
    refine lv_iload_n hx hb dX15_lineEnd_21 rfl (lv_at hl 3 rfl) ?_
    refine lv_iload_n hx hb dX15_lineEnd_22 rfl (lv_at hl 0 rfl) ?_
    refine lv_iconst (v := 1) hx hb dX15_lineEnd_23 (by decide) ?_
    refine lv_iadd hx hb dX15_lineEnd_24 ?_
    refine lv_topi (fun x_8 ex_8 => ?_)
    obtain rfl : x_8 = (nI (j + 1)) := ex_8.trans (nI_add j 1)
    refine va_mmin hx hb (by rw [hml]; exact hl.1.symm) hown (hts _ kt_708) (hts _ kt_26) (hts _ kt_19) (hts _ kt_27) (Nat.le_of_ble_eq_true rfl) (Nat.le_of_ble_eq_true rfl) (by show _ ≤ 0; omega) (by show _ ≤ 0; omega) dX15_lineEnd_25 ?_
    refine lv_topi (fun x_9 ex_9 => ?_)
    obtain rfl : x_9 = (nI (min tt (j + 1))) := ex_9.trans (minN tt (j + 1) (by omega) (by omega))
    refine W.widen (k := 0) (n := 0) (by omega) (by omega) ?_
    exact W.iret (v := (nI (min tt (j + 1)))) hx hb hr (fun t ht hWm => ⟨⟨(nI (min tt (j + 1))), (), rfl, ⟨j, rfl, by omega, by omega, fun i h1 h2 => clg0n (hv3 i h1 h2), Or.inl (by omega)⟩, ⟨F, QTm.mk ht hP hD hO hR⟩⟩, hS.F ht⟩) hS.2.2 dX15_lineEnd_28
  ·
    have hi_10 : j < tt := ltN (N := tt) c_6
    refine lv_aload_n hx hb dX15_lineEnd_7 rfl (lv_at hl 1 rfl) ?_
    refine lv_iload_n hx hb dX15_lineEnd_8 rfl (lv_at hl 0 rfl) ?_
    refine pg_bald hx hb hK hP hL_g1 1 hFg rfl (vp_in_nI (by omega) (by omega)) dX15_lineEnd_9 ?_
    refine lv_topi (fun x_11 ex_11 => ?_)
    obtain rfl : x_11 = gt j := ex_11.trans (congrArg gt (show ((nI j) : Int32).toNatClampNeg = j from nI_clamp (by omega)))
    refine lv_bipush (v := 10) hx hb dX15_lineEnd_10 (by decide) ?_
    refine lv_icmp_eq (tgt := 21) hx hb dX15_lineEnd_12 (by decide) (fun c_12 => ?_) (fun c_12 => ?_)
    ·
      refine lv_iload_n hx hb dX15_lineEnd_21 rfl (lv_at hl 3 rfl) ?_
      refine lv_iload_n hx hb dX15_lineEnd_22 rfl (lv_at hl 0 rfl) ?_
      refine lv_iconst (v := 1) hx hb dX15_lineEnd_23 (by decide) ?_
      refine lv_iadd hx hb dX15_lineEnd_24 ?_
      refine lv_topi (fun x_13 ex_13 => ?_)
      obtain rfl : x_13 = (nI (j + 1)) := ex_13.trans (nI_add j 1)
      refine va_mmin hx hb (by rw [hml]; exact hl.1.symm) hown (hts _ kt_708) (hts _ kt_26) (hts _ kt_19) (hts _ kt_27) (Nat.le_of_ble_eq_true rfl) (Nat.le_of_ble_eq_true rfl) (by show _ ≤ 0; omega) (by show _ ≤ 0; omega) dX15_lineEnd_25 ?_
      refine lv_topi (fun x_14 ex_14 => ?_)
      obtain rfl : x_14 = (nI (min tt (j + 1))) := ex_14.trans (minN tt (j + 1) (by omega) (by omega))
      refine W.widen (k := 0) (n := 0) (by omega) (by omega) ?_
      exact W.iret (v := (nI (min tt (j + 1)))) hx hb hr (fun t ht hWm => ⟨⟨(nI (min tt (j + 1))), (), rfl, ⟨j, rfl, by omega, by omega, fun i h1 h2 => clg0n (hv3 i h1 h2), Or.inr (clg0 c_12)⟩, ⟨F, QTm.mk ht hP hD hO hR⟩⟩, hS.F ht⟩) hS.2.2 dX15_lineEnd_28
    ·
      refine lv_iinc (v := (nI (j + 1))) (lv' := [(3, .int (nI (j + 1))), (0, .ref g1), (1, .int (nI a)), (2, .int (nI tt))]) hx hb dX15_lineEnd_15 hl (k := 0) rfl (nI_1 _) (by decide) rfl (fun ls hl => ?_)
      refine lv_goto (tgt := 2) hx hb dX15_lineEnd_18 (by decide) ?_
      refine W.widen (k := 0) (n := 0) (by omega) (by omega) ?_
      exact ih_5 (j + 1) F (⟨by omega, by omega, fun i h1 h2 => by rcases Nat.lt_or_ge i j with q | q; exact hv3 i h1 q; rw [show i = j by omega]; exact c_12⟩) (by show tt - (j + 1) < tt - j; omega) hO hR _ _ hP hD hS ls (lv_sub hl [0, 1, 2, 3] rfl)
