set_option maxHeartbeats 4000000 in
set_option maxRecDepth 100000 in
theorem s_X15_small_e (l : Launch) (dC : Nat → ClassId) (dI : Nat → Nat → Nat) (cs : Nat → ClassId) (ty : TyM) (gm : Nat → Nat → Nat) (L : List Nat) (sz : Nat) (F : Nat → va_E) (x1 : Int32) (hW : WTm ty gm L) : Met l yX15_small (.code yX15_small cX15_small 1 (some .int) :: tb) ({ frames := 0, cells := 0, slots := 0, locals := 0 }) (va_Pc [.int x1] (PTm (dC, dI) cs ty gm L F sz)) (va_Qi (fun (r : Int32) (_ : Unit) => r = smv x1) (fun _ T9 => ∃ F2 : Nat → va_E, QTm (dC, dI) cs ty gm L [] F F2 (va_A (va_pl L F) sz) T9) (va_A (va_pl L F) sz)) 0 0 (va_A (va_pl L F) sz) := by
  refine Met.ofW (cc := cX15_small) (maxL := 1) (ret := (some .int)) (by decide) rfl ?_
  intro p e s m args below meth c s₁ B hml hv
  obtain ⟨rfl, hsz, hP, hK, hD0, hE, hO⟩ := hv
  have hx := B.exec
  have hb := B.bytes
  have hr := B.returns
  have hts : ∀ w ∈ tb, w.before _ s = true := fun w h => atoms_spec (ws := .code yX15_small cX15_small 1 (some .int) :: tb) B.pre w (List.mem_cons_of_mem _ h)
  have hown : s.vm.findClass RX15 = some m.cls := findClass_of_methodNamed B.named
  have hlocks := B.notSynchronized
  subst hsz
  have hD := hD0.self (sz := s.heap.size)
  generalize hAe : va_A (va_pl L F) s.heap.size = A at hD ⊢
  have hA : ∀ q : Nat, s.heap.size ≤ q → A q := fun q h => by rw [← hAe]; exact Or.inr h
  have hS : va_S A s.heap s.heap [] := va_S.rf
  have hR : FR ty [] F F := FR.refl
  have hl := lv_entry ([.int x1]) (n := 1) (Nat.le_of_ble_eq_true rfl)
  rw [lg_entry_eq]
  generalize (lg_sl ([.int x1]) ++ List.replicate (1 - (lg_sl ([.int x1])).length) Slot.unset).toArray = ls at hl ⊢
  have hl : lv_has ls 1 [(0, .int x1)] := hl
  refine lv_iload_n hx hb dX15_small_0 rfl (lv_at hl 0 rfl) ?_
  refine lv_bipush (v := 65) hx hb dX15_small_1 (by decide) ?_
  refine lv_icmp_lt (tgt := 19) hx hb dX15_small_3 (by decide) (fun c_1 => ?_) (fun c_1 => ?_)
  ·
    refine lv_iload_n hx hb dX15_small_19 rfl (lv_at hl 0 rfl) ?_
    refine W.widen (k := 0) (n := 0) (by omega) (by omega) ?_
    exact W.iret (v := x1) hx hb hr (fun t ht hWm => ⟨⟨x1, (), rfl, (by unfold smv; rw [if_pos (Or.inl c_1)]), ⟨F, QTm.mk ht hP hD hO hR⟩⟩, hS.F ht⟩) hS.2.2 dX15_small_20
  ·
    refine lv_iload_n hx hb dX15_small_6 rfl (lv_at hl 0 rfl) ?_
    refine lv_bipush (v := 90) hx hb dX15_small_7 (by decide) ?_
    refine lv_icmp_gt (tgt := 19) hx hb dX15_small_9 (by decide) (fun c_2 => ?_) (fun c_2 => ?_)
    ·
      refine lv_iload_n hx hb dX15_small_19 rfl (lv_at hl 0 rfl) ?_
      refine W.widen (k := 0) (n := 0) (by omega) (by omega) ?_
      exact W.iret (v := x1) hx hb hr (fun t ht hWm => ⟨⟨x1, (), rfl, (by unfold smv; rw [if_pos (Or.inr c_2)]), ⟨F, QTm.mk ht hP hD hO hR⟩⟩, hS.F ht⟩) hS.2.2 dX15_small_20
    ·
      refine lv_iload_n hx hb dX15_small_12 rfl (lv_at hl 0 rfl) ?_
      refine lv_bipush (v := 32) hx hb dX15_small_13 (by decide) ?_
      refine lv_iadd hx hb dX15_small_15 ?_
      refine lv_topi (fun x_3 ex_3 => ?_)
      obtain rfl : x_3 = (x1 + 32) := ex_3.trans (rfl)
      refine lv_goto (tgt := 20) hx hb dX15_small_16 (by decide) ?_
      refine W.widen (k := 0) (n := 0) (by omega) (by omega) ?_
      exact W.iret (v := (x1 + 32)) hx hb hr (fun t ht hWm => ⟨⟨(x1 + 32), (), rfl, (by unfold smv; rw [if_neg (fun q => q.elim c_1 c_2)]), ⟨F, QTm.mk ht hP hD hO hR⟩⟩, hS.F ht⟩) hS.2.2 dX15_small_20
set_option maxHeartbeats 4000000 in
set_option maxRecDepth 100000 in
theorem s_X15_isAlike_e (l : Launch) (dC : Nat → ClassId) (dI : Nat → Nat → Nat) (cs : Nat → ClassId) (ty : TyM) (gm : Nat → Nat → Nat) (L : List Nat) (sz : Nat) (F : Nat → va_E) (g1 : Nat) (σ : Nat) (n1 : Nat) (q : Nat) (v : Nat) (k0 : Nat) (C : Nat → Int32) (a : Nat) (tt : Nat) (gl : Nat → Int32) (hW : WTm ty gm L) (hL_g1 : g1 ∈ L) (hT_g1 : ty g1 = (17, σ, [n1])) (hFg : F g1 = .inl (cs 17, n1, .inl gl)) (ha : a ≤ 20000) (htn : tt ≤ n1) : Met l yX15_isAlike (.code yX15_isAlike cX15_isAlike 5 (some .boolean) :: tb) ({ frames := 4, cells := 0, slots := 0, locals := 85 }) (va_Pc [.ref g1, .int (nI a), .int (nI tt), .ref q] (PTEm (dC, dI) cs ty gm L F sz [(q, v, k0, C)])) (va_Qi (fun (r : Int32) (_ : Unit) => ((r = 1 ∧ alP gl a tt C k0) ∨ (r = 0 ∧ ¬ alP gl a tt C k0))) (fun _ T9 => ∃ F2 : Nat → va_E, QTm (dC, dI) cs ty gm L [] F F2 (va_A (va_pl L F) sz) T9) (va_A (va_pl L F) sz)) 0 0 (va_A (va_pl L F) sz) := by
  refine Met.ofW (cc := cX15_isAlike) (maxL := 5) (ret := (some .boolean)) (by decide) rfl ?_
  intro p e s m args below meth c s₁ B hml hv
  obtain ⟨rfl, ⟨hsz, hP, hK, hD0, hE, hO⟩, hG, hX⟩ := hv
  have hx := B.exec
  have hb := B.bytes
  have hr := B.returns
  have hts : ∀ w ∈ tb, w.before _ s = true := fun w h => atoms_spec (ws := .code yX15_isAlike cX15_isAlike 5 (some .boolean) :: tb) B.pre w (List.mem_cons_of_mem _ h)
  have hown : s.vm.findClass RX15 = some m.cls := findClass_of_methodNamed B.named
  have hlocks := B.notSynchronized
  subst hsz
  have hD := hD0.self (sz := s.heap.size)
  generalize hAe : va_A (va_pl L F) s.heap.size = A at hD hG hX ⊢
  have hX_q : SXc q v k0 C A s s.heap := hX (q, v, k0, C) (by simp)
  obtain ⟨xo_q, xc_q, xv_q, xt_q, xn_q⟩ := id hX_q
  have hA : ∀ q : Nat, s.heap.size ≤ q → A q := fun q h => by rw [← hAe]; exact Or.inr h
  have hS : va_S A s.heap s.heap [] := va_S.rf
  have hR : FR ty [] F F := FR.refl
  have hl := lv_entry ([.ref g1, .int (nI a), .int (nI tt), .ref q]) (n := 5) (Nat.le_of_ble_eq_true rfl)
  rw [lg_entry_eq]
  generalize (lg_sl ([.ref g1, .int (nI a), .int (nI tt), .ref q]) ++ List.replicate (5 - (lg_sl ([.ref g1, .int (nI a), .int (nI tt), .ref q])).length) Slot.unset).toArray = ls at hl ⊢
  have hl : lv_has ls 5 [(0, .ref g1), (1, .int (nI a)), (2, .int (nI tt)), (3, .ref q)] := hl
  obtain ⟨hq_1, hq_2⟩ := hW.octs hL_g1 hT_g1
  refine lv_iload_n hx hb dX15_isAlike_0 rfl (lv_at hl 2 rfl) ?_
  refine lv_iload_n hx hb dX15_isAlike_1 rfl (lv_at hl 1 rfl) ?_
  refine lv_isub hx hb dX15_isAlike_2 ?_
  refine lv_topi (fun x_3 ex_3 => ?_)
  obtain rfl : x_3 = ((nI tt) - (nI a)) := ex_3.trans (rfl)
  refine lv_aload_n hx hb dX15_isAlike_3 rfl (lv_at hl 3 rfl) ?_
  have hFc := pg_free hD hS hA
  refine va_calli (va_runV (As := []) (rest := [.int ((nI tt) - (nI a))]) ⟨hx, hb, hml, hown, hts⟩ (m_J0_length_8abf5 l dC dI cs ty gm L s.heap.size F q v k0 C hW ) ⟨callB_of 0 hts (gi kt_71) rfl rfl rfl (hts _ kt_51) (hts _ kt_692) (by decide +kernel) ⟨Nat.le_of_ble_eq_true rfl, Nat.le_of_ble_eq_true rfl⟩, (hts _ kt_73), (hts _ kt_74)⟩ ⟨fun a U g mk q => ⟨q.1, PTEm.calling q.2⟩, sx_recv hX_q.sx hS, fun U hU hWm => ⟨rfl, PTEm.mk hU hWm hP hK hD hE hO hG (fun x hx => by rw [List.mem_singleton] at hx; subst hx; exact hX_q) hS hFc⟩⟩ rfl rfl hl.1 rfl (lv_room (Nat.le_of_ble_eq_true rfl)) dX15_isAlike_4 ⟨by show _ + 0 ≤ 0; omega, by show _ + 0 ≤ 0; omega⟩) hS (fun q _ h => hFc q h) hFc (fun r_4 u t H1 locs ht hvm hw hB hz1 hk1 hS => ?_)
  obtain ⟨F_5, hB1⟩ := hB
  obtain rfl : F = F_5 := (funext (fun a => hB1.2.2.2 a List.not_mem_nil)).symm
  obtain ⟨hP, hD, hO, hR⟩ := QTm.back hB1 ht hFc hR (fun q h => absurd h List.not_mem_nil)
  generalize H1 = H at hP hS ⊢
  have hw : r_4 = nI k0 := hw
  subst hw
  refine lv_icmp_eq (tgt := 12) hx hb dX15_isAlike_7 (by decide) (fun c_6 => ?_) (fun c_6 => ?_)
  ·
    have htz := sub_eqN c_6 (by omega) (by omega) (by omega)
    refine lv_iconst (v := 0) hx hb dX15_isAlike_12 (by decide) ?_
    refine lv_istore (lv' := [(4, .int 0), (0, .ref g1), (1, .int (nI a)), (2, .int (nI tt)), (3, .ref q)]) hx hb dX15_isAlike_13 hl (by decide) rfl (fun ls hl => ?_)
    refine W.widen (k := 0) (n := 0) (by omega) (by omega) ?_
    refine pl_loopm (σ := Nat) A (dC, dI) cs ty gm L [] F 15 5 (fun j => [(4, .int (nI j)), (0, .ref g1), (1, .int (nI a)), (2, .int (nI tt)), (3, .ref q)]) (fun j => []) (fun j _ => j ≤ k0 ∧ ∀ i, i < j → smv (gl (a + i)) = chv (C i)) (fun j => k0 - j) ?_ 0 F (⟨Nat.zero_le _, fun i hi => absurd hi (Nat.not_lt_zero _)⟩) hO hR _ _ hP hD hS ls (lv_sub hl [0, 1, 2, 3, 4] rfl)
    rintro j F_7 hv_8 hO hR ih_9 H locs hP hD hS ls hl
    have hl : lv_has ls 5 [(4, .int (nI j)), (0, .ref g1), (1, .int (nI a)), (2, .int (nI tt)), (3, .ref q)] := hl
    have hv_8 : j ≤ k0 ∧ ∀ i, i < j → smv (gl (a + i)) = chv (C i) := hv_8
    refine W.eq (g2 := F0 m 15 ls []) rfl ?_
    obtain rfl : F = F_7 := (funext (fun a => hR a List.not_mem_nil)).symm
    obtain ⟨hv1, hv2⟩ := id hv_8
    refine lv_iload hx hb dX15_isAlike_15 (lv_at hl 0 rfl) ?_
    refine lv_aload_n hx hb dX15_isAlike_17 rfl (lv_at hl 4 rfl) ?_
    have hFc := pg_free hD hS hA
    refine va_calli (va_runV (As := []) (rest := [.int (nI j)]) ⟨hx, hb, hml, hown, hts⟩ (m_J0_length_8abf5 l dC dI cs ty gm L H.size F q v k0 C hW ) ⟨callB_of 0 hts (gi kt_71) rfl rfl rfl (hts _ kt_51) (hts _ kt_692) (by decide +kernel) ⟨Nat.le_of_ble_eq_true rfl, Nat.le_of_ble_eq_true rfl⟩, (hts _ kt_73), (hts _ kt_74)⟩ ⟨fun a U g mk q => ⟨q.1, PTEm.calling q.2⟩, sx_recv hX_q.sx hS, fun U hU hWm => ⟨rfl, PTEm.mk hU hWm hP hK hD hE hO hG (fun x hx => by rw [List.mem_singleton] at hx; subst hx; exact hX_q) hS hFc⟩⟩ rfl rfl hl.1 rfl (lv_room (Nat.le_of_ble_eq_true rfl)) dX15_isAlike_18 ⟨by show _ + 0 ≤ 0; omega, by show _ + 0 ≤ 0; omega⟩) hS (fun q _ h => hFc q h) hFc (fun r_10 u t H1 locs ht hvm hw hB hz1 hk1 hS => ?_)
    obtain ⟨F_11, hB1⟩ := hB
    obtain rfl : F = F_11 := (funext (fun a => hB1.2.2.2 a List.not_mem_nil)).symm
    obtain ⟨hP, hD, hO, hR⟩ := QTm.back hB1 ht hFc hR (fun q h => absurd h List.not_mem_nil)
    generalize H1 = H at hP hS ⊢
    have hw : r_10 = nI k0 := hw
    subst hw
    refine lv_icmp_ge (tgt := 50) hx hb dX15_isAlike_21 (by decide) (fun c_12 => ?_) (fun c_12 => ?_)
    ·
      have hi_13 : k0 ≤ j := leN (N := k0) c_12
      refine lv_iconst (v := 1) hx hb dX15_isAlike_50 (by decide) ?_
      refine W.widen (k := 0) (n := 0) (by omega) (by omega) ?_
      exact W.zret (v := 1) (ty := .boolean) hx hb hr (by decide) (fun t ht hWm => ⟨⟨1, (), rfl, (Or.inl ⟨rfl, htz, fun i hi => hv2 i (by omega)⟩), ⟨F, QTm.mk ht hP hD hO hR⟩⟩, hS.F ht⟩) hS.2.2 dX15_isAlike_51
    ·
      have hi_14 : j < k0 := ltN (N := k0) c_12
      refine lv_aload_n hx hb dX15_isAlike_24 rfl (lv_at hl 1 rfl) ?_
      refine lv_iload_n hx hb dX15_isAlike_25 rfl (lv_at hl 2 rfl) ?_
      refine lv_iload hx hb dX15_isAlike_26 (lv_at hl 0 rfl) ?_
      refine lv_iadd hx hb dX15_isAlike_28 ?_
      refine lv_topi (fun x_15 ex_15 => ?_)
      obtain rfl : x_15 = (nI (a + j)) := ex_15.trans (nI_add a j)
      refine pg_bald hx hb hK hP hL_g1 1 hFg rfl (vp_in_nI (by omega) (by omega)) dX15_isAlike_29 ?_
      refine lv_topi (fun x_16 ex_16 => ?_)
      obtain rfl : x_16 = gl (a + j) := ex_16.trans (congrArg gl (show ((nI (a + j)) : Int32).toNatClampNeg = (a + j) from nI_clamp (by omega)))
      have hFc := pg_free hD hS hA
      refine va_calli (va_runS (As := [.int (gl (a + j))]) (rest := []) ⟨hx, hb, hml, hown, hts⟩ (s_X15_small_e l dC dI cs ty gm L H.size F (gl (a + j)) hW ) ⟨callB_of 1 hts (gi kt_697) rfl rfl rfl (hts _ kt_669) (hts _ kt_698) (by decide +kernel) ⟨Nat.le_of_ble_eq_true rfl, Nat.le_of_ble_eq_true rfl⟩, (hts _ kt_699)⟩ ⟨fun a U g mk q => ⟨q.1, PTm.calling q.2⟩, fun U hU hWm => ⟨rfl, PTm.mk hU hWm hP hK hD hE hO⟩⟩ rfl rfl hl.1 rfl (lv_room (Nat.le_of_ble_eq_true rfl)) dX15_isAlike_30 ⟨by show _ + 0 ≤ 0; omega, by show _ + 0 ≤ 0; omega⟩) hS (fun q _ h => hFc q h) hFc (fun r_17 u t H1 locs ht hvm hw hB hz1 hk1 hS => ?_)
      obtain ⟨F_18, hB1⟩ := hB
      obtain rfl : F = F_18 := (funext (fun a => hB1.2.2.2 a List.not_mem_nil)).symm
      obtain ⟨hP, hD, hO, hR⟩ := QTm.back hB1 ht hFc hR (fun q h => absurd h List.not_mem_nil)
      generalize H1 = H at hP hS ⊢
      have hw : r_17 = smv (gl (a + j)) := hw
      subst hw
      refine lv_aload_n hx hb dX15_isAlike_33 rfl (lv_at hl 4 rfl) ?_
      refine lv_iload hx hb dX15_isAlike_34 (lv_at hl 0 rfl) ?_
      have hFc := pg_free hD hS hA
      refine va_calli (va_runV (As := [.int (nI j)]) (rest := [.int (smv (gl (a + j)))]) ⟨hx, hb, hml, hown, hts⟩ (m_J0_charAt_5068e l dC dI cs ty gm L H.size F q v k0 C j hW (by first | omega | assumption | exact Or.inl rfl)) ⟨callB_of 1 hts (gi kt_75) rfl rfl rfl (hts _ kt_51) (hts _ kt_693) (by decide +kernel) ⟨Nat.le_of_ble_eq_true rfl, Nat.le_of_ble_eq_true rfl⟩, (hts _ kt_77), (hts _ kt_78)⟩ ⟨fun a U g mk q => ⟨q.1, PTEm.calling q.2⟩, sx_recv hX_q.sx hS, fun U hU hWm => ⟨rfl, PTEm.mk hU hWm hP hK hD hE hO hG (fun x hx => by rw [List.mem_singleton] at hx; subst hx; exact hX_q) hS hFc⟩⟩ rfl rfl hl.1 rfl (lv_room (Nat.le_of_ble_eq_true rfl)) dX15_isAlike_36 ⟨by show _ + 0 ≤ 0; omega, by show _ + 0 ≤ 0; omega⟩) hS (fun q _ h => hFc q h) hFc (fun r_19 u t H1 locs ht hvm hw hB hz1 hk1 hS => ?_)
      obtain ⟨F_20, hB1⟩ := hB
      obtain rfl : F = F_20 := (funext (fun a => hB1.2.2.2 a List.not_mem_nil)).symm
      obtain ⟨hP, hD, hO, hR⟩ := QTm.back hB1 ht hFc hR (fun q h => absurd h List.not_mem_nil)
      generalize H1 = H at hP hS ⊢
      have hw : r_19 = chv (C j) := hw
      subst hw
      refine lv_icmp_eq (tgt := 44) hx hb dX15_isAlike_39 (by decide) (fun c_21 => ?_) (fun c_21 => ?_)
      ·
        refine lv_iinc (v := (nI (j + 1))) (lv' := [(4, .int (nI (j + 1))), (0, .ref g1), (1, .int (nI a)), (2, .int (nI tt)), (3, .ref q)]) hx hb dX15_isAlike_44 hl (k := 0) rfl (nI_1 _) (by decide) rfl (fun ls hl => ?_)
        refine lv_goto (tgt := 15) hx hb dX15_isAlike_47 (by decide) ?_
        refine W.widen (k := 0) (n := 0) (by omega) (by omega) ?_
        exact ih_9 (j + 1) F (⟨by omega, all_step hv2 c_21⟩) (by show k0 - (j + 1) < k0 - j; omega) hO hR _ _ hP hD hS ls (lv_sub hl [0, 1, 2, 3, 4] rfl)
      ·
        refine lv_iconst (v := 0) hx hb dX15_isAlike_42 (by decide) ?_
        refine W.widen (k := 0) (n := 0) (by omega) (by omega) ?_
        exact W.zret (v := 0) (ty := .boolean) hx hb hr (by decide) (fun t ht hWm => ⟨⟨0, (), rfl, (Or.inr ⟨rfl, fun h => c_21 (h.2 j (by omega))⟩), ⟨F, QTm.mk ht hP hD hO hR⟩⟩, hS.F ht⟩) hS.2.2 dX15_isAlike_43
  ·
    refine lv_iconst (v := 0) hx hb dX15_isAlike_10 (by decide) ?_
    refine W.widen (k := 0) (n := 0) (by omega) (by omega) ?_
    exact W.zret (v := 0) (ty := .boolean) hx hb hr (by decide) (fun t ht hWm => ⟨⟨0, (), rfl, (Or.inr ⟨rfl, fun h => c_6 (by rw [h.1]; rw [pk_sub (by omega)]; congr 1; omega)⟩), ⟨F, QTm.mk ht hP hD hO hR⟩⟩, hS.F ht⟩) hS.2.2 dX15_isAlike_11
set_option maxHeartbeats 4000000 in
set_option maxRecDepth 100000 in
theorem s_X15_isNamed_e (l : Launch) (dC : Nat → ClassId) (dI : Nat → Nat → Nat) (cs : Nat → ClassId) (ty : TyM) (gm : Nat → Nat → Nat) (L : List Nat) (sz : Nat) (F : Nat → va_E) (h0 : Nat) (ρ : Nat) (ta : Nat) (ou : Nat) (so : Nat) (ad : Nat) (na : Nat) (va : Nat) (lc : Nat) (dm : Nat) (tg : Nat) (pe : Nat) (ml : Nat) (bg : Nat) (co : Nat) (sp : Nat) (nb0 : Nat) (nb1 : Nat) (nb2 : Nat) (pl : Nat) (se : Nat) (ke : Nat) (wi : Nat) (hs : Nat) (mo : Nat) (po : Nat) (nu : Nat) (pr : Nat) (sq : Nat) (xa : Nat) (sa : Nat) (n64 : Nat) (m64 : Nat) (ex : Nat) (wh : Nat) (sd : Nat) (tk : Nat) (hd : Nat) (ak : Nat) (ho : Nat) (ot : Nat) (sx : Nat) (s0 : Nat) (s1 : Nat) (s2 : Nat) (nf : Nat) (bd : Nat) (mm : Nat) (zo : Nat) (fm : Nat) (sn : Nat) (hg : Nat) (gc : Nat) (gv : Nat) (ze : Nat) (zt : Nat) (jf : Nat) (q : Nat) (v : Nat) (k0 : Nat) (C : Nat → Int32) (gl : Nat → Int32) (hW : WTm ty gm L) (hL_h0 : h0 ∈ L) (hT_h0 : ty h0 = (15, ρ, [ta, ou, so, ad, na, va, lc, dm, tg, pe, ml, bg, co, sp, nb0, nb1, nb2, pl, se, ke, wi, hs, mo, po, nu, pr, sq, xa, sa, n64, m64, ex, wh, sd, tk, hd, ak, ho, ot, sx, s0, s1, s2, nf, bd, mm, zo, fm, sn, hg, gc, gv, ze, zt])) (hFml : F ml = .inl (cs 17, 3000, .inl gl)) (hjf : jf < nf) : Met l yX15_isNamed (.code yX15_isNamed cX15_isNamed 3 (some .boolean) :: tb) ({ frames := 5, cells := 0, slots := 0, locals := 109 }) (va_Pc [.ref h0, .int (nI jf), .ref q] (PTEm (dC, dI) cs ty gm L F sz [(q, v, k0, C)])) (va_Qi (fun (r : Int32) (_ : Unit) => ((r = 1 ∧ alP gl (gm 0 jf) (gm 1 jf) C k0) ∨ (r = 0 ∧ ¬ alP gl (gm 0 jf) (gm 1 jf) C k0))) (fun _ T9 => ∃ F2 : Nat → va_E, QTm (dC, dI) cs ty gm L [] F F2 (va_A (va_pl L F) sz) T9) (va_A (va_pl L F) sz)) 0 0 (va_A (va_pl L F) sz) := by
  refine Met.ofW (cc := cX15_isNamed) (maxL := 3) (ret := (some .boolean)) (by decide) rfl ?_
  intro p e s m args below meth c s₁ B hml hv
  obtain ⟨rfl, ⟨hsz, hP, hK, hD0, hE, hO⟩, hG, hX⟩ := hv
  have hx := B.exec
  have hb := B.bytes
  have hr := B.returns
  have hts : ∀ w ∈ tb, w.before _ s = true := fun w h => atoms_spec (ws := .code yX15_isNamed cX15_isNamed 3 (some .boolean) :: tb) B.pre w (List.mem_cons_of_mem _ h)
  have hown : s.vm.findClass RX15 = some m.cls := findClass_of_methodNamed B.named
  have hlocks := B.notSynchronized
  subst hsz
  have hD := hD0.self (sz := s.heap.size)
  generalize hAe : va_A (va_pl L F) s.heap.size = A at hD hG hX ⊢
  have hX_q : SXc q v k0 C A s s.heap := hX (q, v, k0, C) (by simp)
  obtain ⟨xo_q, xc_q, xv_q, xt_q, xn_q⟩ := id hX_q
  have hA : ∀ q : Nat, s.heap.size ≤ q → A q := fun q h => by rw [← hAe]; exact Or.inr h
  have hS : va_S A s.heap s.heap [] := va_S.rf
  have hR : FR ty [] F F := FR.refl
  have hl := lv_entry ([.ref h0, .int (nI jf), .ref q]) (n := 3) (Nat.le_of_ble_eq_true rfl)
  rw [lg_entry_eq]
  generalize (lg_sl ([.ref h0, .int (nI jf), .ref q]) ++ List.replicate (3 - (lg_sl ([.ref h0, .int (nI jf), .ref q])).length) Slot.unset).toArray = ls at hl ⊢
  have hl : lv_has ls 3 [(0, .ref h0), (1, .int (nI jf)), (2, .ref q)] := hl
  obtain ⟨hq_23, hq_24, hq_25, hq_26, hq_27, hgO, hgA, hgB, hq_28⟩ := hW.sc hL_h0 hT_h0
  have hoj := hgO jf hjf
  refine lv_aload_n hx hb dX15_isNamed_0 rfl (lv_at hl 0 rfl) ?_
  obtain ⟨v14_29, v15_30, v17_31, v18_32, v19_33, v20_34, v21_35, v22_36, v33_37, v52_38, v53_39, v54_40, hF_41, hq_42, hq_43, hq_44, hq_45, hq_46⟩ := hO.mod hL_h0 hT_h0
  refine pg_get (ci := 15) (v := .ref ml) (C := RX15) (T := TX15) (N := 59) hx hb hts it_15 hown hK hP hL_h0 hF_41 rfl 23 (by decide) (hts _ kt_887) (fun _ h9 => h9) rfl dX15_isNamed_1 ?_
  refine lv_aload_n hx hb dX15_isNamed_4 rfl (lv_at hl 0 rfl) ?_
  refine pg_get (ci := 15) (v := .ref bg) (C := RX15) (T := TX15) (N := 59) hx hb hts it_15 hown hK hP hL_h0 hF_41 rfl 24 (by decide) (hts _ kt_888) (fun _ h9 => h9) rfl dX15_isNamed_5 ?_
  refine lv_iload_n hx hb dX15_isNamed_8 rfl (lv_at hl 1 rfl) ?_
  obtain ⟨hi_47, ht_48⟩ := hW.f_bg hL_h0 hT_h0
  obtain ⟨f_49, hF_50, hq_51⟩ := hO.pos hi_47 ht_48
  refine pg_iald hx hb hK hP hi_47 0 hF_50 rfl (vp_in_nI (by omega) (by omega)) dX15_isNamed_9 ?_
  refine lv_topi (fun x_52 ex_52 => ?_)
  obtain rfl : x_52 = (nI (gm 0 jf)) := ex_52.trans (by rw [show ((nI jf) : Int32) = nI jf from rfl, nI_clamp (by omega)]; exact hq_51 jf (by omega))
  have hgbx_52 := hgB 0 jf
  refine lv_aload_n hx hb dX15_isNamed_10 rfl (lv_at hl 0 rfl) ?_
  refine pg_get (ci := 15) (v := .ref co) (C := RX15) (T := TX15) (N := 59) hx hb hts it_15 hown hK hP hL_h0 hF_41 rfl 25 (by decide) (hts _ kt_889) (fun _ h9 => h9) rfl dX15_isNamed_11 ?_
  refine lv_iload_n hx hb dX15_isNamed_14 rfl (lv_at hl 1 rfl) ?_
  obtain ⟨hi_53, ht_54⟩ := hW.f_co hL_h0 hT_h0
  obtain ⟨f_55, hF_56, hq_57⟩ := hO.pos hi_53 ht_54
  refine pg_iald hx hb hK hP hi_53 0 hF_56 rfl (vp_in_nI (by omega) (by omega)) dX15_isNamed_15 ?_
  refine lv_topi (fun x_58 ex_58 => ?_)
  obtain rfl : x_58 = (nI (gm 1 jf)) := ex_58.trans (by rw [show ((nI jf) : Int32) = nI jf from rfl, nI_clamp (by omega)]; exact hq_57 jf (by omega))
  have hgbx_58 := hgB 1 jf
  refine lv_aload_n hx hb dX15_isNamed_16 rfl (lv_at hl 2 rfl) ?_
  obtain ⟨hi_59, ht_60⟩ := hW.f_ml hL_h0 hT_h0
  obtain ⟨hq_61, hq_62⟩ := hW.octs hi_59 ht_60
  have hFc := pg_free hD hS hA
  refine va_calli (va_runS (As := [.ref ml, .int (nI (gm 0 jf)), .int (nI (gm 1 jf)), .ref q]) (rest := []) ⟨hx, hb, hml, hown, hts⟩ (s_X15_isAlike_e l dC dI cs ty gm L s.heap.size F ml (ρ + 8) 3000 q v k0 C (gm 0 jf) (gm 1 jf) gl hW hi_59 ht_60 hFml (by first | omega | assumption | exact Or.inl rfl) (by first | omega | assumption | exact Or.inl rfl)) ⟨callB_of 4 hts (gi kt_851) rfl rfl rfl (hts _ kt_669) (hts _ kt_852) (by decide +kernel) ⟨Nat.le_of_ble_eq_true rfl, Nat.le_of_ble_eq_true rfl⟩, (hts _ kt_853)⟩ ⟨fun a U g mk q => ⟨q.1, PTEm.calling q.2⟩, fun U hU hWm => ⟨rfl, PTEm.mk hU hWm hP hK hD hE hO hG (fun x hx => by rw [List.mem_singleton] at hx; subst hx; exact hX_q) hS hFc⟩⟩ rfl rfl hl.1 rfl (lv_room (Nat.le_of_ble_eq_true rfl)) dX15_isNamed_17 ⟨by show _ + 0 ≤ 0; omega, by show _ + 0 ≤ 0; omega⟩) hS (fun q _ h => hFc q h) hFc (fun r_63 u t H1 locs ht hvm hw hB hz1 hk1 hS => ?_)
  obtain ⟨F_64, hB1⟩ := hB
  obtain rfl : F = F_64 := (funext (fun a => hB1.2.2.2 a List.not_mem_nil)).symm
  obtain ⟨hP, hD, hO, hR⟩ := QTm.back hB1 ht hFc hR (fun q h => absurd h List.not_mem_nil)
  generalize H1 = H at hP hS ⊢
  have hw : ((r_63 = 1 ∧ alP gl (gm 0 jf) (gm 1 jf) C k0) ∨ (r_63 = 0 ∧ ¬ alP gl (gm 0 jf) (gm 1 jf) C k0)) := hw
  have hw_65 := hw
  refine W.widen (k := 0) (n := 0) (by omega) (by omega) ?_
  exact W.zret (v := r_63) (ty := .boolean) hx hb hr (bitN (bit2 hw_65)) (fun t ht hWm => ⟨⟨r_63, (), rfl, hw_65, ⟨F, QTm.mk ht hP hD hO hR⟩⟩, hS.F ht⟩) hS.2.2 dX15_isNamed_20
set_option maxHeartbeats 4000000 in
set_option maxRecDepth 100000 in
theorem s_X15_seals_x (l : Launch) (dC : Nat → ClassId) (dI : Nat → Nat → Nat) (cs : Nat → ClassId) (ty : TyM) (gm : Nat → Nat → Nat) (L : List Nat) (sz : Nat) (F : Nat → va_E) (h0 : Nat) (ρ : Nat) (ta : Nat) (ou : Nat) (so : Nat) (ad : Nat) (na : Nat) (va : Nat) (lc : Nat) (dm : Nat) (tg : Nat) (pe : Nat) (ml : Nat) (bg : Nat) (co : Nat) (sp : Nat) (nb0 : Nat) (nb1 : Nat) (nb2 : Nat) (pl : Nat) (se : Nat) (ke : Nat) (wi : Nat) (hs : Nat) (mo : Nat) (po : Nat) (nu : Nat) (pr : Nat) (sq : Nat) (xa : Nat) (sa : Nat) (n64 : Nat) (m64 : Nat) (ex : Nat) (wh : Nat) (sd : Nat) (tk : Nat) (hd : Nat) (ak : Nat) (ho : Nat) (ot : Nat) (sx : Nat) (s0 : Nat) (s1 : Nat) (s2 : Nat) (nf : Nat) (bd : Nat) (mm : Nat) (zo : Nat) (fm : Nat) (sn : Nat) (hg : Nat) (gc : Nat) (gv : Nat) (ze : Nat) (zt : Nat) (gl : Nat → Int32) (hW : WTm ty gm L) (hL_h0 : h0 ∈ L) (hT_h0 : ty h0 = (15, ρ, [ta, ou, so, ad, na, va, lc, dm, tg, pe, ml, bg, co, sp, nb0, nb1, nb2, pl, se, ke, wi, hs, mo, po, nu, pr, sq, xa, sa, n64, m64, ex, wh, sd, tk, hd, ak, ho, ot, sx, s0, s1, s2, nf, bd, mm, zo, fm, sn, hg, gc, gv, ze, zt])) (hFml : F ml = .inl (cs 17, 3000, .inl gl)) : Met l yX15_seals (.code yX15_seals cX15_seals 3 (some .int) :: tb) ({ frames := 6, cells := 0, slots := 0, locals := 131 }) (va_Pc [.ref h0] (PTEm (dC, dI) cs ty gm L F sz [])) (va_Qi (fun (r : Int32) (_ : Unit) => (∃ w : Nat, r = nI w ∧ CNT (fun i => alP gl (gm 0 i) (gm 1 i) (cct [100, 107, 105, 109, 45, 115, 105, 103, 110, 97, 116, 117, 114, 101]) 14) nf w)) (fun _ T9 => ∃ F2 : Nat → va_E, QTm (dC, dI) cs ty gm L [] F F2 (va_A (va_pl L F) sz) T9) (va_A (va_pl L F) sz)) 0 0 (va_A (va_pl L F) sz) := by
  refine Met.ofW (cc := cX15_seals) (maxL := 3) (ret := (some .int)) (by decide) rfl ?_
  intro p e s m args below meth c s₁ B hml hv
  obtain ⟨rfl, ⟨hsz, hP, hK, hD0, hE, hO⟩, hG, hX⟩ := hv
  have hx := B.exec
  have hb := B.bytes
  have hr := B.returns
  have hts : ∀ w ∈ tb, w.before _ s = true := fun w h => atoms_spec (ws := .code yX15_seals cX15_seals 3 (some .int) :: tb) B.pre w (List.mem_cons_of_mem _ h)
  have hown : s.vm.findClass RX15 = some m.cls := findClass_of_methodNamed B.named
  have hlocks := B.notSynchronized
  subst hsz
  have hD := hD0.self (sz := s.heap.size)
  generalize hAe : va_A (va_pl L F) s.heap.size = A at hD hG hX ⊢
  have hA : ∀ q : Nat, s.heap.size ≤ q → A q := fun q h => by rw [← hAe]; exact Or.inr h
  have hS : va_S A s.heap s.heap [] := va_S.rf
  have hR : FR ty [] F F := FR.refl
  have hl := lv_entry ([.ref h0]) (n := 3) (Nat.le_of_ble_eq_true rfl)
  rw [lg_entry_eq]
  generalize (lg_sl ([.ref h0]) ++ List.replicate (3 - (lg_sl ([.ref h0])).length) Slot.unset).toArray = ls at hl ⊢
  have hl : lv_has ls 3 [(0, .ref h0)] := hl
  obtain ⟨hq_23, hq_24, hq_25, hq_26, hq_27, hgO, hgA, hgB, hq_28⟩ := hW.sc hL_h0 hT_h0
  refine lv_iconst (v := 0) hx hb dX15_seals_0 (by decide) ?_
  refine lv_istore_n (lv' := [(1, .int 0), (0, .ref h0)]) hx hb dX15_seals_1 rfl hl (by decide) rfl (fun ls hl => ?_)
  refine lv_iconst (v := 0) hx hb dX15_seals_2 (by decide) ?_
  refine lv_istore_n (lv' := [(2, .int 0), (1, .int 0), (0, .ref h0)]) hx hb dX15_seals_3 rfl hl (by decide) rfl (fun ls hl => ?_)
  refine W.widen (k := 0) (n := 0) (by omega) (by omega) ?_
  refine pl_loopm (σ := Nat × Nat) A (dC, dI) cs ty gm L [] F 4 3 (fun (j, w1) => [(2, .int (nI j)), (1, .int (nI w1)), (0, .ref h0)]) (fun (j, w1) => []) (fun (j, w1) _ => j ≤ nf ∧ w1 ≤ j ∧ CNT (fun i => alP gl (gm 0 i) (gm 1 i) (cct [100, 107, 105, 109, 45, 115, 105, 103, 110, 97, 116, 117, 114, 101]) 14) j w1) (fun (j, w1) => nf - j) ?_ (0, 0) F (⟨by omega, by omega, rfl⟩) hO hR _ _ hP hD hS ls (lv_sub hl [0, 1, 2] rfl)
  rintro ⟨j, w1⟩ F_29 hv_30 hO hR ih_31 H locs hP hD hS ls hl
  have hl : lv_has ls 3 [(2, .int (nI j)), (1, .int (nI w1)), (0, .ref h0)] := hl
  have hv_30 : j ≤ nf ∧ w1 ≤ j ∧ CNT (fun i => alP gl (gm 0 i) (gm 1 i) (cct [100, 107, 105, 109, 45, 115, 105, 103, 110, 97, 116, 117, 114, 101]) 14) j w1 := hv_30
  refine W.eq (g2 := F0 m 4 ls []) rfl ?_
  obtain rfl : F = F_29 := (funext (fun a => hR a List.not_mem_nil)).symm
  obtain ⟨hv1, hv2, hv3⟩ := id hv_30
  refine lv_aload_n hx hb dX15_seals_4 rfl (lv_at hl 2 rfl) ?_
  obtain ⟨v14_32, v15_33, v17_34, v18_35, v19_36, v20_37, v21_38, v22_39, v33_40, v52_41, v53_42, v54_43, hF_44, hq_45, hq_46, hq_47, hq_48, hq_49⟩ := hO.mod hL_h0 hT_h0
  refine pg_get (ci := 15) (v := .int v33_40) (C := RX15) (T := TX15) (N := 59) hx hb hts it_15 hown hK hP hL_h0 hF_44 rfl 33 (by decide) (hts _ kt_891) (fun _ h9 => h9) rfl dX15_seals_5 ?_
  refine lv_if_eq (tgt := 39) hx hb dX15_seals_8 (by decide) (fun c_50 => ?_) (fun c_50 => ?_)
  ·
    have hjn : nf = 0 := (hq_47.resolve_right (fun q => absurd (q.1.symm.trans c_50) (by decide))).2
    refine lv_iload_n hx hb dX15_seals_39 rfl (lv_at hl 1 rfl) ?_
    refine W.widen (k := 0) (n := 0) (by omega) (by omega) ?_
    exact W.iret (v := (nI w1)) hx hb hr (fun t ht hWm => ⟨⟨(nI w1), (), rfl, ⟨w1, rfl, by rw [show nf = j by omega]; exact hv3⟩, ⟨F, QTm.mk ht hP hD hO hR⟩⟩, hS.F ht⟩) hS.2.2 dX15_seals_40
  ·
    refine lv_iload_n hx hb dX15_seals_11 rfl (lv_at hl 0 rfl) ?_
    refine lv_aload_n hx hb dX15_seals_12 rfl (lv_at hl 2 rfl) ?_
    refine pg_get (ci := 15) (v := .int (nI nf)) (C := RX15) (T := TX15) (N := 59) hx hb hts it_15 hown hK hP hL_h0 hF_44 rfl 30 (by decide) (hts _ kt_892) (fun _ h9 => h9) rfl dX15_seals_13 ?_
    refine lv_icmp_ge (tgt := 39) hx hb dX15_seals_16 (by decide) (fun c_51 => ?_) (fun c_51 => ?_)
    ·
      have hi_52 : nf ≤ j := leN (N := nf) c_51
      refine lv_iload_n hx hb dX15_seals_39 rfl (lv_at hl 1 rfl) ?_
      refine W.widen (k := 0) (n := 0) (by omega) (by omega) ?_
      exact W.iret (v := (nI w1)) hx hb hr (fun t ht hWm => ⟨⟨(nI w1), (), rfl, ⟨w1, rfl, by rw [show nf = j by omega]; exact hv3⟩, ⟨F, QTm.mk ht hP hD hO hR⟩⟩, hS.F ht⟩) hS.2.2 dX15_seals_40
    ·
      have hi_53 : j < nf := ltN (N := nf) c_51
      refine lv_aload_n hx hb dX15_seals_19 rfl (lv_at hl 2 rfl) ?_
      refine lv_iload_n hx hb dX15_seals_20 rfl (lv_at hl 0 rfl) ?_
      obtain ⟨q_54, v_55, hr_q_54, hX_q_54⟩ := hG.2.2 ("PostGateModel", 376, "dkim-signature", [100, 107, 105, 109, 45, 115, 105, 103, 110, 97, 116, 117, 114, 101]) (by decide +kernel)
      have hX_q_54 : SXc q_54 v_55 14 (cct [100, 107, 105, 109, 45, 115, 105, 103, 110, 97, 116, 117, 114, 101]) A s s.heap := hX_q_54
      obtain ⟨xo_q_54, xc_q_54, xv_q_54, xt_q_54, xn_q_54⟩ := id hX_q_54
      have hr_q_54 : vk_R "PostGateModel" 376 "dkim-signature" q_54 s := hr_q_54
      refine va_ldcwS hx hb hown hr_q_54 dX15_seals_21 ?_
      obtain ⟨hi_56, ht_57⟩ := hW.f_ml hL_h0 hT_h0
      obtain ⟨hq_58, hq_59⟩ := hW.octs hi_56 ht_57
      have hFc := pg_free hD hS hA
      refine va_calli (va_runV (As := [.int (nI j), .ref q_54]) (rest := []) ⟨hx, hb, hml, hown, hts⟩ (s_X15_isNamed_e l dC dI cs ty gm L H.size F h0 ρ ta ou so ad na va lc dm tg pe ml bg co sp nb0 nb1 nb2 pl se ke wi hs mo po nu pr sq xa sa n64 m64 ex wh sd tk hd ak ho ot sx s0 s1 s2 nf bd mm zo fm sn hg gc gv ze zt j q_54 v_55 14 (cct [100, 107, 105, 109, 45, 115, 105, 103, 110, 97, 116, 117, 114, 101]) gl hW hL_h0 hT_h0 hFml (by first | omega | assumption | exact Or.inl rfl)) ⟨callB_of 2 hts (gi kt_893) rfl rfl rfl (hts _ kt_669) (hts _ kt_894) (by decide +kernel) ⟨Nat.le_of_ble_eq_true rfl, Nat.le_of_ble_eq_true rfl⟩, (hts _ kt_895), (hts _ kt_896)⟩ ⟨fun a U g mk q => ⟨q.1, PTEm.calling q.2⟩, pg_recv hK hP hL_h0 hF_44 (q := (RX15, TX15, 59)) rfl, fun U hU hWm => ⟨rfl, PTEm.mk hU hWm hP hK hD hE hO hG (fun x hx => by rw [List.mem_singleton] at hx; subst hx; exact hX_q_54) hS hFc⟩⟩ rfl rfl hl.1 rfl (lv_room (Nat.le_of_ble_eq_true rfl)) dX15_seals_24 ⟨by show _ + 0 ≤ 0; omega, by show _ + 0 ≤ 0; omega⟩) hS (fun q _ h => hFc q h) hFc (fun r_60 u t H1 locs ht hvm hw hB hz1 hk1 hS => ?_)
      obtain ⟨F_61, hB1⟩ := hB
      obtain rfl : F = F_61 := (funext (fun a => hB1.2.2.2 a List.not_mem_nil)).symm
      obtain ⟨hP, hD, hO, hR⟩ := QTm.back hB1 ht hFc hR (fun q h => absurd h List.not_mem_nil)
      generalize H1 = H at hP hS ⊢
      have hw : ((r_60 = 1 ∧ alP gl (gm 0 j) (gm 1 j) (cct [100, 107, 105, 109, 45, 115, 105, 103, 110, 97, 116, 117, 114, 101]) 14) ∨ (r_60 = 0 ∧ ¬ alP gl (gm 0 j) (gm 1 j) (cct [100, 107, 105, 109, 45, 115, 105, 103, 110, 97, 116, 117, 114, 101]) 14)) := hw
      have hw_62 := hw
      refine lv_if_eq (tgt := 33) hx hb dX15_seals_27 (by decide) (fun c_63 => ?_) (fun c_63 => ?_)
      ·
        refine lv_iinc (v := (nI (j + 1))) (lv' := [(2, .int (nI (j + 1))), (1, .int (nI w1)), (0, .ref h0)]) hx hb dX15_seals_33 hl (k := 0) rfl (nI_1 _) (by decide) rfl (fun ls hl => ?_)
        refine lv_goto (tgt := 4) hx hb dX15_seals_36 (by decide) ?_
        refine W.widen (k := 0) (n := 0) (by omega) (by omega) ?_
        exact ih_31 ((j + 1), w1) F (⟨by omega, by omega, hv3.n (nm0 hw_62 c_63)⟩) (by show nf - (j + 1) < nf - j; omega) hO hR _ _ hP hD hS ls (lv_sub hl [0, 1, 2] rfl)
      ·
        refine lv_iinc (v := (nI (w1 + 1))) (lv' := [(1, .int (nI (w1 + 1))), (2, .int (nI j)), (0, .ref h0)]) hx hb dX15_seals_30 hl (k := 1) rfl (nI_1 _) (by decide) rfl (fun ls hl => ?_)
        refine lv_iinc (v := (nI (j + 1))) (lv' := [(2, .int (nI (j + 1))), (1, .int (nI (w1 + 1))), (0, .ref h0)]) hx hb dX15_seals_33 hl (k := 1) rfl (nI_1 _) (by decide) rfl (fun ls hl => ?_)
        refine lv_goto (tgt := 4) hx hb dX15_seals_36 (by decide) ?_
        refine W.widen (k := 0) (n := 0) (by omega) (by omega) ?_
        exact ih_31 ((j + 1), (w1 + 1)) F (⟨by omega, by omega, hv3.y (nm1 hw_62 c_63)⟩) (by show nf - (j + 1) < nf - j; omega) hO hR _ _ hP hD hS ls (lv_sub hl [0, 1, 2] rfl)
