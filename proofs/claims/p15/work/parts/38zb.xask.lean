theorem dX1_answerOf_0 : decode cX1_answerOf 0 = .ok (.iload_n 0, 1) := by decide +kernel
theorem dX1_answerOf_1 : decode cX1_answerOf 1 = .ok (.lookupswitch 41 #[(45, 39), (63, 35), (126, 37)], 35) := by decide +kernel
theorem dX1_answerOf_36 : decode cX1_answerOf 36 = .ok (.iconst 1, 1) := by decide +kernel
theorem dX1_answerOf_37 : decode cX1_answerOf 37 = .ok (.ireturn, 1) := by decide +kernel
theorem dX1_answerOf_38 : decode cX1_answerOf 38 = .ok (.iconst 4, 1) := by decide +kernel
theorem dX1_answerOf_39 : decode cX1_answerOf 39 = .ok (.ireturn, 1) := by decide +kernel
theorem dX1_answerOf_40 : decode cX1_answerOf 40 = .ok (.iconst 3, 1) := by decide +kernel
theorem dX1_answerOf_41 : decode cX1_answerOf 41 = .ok (.ireturn, 1) := by decide +kernel
theorem dX1_answerOf_42 : decode cX1_answerOf 42 = .ok (.iconst 2, 1) := by decide +kernel
theorem dX1_answerOf_43 : decode cX1_answerOf 43 = .ok (.ireturn, 1) := by decide +kernel
def usn (x s : Int32) : Int32 := (x.toUInt32 >>> (s.toUInt32 &&& (31 : Int32).toUInt32)).toInt32
def SNE (x y : Int32) (w : Nat) : Prop := w = 0 ∨ usn (x ^^^ y) (nI (32 - w)) = 0
def HAD (D : Nat → ETY) (ze : Nat) (x : Int32) (w : Nat) (oo : Int32) (y : Nat) (fa : Nat → Int32) : Prop := ∃ k, k < ze ∧ (D k).1 = 1 ∧ SNE (D k).2.1 x w ∧ SAMN (D k) oo y fa
theorem had_s {D : Nat → ETY} {j w : Nat} {x oo : Int32} {y : Nat} {fa : Nat → Int32} (h : ¬ HAD D j x w oo y fa) (h1 : ¬ ((D j).1 = 1 ∧ SNE (D j).2.1 x w ∧ SAMN (D j) oo y fa)) : ¬ HAD D (j + 1) x w oo y fa := by
  rintro ⟨k, hk, q1⟩
  by_cases c : k = j
  · subst c
    exact h1 q1
  · exact h ⟨k, by omega, q1⟩
def OTQ (d : ETY) (oo : Int32) (y : Nat) (fa : Nat → Int32) (k : Nat) (l : List Nat) : Prop := d.1 = 0 ∧ SAMN d oo y fa ∧ BGW (TC d.2.2.2.2.2 d.2.2.2.2.1) 0 d.2.2.2.2.1 k l ∧ (d.2.2.2.2.1 ≤ k ∨ TC d.2.2.2.2.2 d.2.2.2.2.1 k = 32)
noncomputable def otw (D : Nat → ETY) (oo : Int32) (y : Nat) (fa : Nat → Int32) (k : Nat) (l : List Nat) : Nat → Int32
  | 0 => (-1)
  | j + 1 => @ite Int32 (OTQ (D j) oo y fa k l) (Classical.propDecidable _) (if otw D oo y fa k l j = (-1) then nI j else (-2)) (otw D oo y fa k l j)
theorem otw_n {D : Nat → ETY} {oo : Int32} {y k j : Nat} {fa : Nat → Int32} {l : List Nat} {x : Int32} (h : x = otw D oo y fa k l j) (h1 : ¬ OTQ (D j) oo y fa k l) : x = otw D oo y fa k l (j + 1) := h.trans (if_neg h1).symm
theorem otw_f {D : Nat → ETY} {oo : Int32} {y k j : Nat} {fa : Nat → Int32} {l : List Nat} {x : Int32} (h : x = otw D oo y fa k l j) (h1 : OTQ (D j) oo y fa k l) (h2 : x = (-1)) : nI j = otw D oo y fa k l (j + 1) := ((if_pos h1).trans (if_pos (h ▸ h2))).symm
theorem otw_m {D : Nat → ETY} {oo : Int32} {y k j : Nat} {fa : Nat → Int32} {l : List Nat} {x : Int32} (h : x = otw D oo y fa k l j) (h1 : OTQ (D j) oo y fa k l) (h2 : ¬ x = (-1)) : (-2) = otw D oo y fa k l (j + 1) := ((if_pos h1).trans (if_neg (h ▸ h2))).symm
set_option maxHeartbeats 4000000 in
set_option maxRecDepth 100000 in
theorem s_X10_isSameNet_e (l : Launch) (dC : Nat → ClassId) (dI : Nat → Nat → Nat) (cs : Nat → ClassId) (ty : TyM) (L : List Nat) (sz : Nat) (F : Nat → va_E) (x1 : Int32) (x2 : Int32) (w : Nat) (hW : WT ty L) (hw9 : w ≤ 32) : Met l yX10_isSameNet (.code yX10_isSameNet cX10_isSameNet 3 (some .boolean) :: tb) ({ frames := 0, cells := 0, slots := 0, locals := 0 }) (va_Pc [.int x1, .int x2, .int (nI w)] (PT (dC, dI) cs ty L F sz)) (va_Qi (fun (r : Int32) (_ : Unit) => (r = 1 ∧ SNE x1 x2 w) ∨ (r = 0 ∧ ¬ SNE x1 x2 w)) (fun _ T9 => ∃ F2 : Nat → va_E, QT (dC, dI) cs ty L [] F F2 (va_A (va_pl L F) sz) T9) (va_A (va_pl L F) sz)) 0 0 (va_A (va_pl L F) sz) := by
  refine Met.ofW (cc := cX10_isSameNet) (maxL := 3) (ret := (some .boolean)) (by decide) rfl ?_
  intro p e s m args below meth c s₁ B hml hv
  obtain ⟨rfl, hsz, hP, hK, hD0, hE, hO⟩ := hv
  have hx := B.exec
  have hb := B.bytes
  have hr := B.returns
  have hts : ∀ w ∈ tb, w.before _ s = true := fun w h => atoms_spec (ws := .code yX10_isSameNet cX10_isSameNet 3 (some .boolean) :: tb) B.pre w (List.mem_cons_of_mem _ h)
  have hown : s.vm.findClass RX10 = some m.cls := findClass_of_methodNamed B.named
  have hlocks := B.notSynchronized
  subst hsz
  have hD := hD0.self (sz := s.heap.size)
  generalize hAe : va_A (va_pl L F) s.heap.size = A at hD ⊢
  have hA : ∀ q : Nat, s.heap.size ≤ q → A q := fun q h => by rw [← hAe]; exact Or.inr h
  have hS : va_S A s.heap s.heap [] := va_S.rf
  have hR : FR ty [] F F := FR.refl
  have hl := lv_entry ([.int x1, .int x2, .int (nI w)]) (n := 3) (Nat.le_of_ble_eq_true rfl)
  rw [lg_entry_eq]
  generalize (lg_sl ([.int x1, .int x2, .int (nI w)]) ++ List.replicate (3 - (lg_sl ([.int x1, .int x2, .int (nI w)])).length) Slot.unset).toArray = ls at hl ⊢
  have hl : lv_has ls 3 [(0, .int x1), (1, .int x2), (2, .int (nI w))] := hl
  refine lv_iload_n hx hb dX10_isSameNet_0 rfl (lv_at hl 2 rfl) ?_
  refine lv_if_le (tgt := 15) hx hb dX10_isSameNet_1 (by decide) (fun c_1 => ?_) (fun c_1 => ?_)
  ·
    have hw0 : w = 0 := by have h9 : w ≤ 0 := (nI_leI (b := 0) (by omega) (by omega)).mp c_1; omega
    refine lv_iconst (v := 1) hx hb dX10_isSameNet_15 (by decide) ?_
    refine lv_goto (tgt := 20) hx hb dX10_isSameNet_16 (by decide) ?_
    refine W.widen (k := 0) (n := 0) (by omega) (by omega) ?_
    exact W.zret (v := 1) (ty := .boolean) hx hb hr (by decide) (fun t ht hWm => ⟨⟨1, (), rfl, (Or.inl ⟨rfl, Or.inl hw0⟩), ⟨F, QT.mk ht hP hD hO hR⟩⟩, hS.F ht⟩) hS.2.2 dX10_isSameNet_20
  ·
    have hw0 : 0 < w := posN c_1
    refine lv_iload_n hx hb dX10_isSameNet_4 rfl (lv_at hl 0 rfl) ?_
    refine lv_iload_n hx hb dX10_isSameNet_5 rfl (lv_at hl 1 rfl) ?_
    refine lv_ixor hx hb dX10_isSameNet_6 ?_
    refine lv_topi (fun x_4 ex_4 => ?_)
    obtain rfl : x_4 = (x1 ^^^ x2) := ex_4.trans (rfl)
    refine lv_bipush (v := 32) hx hb dX10_isSameNet_7 (by decide) ?_
    refine lv_iload_n hx hb dX10_isSameNet_9 rfl (lv_at hl 2 rfl) ?_
    refine lv_isub hx hb dX10_isSameNet_10 ?_
    refine lv_topi (fun x_5 ex_5 => ?_)
    obtain rfl : x_5 = (nI (32 - w)) := ex_5.trans (pk_sub (a := 32) (by omega))
    refine lv_iushr hx hb dX10_isSameNet_11 rfl ?_
    refine lv_topi (fun x_7 ex_7 => ?_)
    obtain rfl : x_7 = (usn (x1 ^^^ x2) (nI (32 - w))) := ex_7.trans (rfl)
    refine lv_if_ne (tgt := 19) hx hb dX10_isSameNet_12 (by decide) (fun c_8 => ?_) (fun c_8 => ?_)
    ·
      refine lv_iconst (v := 0) hx hb dX10_isSameNet_19 (by decide) ?_
      refine W.widen (k := 0) (n := 0) (by omega) (by omega) ?_
      exact W.zret (v := 0) (ty := .boolean) hx hb hr (by decide) (fun t ht hWm => ⟨⟨0, (), rfl, (Or.inr ⟨rfl, fun q => q.elim (fun q2 => absurd q2 (by omega)) c_8⟩), ⟨F, QT.mk ht hP hD hO hR⟩⟩, hS.F ht⟩) hS.2.2 dX10_isSameNet_20
    ·
      refine lv_iconst (v := 1) hx hb dX10_isSameNet_15 (by decide) ?_
      refine lv_goto (tgt := 20) hx hb dX10_isSameNet_16 (by decide) ?_
      refine W.widen (k := 0) (n := 0) (by omega) (by omega) ?_
      exact W.zret (v := 1) (ty := .boolean) hx hb hr (by decide) (fun t ht hWm => ⟨⟨1, (), rfl, (Or.inl ⟨rfl, Or.inr c_8⟩), ⟨F, QT.mk ht hP hD hO hR⟩⟩, hS.F ht⟩) hS.2.2 dX10_isSameNet_20
set_option maxHeartbeats 4000000 in
set_option maxRecDepth 100000 in
theorem s_X2_hasAddress_e (l : Launch) (dC : Nat → ClassId) (dI : Nat → Nat → Nat) (cs : Nat → ClassId) (ty : TyM) (L : List Nat) (sz : Nat) (F : Nat → va_E) (h0 : Nat) (ρ : Nat) (ea : Nat) (g1 : Nat) (σ : Nat) (r1 : Nat) (n1 : Nat) (y : Nat) (cn : Nat) (w : Nat) (fa : Nat → Int32) (D : Nat → ETY) (x2 : Int32) (oo : Int32) (hW : WT ty L) (hL_h0 : h0 ∈ L) (hT_h0 : ty h0 = (2, ρ, [ea])) (hL_g1 : g1 ∈ L) (hT_g1 : ty g1 = (0, σ, [r1, n1])) (hFd : F h0 = .inr (2, [.ref ea, .int (nI cn)])) (hcn : cn ≤ 40) (hFg : F g1 = .inr (0, [.ref r1, .int (nI y), .int oo])) (hFr1 : F r1 = .inl (cs 16, n1, .inl fa)) (hyn : y ≤ n1) (hm9 : n1 ≤ 10000) (hDI : DIRC cs F ea cn D) (hw9 : w ≤ 32) : Met l yX2_hasAddress (.code yX2_hasAddress cX2_hasAddress 5 (some .boolean) :: tb) ({ frames := 1, cells := 0, slots := 0, locals := 22 }) (va_Pc [.ref h0, .ref g1, .int x2, .int (nI w)] (PT (dC, dI) cs ty L F sz)) (va_Qi (fun (r : Int32) (_ : Unit) => (r = 1 ∧ HAD D cn x2 w oo y fa) ∨ (r = 0 ∧ ¬ HAD D cn x2 w oo y fa)) (fun _ T9 => ∃ F2 : Nat → va_E, QT (dC, dI) cs ty L [] F F2 (va_A (va_pl L F) sz) T9) (va_A (va_pl L F) sz)) 0 0 (va_A (va_pl L F) sz) := by
  refine Met.ofW (cc := cX2_hasAddress) (maxL := 5) (ret := (some .boolean)) (by decide) rfl ?_
  intro p e s m args below meth c s₁ B hml hv
  obtain ⟨rfl, hsz, hP, hK, hD0, hE, hO⟩ := hv
  have hx := B.exec
  have hb := B.bytes
  have hr := B.returns
  have hts : ∀ w ∈ tb, w.before _ s = true := fun w h => atoms_spec (ws := .code yX2_hasAddress cX2_hasAddress 5 (some .boolean) :: tb) B.pre w (List.mem_cons_of_mem _ h)
  have hown : s.vm.findClass RX2 = some m.cls := findClass_of_methodNamed B.named
  have hlocks := B.notSynchronized
  subst hsz
  have hD := hD0.self (sz := s.heap.size)
  generalize hAe : va_A (va_pl L F) s.heap.size = A at hD ⊢
  have hA : ∀ q : Nat, s.heap.size ≤ q → A q := fun q h => by rw [← hAe]; exact Or.inr h
  have hS : va_S A s.heap s.heap [] := va_S.rf
  have hR : FR ty [] F F := FR.refl
  have hl := lv_entry ([.ref h0, .ref g1, .int x2, .int (nI w)]) (n := 5) (Nat.le_of_ble_eq_true rfl)
  rw [lg_entry_eq]
  generalize (lg_sl ([.ref h0, .ref g1, .int x2, .int (nI w)]) ++ List.replicate (5 - (lg_sl ([.ref h0, .ref g1, .int x2, .int (nI w)])).length) Slot.unset).toArray = ls at hl ⊢
  have hl : lv_has ls 5 [(0, .ref h0), (1, .ref g1), (2, .int x2), (3, .int (nI w))] := hl
  obtain ⟨hi_1, ht_2⟩ := hW.dir hL_h0 hT_h0
  obtain ⟨f_3, hF_4, hq_5⟩ := hO.rentry hi_1 ht_2
  obtain ⟨hi_6, ht_7, hq_8⟩ := hW.bytes hL_g1 hT_g1
  refine lv_iconst (v := 0) hx hb dX2_hasAddress_0 (by decide) ?_
  refine lv_istore (lv' := [(4, .int 0), (0, .ref h0), (1, .ref g1), (2, .int x2), (3, .int (nI w))]) hx hb dX2_hasAddress_1 hl (by decide) rfl (fun ls hl => ?_)
  refine W.widen (k := 0) (n := 0) (by omega) (by omega) ?_
  refine pl_loop (σ := Nat) A (dC, dI) cs ty L [] F 3 5 (fun j => [(4, .int (nI j)), (0, .ref h0), (1, .ref g1), (2, .int x2), (3, .int (nI w))]) (fun j => []) (fun j _ => j ≤ cn ∧ ¬ HAD D j x2 w oo y fa) (fun j => cn - j) ?_ 0 F (⟨Nat.zero_le _, fun q => by obtain ⟨k, hk, -⟩ := q; omega⟩) hO hR _ _ hP hD hS ls (lv_sub hl [0, 1, 2, 3, 4] rfl)
  rintro j F_9 hv_10 hO hR ih_11 H locs hP hD hS ls hl
  have hl : lv_has ls 5 [(4, .int (nI j)), (0, .ref h0), (1, .ref g1), (2, .int x2), (3, .int (nI w))] := hl
  have hv_10 : j ≤ cn ∧ ¬ HAD D j x2 w oo y fa := hv_10
  refine W.eq (g2 := F0 m 3 ls []) rfl ?_
  obtain rfl : F = F_9 := (funext (fun a => hR a List.not_mem_nil)).symm
  obtain ⟨hv1, hv2⟩ := id hv_10
  refine lv_iload hx hb dX2_hasAddress_3 (lv_at hl 0 rfl) ?_
  refine lv_aload_n hx hb dX2_hasAddress_5 rfl (lv_at hl 1 rfl) ?_
  refine pg_get (ci := 2) (v := .int (nI cn)) (C := RX2) (T := TX2) (N := 2) hx hb hts it_2 hown hK hP hL_h0 hFd rfl 1 (by decide) (hts _ kt_83) (fun _ h9 => h9) rfl dX2_hasAddress_6 ?_
  refine lv_icmp_ge (tgt := 72) hx hb dX2_hasAddress_9 (by decide) (fun c_12 => ?_) (fun c_12 => ?_)
  ·
    have hi_13 : cn ≤ j := leN (N := cn) c_12
    have hjc : j = cn := by have h9 : cn ≤ j := (nI_leI (by omega) (by omega)).mp c_12; omega
    refine lv_iconst (v := 0) hx hb dX2_hasAddress_72 (by decide) ?_
    refine W.widen (k := 0) (n := 0) (by omega) (by omega) ?_
    exact W.zret (v := 0) (ty := .boolean) hx hb hr (by decide) (fun t ht hWm => ⟨⟨0, (), rfl, (Or.inr ⟨rfl, by rw [← hjc]; exact hv2⟩), ⟨F, QT.mk ht hP hD hO hR⟩⟩, hS.F ht⟩) hS.2.2 dX2_hasAddress_73
  ·
    have hi_14 : j < cn := ltN (N := cn) c_12
    have hjz : j < cn := Nat.not_le.mp (fun q => c_12 ((nI_leI (by omega) (by omega)).mpr q))
    refine lv_aload_n hx hb dX2_hasAddress_12 rfl (lv_at hl 1 rfl) ?_
    refine pg_get (ci := 2) (v := .ref ea) (C := RX2) (T := TX2) (N := 2) hx hb hts it_2 hown hK hP hL_h0 hFd rfl 0 (by decide) (hts _ kt_84) (fun _ h9 => h9) rfl dX2_hasAddress_13 ?_
    refine lv_iload hx hb dX2_hasAddress_16 (lv_at hl 0 rfl) ?_
    obtain ⟨b_15, x_16, y_17, hbf_18, hi_19, ht_20⟩ := hq_5 j (by omega)
    refine pg_aald (r := b_15) hx hb hK hP hi_1 5 hF_4 rfl (vp_in_nI (by omega) (by omega)) (show f_3 ((nI j) : Int32).toNatClampNeg = _ from by rw [show ((nI j) : Int32) = nI j from rfl, nI_clamp (by omega)]; exact hbf_18) dX2_hasAddress_18 ?_
    obtain ⟨hi_21, hi_22, ⟨r_23, ht_24⟩, ⟨r_25, ht_26⟩⟩ := hW.entry hi_19 ht_20
    have ht_24 : ty x_16 = (0, ρ + j + j + j + 101, [r_23, 60]) := ht_24
    have ht_26 : ty y_17 = (0, ρ + j + j + j + 102, [r_25, 700]) := ht_26
    obtain ⟨hen1, hen2, hen3, hen4, hen5⟩ := DIRC.get hDI hO hF_4 hjz hbf_18 hi_19 ht_20
    obtain ⟨hen6, hen7⟩ := hen2 _ _ hi_21 ht_24
    obtain ⟨hi_27, ht_28, hq_29⟩ := hW.bytes hi_21 ht_24
    refine pg_getN (ci := 3) (v := .int ((D j).1)) (C := RX3) (T := TX3) (N := 4) hx hb hts it_3 hown hK hP hi_19 hen1 rfl 2 (by decide) (hE.nest kn_0) (fun _ h9 => h9) rfl dX2_hasAddress_19 ?_
    refine lv_iconst (v := 1) hx hb dX2_hasAddress_22 (by decide) ?_
    refine lv_icmp_ne (tgt := 66) hx hb dX2_hasAddress_23 (by decide) (fun c_30 => ?_) (fun c_30 => ?_)
    ·
      refine lv_iinc (v := (nI (j + 1))) (lv' := [(4, .int (nI (j + 1))), (0, .ref h0), (1, .ref g1), (2, .int x2), (3, .int (nI w))]) hx hb dX2_hasAddress_66 hl (k := 0) rfl (nI_1 _) (by decide) rfl (fun ls hl => ?_)
      refine lv_goto (tgt := 3) hx hb dX2_hasAddress_69 (by decide) ?_
      refine W.widen (k := 0) (n := 0) (by omega) (by omega) ?_
      exact ih_11 (j + 1) F (⟨by omega, had_s hv2 (fun q => c_30 q.1)⟩) (by show cn - (j + 1) < cn - j; omega) hO hR _ _ hP hD hS ls (lv_sub hl [0, 1, 2, 3, 4] rfl)
    ·
      refine lv_aload_n hx hb dX2_hasAddress_26 rfl (lv_at hl 1 rfl) ?_
      refine pg_get (ci := 2) (v := .ref ea) (C := RX2) (T := TX2) (N := 2) hx hb hts it_2 hown hK hP hL_h0 hFd rfl 0 (by decide) (hts _ kt_84) (fun _ h9 => h9) rfl dX2_hasAddress_27 ?_
      refine lv_iload hx hb dX2_hasAddress_30 (lv_at hl 0 rfl) ?_
      refine pg_aald (r := b_15) hx hb hK hP hi_1 5 hF_4 rfl (vp_in_nI (by omega) (by omega)) (show f_3 ((nI j) : Int32).toNatClampNeg = _ from by rw [show ((nI j) : Int32) = nI j from rfl, nI_clamp (by omega)]; exact hbf_18) dX2_hasAddress_32 ?_
      refine pg_getN (ci := 3) (v := .int ((D j).2.1)) (C := RX3) (T := TX3) (N := 4) hx hb hts it_3 hown hK hP hi_19 hen1 rfl 3 (by decide) (hE.nest kn_2) (fun _ h9 => h9) rfl dX2_hasAddress_33 ?_
      refine lv_iload_n hx hb dX2_hasAddress_36 rfl (lv_at hl 3 rfl) ?_
      refine lv_iload_n hx hb dX2_hasAddress_37 rfl (lv_at hl 4 rfl) ?_
      have hFc := pg_free hD hS hA
      refine va_calli (va_runS (As := [.int ((D j).2.1), .int x2, .int (nI w)]) (rest := []) ⟨hx, hb, hml, hown, hts⟩ (s_X10_isSameNet_e l dC dI cs ty L H.size F ((D j).2.1) x2 w hW (by omega)) ⟨callB_of 3 hts (gi kt_89) rfl rfl rfl (hts _ kt_90) (hts _ kt_91) (by decide +kernel) ⟨Nat.le_of_ble_eq_true rfl, Nat.le_of_ble_eq_true rfl⟩, (hts _ kt_92)⟩ ⟨fun a U g mk q => ⟨q.1, PT.calling q.2⟩, fun U hU hWm => ⟨rfl, PT.mk hU hWm hP hK hD hE hO⟩⟩ rfl rfl hl.1 rfl (lv_room (Nat.le_of_ble_eq_true rfl)) dX2_hasAddress_38 ⟨by show _ + 0 ≤ 0; omega, by show _ + 0 ≤ 0; omega⟩) hS (fun q _ h => hFc q h) hFc (fun r_31 u t H1 locs ht hvm hw hB hz1 hk1 hS => ?_)
      obtain ⟨F_32, hB1⟩ := hB
      obtain rfl : F = F_32 := (funext (fun a => hB1.2.2.2 a List.not_mem_nil)).symm
      obtain ⟨hP, hD, hO, hR⟩ := QT.back hB1 ht hFc hR (fun q h => absurd h List.not_mem_nil)
      generalize H1 = H at hP hS ⊢
      have hw : (r_31 = 1 ∧ SNE (D j).2.1 x2 w) ∨ (r_31 = 0 ∧ ¬ SNE (D j).2.1 x2 w) := hw
      have hw_33 := hw
      refine lv_if_ne (tgt := 47) hx hb dX2_hasAddress_41 (by decide) (fun c_34 => ?_) (fun c_34 => ?_)
      ·
        refine lv_aload_n hx hb dX2_hasAddress_47 rfl (lv_at hl 1 rfl) ?_
        refine pg_get (ci := 2) (v := .ref ea) (C := RX2) (T := TX2) (N := 2) hx hb hts it_2 hown hK hP hL_h0 hFd rfl 0 (by decide) (hts _ kt_84) (fun _ h9 => h9) rfl dX2_hasAddress_48 ?_
        refine lv_iload hx hb dX2_hasAddress_51 (lv_at hl 0 rfl) ?_
        refine pg_aald (r := b_15) hx hb hK hP hi_1 5 hF_4 rfl (vp_in_nI (by omega) (by omega)) (show f_3 ((nI j) : Int32).toNatClampNeg = _ from by rw [show ((nI j) : Int32) = nI j from rfl, nI_clamp (by omega)]; exact hbf_18) dX2_hasAddress_53 ?_
        refine pg_getN (ci := 3) (v := .ref x_16) (C := RX3) (T := TX3) (N := 4) hx hb hts it_3 hown hK hP hi_19 hen1 rfl 0 (by decide) (hE.nest kn_1) (fun _ h9 => h9) rfl dX2_hasAddress_54 ?_
        refine lv_aload_n hx hb dX2_hasAddress_57 rfl (lv_at hl 2 rfl) ?_
        have hFc := pg_free hD hS hA
        refine va_calli (va_runV (As := [.ref g1]) (rest := []) ⟨hx, hb, hml, hown, hts⟩ (s_X0_same_e l dC dI cs ty L H.size F x_16 (ρ + j + j + j + 101) r_23 60 g1 σ r1 n1 ((D j).2.2.1) y ((D j).2.2.2.1) fa oo hW hi_21 ht_24 hL_g1 hT_g1 hen6 hen7 hFg hFr1 (by omega) (by omega) (by omega) (by omega)) ⟨callB_of 1 hts (gi kt_85) rfl rfl rfl (hts _ kt_1) (hts _ kt_86) (by decide +kernel) ⟨Nat.le_of_ble_eq_true rfl, Nat.le_of_ble_eq_true rfl⟩, (hts _ kt_87), (hts _ kt_88)⟩ ⟨fun a U g mk q => ⟨q.1, PT.calling q.2⟩, pg_recv hK hP hi_21 hen6 (q := (RX0, TX0, 3)) rfl, fun U hU hWm => ⟨rfl, PT.mk hU hWm hP hK hD hE hO⟩⟩ rfl rfl hl.1 rfl (lv_room (Nat.le_of_ble_eq_true rfl)) dX2_hasAddress_58 ⟨by show _ + 0 ≤ 0; omega, by show _ + 0 ≤ 0; omega⟩) hS (fun q _ h => hFc q h) hFc (fun r_35 u t H1 locs ht hvm hw hB hz1 hk1 hS => ?_)
        obtain ⟨F_36, hB1⟩ := hB
        obtain rfl : F = F_36 := (funext (fun a => hB1.2.2.2 a List.not_mem_nil)).symm
        obtain ⟨hP, hD, hO, hR⟩ := QT.back hB1 ht hFc hR (fun q h => absurd h List.not_mem_nil)
        generalize H1 = H at hP hS ⊢
        have hw : (r_35 = 1 ∧ ((oo : Int32) = 0 ∧ (D j).2.2.1 = y ∧ ∀ j9, j9 < (D j).2.2.1 → (D j).2.2.2.1 j9 = fa j9)) ∨ (r_35 = 0 ∧ ¬ ((oo : Int32) = 0 ∧ (D j).2.2.1 = y ∧ ∀ j9, j9 < (D j).2.2.1 → (D j).2.2.2.1 j9 = fa j9)) := hw
        have hw_37 := hw
        refine lv_if_eq (tgt := 66) hx hb dX2_hasAddress_61 (by decide) (fun c_38 => ?_) (fun c_38 => ?_)
        ·
          refine lv_iinc (v := (nI (j + 1))) (lv' := [(4, .int (nI (j + 1))), (0, .ref h0), (1, .ref g1), (2, .int x2), (3, .int (nI w))]) hx hb dX2_hasAddress_66 hl (k := 0) rfl (nI_1 _) (by decide) rfl (fun ls hl => ?_)
          refine lv_goto (tgt := 3) hx hb dX2_hasAddress_69 (by decide) ?_
          refine W.widen (k := 0) (n := 0) (by omega) (by omega) ?_
          exact ih_11 (j + 1) F (⟨by omega, had_s hv2 (fun q => orp0 hw_37 c_38 q.2.2)⟩) (by show cn - (j + 1) < cn - j; omega) hO hR _ _ hP hD hS ls (lv_sub hl [0, 1, 2, 3, 4] rfl)
        ·
          refine lv_iconst (v := 1) hx hb dX2_hasAddress_64 (by decide) ?_
          refine W.widen (k := 0) (n := 0) (by omega) (by omega) ?_
          exact W.zret (v := 1) (ty := .boolean) hx hb hr (by decide) (fun t ht hWm => ⟨⟨1, (), rfl, (Or.inl ⟨rfl, j, hjz, c_30, orp1 hw_33 c_34, orp1 hw_37 c_38⟩), ⟨F, QT.mk ht hP hD hO hR⟩⟩, hS.F ht⟩) hS.2.2 dX2_hasAddress_65
      ·
        refine lv_goto (tgt := 66) hx hb dX2_hasAddress_44 (by decide) ?_
        refine lv_iinc (v := (nI (j + 1))) (lv' := [(4, .int (nI (j + 1))), (0, .ref h0), (1, .ref g1), (2, .int x2), (3, .int (nI w))]) hx hb dX2_hasAddress_66 hl (k := 0) rfl (nI_1 _) (by decide) rfl (fun ls hl => ?_)
        refine lv_goto (tgt := 3) hx hb dX2_hasAddress_69 (by decide) ?_
        refine W.widen (k := 0) (n := 0) (by omega) (by omega) ?_
        exact ih_11 (j + 1) F (⟨by omega, had_s hv2 (fun q => orp0 hw_33 c_34 q.2.1)⟩) (by show cn - (j + 1) < cn - j; omega) hO hR _ _ hP hD hS ls (lv_sub hl [0, 1, 2, 3, 4] rfl)
set_option maxHeartbeats 4000000 in
set_option maxRecDepth 100000 in
theorem s_X2_onlyText_e (l : Launch) (dC : Nat → ClassId) (dI : Nat → Nat → Nat) (cs : Nat → ClassId) (ty : TyM) (L : List Nat) (sz : Nat) (F : Nat → va_E) (h0 : Nat) (ρ : Nat) (ea : Nat) (g1 : Nat) (σ : Nat) (r1 : Nat) (n1 : Nat) (q : Nat) (v : Nat) (k0 : Nat) (C : Nat → Int32) (y : Nat) (cn : Nat) (fa : Nat → Int32) (D : Nat → ETY) (oo : Int32) (ll : List Nat) (hW : WT ty L) (hL_h0 : h0 ∈ L) (hT_h0 : ty h0 = (2, ρ, [ea])) (hL_g1 : g1 ∈ L) (hT_g1 : ty g1 = (0, σ, [r1, n1])) (hFd : F h0 = .inr (2, [.ref ea, .int (nI cn)])) (hcn : cn ≤ 40) (hFg : F g1 = .inr (0, [.ref r1, .int (nI y), .int oo])) (hFr1 : F r1 = .inl (cs 16, n1, .inl fa)) (hyn : y ≤ n1) (hm9 : n1 ≤ 10000) (hDI : DIRC cs F ea cn D) (hCL : CLI C k0 ll) : Met l yX2_onlyText (.code yX2_onlyText cX2_onlyText 7 (some .int) :: tb) ({ frames := 6, cells := 0, slots := 0, locals := 132 }) (va_Pc [.ref h0, .ref g1, .ref q, .int 1] (PTC (dC, dI) cs ty L F sz q v k0 C)) (va_Qi (fun (r : Int32) (_ : Unit) => r = otw D oo y fa k0 ll cn) (fun _ T9 => ∃ F2 : Nat → va_E, QT (dC, dI) cs ty L [] F F2 (va_A (va_pl L F) sz) T9) (va_A (va_pl L F) sz)) 0 0 (va_A (va_pl L F) sz) := by
  refine Met.ofW (cc := cX2_onlyText) (maxL := 7) (ret := (some .int)) (by decide) rfl ?_
  intro p e s m args below meth c s₁ B hml hv
  obtain ⟨rfl, ⟨hsz, hP, hK, hD0, hE, hO⟩, hG, hX⟩ := hv
  have hx := B.exec
  have hb := B.bytes
  have hr := B.returns
  have hts : ∀ w ∈ tb, w.before _ s = true := fun w h => atoms_spec (ws := .code yX2_onlyText cX2_onlyText 7 (some .int) :: tb) B.pre w (List.mem_cons_of_mem _ h)
  have hown : s.vm.findClass RX2 = some m.cls := findClass_of_methodNamed B.named
  have hlocks := B.notSynchronized
  subst hsz
  have hD := hD0.self (sz := s.heap.size)
  generalize hAe : va_A (va_pl L F) s.heap.size = A at hD hG hX ⊢
  have hX_q : SX q v k0 A s s.heap := hX.sx
  obtain ⟨xo_q, xc_q, xv_q, xt_q, xn_q⟩ := id hX
  have hA : ∀ q : Nat, s.heap.size ≤ q → A q := fun q h => by rw [← hAe]; exact Or.inr h
  have hS : va_S A s.heap s.heap [] := va_S.rf
  have hR : FR ty [] F F := FR.refl
  have hl := lv_entry ([.ref h0, .ref g1, .ref q, .int 1]) (n := 7) (Nat.le_of_ble_eq_true rfl)
  rw [lg_entry_eq]
  generalize (lg_sl ([.ref h0, .ref g1, .ref q, .int 1]) ++ List.replicate (7 - (lg_sl ([.ref h0, .ref g1, .ref q, .int 1])).length) Slot.unset).toArray = ls at hl ⊢
  have hl : lv_has ls 7 [(0, .ref h0), (1, .ref g1), (2, .ref q), (3, .int 1)] := hl
  obtain ⟨hi_1, ht_2⟩ := hW.dir hL_h0 hT_h0
  obtain ⟨f_3, hF_4, hq_5⟩ := hO.rentry hi_1 ht_2
  obtain ⟨hi_6, ht_7, hq_8⟩ := hW.bytes hL_g1 hT_g1
  refine lv_iconst (v := (-1)) hx hb dX2_onlyText_0 (by decide) ?_
  refine lv_istore (lv' := [(4, .int (-1)), (0, .ref h0), (1, .ref g1), (2, .ref q), (3, .int 1)]) hx hb dX2_onlyText_1 hl (by decide) rfl (fun ls hl => ?_)
  refine lv_iconst (v := 0) hx hb dX2_onlyText_3 (by decide) ?_
  refine lv_istore (lv' := [(5, .int 0), (4, .int (-1)), (0, .ref h0), (1, .ref g1), (2, .ref q), (3, .int 1)]) hx hb dX2_onlyText_4 hl (by decide) rfl (fun ls hl => ?_)
  refine W.widen (k := 0) (n := 0) (by omega) (by omega) ?_
  refine pl_loop (σ := Nat × Int32) A (dC, dI) cs ty L [] F 6 7 (fun (j, w4) => [(5, .int (nI j)), (4, .int w4), (0, .ref h0), (1, .ref g1), (2, .ref q), (3, .int 1)]) (fun (j, w4) => []) (fun (j, w4) _ => j ≤ cn ∧ w4 = otw D oo y fa k0 ll j) (fun (j, w4) => cn - j) ?_ (0, (-1)) F (⟨Nat.zero_le _, rfl⟩) hO hR _ _ hP hD hS ls (lv_sub hl [0, 1, 2, 3, 4, 5] rfl)
  rintro ⟨j, w4⟩ F_9 hv_10 hO hR ih_11 H locs hP hD hS ls hl
  have hl : lv_has ls 7 [(5, .int (nI j)), (4, .int w4), (0, .ref h0), (1, .ref g1), (2, .ref q), (3, .int 1)] := hl
  have hv_10 : j ≤ cn ∧ w4 = otw D oo y fa k0 ll j := hv_10
  refine W.eq (g2 := F0 m 6 ls []) rfl ?_
  obtain rfl : F = F_9 := (funext (fun a => hR a List.not_mem_nil)).symm
  obtain ⟨hv1, hv2⟩ := id hv_10
  refine lv_iload hx hb dX2_onlyText_6 (lv_at hl 0 rfl) ?_
  refine lv_aload_n hx hb dX2_onlyText_8 rfl (lv_at hl 2 rfl) ?_
  refine pg_get (ci := 2) (v := .int (nI cn)) (C := RX2) (T := TX2) (N := 2) hx hb hts it_2 hown hK hP hL_h0 hFd rfl 1 (by decide) (hts _ kt_83) (fun _ h9 => h9) rfl dX2_onlyText_9 ?_
  refine lv_icmp_ge (tgt := 129) hx hb dX2_onlyText_12 (by decide) (fun c_12 => ?_) (fun c_12 => ?_)
  ·
    have hi_13 : cn ≤ j := leN (N := cn) c_12
    have hjc : j = cn := by have h9 : cn ≤ j := (nI_leI (by omega) (by omega)).mp c_12; omega
    refine lv_iload hx hb dX2_onlyText_129 (lv_at hl 1 rfl) ?_
    refine W.widen (k := 0) (n := 0) (by omega) (by omega) ?_
    exact W.iret (v := w4) hx hb hr (fun t ht hWm => ⟨⟨w4, (), rfl, (by rw [← hjc]; exact hv2), ⟨F, QT.mk ht hP hD hO hR⟩⟩, hS.F ht⟩) hS.2.2 dX2_onlyText_131
  ·
    have hi_14 : j < cn := ltN (N := cn) c_12
    have hjz : j < cn := Nat.not_le.mp (fun q => c_12 ((nI_leI (by omega) (by omega)).mpr q))
    refine lv_aload_n hx hb dX2_onlyText_15 rfl (lv_at hl 2 rfl) ?_
    refine pg_get (ci := 2) (v := .ref ea) (C := RX2) (T := TX2) (N := 2) hx hb hts it_2 hown hK hP hL_h0 hFd rfl 0 (by decide) (hts _ kt_84) (fun _ h9 => h9) rfl dX2_onlyText_16 ?_
    refine lv_iload hx hb dX2_onlyText_19 (lv_at hl 0 rfl) ?_
    obtain ⟨b_15, x_16, y_17, hbf_18, hi_19, ht_20⟩ := hq_5 j (by omega)
    refine pg_aald (r := b_15) hx hb hK hP hi_1 5 hF_4 rfl (vp_in_nI (by omega) (by omega)) (show f_3 ((nI j) : Int32).toNatClampNeg = _ from by rw [show ((nI j) : Int32) = nI j from rfl, nI_clamp (by omega)]; exact hbf_18) dX2_onlyText_21 ?_
    obtain ⟨hi_21, hi_22, ⟨r_23, ht_24⟩, ⟨r_25, ht_26⟩⟩ := hW.entry hi_19 ht_20
    have ht_24 : ty x_16 = (0, ρ + j + j + j + 101, [r_23, 60]) := ht_24
    have ht_26 : ty y_17 = (0, ρ + j + j + j + 102, [r_25, 700]) := ht_26
    obtain ⟨hen1, hen2, hen3, hen4, hen5⟩ := DIRC.get hDI hO hF_4 hjz hbf_18 hi_19 ht_20
    obtain ⟨hen6, hen7⟩ := hen2 _ _ hi_21 ht_24
    obtain ⟨hi_27, ht_28, hq_29⟩ := hW.bytes hi_21 ht_24
    obtain ⟨hen8, hen9⟩ := hen3 _ _ hi_22 ht_26
    obtain ⟨hi_30, ht_31, hq_32⟩ := hW.bytes hi_22 ht_26
    refine pg_getN (ci := 3) (v := .ref y_17) (C := RX3) (T := TX3) (N := 4) hx hb hts it_3 hown hK hP hi_19 hen1 rfl 1 (by decide) (hE.nest kn_4) (fun _ h9 => h9) rfl dX2_onlyText_22 ?_
    refine lv_astore (lv' := [(6, .ref y_17), (5, .int (nI j)), (4, .int w4), (0, .ref h0), (1, .ref g1), (2, .ref q), (3, .int 1)]) hx hb dX2_onlyText_25 hl (by decide) rfl (fun ls hl => ?_)
    refine lv_aload_n hx hb dX2_onlyText_27 rfl (lv_at hl 3 rfl) ?_
    refine pg_get (ci := 2) (v := .ref ea) (C := RX2) (T := TX2) (N := 2) hx hb hts it_2 hown hK hP hL_h0 hFd rfl 0 (by decide) (hts _ kt_84) (fun _ h9 => h9) rfl dX2_onlyText_28 ?_
    refine lv_iload hx hb dX2_onlyText_31 (lv_at hl 1 rfl) ?_
    refine pg_aald (r := b_15) hx hb hK hP hi_1 5 hF_4 rfl (vp_in_nI (by omega) (by omega)) (show f_3 ((nI j) : Int32).toNatClampNeg = _ from by rw [show ((nI j) : Int32) = nI j from rfl, nI_clamp (by omega)]; exact hbf_18) dX2_onlyText_33 ?_
    refine pg_getN (ci := 3) (v := .int ((D j).1)) (C := RX3) (T := TX3) (N := 4) hx hb hts it_3 hown hK hP hi_19 hen1 rfl 2 (by decide) (hE.nest kn_0) (fun _ h9 => h9) rfl dX2_onlyText_34 ?_
    refine lv_if_ne (tgt := 123) hx hb dX2_onlyText_37 (by decide) (fun c_33 => ?_) (fun c_33 => ?_)
    ·
      refine lv_iinc (v := (nI (j + 1))) (lv' := [(5, .int (nI (j + 1))), (6, .ref y_17), (4, .int w4), (0, .ref h0), (1, .ref g1), (2, .ref q), (3, .int 1)]) hx hb dX2_onlyText_123 hl (k := 1) rfl (nI_1 _) (by decide) rfl (fun ls hl => ?_)
      refine lv_goto (tgt := 6) hx hb dX2_onlyText_126 (by decide) ?_
      refine W.widen (k := 0) (n := 0) (by omega) (by omega) ?_
      exact ih_11 ((j + 1), w4) F (⟨by omega, otw_n hv2 (fun q => c_33 q.1)⟩) (by show cn - (j + 1) < cn - j; omega) hO hR _ _ hP hD hS ls (lv_sub hl [0, 2, 3, 4, 5, 6] rfl)
    ·
      refine lv_aload_n hx hb dX2_onlyText_40 rfl (lv_at hl 3 rfl) ?_
      refine pg_get (ci := 2) (v := .ref ea) (C := RX2) (T := TX2) (N := 2) hx hb hts it_2 hown hK hP hL_h0 hFd rfl 0 (by decide) (hts _ kt_84) (fun _ h9 => h9) rfl dX2_onlyText_41 ?_
      refine lv_iload hx hb dX2_onlyText_44 (lv_at hl 1 rfl) ?_
      refine pg_aald (r := b_15) hx hb hK hP hi_1 5 hF_4 rfl (vp_in_nI (by omega) (by omega)) (show f_3 ((nI j) : Int32).toNatClampNeg = _ from by rw [show ((nI j) : Int32) = nI j from rfl, nI_clamp (by omega)]; exact hbf_18) dX2_onlyText_46 ?_
      refine pg_getN (ci := 3) (v := .ref x_16) (C := RX3) (T := TX3) (N := 4) hx hb hts it_3 hown hK hP hi_19 hen1 rfl 0 (by decide) (hE.nest kn_1) (fun _ h9 => h9) rfl dX2_onlyText_47 ?_
      refine lv_aload_n hx hb dX2_onlyText_50 rfl (lv_at hl 4 rfl) ?_
      have hFc := pg_free hD hS hA
      refine va_calli (va_runV (As := [.ref g1]) (rest := []) ⟨hx, hb, hml, hown, hts⟩ (s_X0_same_e l dC dI cs ty L H.size F x_16 (ρ + j + j + j + 101) r_23 60 g1 σ r1 n1 ((D j).2.2.1) y ((D j).2.2.2.1) fa oo hW hi_21 ht_24 hL_g1 hT_g1 hen6 hen7 hFg hFr1 (by omega) (by omega) (by omega) (by omega)) ⟨callB_of 1 hts (gi kt_85) rfl rfl rfl (hts _ kt_1) (hts _ kt_86) (by decide +kernel) ⟨Nat.le_of_ble_eq_true rfl, Nat.le_of_ble_eq_true rfl⟩, (hts _ kt_87), (hts _ kt_88)⟩ ⟨fun a U g mk q => ⟨q.1, PT.calling q.2⟩, pg_recv hK hP hi_21 hen6 (q := (RX0, TX0, 3)) rfl, fun U hU hWm => ⟨rfl, PT.mk hU hWm hP hK hD hE hO⟩⟩ rfl rfl hl.1 rfl (lv_room (Nat.le_of_ble_eq_true rfl)) dX2_onlyText_51 ⟨by show _ + 0 ≤ 0; omega, by show _ + 0 ≤ 0; omega⟩) hS (fun q _ h => hFc q h) hFc (fun r_34 u t H1 locs ht hvm hw hB hz1 hk1 hS => ?_)
      obtain ⟨F_35, hB1⟩ := hB
      obtain rfl : F = F_35 := (funext (fun a => hB1.2.2.2 a List.not_mem_nil)).symm
      obtain ⟨hP, hD, hO, hR⟩ := QT.back hB1 ht hFc hR (fun q h => absurd h List.not_mem_nil)
      generalize H1 = H at hP hS ⊢
      have hw : (r_34 = 1 ∧ ((oo : Int32) = 0 ∧ (D j).2.2.1 = y ∧ ∀ j9, j9 < (D j).2.2.1 → (D j).2.2.2.1 j9 = fa j9)) ∨ (r_34 = 0 ∧ ¬ ((oo : Int32) = 0 ∧ (D j).2.2.1 = y ∧ ∀ j9, j9 < (D j).2.2.1 → (D j).2.2.2.1 j9 = fa j9)) := hw
      have hw_36 := hw
      refine lv_if_eq (tgt := 123) hx hb dX2_onlyText_54 (by decide) (fun c_37 => ?_) (fun c_37 => ?_)
      ·
        refine lv_iinc (v := (nI (j + 1))) (lv' := [(5, .int (nI (j + 1))), (6, .ref y_17), (4, .int w4), (0, .ref h0), (1, .ref g1), (2, .ref q), (3, .int 1)]) hx hb dX2_onlyText_123 hl (k := 1) rfl (nI_1 _) (by decide) rfl (fun ls hl => ?_)
        refine lv_goto (tgt := 6) hx hb dX2_onlyText_126 (by decide) ?_
        refine W.widen (k := 0) (n := 0) (by omega) (by omega) ?_
        exact ih_11 ((j + 1), w4) F (⟨by omega, otw_n hv2 (fun q => orp0 hw_36 c_37 q.2.1)⟩) (by show cn - (j + 1) < cn - j; omega) hO hR _ _ hP hD hS ls (lv_sub hl [0, 2, 3, 4, 5, 6] rfl)
      ·
        refine lv_aload hx hb dX2_onlyText_57 (lv_at hl 0 rfl) ?_
        refine lv_iconst (v := 0) hx hb dX2_onlyText_59 (by decide) ?_
        refine lv_aload hx hb dX2_onlyText_60 (lv_at hl 0 rfl) ?_
        refine pg_getN (ci := 0) (v := .int (nI (D j).2.2.2.2.1)) (C := RX0) (T := TX0) (N := 3) hx hb hts it_0 hown hK hP hi_22 hen8 rfl 1 (by decide) (hE.nest kn_3) (fun _ h9 => h9) rfl dX2_onlyText_62 ?_
        refine lv_aload_n hx hb dX2_onlyText_65 rfl (lv_at hl 5 rfl) ?_
        refine W.eq (g2 := F0 m 66 ls [.ref q, .int (nI (D j).2.2.2.2.1), .int (nI 0), .ref y_17]) rfl ?_
        have hFc := pg_free hD hS hA
        refine va_calli (va_runV (As := [.int (nI 0), .int (nI (D j).2.2.2.2.1), .ref q]) (rest := []) ⟨hx, hb, hml, hown, hts⟩ (s_X0_begins_e l dC dI cs ty L H.size F y_17 (ρ + j + j + j + 102) r_25 700 q v k0 C ((D j).2.2.2.2.1) 0 ((D j).2.2.2.2.1) ((D j).2.2.2.2.2) ll hW hi_22 ht_26 hen8 hen9 (by omega) (by omega) (Nat.zero_le _) (Nat.le_refl _) (hCL)) ⟨callB_of 3 hts (gi kt_112) rfl rfl rfl (hts _ kt_1) (hts _ kt_113) (by decide +kernel) ⟨Nat.le_of_ble_eq_true rfl, Nat.le_of_ble_eq_true rfl⟩, (hts _ kt_114), (hts _ kt_115)⟩ ⟨fun a U g mk q => ⟨q.1, PTC.calling q.2⟩, pg_recv hK hP hi_22 hen8 (q := (RX0, TX0, 3)) rfl, fun U hU hWm => ⟨rfl, PTC.mk hU hWm hP hK hD hE hO hG hX hS hFc⟩⟩ rfl rfl hl.1 rfl (lv_room (Nat.le_of_ble_eq_true rfl)) dX2_onlyText_66 ⟨by show _ + 0 ≤ 0; omega, by show _ + 0 ≤ 0; omega⟩) hS (fun q _ h => hFc q h) hFc (fun r_38 u t H1 locs ht hvm hw hB hz1 hk1 hS => ?_)
        obtain ⟨F_39, hB1⟩ := hB
        obtain rfl : F = F_39 := (funext (fun a => hB1.2.2.2 a List.not_mem_nil)).symm
        obtain ⟨hP, hD, hO, hR⟩ := QT.back hB1 ht hFc hR (fun q h => absurd h List.not_mem_nil)
        generalize H1 = H at hP hS ⊢
        have hw : (r_38 = 1 ∧ (0 + k0 ≤ (D j).2.2.2.2.1 ∧ LIT (TC (D j).2.2.2.2.2 (D j).2.2.2.2.1) 0 ll)) ∨ (r_38 = 0 ∧ ¬ (0 + k0 ≤ (D j).2.2.2.2.1 ∧ LIT (TC (D j).2.2.2.2.2 (D j).2.2.2.2.1) 0 ll)) := hw
        have hw_40 := hw
        refine lv_if_ne (tgt := 75) hx hb dX2_onlyText_69 (by decide) (fun c_41 => ?_) (fun c_41 => ?_)
        ·
          refine lv_iload_n hx hb dX2_onlyText_75 rfl (lv_at hl 6 rfl) ?_
          refine lv_if_eq (tgt := 108) hx hb dX2_onlyText_76 (by decide) (fun c_42 => absurd c_42 (by decide)) (fun c_42 => ?_)
          refine lv_aload hx hb dX2_onlyText_79 (lv_at hl 0 rfl) ?_
          refine pg_getN (ci := 0) (v := .int (nI (D j).2.2.2.2.1)) (C := RX0) (T := TX0) (N := 3) hx hb hts it_0 hown hK hP hi_22 hen8 rfl 1 (by decide) (hE.nest kn_3) (fun _ h9 => h9) rfl dX2_onlyText_81 ?_
          refine lv_aload_n hx hb dX2_onlyText_84 rfl (lv_at hl 5 rfl) ?_
          have hFc := pg_free hD hS hA
          refine va_calli (va_runV (As := []) (rest := [.int (nI (D j).2.2.2.2.1)]) ⟨hx, hb, hml, hown, hts⟩ (s_J0_length_8abf5 l dC dI cs ty L H.size F q v k0 hW ) ⟨callB_of 0 hts (gi kt_71) rfl rfl rfl (hts _ kt_51) (hts _ kt_116) (by decide +kernel) ⟨Nat.le_of_ble_eq_true rfl, Nat.le_of_ble_eq_true rfl⟩, (hts _ kt_73), (hts _ kt_74)⟩ ⟨fun a U g mk q => ⟨q.1, PTE.calling q.2⟩, sx_recv hX_q hS, fun U hU hWm => ⟨rfl, PTE.mk hU hWm hP hK hD hE hO hG (fun x hx => by rw [List.mem_singleton] at hx; subst hx; exact hX_q) hS hFc⟩⟩ rfl rfl hl.1 rfl (lv_room (Nat.le_of_ble_eq_true rfl)) dX2_onlyText_85 ⟨by show _ + 0 ≤ 0; omega, by show _ + 0 ≤ 0; omega⟩) hS (fun q _ h => hFc q h) hFc (fun r_43 u t H1 locs ht hvm hw hB hz1 hk1 hS => ?_)
          obtain ⟨F_44, hB1⟩ := hB
          obtain rfl : F = F_44 := (funext (fun a => hB1.2.2.2 a List.not_mem_nil)).symm
          obtain ⟨hP, hD, hO, hR⟩ := QT.back hB1 ht hFc hR (fun q h => absurd h List.not_mem_nil)
          generalize H1 = H at hP hS ⊢
          have hw : r_43 = nI k0 := hw
          have hw_45 := hw
          subst hw_45
          refine lv_icmp_le (tgt := 108) hx hb dX2_onlyText_88 (by decide) (fun c_46 => ?_) (fun c_46 => ?_)
          ·
            have hvk : (D j).2.2.2.2.1 ≤ k0 ∨ TC (D j).2.2.2.2.2 (D j).2.2.2.2.1 k0 = 32 := Or.inl ((nI_leI (by omega) (by omega)).mp c_46)
            refine lv_iload hx hb dX2_onlyText_108 (lv_at hl 2 rfl) ?_
            refine lv_iconst (v := (-1)) hx hb dX2_onlyText_110 (by decide) ?_
            refine lv_icmp_ne (tgt := 119) hx hb dX2_onlyText_111 (by decide) (fun c_48 => ?_) (fun c_48 => ?_)
            ·
              refine lv_bipush (v := (-2)) hx hb dX2_onlyText_119 (by decide) ?_
              refine lv_istore (lv' := [(4, .int (-2)), (6, .ref y_17), (5, .int (nI j)), (0, .ref h0), (1, .ref g1), (2, .ref q), (3, .int 1)]) hx hb dX2_onlyText_121 hl (by decide) rfl (fun ls hl => ?_)
              refine lv_iinc (v := (nI (j + 1))) (lv' := [(5, .int (nI (j + 1))), (4, .int (-2)), (6, .ref y_17), (0, .ref h0), (1, .ref g1), (2, .ref q), (3, .int 1)]) hx hb dX2_onlyText_123 hl (k := 2) rfl (nI_1 _) (by decide) rfl (fun ls hl => ?_)
              refine lv_goto (tgt := 6) hx hb dX2_onlyText_126 (by decide) ?_
              refine W.widen (k := 0) (n := 0) (by omega) (by omega) ?_
              exact ih_11 ((j + 1), (-2)) F (⟨by omega, otw_m hv2 ⟨c_33, orp1 hw_36 c_37, orp1 hw_40 c_41, hvk⟩ c_48⟩) (by show cn - (j + 1) < cn - j; omega) hO hR _ _ hP hD hS ls (lv_sub hl [0, 1, 3, 4, 5, 6] rfl)
            ·
              refine lv_iload hx hb dX2_onlyText_114 (lv_at hl 1 rfl) ?_
              refine lv_goto (tgt := 121) hx hb dX2_onlyText_116 (by decide) ?_
              refine lv_istore (lv' := [(4, .int (nI j)), (6, .ref y_17), (5, .int (nI j)), (0, .ref h0), (1, .ref g1), (2, .ref q), (3, .int 1)]) hx hb dX2_onlyText_121 hl (by decide) rfl (fun ls hl => ?_)
              refine lv_iinc (v := (nI (j + 1))) (lv' := [(5, .int (nI (j + 1))), (4, .int (nI j)), (6, .ref y_17), (0, .ref h0), (1, .ref g1), (2, .ref q), (3, .int 1)]) hx hb dX2_onlyText_123 hl (k := 2) rfl (nI_1 _) (by decide) rfl (fun ls hl => ?_)
              refine lv_goto (tgt := 6) hx hb dX2_onlyText_126 (by decide) ?_
              refine W.widen (k := 0) (n := 0) (by omega) (by omega) ?_
              exact ih_11 ((j + 1), (nI j)) F (⟨by omega, otw_f hv2 ⟨c_33, orp1 hw_36 c_37, orp1 hw_40 c_41, hvk⟩ c_48⟩) (by show cn - (j + 1) < cn - j; omega) hO hR _ _ hP hD hS ls (lv_sub hl [0, 1, 3, 4, 5, 6] rfl)
          ·
            have hvn : ¬ (D j).2.2.2.2.1 ≤ k0 := fun q => c_46 ((nI_leI (by omega) (by omega)).mpr q)
            refine lv_aload hx hb dX2_onlyText_91 (lv_at hl 0 rfl) ?_
            refine lv_aload_n hx hb dX2_onlyText_93 rfl (lv_at hl 5 rfl) ?_
            have hFc := pg_free hD hS hA
            refine va_calli (va_runV (As := []) (rest := [.ref y_17]) ⟨hx, hb, hml, hown, hts⟩ (s_J0_length_8abf5 l dC dI cs ty L H.size F q v k0 hW ) ⟨callB_of 0 hts (gi kt_71) rfl rfl rfl (hts _ kt_51) (hts _ kt_116) (by decide +kernel) ⟨Nat.le_of_ble_eq_true rfl, Nat.le_of_ble_eq_true rfl⟩, (hts _ kt_73), (hts _ kt_74)⟩ ⟨fun a U g mk q => ⟨q.1, PTE.calling q.2⟩, sx_recv hX_q hS, fun U hU hWm => ⟨rfl, PTE.mk hU hWm hP hK hD hE hO hG (fun x hx => by rw [List.mem_singleton] at hx; subst hx; exact hX_q) hS hFc⟩⟩ rfl rfl hl.1 rfl (lv_room (Nat.le_of_ble_eq_true rfl)) dX2_onlyText_94 ⟨by show _ + 0 ≤ 0; omega, by show _ + 0 ≤ 0; omega⟩) hS (fun q _ h => hFc q h) hFc (fun r_50 u t H1 locs ht hvm hw hB hz1 hk1 hS => ?_)
            obtain ⟨F_51, hB1⟩ := hB
            obtain rfl : F = F_51 := (funext (fun a => hB1.2.2.2 a List.not_mem_nil)).symm
            obtain ⟨hP, hD, hO, hR⟩ := QT.back hB1 ht hFc hR (fun q h => absurd h List.not_mem_nil)
            generalize H1 = H at hP hS ⊢
            have hw : r_50 = nI k0 := hw
            have hw_52 := hw
            subst hw_52
            have hFc := pg_free hD hS hA
            refine va_calli (va_runV (As := [.int (nI k0)]) (rest := []) ⟨hx, hb, hml, hown, hts⟩ (s_X0_at_g l dC dI cs ty L H.size F y_17 (ρ + j + j + j + 102) r_25 700 ((D j).2.2.2.2.1) k0 ((D j).2.2.2.2.2) hW hi_22 ht_26 hen8 hen9 (by omega) (by omega) (by omega)) ⟨callB_of 1 hts (gi kt_21) rfl rfl rfl (hts _ kt_1) (hts _ kt_117) (by decide +kernel) ⟨Nat.le_of_ble_eq_true rfl, Nat.le_of_ble_eq_true rfl⟩, (hts _ kt_23), (hts _ kt_24)⟩ ⟨fun a U g mk q => ⟨q.1, PT.calling q.2⟩, pg_recv hK hP hi_22 hen8 (q := (RX0, TX0, 3)) rfl, fun U hU hWm => ⟨rfl, PT.mk hU hWm hP hK hD hE hO⟩⟩ rfl rfl hl.1 rfl (lv_room (Nat.le_of_ble_eq_true rfl)) dX2_onlyText_97 ⟨by show _ + 0 ≤ 0; omega, by show _ + 0 ≤ 0; omega⟩) hS (fun q _ h => hFc q h) hFc (fun r_53 u t H1 locs ht hvm hw hB hz1 hk1 hS => ?_)
            obtain ⟨F_54, hB1⟩ := hB
            obtain rfl : F = F_54 := (funext (fun a => hB1.2.2.2 a List.not_mem_nil)).symm
            obtain ⟨hP, hD, hO, hR⟩ := QT.back hB1 ht hFc hR (fun q h => absurd h List.not_mem_nil)
            generalize H1 = H at hP hS ⊢
            have hw : r_53 = atn (D j).2.2.2.2.2 (D j).2.2.2.2.1 k0 := hw
            have hw_55 := hw
            subst hw_55
            refine lv_bipush (v := 32) hx hb dX2_onlyText_100 (by decide) ?_
            refine lv_icmp_eq (tgt := 108) hx hb dX2_onlyText_102 (by decide) (fun c_56 => ?_) (fun c_56 => ?_)
            ·
              have hvk : (D j).2.2.2.2.1 ≤ k0 ∨ TC (D j).2.2.2.2.2 (D j).2.2.2.2.1 k0 = 32 := Or.inr ((cdv_eq (by first | decide | omega)).mpr c_56)
              refine lv_iload hx hb dX2_onlyText_108 (lv_at hl 2 rfl) ?_
              refine lv_iconst (v := (-1)) hx hb dX2_onlyText_110 (by decide) ?_
              refine lv_icmp_ne (tgt := 119) hx hb dX2_onlyText_111 (by decide) (fun c_57 => ?_) (fun c_57 => ?_)
              ·
                refine lv_bipush (v := (-2)) hx hb dX2_onlyText_119 (by decide) ?_
                refine lv_istore (lv' := [(4, .int (-2)), (6, .ref y_17), (5, .int (nI j)), (0, .ref h0), (1, .ref g1), (2, .ref q), (3, .int 1)]) hx hb dX2_onlyText_121 hl (by decide) rfl (fun ls hl => ?_)
                refine lv_iinc (v := (nI (j + 1))) (lv' := [(5, .int (nI (j + 1))), (4, .int (-2)), (6, .ref y_17), (0, .ref h0), (1, .ref g1), (2, .ref q), (3, .int 1)]) hx hb dX2_onlyText_123 hl (k := 2) rfl (nI_1 _) (by decide) rfl (fun ls hl => ?_)
                refine lv_goto (tgt := 6) hx hb dX2_onlyText_126 (by decide) ?_
                refine W.widen (k := 0) (n := 0) (by omega) (by omega) ?_
                exact ih_11 ((j + 1), (-2)) F (⟨by omega, otw_m hv2 ⟨c_33, orp1 hw_36 c_37, orp1 hw_40 c_41, hvk⟩ c_57⟩) (by show cn - (j + 1) < cn - j; omega) hO hR _ _ hP hD hS ls (lv_sub hl [0, 1, 3, 4, 5, 6] rfl)
              ·
                refine lv_iload hx hb dX2_onlyText_114 (lv_at hl 1 rfl) ?_
                refine lv_goto (tgt := 121) hx hb dX2_onlyText_116 (by decide) ?_
                refine lv_istore (lv' := [(4, .int (nI j)), (6, .ref y_17), (5, .int (nI j)), (0, .ref h0), (1, .ref g1), (2, .ref q), (3, .int 1)]) hx hb dX2_onlyText_121 hl (by decide) rfl (fun ls hl => ?_)
                refine lv_iinc (v := (nI (j + 1))) (lv' := [(5, .int (nI (j + 1))), (4, .int (nI j)), (6, .ref y_17), (0, .ref h0), (1, .ref g1), (2, .ref q), (3, .int 1)]) hx hb dX2_onlyText_123 hl (k := 2) rfl (nI_1 _) (by decide) rfl (fun ls hl => ?_)
                refine lv_goto (tgt := 6) hx hb dX2_onlyText_126 (by decide) ?_
                refine W.widen (k := 0) (n := 0) (by omega) (by omega) ?_
                exact ih_11 ((j + 1), (nI j)) F (⟨by omega, otw_f hv2 ⟨c_33, orp1 hw_36 c_37, orp1 hw_40 c_41, hvk⟩ c_57⟩) (by show cn - (j + 1) < cn - j; omega) hO hR _ _ hP hD hS ls (lv_sub hl [0, 1, 3, 4, 5, 6] rfl)
            ·
              refine lv_goto (tgt := 123) hx hb dX2_onlyText_105 (by decide) ?_
              refine lv_iinc (v := (nI (j + 1))) (lv' := [(5, .int (nI (j + 1))), (6, .ref y_17), (4, .int w4), (0, .ref h0), (1, .ref g1), (2, .ref q), (3, .int 1)]) hx hb dX2_onlyText_123 hl (k := 1) rfl (nI_1 _) (by decide) rfl (fun ls hl => ?_)
              refine lv_goto (tgt := 6) hx hb dX2_onlyText_126 (by decide) ?_
              refine W.widen (k := 0) (n := 0) (by omega) (by omega) ?_
              exact ih_11 ((j + 1), w4) F (⟨by omega, otw_n hv2 (fun q => q.2.2.2.elim hvn (fun q => c_56 ((cdv_eq (by first | decide | omega)).mp q)))⟩) (by show cn - (j + 1) < cn - j; omega) hO hR _ _ hP hD hS ls (lv_sub hl [0, 2, 3, 4, 5, 6] rfl)
        ·
          refine lv_goto (tgt := 123) hx hb dX2_onlyText_72 (by decide) ?_
          refine lv_iinc (v := (nI (j + 1))) (lv' := [(5, .int (nI (j + 1))), (6, .ref y_17), (4, .int w4), (0, .ref h0), (1, .ref g1), (2, .ref q), (3, .int 1)]) hx hb dX2_onlyText_123 hl (k := 1) rfl (nI_1 _) (by decide) rfl (fun ls hl => ?_)
          refine lv_goto (tgt := 6) hx hb dX2_onlyText_126 (by decide) ?_
          refine W.widen (k := 0) (n := 0) (by omega) (by omega) ?_
          exact ih_11 ((j + 1), w4) F (⟨by omega, otw_n hv2 (fun q => orp0 hw_40 c_41 q.2.2.1)⟩) (by show cn - (j + 1) < cn - j; omega) hO hR _ _ hP hD hS ls (lv_sub hl [0, 2, 3, 4, 5, 6] rfl)
set_option maxHeartbeats 4000000 in
set_option maxRecDepth 100000 in
theorem s_X1_startsTerm_e (l : Launch) (dC : Nat → ClassId) (dI : Nat → Nat → Nat) (cs : Nat → ClassId) (ty : TyM) (L : List Nat) (sz : Nat) (F : Nat → va_E) (g1 : Nat) (σ : Nat) (r1 : Nat) (n1 : Nat) (z : Nat) (a : Nat) (f : Nat → Int32) (hW : WT ty L) (hL_g1 : g1 ∈ L) (hT_g1 : ty g1 = (0, σ, [r1, n1])) (hFg : F g1 = .inr (0, [.ref r1, .int (nI z), .int 0])) (hFr : F r1 = .inl (cs 16, n1, .inl f)) (hzn : z ≤ n1) (hn9 : n1 ≤ 10000) (ha1 : 1 ≤ a) (ha9 : a ≤ 9000) : Met l yX1_startsTerm (.code yX1_startsTerm cX1_startsTerm 2 (some .boolean) :: tb) ({ frames := 1, cells := 0, slots := 0, locals := 21 }) (va_Pc [.ref g1, .int (nI a)] (PT (dC, dI) cs ty L F sz)) (va_Qi (fun (r : Int32) (_ : Unit) => (r = 1 ∧ (TC f z) (a - 1) = 32 ∧ ¬ (TC f z) a = 32) ∨ (r = 0 ∧ ¬ ((TC f z) (a - 1) = 32 ∧ ¬ (TC f z) a = 32))) (fun _ T9 => ∃ F2 : Nat → va_E, QT (dC, dI) cs ty L [] F F2 (va_A (va_pl L F) sz) T9) (va_A (va_pl L F) sz)) 0 0 (va_A (va_pl L F) sz) := by
  refine Met.ofW (cc := cX1_startsTerm) (maxL := 2) (ret := (some .boolean)) (by decide) rfl ?_
  intro p e s m args below meth c s₁ B hml hv
  obtain ⟨rfl, hsz, hP, hK, hD0, hE, hO⟩ := hv
  have hx := B.exec
  have hb := B.bytes
  have hr := B.returns
  have hts : ∀ w ∈ tb, w.before _ s = true := fun w h => atoms_spec (ws := .code yX1_startsTerm cX1_startsTerm 2 (some .boolean) :: tb) B.pre w (List.mem_cons_of_mem _ h)
  have hown : s.vm.findClass RX1 = some m.cls := findClass_of_methodNamed B.named
  have hlocks := B.notSynchronized
  subst hsz
  have hD := hD0.self (sz := s.heap.size)
  generalize hAe : va_A (va_pl L F) s.heap.size = A at hD ⊢
  have hA : ∀ q : Nat, s.heap.size ≤ q → A q := fun q h => by rw [← hAe]; exact Or.inr h
  have hS : va_S A s.heap s.heap [] := va_S.rf
  have hR : FR ty [] F F := FR.refl
  have hl := lv_entry ([.ref g1, .int (nI a)]) (n := 2) (Nat.le_of_ble_eq_true rfl)
  rw [lg_entry_eq]
  generalize (lg_sl ([.ref g1, .int (nI a)]) ++ List.replicate (2 - (lg_sl ([.ref g1, .int (nI a)])).length) Slot.unset).toArray = ls at hl ⊢
  have hl : lv_has ls 2 [(0, .ref g1), (1, .int (nI a))] := hl
  obtain ⟨hi_1, ht_2, hq_3⟩ := hW.bytes hL_g1 hT_g1
  refine lv_aload_n hx hb dX1_startsTerm_0 rfl (lv_at hl 0 rfl) ?_
  refine lv_iload_n hx hb dX1_startsTerm_1 rfl (lv_at hl 1 rfl) ?_
  refine lv_iconst (v := 1) hx hb dX1_startsTerm_2 (by decide) ?_
  refine lv_isub hx hb dX1_startsTerm_3 ?_
  refine lv_topi (fun x_4 ex_4 => ?_)
  obtain rfl : x_4 = (nI (a - 1)) := ex_4.trans (pk_sub (b := 1) ha1)
  have hFc := pg_free hD hS hA
  refine va_calli (va_runV (As := [.int (nI (a - 1))]) (rest := []) ⟨hx, hb, hml, hown, hts⟩ (s_X0_at_g l dC dI cs ty L s.heap.size F g1 σ r1 n1 z (a - 1) f hW hL_g1 hT_g1 hFg hFr (by omega) (by omega) (by omega)) ⟨callB_of 1 hts (gi kt_21) rfl rfl rfl (hts _ kt_1) (hts _ kt_301) (by decide +kernel) ⟨Nat.le_of_ble_eq_true rfl, Nat.le_of_ble_eq_true rfl⟩, (hts _ kt_23), (hts _ kt_24)⟩ ⟨fun a U g mk q => ⟨q.1, PT.calling q.2⟩, pg_recv hK hP hL_g1 hFg (q := (RX0, TX0, 3)) rfl, fun U hU hWm => ⟨rfl, PT.mk hU hWm hP hK hD hE hO⟩⟩ rfl rfl hl.1 rfl (lv_room (Nat.le_of_ble_eq_true rfl)) dX1_startsTerm_4 ⟨by show _ + 0 ≤ 0; omega, by show _ + 0 ≤ 0; omega⟩) hS (fun q _ h => hFc q h) hFc (fun r_5 u t H1 locs ht hvm hw hB hz1 hk1 hS => ?_)
  obtain ⟨F_6, hB1⟩ := hB
  obtain rfl : F = F_6 := (funext (fun a => hB1.2.2.2 a List.not_mem_nil)).symm
  obtain ⟨hP, hD, hO, hR⟩ := QT.back hB1 ht hFc hR (fun q h => absurd h List.not_mem_nil)
  generalize H1 = H at hP hS ⊢
  have hw : r_5 = atn f z (a - 1) := hw
  have hw_7 := hw
  subst hw_7
  refine lv_bipush (v := 32) hx hb dX1_startsTerm_7 (by decide) ?_
  refine lv_icmp_ne (tgt := 26) hx hb dX1_startsTerm_9 (by decide) (fun c_8 => ?_) (fun c_8 => ?_)
  ·
    refine lv_iconst (v := 0) hx hb dX1_startsTerm_26 (by decide) ?_
    refine W.widen (k := 0) (n := 0) (by omega) (by omega) ?_
    exact W.zret (v := 0) (ty := .boolean) hx hb hr (by decide) (fun t ht hWm => ⟨⟨0, (), rfl, (Or.inr ⟨rfl, fun q => (fun q => c_8 ((cdv_eq (by first | decide | omega)).mp q)) q.1⟩), ⟨F, QT.mk ht hP hD hO hR⟩⟩, hS.F ht⟩) hS.2.2 dX1_startsTerm_27
  ·
    refine lv_aload_n hx hb dX1_startsTerm_12 rfl (lv_at hl 0 rfl) ?_
    refine lv_iload_n hx hb dX1_startsTerm_13 rfl (lv_at hl 1 rfl) ?_
    have hFc := pg_free hD hS hA
    refine va_calli (va_runV (As := [.int (nI a)]) (rest := []) ⟨hx, hb, hml, hown, hts⟩ (s_X0_at_g l dC dI cs ty L H.size F g1 σ r1 n1 z a f hW hL_g1 hT_g1 hFg hFr (by omega) (by omega) (by omega)) ⟨callB_of 1 hts (gi kt_21) rfl rfl rfl (hts _ kt_1) (hts _ kt_301) (by decide +kernel) ⟨Nat.le_of_ble_eq_true rfl, Nat.le_of_ble_eq_true rfl⟩, (hts _ kt_23), (hts _ kt_24)⟩ ⟨fun a U g mk q => ⟨q.1, PT.calling q.2⟩, pg_recv hK hP hL_g1 hFg (q := (RX0, TX0, 3)) rfl, fun U hU hWm => ⟨rfl, PT.mk hU hWm hP hK hD hE hO⟩⟩ rfl rfl hl.1 rfl (lv_room (Nat.le_of_ble_eq_true rfl)) dX1_startsTerm_14 ⟨by show _ + 0 ≤ 0; omega, by show _ + 0 ≤ 0; omega⟩) hS (fun q _ h => hFc q h) hFc (fun r_9 u t H1 locs ht hvm hw hB hz1 hk1 hS => ?_)
    obtain ⟨F_10, hB1⟩ := hB
    obtain rfl : F = F_10 := (funext (fun a => hB1.2.2.2 a List.not_mem_nil)).symm
    obtain ⟨hP, hD, hO, hR⟩ := QT.back hB1 ht hFc hR (fun q h => absurd h List.not_mem_nil)
    generalize H1 = H at hP hS ⊢
    have hw : r_9 = atn f z a := hw
    have hw_11 := hw
    subst hw_11
    refine lv_bipush (v := 32) hx hb dX1_startsTerm_17 (by decide) ?_
    refine lv_icmp_eq (tgt := 26) hx hb dX1_startsTerm_19 (by decide) (fun c_12 => ?_) (fun c_12 => ?_)
    ·
      refine lv_iconst (v := 0) hx hb dX1_startsTerm_26 (by decide) ?_
      refine W.widen (k := 0) (n := 0) (by omega) (by omega) ?_
      exact W.zret (v := 0) (ty := .boolean) hx hb hr (by decide) (fun t ht hWm => ⟨⟨0, (), rfl, (Or.inr ⟨rfl, fun q => q.2 ((cdv_eq (by first | decide | omega)).mpr c_12)⟩), ⟨F, QT.mk ht hP hD hO hR⟩⟩, hS.F ht⟩) hS.2.2 dX1_startsTerm_27
    ·
      refine lv_iconst (v := 1) hx hb dX1_startsTerm_22 (by decide) ?_
      refine lv_goto (tgt := 27) hx hb dX1_startsTerm_23 (by decide) ?_
      refine W.widen (k := 0) (n := 0) (by omega) (by omega) ?_
      exact W.zret (v := 1) (ty := .boolean) hx hb hr (by decide) (fun t ht hWm => ⟨⟨1, (), rfl, (Or.inl ⟨rfl, ((cdv_eq (by first | decide | omega)).mpr c_8), (fun q => c_12 ((cdv_eq (by first | decide | omega)).mp q))⟩), ⟨F, QT.mk ht hP hD hO hR⟩⟩, hS.F ht⟩) hS.2.2 dX1_startsTerm_27
def anW (g : Nat) : Nat := if g = 63 then 1 else if g = 126 then 4 else if g = 45 then 3 else 2
set_option maxHeartbeats 4000000 in
set_option maxRecDepth 100000 in
theorem s_X1_answerOf_e (l : Launch) (dC : Nat → ClassId) (dI : Nat → Nat → Nat) (cs : Nat → ClassId) (ty : TyM) (L : List Nat) (sz : Nat) (F : Nat → va_E) (sg : Nat) (hW : WT ty L) (hsg : sg ≤ 126) : Met l yX1_answerOf (.code yX1_answerOf cX1_answerOf 1 (some .int) :: tb) ({ frames := 0, cells := 0, slots := 0, locals := 0 }) (va_Pc [.int (nI sg)] (PT (dC, dI) cs ty L F sz)) (va_Qi (fun (r : Int32) (_ : Unit) => r = nI (anW sg)) (fun _ T9 => ∃ F2 : Nat → va_E, QT (dC, dI) cs ty L [] F F2 (va_A (va_pl L F) sz) T9) (va_A (va_pl L F) sz)) 0 0 (va_A (va_pl L F) sz) := by
  refine Met.ofW (cc := cX1_answerOf) (maxL := 1) (ret := (some .int)) (by decide) rfl ?_
  intro p e s m args below meth c s₁ B hml hv
  obtain ⟨rfl, hsz, hP, hK, hD0, hE, hO⟩ := hv
  have hx := B.exec
  have hb := B.bytes
  have hr := B.returns
  have hts : ∀ w ∈ tb, w.before _ s = true := fun w h => atoms_spec (ws := .code yX1_answerOf cX1_answerOf 1 (some .int) :: tb) B.pre w (List.mem_cons_of_mem _ h)
  have hown : s.vm.findClass RX1 = some m.cls := findClass_of_methodNamed B.named
  have hlocks := B.notSynchronized
  subst hsz
  have hD := hD0.self (sz := s.heap.size)
  generalize hAe : va_A (va_pl L F) s.heap.size = A at hD ⊢
  have hA : ∀ q : Nat, s.heap.size ≤ q → A q := fun q h => by rw [← hAe]; exact Or.inr h
  have hS : va_S A s.heap s.heap [] := va_S.rf
  have hR : FR ty [] F F := FR.refl
  have hl := lv_entry ([.int (nI sg)]) (n := 1) (Nat.le_of_ble_eq_true rfl)
  rw [lg_entry_eq]
  generalize (lg_sl ([.int (nI sg)]) ++ List.replicate (1 - (lg_sl ([.int (nI sg)])).length) Slot.unset).toArray = ls at hl ⊢
  have hl : lv_has ls 1 [(0, .int (nI sg))] := hl
  refine lv_iload_n hx hb dX1_answerOf_0 rfl (lv_at hl 0 rfl) ?_
  by_cases c_1 : (nI sg) = 45
  ·
    refine lv_lookup (off := 39) (tgt := 40) hx hb dX1_answerOf_1 (by decide) (by rw [c_1]; decide) (by decide) ?_
    refine lv_iconst (v := 3) hx hb dX1_answerOf_40 (by decide) ?_
    refine W.widen (k := 0) (n := 0) (by omega) (by omega) ?_
    exact W.iret (v := 3) hx hb hr (fun t ht hWm => ⟨⟨3, (), rfl, (by rw [(show sg = 45 from (nI_eq (b := 45) (by omega) (by omega)).mp c_1)]; rfl), ⟨F, QT.mk ht hP hD hO hR⟩⟩, hS.F ht⟩) hS.2.2 dX1_answerOf_41
  ·
    by_cases c_2 : (nI sg) = 63
    ·
      refine lv_lookup (off := 35) (tgt := 36) hx hb dX1_answerOf_1 (by decide) (by rw [c_2]; decide) (by decide) ?_
      refine lv_iconst (v := 1) hx hb dX1_answerOf_36 (by decide) ?_
      refine W.widen (k := 0) (n := 0) (by omega) (by omega) ?_
      exact W.iret (v := 1) hx hb hr (fun t ht hWm => ⟨⟨1, (), rfl, (by rw [(show sg = 63 from (nI_eq (b := 63) (by omega) (by omega)).mp c_2)]; rfl), ⟨F, QT.mk ht hP hD hO hR⟩⟩, hS.F ht⟩) hS.2.2 dX1_answerOf_37
    ·
      by_cases c_3 : (nI sg) = 126
      ·
        refine lv_lookup (off := 37) (tgt := 38) hx hb dX1_answerOf_1 (by decide) (by rw [c_3]; decide) (by decide) ?_
        refine lv_iconst (v := 4) hx hb dX1_answerOf_38 (by decide) ?_
        refine W.widen (k := 0) (n := 0) (by omega) (by omega) ?_
        exact W.iret (v := 4) hx hb hr (fun t ht hWm => ⟨⟨4, (), rfl, (by rw [(show sg = 126 from (nI_eq (b := 126) (by omega) (by omega)).mp c_3)]; rfl), ⟨F, QT.mk ht hP hD hO hR⟩⟩, hS.F ht⟩) hS.2.2 dX1_answerOf_39
      ·
        refine lv_lookup (off := 41) (tgt := 42) hx hb dX1_answerOf_1 (by decide) (lk3 _ _ _ _ _ _ _ (fun h => c_1 (Int32.toInt_inj.mp h)) (fun h => c_2 (Int32.toInt_inj.mp h)) (fun h => c_3 (Int32.toInt_inj.mp h))) (by decide) ?_
        refine lv_iconst (v := 2) hx hb dX1_answerOf_42 (by decide) ?_
        refine W.widen (k := 0) (n := 0) (by omega) (by omega) ?_
        exact W.iret (v := 2) hx hb hr (fun t ht hWm => ⟨⟨2, (), rfl, (by unfold anW; rw [if_neg (show ¬ sg = 63 from fun q => c_2 (by rw [q]; rfl)), if_neg (show ¬ sg = 126 from fun q => c_3 (by rw [q]; rfl)), if_neg (show ¬ sg = 45 from fun q => c_1 (by rw [q]; rfl))]; rfl), ⟨F, QT.mk ht hP hD hO hR⟩⟩, hS.F ht⟩) hS.2.2 dX1_answerOf_43
