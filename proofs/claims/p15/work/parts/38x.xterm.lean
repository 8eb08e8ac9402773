def ORP (r : Int32) (p9 : Prop) : Prop := (r = 1 ∧ p9) ∨ (r = 0 ∧ ¬ p9)
def cdv (x : Int32) : Nat := if 0 ≤ x ∧ x < 128 then x.toNatClampNeg else 200
theorem cdv_nI {c : Nat} (hc : c < 128) : cdv (nI c) = c := by
  unfold cdv
  rw [if_pos ⟨Int32.not_lt.mp (nI_pos (by omega)), (nI_ltI (b := 128) (by omega) (by omega)).mpr hc⟩, nI_clamp (by omega)]
theorem cdv_in {x : Int32} (h : cdv x < 128) : x = nI (cdv x) := by
  unfold cdv at h ⊢
  by_cases d : 0 ≤ x ∧ x < 128
  · rw [if_pos d]
    obtain ⟨k, hk, rfl⟩ := nI_of (Int32.not_lt.mpr d.1)
    rw [nI_clamp hk]
  · rw [if_neg d] at h
    omega
theorem cdv_eq {x : Int32} {c : Nat} (hc : c < 128) : cdv x = c ↔ x = nI c := by
  constructor
  · intro h
    have h9 := cdv_in (x := x) (by omega)
    rw [h9, h]
  · intro h
    rw [h]
    exact cdv_nI hc
theorem cdv_rng {x : Int32} {a b : Nat} (ha : a < 128) (hb : b < 128) : (a ≤ cdv x ∧ cdv x ≤ b) ↔ (¬ x < nI a ∧ ¬ nI b < x) := by
  constructor
  · rintro ⟨h1, h2⟩
    have h9 := cdv_in (x := x) (by omega)
    rw [h9]
    exact ⟨fun q => absurd ((nI_ltI (by omega) (by omega)).mp q) (by omega), fun q => absurd ((nI_ltI (by omega) (by omega)).mp q) (by omega)⟩
  · rintro ⟨h1, h2⟩
    obtain ⟨k, hk, rfl⟩ := nI_of (x := x) (fun q => h1 (Int32.lt_of_lt_of_le q (Int32.not_lt.mp (nI_pos (by omega)))))
    have k1 : a ≤ k := Nat.not_lt.mp (fun q => h1 ((nI_ltI hk (by omega)).mpr q))
    have k2 : k ≤ b := Nat.not_lt.mp (fun q => h2 ((nI_ltI (by omega) hk).mpr q))
    rw [cdv_nI (by omega)]
    exact ⟨k1, k2⟩
def atn (f : Nat → Int32) (z j : Nat) : Int32 := if j < z then f j else (-1)
def TC (f : Nat → Int32) (z : Nat) : Nat → Nat := fun j => cdv (atn f z j)
def mcD (T : Nat → Nat) (k : Nat) : Nat := if 49 ≤ T k ∧ T k ≤ 57 then k + 1 else k
def mcR (T : Nat → Nat) (k : Nat) : Nat := if T k = 114 then k + 1 else k
def mcE (T : Nat → Nat) (a tt k : Nat) : Nat := if k < tt ∧ T k = 125 then k + 1 - a else 0
def mcL (x : Nat) : Prop := x = 115 ∨ x = 108 ∨ x = 111 ∨ x = 100 ∨ x = 105
noncomputable def mcT (T : Nat → Nat) (a tt : Nat) : Nat := @ite Nat (T a = 37 ∧ a + 1 < tt) (Classical.propDecidable _) (@ite Nat (T (a + 1) = 37 ∨ T (a + 1) = 95 ∨ T (a + 1) = 45) (Classical.propDecidable _) 2 (@ite Nat (T (a + 1) = 123 ∧ mcL (T (a + 2))) (Classical.propDecidable _) (mcE T a tt (mcR T (mcD T (a + 3)))) 0)) 0
theorem mcD_le (T : Nat → Nat) (k : Nat) : k ≤ mcD T k ∧ mcD T k ≤ k + 1 := by
  unfold mcD
  split <;> omega
theorem mcR_le (T : Nat → Nat) (k : Nat) : k ≤ mcR T k ∧ mcR T k ≤ k + 1 := by
  unfold mcR
  split <;> omega
set_option maxHeartbeats 4000000 in
set_option maxRecDepth 100000 in
theorem s_X0_at_g (l : Launch) (dC : Nat → ClassId) (dI : Nat → Nat → Nat) (cs : Nat → ClassId) (ty : TyM) (L : List Nat) (sz : Nat) (F : Nat → va_E) (h0 : Nat) (ρ : Nat) (r0 : Nat) (n : Nat) (z : Nat) (j : Nat) (f : Nat → Int32) (hW : WT ty L) (hL_h0 : h0 ∈ L) (hT_h0 : ty h0 = (0, ρ, [r0, n])) (hF0 : F h0 = .inr (0, [.ref r0, .int (nI z), .int 0])) (hFr : F r0 = .inl (cs 16, n, .inl f)) (hzn : z ≤ n) (hn9 : n ≤ 10000) (hj9 : j ≤ 20000) : Met l yX0_at (.code yX0_at cX0_at 2 (some .int) :: tb) ({ frames := 0, cells := 0, slots := 0, locals := 0 }) (va_Pc [.ref h0, .int (nI j)] (PT (dC, dI) cs ty L F sz)) (va_Qi (fun (r : Int32) (_ : Unit) => r = atn f z j) (fun _ T9 => ∃ F2 : Nat → va_E, QT (dC, dI) cs ty L [] F F2 (va_A (va_pl L F) sz) T9) (va_A (va_pl L F) sz)) 0 0 (va_A (va_pl L F) sz) := by
  refine Met.ofW (cc := cX0_at) (maxL := 2) (ret := (some .int)) (by decide) rfl ?_
  intro p e s m args below meth c s₁ B hml hv
  obtain ⟨rfl, hsz, hP, hK, hD0, hE, hO⟩ := hv
  have hx := B.exec
  have hb := B.bytes
  have hr := B.returns
  have hts : ∀ w ∈ tb, w.before _ s = true := fun w h => atoms_spec (ws := .code yX0_at cX0_at 2 (some .int) :: tb) B.pre w (List.mem_cons_of_mem _ h)
  have hown : s.vm.findClass RX0 = some m.cls := findClass_of_methodNamed B.named
  have hlocks := B.notSynchronized
  subst hsz
  have hD := hD0.self (sz := s.heap.size)
  generalize hAe : va_A (va_pl L F) s.heap.size = A at hD ⊢
  have hA : ∀ q : Nat, s.heap.size ≤ q → A q := fun q h => by rw [← hAe]; exact Or.inr h
  have hS : va_S A s.heap s.heap [] := va_S.rf
  have hR : FR ty [] F F := FR.refl
  have hl := lv_entry ([.ref h0, .int (nI j)]) (n := 2) (Nat.le_of_ble_eq_true rfl)
  rw [lg_entry_eq]
  generalize (lg_sl ([.ref h0, .int (nI j)]) ++ List.replicate (2 - (lg_sl ([.ref h0, .int (nI j)])).length) Slot.unset).toArray = ls at hl ⊢
  have hl : lv_has ls 2 [(0, .ref h0), (1, .int (nI j))] := hl
  refine lv_iload_n hx hb dX0_at_0 rfl (lv_at hl 1 rfl) ?_
  refine lv_if_lt (tgt := 12) hx hb dX0_at_1 (by decide) (fun c_1 => absurd c_1 (nI_pos (by omega))) (fun c_1 => ?_)
  refine lv_iload_n hx hb dX0_at_4 rfl (lv_at hl 1 rfl) ?_
  refine lv_aload_n hx hb dX0_at_5 rfl (lv_at hl 0 rfl) ?_
  obtain ⟨hi_2, ht_3, hq_4⟩ := hW.bytes hL_h0 hT_h0
  refine pg_get (ci := 0) (v := .int (nI z)) (C := RX0) (T := TX0) (N := 3) hx hb hts it_0 hown hK hP hL_h0 hF0 rfl 1 (by decide) (hts _ kt_10) (fun _ h9 => h9) rfl dX0_at_6 ?_
  refine lv_icmp_lt (tgt := 16) hx hb dX0_at_9 (by decide) (fun c_5 => ?_) (fun c_5 => ?_)
  ·
    have hi_6 : j < z := ltN (N := z) (Int32.not_le.mpr c_5)
    have hjz : j < z := (nI_ltI (by omega) (by omega)).mp c_5
    refine lv_aload_n hx hb dX0_at_16 rfl (lv_at hl 0 rfl) ?_
    refine pg_get (ci := 0) (v := .ref r0) (C := RX0) (T := TX0) (N := 3) hx hb hts it_0 hown hK hP hL_h0 hF0 rfl 0 (by decide) (hts _ kt_12) (fun _ h9 => h9) rfl dX0_at_17 ?_
    refine lv_iload_n hx hb dX0_at_20 rfl (lv_at hl 1 rfl) ?_
    refine pg_iald hx hb hK hP hi_2 0 hFr rfl (vp_in_nI (by omega) (by omega)) dX0_at_21 ?_
    refine lv_topi (fun x_7 ex_7 => ?_)
    obtain rfl : x_7 = (f j) := ex_7.trans (congrArg f (nI_clamp (by omega)))
    refine W.widen (k := 0) (n := 0) (by omega) (by omega) ?_
    exact W.iret (v := (f j)) hx hb hr (fun t ht hWm => ⟨⟨(f j), (), rfl, ((if_pos hjz).symm), ⟨F, QT.mk ht hP hD hO hR⟩⟩, hS.F ht⟩) hS.2.2 dX0_at_22
  ·
    have hi_8 : z ≤ j := leN (N := z) (Int32.not_lt.mp c_5)
    have hjz : z ≤ j := Nat.not_lt.mp (fun q => c_5 ((nI_ltI (by omega) (by omega)).mpr q))
    refine lv_iconst (v := (-1)) hx hb dX0_at_12 (by decide) ?_
    refine lv_goto (tgt := 22) hx hb dX0_at_13 (by decide) ?_
    refine W.widen (k := 0) (n := 0) (by omega) (by omega) ?_
    exact W.iret (v := (-1)) hx hb hr (fun t ht hWm => ⟨⟨(-1), (), rfl, ((if_neg (by omega)).symm), ⟨F, QT.mk ht hP hD hO hR⟩⟩, hS.F ht⟩) hS.2.2 dX0_at_22
theorem mcT_0 {T : Nat → Nat} {a tt : Nat} (h : ¬ (T a = 37 ∧ a + 1 < tt)) : (0 : Int32) = nI (mcT T a tt) := by
  unfold mcT
  rw [if_neg h]
  rfl
theorem mcT_2 {T : Nat → Nat} {a tt : Nat} (h : T a = 37 ∧ a + 1 < tt) (h1 : T (a + 1) = 37 ∨ T (a + 1) = 95 ∨ T (a + 1) = 45) : (2 : Int32) = nI (mcT T a tt) := by
  unfold mcT
  rw [if_pos h, if_pos h1]
  rfl
theorem mcT_n {T : Nat → Nat} {a tt : Nat} (h : T a = 37 ∧ a + 1 < tt) (h1 : ¬ (T (a + 1) = 37 ∨ T (a + 1) = 95 ∨ T (a + 1) = 45)) (h2 : ¬ (T (a + 1) = 123 ∧ mcL (T (a + 2)))) : (0 : Int32) = nI (mcT T a tt) := by
  unfold mcT
  rw [if_pos h, if_neg h1, if_neg h2]
  rfl
theorem mcT_y {T : Nat → Nat} {a tt : Nat} {x : Int32} (h : T a = 37 ∧ a + 1 < tt) (h1 : ¬ (T (a + 1) = 37 ∨ T (a + 1) = 95 ∨ T (a + 1) = 45)) (h2 : T (a + 1) = 123 ∧ mcL (T (a + 2))) (hx : x = nI (mcE T a tt (mcR T (mcD T (a + 3))))) : x = nI (mcT T a tt) := by
  rw [hx]
  unfold mcT
  rw [if_pos h, if_neg h1, if_pos h2]
theorem mcE_y {T : Nat → Nat} {a tt k : Nat} (h : k < tt) (h1 : T k = 125) : nI (k + 1 - a) = nI (mcE T a tt k) := by
  unfold mcE
  rw [if_pos ⟨h, h1⟩]
theorem mcE_n {T : Nat → Nat} {a tt k : Nat} (h : ¬ (k < tt ∧ T k = 125)) : (0 : Int32) = nI (mcE T a tt k) := by
  unfold mcE
  rw [if_neg h]
  rfl
set_option maxHeartbeats 4000000 in
set_option maxRecDepth 100000 in
theorem s_X10_macroLength_e (l : Launch) (dC : Nat → ClassId) (dI : Nat → Nat → Nat) (cs : Nat → ClassId) (ty : TyM) (L : List Nat) (sz : Nat) (F : Nat → va_E) (g1 : Nat) (σ : Nat) (r1 : Nat) (n1 : Nat) (z : Nat) (a : Nat) (tt : Nat) (f : Nat → Int32) (hW : WT ty L) (hL_g1 : g1 ∈ L) (hT_g1 : ty g1 = (0, σ, [r1, n1])) (hFg : F g1 = .inr (0, [.ref r1, .int (nI z), .int 0])) (hFr : F r1 = .inl (cs 16, n1, .inl f)) (hzn : z ≤ n1) (hn9 : n1 ≤ 10000) (ha : a ≤ 9000) (htt : tt ≤ 10000) : Met l yX10_macroLength (.code yX10_macroLength cX10_macroLength 6 (some .int) :: tb) ({ frames := 1, cells := 0, slots := 0, locals := 21 }) (va_Pc [.ref g1, .int (nI a), .int (nI tt)] (PT (dC, dI) cs ty L F sz)) (va_Qi (fun (r : Int32) (_ : Unit) => r = nI (mcT (TC f z) a tt)) (fun _ T9 => ∃ F2 : Nat → va_E, QT (dC, dI) cs ty L [] F F2 (va_A (va_pl L F) sz) T9) (va_A (va_pl L F) sz)) 0 0 (va_A (va_pl L F) sz) := by
  refine Met.ofW (cc := cX10_macroLength) (maxL := 6) (ret := (some .int)) (by decide) rfl ?_
  intro p e s m args below meth c s₁ B hml hv
  obtain ⟨rfl, hsz, hP, hK, hD0, hE, hO⟩ := hv
  have hx := B.exec
  have hb := B.bytes
  have hr := B.returns
  have hts : ∀ w ∈ tb, w.before _ s = true := fun w h => atoms_spec (ws := .code yX10_macroLength cX10_macroLength 6 (some .int) :: tb) B.pre w (List.mem_cons_of_mem _ h)
  have hown : s.vm.findClass RX10 = some m.cls := findClass_of_methodNamed B.named
  have hlocks := B.notSynchronized
  subst hsz
  have hD := hD0.self (sz := s.heap.size)
  generalize hAe : va_A (va_pl L F) s.heap.size = A at hD ⊢
  have hA : ∀ q : Nat, s.heap.size ≤ q → A q := fun q h => by rw [← hAe]; exact Or.inr h
  have hS : va_S A s.heap s.heap [] := va_S.rf
  have hR : FR ty [] F F := FR.refl
  have hl := lv_entry ([.ref g1, .int (nI a), .int (nI tt)]) (n := 6) (Nat.le_of_ble_eq_true rfl)
  rw [lg_entry_eq]
  generalize (lg_sl ([.ref g1, .int (nI a), .int (nI tt)]) ++ List.replicate (6 - (lg_sl ([.ref g1, .int (nI a), .int (nI tt)])).length) Slot.unset).toArray = ls at hl ⊢
  have hl : lv_has ls 6 [(0, .ref g1), (1, .int (nI a)), (2, .int (nI tt))] := hl
  obtain ⟨hi_1, ht_2, hq_3⟩ := hW.bytes hL_g1 hT_g1
  refine lv_aload_n hx hb dX10_macroLength_0 rfl (lv_at hl 0 rfl) ?_
  refine lv_iload_n hx hb dX10_macroLength_1 rfl (lv_at hl 1 rfl) ?_
  have hFc := pg_free hD hS hA
  refine va_calli (va_runV (As := [.int (nI a)]) (rest := []) ⟨hx, hb, hml, hown, hts⟩ (s_X0_at_g l dC dI cs ty L s.heap.size F g1 σ r1 n1 z a f hW hL_g1 hT_g1 hFg hFr (by omega) (by omega) (by omega)) ⟨callB_of 1 hts (gi kt_21) rfl rfl rfl (hts _ kt_1) (hts _ kt_120) (by decide +kernel) ⟨Nat.le_of_ble_eq_true rfl, Nat.le_of_ble_eq_true rfl⟩, (hts _ kt_23), (hts _ kt_24)⟩ ⟨fun a U g mk q => ⟨q.1, PT.calling q.2⟩, pg_recv hK hP hL_g1 hFg (q := (RX0, TX0, 3)) rfl, fun U hU hWm => ⟨rfl, PT.mk hU hWm hP hK hD hE hO⟩⟩ rfl rfl hl.1 rfl (lv_room (Nat.le_of_ble_eq_true rfl)) dX10_macroLength_2 ⟨by show _ + 0 ≤ 0; omega, by show _ + 0 ≤ 0; omega⟩) hS (fun q _ h => hFc q h) hFc (fun r_4 u t H1 locs ht hvm hw hB hz1 hk1 hS => ?_)
  obtain ⟨F_5, hB1⟩ := hB
  obtain rfl : F = F_5 := (funext (fun a => hB1.2.2.2 a List.not_mem_nil)).symm
  obtain ⟨hP, hD, hO, hR⟩ := QT.back hB1 ht hFc hR (fun q h => absurd h List.not_mem_nil)
  generalize H1 = H at hP hS ⊢
  have hw : r_4 = atn f z a := hw
  have hw_6 := hw
  subst hw_6
  refine lv_bipush (v := 37) hx hb dX10_macroLength_5 (by decide) ?_
  refine lv_icmp_ne (tgt := 17) hx hb dX10_macroLength_7 (by decide) (fun c_7 => ?_) (fun c_7 => ?_)
  ·
    refine lv_iconst (v := 0) hx hb dX10_macroLength_17 (by decide) ?_
    refine W.widen (k := 0) (n := 0) (by omega) (by omega) ?_
    exact W.iret (v := 0) hx hb hr (fun t ht hWm => ⟨⟨0, (), rfl, (mcT_0 (fun q => (fun q => c_7 ((cdv_eq (by first | decide | omega)).mp q)) q.1)), ⟨F, QT.mk ht hP hD hO hR⟩⟩, hS.F ht⟩) hS.2.2 dX10_macroLength_18
  ·
    refine lv_iload_n hx hb dX10_macroLength_10 rfl (lv_at hl 1 rfl) ?_
    refine lv_iconst (v := 1) hx hb dX10_macroLength_11 (by decide) ?_
    refine lv_iadd hx hb dX10_macroLength_12 ?_
    refine lv_topi (fun x_8 ex_8 => ?_)
    obtain rfl : x_8 = (nI (a + 1)) := ex_8.trans (nI_add a 1)
    refine lv_iload_n hx hb dX10_macroLength_13 rfl (lv_at hl 2 rfl) ?_
    refine lv_icmp_lt (tgt := 19) hx hb dX10_macroLength_14 (by decide) (fun c_9 => ?_) (fun c_9 => ?_)
    ·
      have hi_10 : (a + 1) < tt := ltN (N := tt) (Int32.not_le.mpr c_9)
      have hat1 : a + 1 < tt := (nI_ltI (by omega) (by omega)).mp c_9
      have hm1 : (TC f z) a = 37 ∧ a + 1 < tt := ⟨((cdv_eq (by first | decide | omega)).mpr c_7), hat1⟩
      refine lv_aload_n hx hb dX10_macroLength_19 rfl (lv_at hl 0 rfl) ?_
      refine lv_iload_n hx hb dX10_macroLength_20 rfl (lv_at hl 1 rfl) ?_
      refine lv_iconst (v := 1) hx hb dX10_macroLength_21 (by decide) ?_
      refine lv_iadd hx hb dX10_macroLength_22 ?_
      refine lv_topi (fun x_11 ex_11 => ?_)
      obtain rfl : x_11 = (nI (a + 1)) := ex_11.trans (nI_add a 1)
      have hFc := pg_free hD hS hA
      refine va_calli (va_runV (As := [.int (nI (a + 1))]) (rest := []) ⟨hx, hb, hml, hown, hts⟩ (s_X0_at_g l dC dI cs ty L H.size F g1 σ r1 n1 z (a + 1) f hW hL_g1 hT_g1 hFg hFr (by omega) (by omega) (by omega)) ⟨callB_of 1 hts (gi kt_21) rfl rfl rfl (hts _ kt_1) (hts _ kt_120) (by decide +kernel) ⟨Nat.le_of_ble_eq_true rfl, Nat.le_of_ble_eq_true rfl⟩, (hts _ kt_23), (hts _ kt_24)⟩ ⟨fun a U g mk q => ⟨q.1, PT.calling q.2⟩, pg_recv hK hP hL_g1 hFg (q := (RX0, TX0, 3)) rfl, fun U hU hWm => ⟨rfl, PT.mk hU hWm hP hK hD hE hO⟩⟩ rfl rfl hl.1 rfl (lv_room (Nat.le_of_ble_eq_true rfl)) dX10_macroLength_23 ⟨by show _ + 0 ≤ 0; omega, by show _ + 0 ≤ 0; omega⟩) hS (fun q _ h => hFc q h) hFc (fun r_12 u t H1 locs ht hvm hw hB hz1 hk1 hS => ?_)
      obtain ⟨F_13, hB1⟩ := hB
      obtain rfl : F = F_13 := (funext (fun a => hB1.2.2.2 a List.not_mem_nil)).symm
      obtain ⟨hP, hD, hO, hR⟩ := QT.back hB1 ht hFc hR (fun q h => absurd h List.not_mem_nil)
      generalize H1 = H at hP hS ⊢
      have hw : r_12 = atn f z (a + 1) := hw
      have hw_14 := hw
      subst hw_14
      refine lv_istore_n (lv' := [(3, .int (atn f z (a + 1))), (0, .ref g1), (1, .int (nI a)), (2, .int (nI tt))]) hx hb dX10_macroLength_26 rfl hl (by decide) rfl (fun ls hl => ?_)
      refine lv_iload_n hx hb dX10_macroLength_27 rfl (lv_at hl 0 rfl) ?_
      refine lv_bipush (v := 37) hx hb dX10_macroLength_28 (by decide) ?_
      refine lv_icmp_eq (tgt := 45) hx hb dX10_macroLength_30 (by decide) (fun c_15 => ?_) (fun c_15 => ?_)
      ·
        refine lv_iconst (v := 2) hx hb dX10_macroLength_45 (by decide) ?_
        refine W.widen (k := 0) (n := 0) (by omega) (by omega) ?_
        exact W.iret (v := 2) hx hb hr (fun t ht hWm => ⟨⟨2, (), rfl, (mcT_2 hm1 (Or.inl ((cdv_eq (by first | decide | omega)).mpr c_15))), ⟨F, QT.mk ht hP hD hO hR⟩⟩, hS.F ht⟩) hS.2.2 dX10_macroLength_46
      ·
        refine lv_iload_n hx hb dX10_macroLength_33 rfl (lv_at hl 0 rfl) ?_
        refine lv_bipush (v := 95) hx hb dX10_macroLength_34 (by decide) ?_
        refine lv_icmp_eq (tgt := 45) hx hb dX10_macroLength_36 (by decide) (fun c_16 => ?_) (fun c_16 => ?_)
        ·
          refine lv_iconst (v := 2) hx hb dX10_macroLength_45 (by decide) ?_
          refine W.widen (k := 0) (n := 0) (by omega) (by omega) ?_
          exact W.iret (v := 2) hx hb hr (fun t ht hWm => ⟨⟨2, (), rfl, (mcT_2 hm1 (Or.inr (Or.inl ((cdv_eq (by first | decide | omega)).mpr c_16)))), ⟨F, QT.mk ht hP hD hO hR⟩⟩, hS.F ht⟩) hS.2.2 dX10_macroLength_46
        ·
          refine lv_iload_n hx hb dX10_macroLength_39 rfl (lv_at hl 0 rfl) ?_
          refine lv_bipush (v := 45) hx hb dX10_macroLength_40 (by decide) ?_
          refine lv_icmp_ne (tgt := 47) hx hb dX10_macroLength_42 (by decide) (fun c_17 => ?_) (fun c_17 => ?_)
          ·
            have hm2 : ¬ ((TC f z) (a + 1) = 37 ∨ (TC f z) (a + 1) = 95 ∨ (TC f z) (a + 1) = 45) := fun q => q.elim (fun q => c_15 ((cdv_eq (by first | decide | omega)).mp q)) (fun q2 => q2.elim (fun q => c_16 ((cdv_eq (by first | decide | omega)).mp q)) (fun q => c_17 ((cdv_eq (by first | decide | omega)).mp q)))
            refine lv_aload_n hx hb dX10_macroLength_47 rfl (lv_at hl 1 rfl) ?_
            refine lv_iload_n hx hb dX10_macroLength_48 rfl (lv_at hl 2 rfl) ?_
            refine lv_iconst (v := 2) hx hb dX10_macroLength_49 (by decide) ?_
            refine lv_iadd hx hb dX10_macroLength_50 ?_
            refine lv_topi (fun x_18 ex_18 => ?_)
            obtain rfl : x_18 = (nI (a + 2)) := ex_18.trans (nI_add a 2)
            have hFc := pg_free hD hS hA
            refine va_calli (va_runV (As := [.int (nI (a + 2))]) (rest := []) ⟨hx, hb, hml, hown, hts⟩ (s_X0_at_g l dC dI cs ty L H.size F g1 σ r1 n1 z (a + 2) f hW hL_g1 hT_g1 hFg hFr (by omega) (by omega) (by omega)) ⟨callB_of 1 hts (gi kt_21) rfl rfl rfl (hts _ kt_1) (hts _ kt_120) (by decide +kernel) ⟨Nat.le_of_ble_eq_true rfl, Nat.le_of_ble_eq_true rfl⟩, (hts _ kt_23), (hts _ kt_24)⟩ ⟨fun a U g mk q => ⟨q.1, PT.calling q.2⟩, pg_recv hK hP hL_g1 hFg (q := (RX0, TX0, 3)) rfl, fun U hU hWm => ⟨rfl, PT.mk hU hWm hP hK hD hE hO⟩⟩ rfl rfl hl.1 rfl (lv_room (Nat.le_of_ble_eq_true rfl)) dX10_macroLength_51 ⟨by show _ + 0 ≤ 0; omega, by show _ + 0 ≤ 0; omega⟩) hS (fun q _ h => hFc q h) hFc (fun r_19 u t H1 locs ht hvm hw hB hz1 hk1 hS => ?_)
            obtain ⟨F_20, hB1⟩ := hB
            obtain rfl : F = F_20 := (funext (fun a => hB1.2.2.2 a List.not_mem_nil)).symm
            obtain ⟨hP, hD, hO, hR⟩ := QT.back hB1 ht hFc hR (fun q h => absurd h List.not_mem_nil)
            generalize H1 = H at hP hS ⊢
            have hw : r_19 = atn f z (a + 2) := hw
            have hw_21 := hw
            subst hw_21
            refine lv_istore (lv' := [(4, .int (atn f z (a + 2))), (3, .int (atn f z (a + 1))), (0, .ref g1), (1, .int (nI a)), (2, .int (nI tt))]) hx hb dX10_macroLength_54 hl (by decide) rfl (fun ls hl => ?_)
            refine lv_iload_n hx hb dX10_macroLength_56 rfl (lv_at hl 1 rfl) ?_
            refine lv_bipush (v := 123) hx hb dX10_macroLength_57 (by decide) ?_
            refine lv_icmp_ne (tgt := 97) hx hb dX10_macroLength_59 (by decide) (fun c_22 => ?_) (fun c_22 => ?_)
            ·
              refine lv_iconst (v := 0) hx hb dX10_macroLength_97 (by decide) ?_
              refine W.widen (k := 0) (n := 0) (by omega) (by omega) ?_
              exact W.iret (v := 0) hx hb hr (fun t ht hWm => ⟨⟨0, (), rfl, (mcT_n hm1 hm2 (fun q => (fun q => c_22 ((cdv_eq (by first | decide | omega)).mp q)) q.1)), ⟨F, QT.mk ht hP hD hO hR⟩⟩, hS.F ht⟩) hS.2.2 dX10_macroLength_98
            ·
              refine W.widen (k := 0) (n := 0) (by omega) (by omega) ?_
              refine pl_cut (σ := Unit) A (dC, dI) cs ty L [] F 99 6 (fun u0 => [(0, .ref g1), (1, .int (nI a)), (2, .int (nI tt))]) (fun u0 => []) (fun u0 _ => mcL ((TC f z) (a + 2))) ?_ (fun jn_23 => ?_)
              ·
                rintro u0 F_24 hv_25 hO hR H locs hP hD hS ls hl
                have hl : lv_has ls 6 [(0, .ref g1), (1, .int (nI a)), (2, .int (nI tt))] := hl
                have hv_25 : mcL ((TC f z) (a + 2)) := hv_25
                refine W.eq (g2 := F0 m 99 ls []) rfl ?_
                obtain rfl : F = F_24 := (funext (fun a => hR a List.not_mem_nil)).symm
                have hm3 : (TC f z) (a + 1) = 123 ∧ mcL ((TC f z) (a + 2)) := ⟨((cdv_eq (by first | decide | omega)).mpr c_22), hv_25⟩
                refine lv_iload_n hx hb dX10_macroLength_99 rfl (lv_at hl 1 rfl) ?_
                refine lv_iconst (v := 3) hx hb dX10_macroLength_100 (by decide) ?_
                refine lv_iadd hx hb dX10_macroLength_101 ?_
                refine lv_topi (fun x_26 ex_26 => ?_)
                obtain rfl : x_26 = (nI (a + 3)) := ex_26.trans (nI_add a 3)
                refine lv_istore (lv' := [(5, .int (nI (a + 3))), (0, .ref g1), (1, .int (nI a)), (2, .int (nI tt))]) hx hb dX10_macroLength_102 hl (by decide) rfl (fun ls hl => ?_)
                refine W.widen (k := 0) (n := 0) (by omega) (by omega) ?_
                refine pl_cut (σ := Int32) A (dC, dI) cs ty L [] F 129 6 (fun k5 => [(5, .int k5), (0, .ref g1), (1, .int (nI a)), (2, .int (nI tt))]) (fun k5 => []) (fun k5 _ => k5 = nI (mcD (TC f z) (a + 3))) ?_ (fun jn_27 => ?_)
                ·
                  rintro k5 F_28 hv_29 hO hR H locs hP hD hS ls hl
                  have hl : lv_has ls 6 [(5, .int k5), (0, .ref g1), (1, .int (nI a)), (2, .int (nI tt))] := hl
                  have hv_29 : k5 = nI (mcD (TC f z) (a + 3)) := hv_29
                  refine W.eq (g2 := F0 m 129 ls []) rfl ?_
                  obtain rfl : F = F_28 := (funext (fun a => hR a List.not_mem_nil)).symm
                  have hk5 : k5 = nI (mcD (TC f z) (a + 3)) := hv_29
                  subst hk5
                  have hkd := mcD_le (TC f z) (a + 3)
                  refine W.widen (k := 0) (n := 0) (by omega) (by omega) ?_
                  refine pl_cut (σ := Int32) A (dC, dI) cs ty L [] F 143 6 (fun k6 => [(5, .int k6), (0, .ref g1), (1, .int (nI a)), (2, .int (nI tt))]) (fun k6 => []) (fun k6 _ => k6 = nI (mcR (TC f z) (mcD (TC f z) (a + 3)))) ?_ (fun jn_30 => ?_)
                  ·
                    rintro k6 F_31 hv_32 hO hR H locs hP hD hS ls hl
                    have hl : lv_has ls 6 [(5, .int k6), (0, .ref g1), (1, .int (nI a)), (2, .int (nI tt))] := hl
                    have hv_32 : k6 = nI (mcR (TC f z) (mcD (TC f z) (a + 3))) := hv_32
                    refine W.eq (g2 := F0 m 143 ls []) rfl ?_
                    obtain rfl : F = F_31 := (funext (fun a => hR a List.not_mem_nil)).symm
                    have hk6 : k6 = nI (mcR (TC f z) (mcD (TC f z) (a + 3))) := hv_32
                    subst hk6
                    have hkr := mcR_le (TC f z) (mcD (TC f z) (a + 3))
                    refine lv_iload hx hb dX10_macroLength_143 (lv_at hl 0 rfl) ?_
                    refine lv_iload_n hx hb dX10_macroLength_145 rfl (lv_at hl 3 rfl) ?_
                    refine lv_icmp_ge (tgt := 169) hx hb dX10_macroLength_146 (by decide) (fun c_33 => ?_) (fun c_33 => ?_)
                    ·
                      have hi_34 : tt ≤ (mcR (TC f z) (mcD (TC f z) (a + 3))) := leN (N := tt) c_33
                      have hkt : ¬ (mcR (TC f z) (mcD (TC f z) (a + 3))) < tt := Nat.not_lt.mpr ((nI_leI (by omega) (by omega)).mp c_33)
                      refine lv_iconst (v := 0) hx hb dX10_macroLength_169 (by decide) ?_
                      refine W.widen (k := 0) (n := 0) (by omega) (by omega) ?_
                      exact W.iret (v := 0) hx hb hr (fun t ht hWm => ⟨⟨0, (), rfl, (mcT_y hm1 hm2 hm3 (mcE_n (fun q => hkt q.1))), ⟨F, QT.mk ht hP hD hO hR⟩⟩, hS.F ht⟩) hS.2.2 dX10_macroLength_170
                    ·
                      have hi_35 : (mcR (TC f z) (mcD (TC f z) (a + 3))) < tt := ltN (N := tt) c_33
                      have hkt : (mcR (TC f z) (mcD (TC f z) (a + 3))) < tt := Nat.not_le.mp (fun q => c_33 ((nI_leI (by omega) (by omega)).mpr q))
                      refine lv_aload_n hx hb dX10_macroLength_149 rfl (lv_at hl 1 rfl) ?_
                      refine lv_iload hx hb dX10_macroLength_150 (lv_at hl 0 rfl) ?_
                      have hFc := pg_free hD hS hA
                      refine va_calli (va_runV (As := [.int (nI (mcR (TC f z) (mcD (TC f z) (a + 3))))]) (rest := []) ⟨hx, hb, hml, hown, hts⟩ (s_X0_at_g l dC dI cs ty L H.size F g1 σ r1 n1 z (mcR (TC f z) (mcD (TC f z) (a + 3))) f hW hL_g1 hT_g1 hFg hFr (by omega) (by omega) (by omega)) ⟨callB_of 1 hts (gi kt_21) rfl rfl rfl (hts _ kt_1) (hts _ kt_120) (by decide +kernel) ⟨Nat.le_of_ble_eq_true rfl, Nat.le_of_ble_eq_true rfl⟩, (hts _ kt_23), (hts _ kt_24)⟩ ⟨fun a U g mk q => ⟨q.1, PT.calling q.2⟩, pg_recv hK hP hL_g1 hFg (q := (RX0, TX0, 3)) rfl, fun U hU hWm => ⟨rfl, PT.mk hU hWm hP hK hD hE hO⟩⟩ rfl rfl hl.1 rfl (lv_room (Nat.le_of_ble_eq_true rfl)) dX10_macroLength_152 ⟨by show _ + 0 ≤ 0; omega, by show _ + 0 ≤ 0; omega⟩) hS (fun q _ h => hFc q h) hFc (fun r_36 u t H1 locs ht hvm hw hB hz1 hk1 hS => ?_)
                      obtain ⟨F_37, hB1⟩ := hB
                      obtain rfl : F = F_37 := (funext (fun a => hB1.2.2.2 a List.not_mem_nil)).symm
                      obtain ⟨hP, hD, hO, hR⟩ := QT.back hB1 ht hFc hR (fun q h => absurd h List.not_mem_nil)
                      generalize H1 = H at hP hS ⊢
                      have hw : r_36 = atn f z (mcR (TC f z) (mcD (TC f z) (a + 3))) := hw
                      have hw_38 := hw
                      subst hw_38
                      refine lv_bipush (v := 125) hx hb dX10_macroLength_155 (by decide) ?_
                      refine lv_icmp_ne (tgt := 169) hx hb dX10_macroLength_157 (by decide) (fun c_39 => ?_) (fun c_39 => ?_)
                      ·
                        refine lv_iconst (v := 0) hx hb dX10_macroLength_169 (by decide) ?_
                        refine W.widen (k := 0) (n := 0) (by omega) (by omega) ?_
                        exact W.iret (v := 0) hx hb hr (fun t ht hWm => ⟨⟨0, (), rfl, (mcT_y hm1 hm2 hm3 (mcE_n (fun q => (fun q => c_39 ((cdv_eq (by first | decide | omega)).mp q)) q.2))), ⟨F, QT.mk ht hP hD hO hR⟩⟩, hS.F ht⟩) hS.2.2 dX10_macroLength_170
                      ·
                        refine lv_iload hx hb dX10_macroLength_160 (lv_at hl 0 rfl) ?_
                        refine lv_iconst (v := 1) hx hb dX10_macroLength_162 (by decide) ?_
                        refine lv_iadd hx hb dX10_macroLength_163 ?_
                        refine lv_topi (fun x_40 ex_40 => ?_)
                        obtain rfl : x_40 = (nI ((mcR (TC f z) (mcD (TC f z) (a + 3))) + 1)) := ex_40.trans (nI_add (mcR (TC f z) (mcD (TC f z) (a + 3))) 1)
                        refine lv_iload_n hx hb dX10_macroLength_164 rfl (lv_at hl 2 rfl) ?_
                        refine lv_isub hx hb dX10_macroLength_165 ?_
                        refine lv_topi (fun x_41 ex_41 => ?_)
                        obtain rfl : x_41 = (nI ((mcR (TC f z) (mcD (TC f z) (a + 3))) + 1 - a)) := ex_41.trans (pk_sub (by omega))
                        refine lv_goto (tgt := 170) hx hb dX10_macroLength_166 (by decide) ?_
                        refine W.widen (k := 0) (n := 0) (by omega) (by omega) ?_
                        exact W.iret (v := (nI ((mcR (TC f z) (mcD (TC f z) (a + 3))) + 1 - a))) hx hb hr (fun t ht hWm => ⟨⟨(nI ((mcR (TC f z) (mcD (TC f z) (a + 3))) + 1 - a)), (), rfl, (mcT_y hm1 hm2 hm3 (mcE_y hkt ((cdv_eq (by first | decide | omega)).mpr c_39))), ⟨F, QT.mk ht hP hD hO hR⟩⟩, hS.F ht⟩) hS.2.2 dX10_macroLength_170
                  ·
                    refine lv_aload_n hx hb dX10_macroLength_129 rfl (lv_at hl 1 rfl) ?_
                    refine lv_iload hx hb dX10_macroLength_130 (lv_at hl 0 rfl) ?_
                    have hFc := pg_free hD hS hA
                    refine va_calli (va_runV (As := [.int (nI (mcD (TC f z) (a + 3)))]) (rest := []) ⟨hx, hb, hml, hown, hts⟩ (s_X0_at_g l dC dI cs ty L H.size F g1 σ r1 n1 z (mcD (TC f z) (a + 3)) f hW hL_g1 hT_g1 hFg hFr (by omega) (by omega) (by omega)) ⟨callB_of 1 hts (gi kt_21) rfl rfl rfl (hts _ kt_1) (hts _ kt_120) (by decide +kernel) ⟨Nat.le_of_ble_eq_true rfl, Nat.le_of_ble_eq_true rfl⟩, (hts _ kt_23), (hts _ kt_24)⟩ ⟨fun a U g mk q => ⟨q.1, PT.calling q.2⟩, pg_recv hK hP hL_g1 hFg (q := (RX0, TX0, 3)) rfl, fun U hU hWm => ⟨rfl, PT.mk hU hWm hP hK hD hE hO⟩⟩ rfl rfl hl.1 rfl (lv_room (Nat.le_of_ble_eq_true rfl)) dX10_macroLength_132 ⟨by show _ + 0 ≤ 0; omega, by show _ + 0 ≤ 0; omega⟩) hS (fun q _ h => hFc q h) hFc (fun r_42 u t H1 locs ht hvm hw hB hz1 hk1 hS => ?_)
                    obtain ⟨F_43, hB1⟩ := hB
                    obtain rfl : F = F_43 := (funext (fun a => hB1.2.2.2 a List.not_mem_nil)).symm
                    obtain ⟨hP, hD, hO, hR⟩ := QT.back hB1 ht hFc hR (fun q h => absurd h List.not_mem_nil)
                    generalize H1 = H at hP hS ⊢
                    have hw : r_42 = atn f z (mcD (TC f z) (a + 3)) := hw
                    have hw_44 := hw
                    subst hw_44
                    refine lv_bipush (v := 114) hx hb dX10_macroLength_135 (by decide) ?_
                    refine lv_icmp_ne (tgt := 143) hx hb dX10_macroLength_137 (by decide) (fun c_45 => ?_) (fun c_45 => ?_)
                    ·
                      refine W.widen (k := 0) (n := 0) (by omega) (by omega) ?_
                      exact jn_30 (nI (mcD (TC f z) (a + 3))) F ((congrArg nI (if_neg (fun q => c_45 ((cdv_eq (by first | decide | omega)).mp q))).symm)) hO hR _ _ hP hD hS ls (lv_sub hl [0, 1, 2, 3] rfl)
                    ·
                      refine lv_iinc (v := (nI ((mcD (TC f z) (a + 3)) + 1))) (lv' := [(5, .int (nI ((mcD (TC f z) (a + 3)) + 1))), (0, .ref g1), (1, .int (nI a)), (2, .int (nI tt))]) hx hb dX10_macroLength_140 hl (k := 0) rfl (nI_1 _) (by decide) rfl (fun ls hl => ?_)
                      refine W.widen (k := 0) (n := 0) (by omega) (by omega) ?_
                      exact jn_30 (nI ((mcD (TC f z) (a + 3)) + 1)) F ((congrArg nI (if_pos ((cdv_eq (by first | decide | omega)).mpr c_45)).symm)) hO hR _ _ hP hD hS ls (lv_sub hl [0, 1, 2, 3] rfl)
                ·
                  refine lv_aload_n hx hb dX10_macroLength_104 rfl (lv_at hl 1 rfl) ?_
                  refine lv_iload hx hb dX10_macroLength_105 (lv_at hl 0 rfl) ?_
                  have hFc := pg_free hD hS hA
                  refine va_calli (va_runV (As := [.int (nI (a + 3))]) (rest := []) ⟨hx, hb, hml, hown, hts⟩ (s_X0_at_g l dC dI cs ty L H.size F g1 σ r1 n1 z (a + 3) f hW hL_g1 hT_g1 hFg hFr (by omega) (by omega) (by omega)) ⟨callB_of 1 hts (gi kt_21) rfl rfl rfl (hts _ kt_1) (hts _ kt_120) (by decide +kernel) ⟨Nat.le_of_ble_eq_true rfl, Nat.le_of_ble_eq_true rfl⟩, (hts _ kt_23), (hts _ kt_24)⟩ ⟨fun a U g mk q => ⟨q.1, PT.calling q.2⟩, pg_recv hK hP hL_g1 hFg (q := (RX0, TX0, 3)) rfl, fun U hU hWm => ⟨rfl, PT.mk hU hWm hP hK hD hE hO⟩⟩ rfl rfl hl.1 rfl (lv_room (Nat.le_of_ble_eq_true rfl)) dX10_macroLength_107 ⟨by show _ + 0 ≤ 0; omega, by show _ + 0 ≤ 0; omega⟩) hS (fun q _ h => hFc q h) hFc (fun r_46 u t H1 locs ht hvm hw hB hz1 hk1 hS => ?_)
                  obtain ⟨F_47, hB1⟩ := hB
                  obtain rfl : F = F_47 := (funext (fun a => hB1.2.2.2 a List.not_mem_nil)).symm
                  obtain ⟨hP, hD, hO, hR⟩ := QT.back hB1 ht hFc hR (fun q h => absurd h List.not_mem_nil)
                  generalize H1 = H at hP hS ⊢
                  have hw : r_46 = atn f z (a + 3) := hw
                  have hw_48 := hw
                  subst hw_48
                  refine lv_bipush (v := 49) hx hb dX10_macroLength_110 (by decide) ?_
                  refine lv_icmp_lt (tgt := 129) hx hb dX10_macroLength_112 (by decide) (fun c_49 => ?_) (fun c_49 => ?_)
                  ·
                    refine W.widen (k := 0) (n := 0) (by omega) (by omega) ?_
                    exact jn_27 (nI (a + 3)) F ((congrArg nI (if_neg (fun q => ((cdv_rng (a := 49) (b := 57) (by omega) (by omega)).mp q).1 c_49)).symm)) hO hR _ _ hP hD hS ls (lv_sub hl [0, 1, 2, 3] rfl)
                  ·
                    refine lv_aload_n hx hb dX10_macroLength_115 rfl (lv_at hl 1 rfl) ?_
                    refine lv_iload hx hb dX10_macroLength_116 (lv_at hl 0 rfl) ?_
                    have hFc := pg_free hD hS hA
                    refine va_calli (va_runV (As := [.int (nI (a + 3))]) (rest := []) ⟨hx, hb, hml, hown, hts⟩ (s_X0_at_g l dC dI cs ty L H.size F g1 σ r1 n1 z (a + 3) f hW hL_g1 hT_g1 hFg hFr (by omega) (by omega) (by omega)) ⟨callB_of 1 hts (gi kt_21) rfl rfl rfl (hts _ kt_1) (hts _ kt_120) (by decide +kernel) ⟨Nat.le_of_ble_eq_true rfl, Nat.le_of_ble_eq_true rfl⟩, (hts _ kt_23), (hts _ kt_24)⟩ ⟨fun a U g mk q => ⟨q.1, PT.calling q.2⟩, pg_recv hK hP hL_g1 hFg (q := (RX0, TX0, 3)) rfl, fun U hU hWm => ⟨rfl, PT.mk hU hWm hP hK hD hE hO⟩⟩ rfl rfl hl.1 rfl (lv_room (Nat.le_of_ble_eq_true rfl)) dX10_macroLength_118 ⟨by show _ + 0 ≤ 0; omega, by show _ + 0 ≤ 0; omega⟩) hS (fun q _ h => hFc q h) hFc (fun r_50 u t H1 locs ht hvm hw hB hz1 hk1 hS => ?_)
                    obtain ⟨F_51, hB1⟩ := hB
                    obtain rfl : F = F_51 := (funext (fun a => hB1.2.2.2 a List.not_mem_nil)).symm
                    obtain ⟨hP, hD, hO, hR⟩ := QT.back hB1 ht hFc hR (fun q h => absurd h List.not_mem_nil)
                    generalize H1 = H at hP hS ⊢
                    have hw : r_50 = atn f z (a + 3) := hw
                    have hw_52 := hw
                    subst hw_52
                    refine lv_bipush (v := 57) hx hb dX10_macroLength_121 (by decide) ?_
                    refine lv_icmp_gt (tgt := 129) hx hb dX10_macroLength_123 (by decide) (fun c_53 => ?_) (fun c_53 => ?_)
                    ·
                      refine W.widen (k := 0) (n := 0) (by omega) (by omega) ?_
                      exact jn_27 (nI (a + 3)) F ((congrArg nI (if_neg (fun q => ((cdv_rng (a := 49) (b := 57) (by omega) (by omega)).mp q).2 c_53)).symm)) hO hR _ _ hP hD hS ls (lv_sub hl [0, 1, 2, 3] rfl)
                    ·
                      refine lv_iinc (v := (nI (a + 4))) (lv' := [(5, .int (nI (a + 4))), (0, .ref g1), (1, .int (nI a)), (2, .int (nI tt))]) hx hb dX10_macroLength_126 hl (k := 0) rfl (nI_1 _) (by decide) rfl (fun ls hl => ?_)
                      refine W.widen (k := 0) (n := 0) (by omega) (by omega) ?_
                      exact jn_27 (nI (a + 4)) F ((congrArg nI (if_pos ((cdv_rng (a := 49) (b := 57) (by omega) (by omega)).mpr ⟨c_49, c_53⟩)).symm)) hO hR _ _ hP hD hS ls (lv_sub hl [0, 1, 2, 3] rfl)
              ·
                refine lv_iload hx hb dX10_macroLength_62 (lv_at hl 0 rfl) ?_
                refine lv_bipush (v := 115) hx hb dX10_macroLength_64 (by decide) ?_
                refine lv_icmp_eq (tgt := 99) hx hb dX10_macroLength_66 (by decide) (fun c_54 => ?_) (fun c_54 => ?_)
                ·
                  refine W.widen (k := 0) (n := 0) (by omega) (by omega) ?_
                  exact jn_23 () F (Or.inl ((cdv_eq (by first | decide | omega)).mpr c_54)) hO hR _ _ hP hD hS ls (lv_sub hl [2, 3, 4] rfl)
                ·
                  refine lv_iload hx hb dX10_macroLength_69 (lv_at hl 0 rfl) ?_
                  refine lv_bipush (v := 108) hx hb dX10_macroLength_71 (by decide) ?_
                  refine lv_icmp_eq (tgt := 99) hx hb dX10_macroLength_73 (by decide) (fun c_55 => ?_) (fun c_55 => ?_)
                  ·
                    refine W.widen (k := 0) (n := 0) (by omega) (by omega) ?_
                    exact jn_23 () F ((Or.inr (Or.inl ((cdv_eq (by first | decide | omega)).mpr c_55)))) hO hR _ _ hP hD hS ls (lv_sub hl [2, 3, 4] rfl)
                  ·
                    refine lv_iload hx hb dX10_macroLength_76 (lv_at hl 0 rfl) ?_
                    refine lv_bipush (v := 111) hx hb dX10_macroLength_78 (by decide) ?_
                    refine lv_icmp_eq (tgt := 99) hx hb dX10_macroLength_80 (by decide) (fun c_56 => ?_) (fun c_56 => ?_)
                    ·
                      refine W.widen (k := 0) (n := 0) (by omega) (by omega) ?_
                      exact jn_23 () F ((Or.inr ((Or.inr (Or.inl ((cdv_eq (by first | decide | omega)).mpr c_56)))))) hO hR _ _ hP hD hS ls (lv_sub hl [2, 3, 4] rfl)
                    ·
                      refine lv_iload hx hb dX10_macroLength_83 (lv_at hl 0 rfl) ?_
                      refine lv_bipush (v := 100) hx hb dX10_macroLength_85 (by decide) ?_
                      refine lv_icmp_eq (tgt := 99) hx hb dX10_macroLength_87 (by decide) (fun c_57 => ?_) (fun c_57 => ?_)
                      ·
                        refine W.widen (k := 0) (n := 0) (by omega) (by omega) ?_
                        exact jn_23 () F ((Or.inr ((Or.inr ((Or.inr (Or.inl ((cdv_eq (by first | decide | omega)).mpr c_57)))))))) hO hR _ _ hP hD hS ls (lv_sub hl [2, 3, 4] rfl)
                      ·
                        refine lv_iload hx hb dX10_macroLength_90 (lv_at hl 0 rfl) ?_
                        refine lv_bipush (v := 105) hx hb dX10_macroLength_92 (by decide) ?_
                        refine lv_icmp_eq (tgt := 99) hx hb dX10_macroLength_94 (by decide) (fun c_58 => ?_) (fun c_58 => ?_)
                        ·
                          refine W.widen (k := 0) (n := 0) (by omega) (by omega) ?_
                          exact jn_23 () F ((Or.inr ((Or.inr ((Or.inr ((Or.inr (((cdv_eq (by first | decide | omega)).mpr c_58)))))))))) hO hR _ _ hP hD hS ls (lv_sub hl [2, 3, 4] rfl)
                        ·
                          refine lv_iconst (v := 0) hx hb dX10_macroLength_97 (by decide) ?_
                          refine W.widen (k := 0) (n := 0) (by omega) (by omega) ?_
                          exact W.iret (v := 0) hx hb hr (fun t ht hWm => ⟨⟨0, (), rfl, (mcT_n hm1 hm2 (fun q => by rcases q.2 with q | q | q | q | q; exact (fun q => c_54 ((cdv_eq (by first | decide | omega)).mp q)) q; exact (fun q => c_55 ((cdv_eq (by first | decide | omega)).mp q)) q; exact (fun q => c_56 ((cdv_eq (by first | decide | omega)).mp q)) q; exact (fun q => c_57 ((cdv_eq (by first | decide | omega)).mp q)) q; exact (fun q => c_58 ((cdv_eq (by first | decide | omega)).mp q)) q)), ⟨F, QT.mk ht hP hD hO hR⟩⟩, hS.F ht⟩) hS.2.2 dX10_macroLength_98
          ·
            refine lv_iconst (v := 2) hx hb dX10_macroLength_45 (by decide) ?_
            refine W.widen (k := 0) (n := 0) (by omega) (by omega) ?_
            exact W.iret (v := 2) hx hb hr (fun t ht hWm => ⟨⟨2, (), rfl, (mcT_2 hm1 (Or.inr (Or.inr ((cdv_eq (by first | decide | omega)).mpr c_17)))), ⟨F, QT.mk ht hP hD hO hR⟩⟩, hS.F ht⟩) hS.2.2 dX10_macroLength_46
    ·
      have hi_59 : tt ≤ (a + 1) := leN (N := tt) (Int32.not_lt.mp c_9)
      have hat1 : ¬ a + 1 < tt := fun q => c_9 ((nI_ltI (by omega) (by omega)).mpr q)
      refine lv_iconst (v := 0) hx hb dX10_macroLength_17 (by decide) ?_
      refine W.widen (k := 0) (n := 0) (by omega) (by omega) ?_
      exact W.iret (v := 0) hx hb hr (fun t ht hWm => ⟨⟨0, (), rfl, (mcT_0 (fun q => hat1 q.2)), ⟨F, QT.mk ht hP hD hO hR⟩⟩, hS.F ht⟩) hS.2.2 dX10_macroLength_18
def nbw (T : Nat → Nat) : Nat → Nat → Nat → Option Nat
  | 0, _, v => some v
  | k + 1, i, v => if 48 ≤ T i ∧ T i ≤ 57 then nbw T k (i + 1) (v * 10 + T i - 48) else none
def nbT (T : Nat → Nat) (a b mo : Nat) : Option Nat := if a + 1 ≤ b ∧ b ≤ a + mo then nbw T (b - a) a 0 else none
def nbv : Option Nat → Int32
  | none => (-1)
  | some v => nI v
theorem nbw_y {T : Nat → Nat} {b i v : Nat} {X : Option Nat} (h : nbw T (b - i) i v = X) (hi : i < b) (hd : 48 ≤ T i ∧ T i ≤ 57) : nbw T (b - (i + 1)) (i + 1) (v * 10 + T i - 48) = X := by
  rw [show b - i = b - (i + 1) + 1 by omega] at h
  exact (if_pos hd).symm.trans h
theorem nbw_n {T : Nat → Nat} {b i v : Nat} {X : Option Nat} (h : nbw T (b - i) i v = X) (hi : i < b) (hd : ¬ (48 ≤ T i ∧ T i ≤ 57)) : X = none := by
  rw [show b - i = b - (i + 1) + 1 by omega] at h
  exact h.symm.trans (if_neg hd)
theorem nbw_e {T : Nat → Nat} {b i v : Nat} {X : Option Nat} (h : nbw T (b - i) i v = X) (hi : b ≤ i) : X = some v := by
  rw [show b - i = 0 by omega] at h
  exact h.symm
theorem nbT_y {T : Nat → Nat} {a b mo i v : Nat} (h : nbw T (b - i) i v = nbw T (b - a) a 0) (hi : b ≤ i) (h1 : a + 1 ≤ b) (h2 : b ≤ a + mo) : nI v = nbv (nbT T a b mo) := by
  have h3 : nbT T a b mo = some v := (if_pos ⟨h1, h2⟩).trans (nbw_e h hi)
  rw [h3]
  rfl
theorem nbT_n {T : Nat → Nat} {a b mo i v : Nat} (h : nbw T (b - i) i v = nbw T (b - a) a 0) (hi : i < b) (hd : ¬ (48 ≤ T i ∧ T i ≤ 57)) (h1 : a + 1 ≤ b) (h2 : b ≤ a + mo) : (-1) = nbv (nbT T a b mo) := by
  have h3 : nbT T a b mo = none := (if_pos ⟨h1, h2⟩).trans (nbw_n h hi hd)
  rw [h3]
  rfl
def NBD (a i vv : Nat) : Prop := (i - a = 0 → vv = 0) ∧ (i - a = 1 → vv ≤ 9) ∧ (i - a = 2 → vv ≤ 99) ∧ (i - a = 3 → vv ≤ 999)
theorem nbd_0 (a : Nat) : NBD a a 0 := ⟨fun _ => rfl, fun _ => Nat.zero_le _, fun _ => Nat.zero_le _, fun _ => Nat.zero_le _⟩
theorem nbd_le {a i vv : Nat} (h : NBD a i vv) (h3 : i - a ≤ 3) : vv ≤ 999 := by
  unfold NBD at h
  omega
theorem nb_dig {T : Nat → Nat} {a i vv : Nat} (h : NBD a i vv) (ha : a ≤ i) (hd : 48 ≤ T i ∧ T i ≤ 57) (h3 : i + 1 - a ≤ 3) : NBD a (i + 1) (vv * 10 + T i - 48) := by
  unfold NBD at h ⊢
  omega
theorem sme_d {x r : Int32} (h : r = (if 48 ≤ x ∧ x ≤ 57 then 1 else 0)) (c : ¬ r = 0) : 48 ≤ cdv x ∧ cdv x ≤ 57 := by
  have h9 := ifb1 h c
  exact (cdv_rng (a := 48) (b := 57) (by omega) (by omega)).mpr ⟨Int32.not_lt.mpr h9.1, Int32.not_lt.mpr h9.2⟩
theorem sme_n {x r : Int32} (h : r = (if 48 ≤ x ∧ x ≤ 57 then 1 else 0)) (c : r = 0) : ¬ (48 ≤ cdv x ∧ cdv x ≤ 57) := fun q => by
  have h9 := (cdv_rng (a := 48) (b := 57) (by omega) (by omega)).mp q
  exact ifb0 h c ⟨Int32.not_lt.mp h9.1, Int32.not_lt.mp h9.2⟩
set_option maxHeartbeats 4000000 in
set_option maxRecDepth 100000 in
theorem s_X10_numberOf_e (l : Launch) (dC : Nat → ClassId) (dI : Nat → Nat → Nat) (cs : Nat → ClassId) (ty : TyM) (L : List Nat) (sz : Nat) (F : Nat → va_E) (g1 : Nat) (σ : Nat) (r1 : Nat) (n1 : Nat) (z : Nat) (a : Nat) (b : Nat) (mo : Nat) (f : Nat → Int32) (hW : WT ty L) (hL_g1 : g1 ∈ L) (hT_g1 : ty g1 = (0, σ, [r1, n1])) (hFg : F g1 = .inr (0, [.ref r1, .int (nI z), .int 0])) (hFr : F r1 = .inl (cs 16, n1, .inl f)) (hzn : z ≤ n1) (hn9 : n1 ≤ 10000) (hab : a ≤ b) (hb9 : b ≤ 10000) (hmo : mo ≤ 3) : Met l yX10_numberOf (.code yX10_numberOf cX10_numberOf 6 (some .int) :: tb) ({ frames := 1, cells := 0, slots := 0, locals := 21 }) (va_Pc [.ref g1, .int (nI a), .int (nI b), .int (nI mo)] (PT (dC, dI) cs ty L F sz)) (va_Qi (fun (r : Int32) (_ : Unit) => r = nbv (nbT (TC f z) a b mo)) (fun _ T9 => ∃ F2 : Nat → va_E, QT (dC, dI) cs ty L [] F F2 (va_A (va_pl L F) sz) T9) (va_A (va_pl L F) sz)) 0 0 (va_A (va_pl L F) sz) := by
  refine Met.ofW (cc := cX10_numberOf) (maxL := 6) (ret := (some .int)) (by decide) rfl ?_
  intro p e s m args below meth c s₁ B hml hv
  obtain ⟨rfl, hsz, hP, hK, hD0, hE, hO⟩ := hv
  have hx := B.exec
  have hb := B.bytes
  have hr := B.returns
  have hts : ∀ w ∈ tb, w.before _ s = true := fun w h => atoms_spec (ws := .code yX10_numberOf cX10_numberOf 6 (some .int) :: tb) B.pre w (List.mem_cons_of_mem _ h)
  have hown : s.vm.findClass RX10 = some m.cls := findClass_of_methodNamed B.named
  have hlocks := B.notSynchronized
  subst hsz
  have hD := hD0.self (sz := s.heap.size)
  generalize hAe : va_A (va_pl L F) s.heap.size = A at hD ⊢
  have hA : ∀ q : Nat, s.heap.size ≤ q → A q := fun q h => by rw [← hAe]; exact Or.inr h
  have hS : va_S A s.heap s.heap [] := va_S.rf
  have hR : FR ty [] F F := FR.refl
  have hl := lv_entry ([.ref g1, .int (nI a), .int (nI b), .int (nI mo)]) (n := 6) (Nat.le_of_ble_eq_true rfl)
  rw [lg_entry_eq]
  generalize (lg_sl ([.ref g1, .int (nI a), .int (nI b), .int (nI mo)]) ++ List.replicate (6 - (lg_sl ([.ref g1, .int (nI a), .int (nI b), .int (nI mo)])).length) Slot.unset).toArray = ls at hl ⊢
  have hl : lv_has ls 6 [(0, .ref g1), (1, .int (nI a)), (2, .int (nI b)), (3, .int (nI mo))] := hl
  obtain ⟨hi_1, ht_2, hq_3⟩ := hW.bytes hL_g1 hT_g1
  refine lv_iload_n hx hb dX10_numberOf_0 rfl (lv_at hl 2 rfl) ?_
  refine lv_iload_n hx hb dX10_numberOf_1 rfl (lv_at hl 1 rfl) ?_
  refine lv_isub hx hb dX10_numberOf_2 ?_
  refine lv_topi (fun x_4 ex_4 => ?_)
  obtain rfl : x_4 = (nI (b - a)) := ex_4.trans (pk_sub hab)
  refine lv_iconst (v := 1) hx hb dX10_numberOf_3 (by decide) ?_
  refine lv_icmp_lt (tgt := 14) hx hb dX10_numberOf_4 (by decide) (fun c_5 => ?_) (fun c_5 => ?_)
  ·
    have hi_6 : (b - a) < 1 := ltN (N := 1) (Int32.not_le.mpr c_5)
    have hl1 : b - a < 1 := (nI_ltI (b := 1) (by omega) (by omega)).mp c_5
    refine lv_iconst (v := (-1)) hx hb dX10_numberOf_14 (by decide) ?_
    refine W.widen (k := 0) (n := 0) (by omega) (by omega) ?_
    exact W.iret (v := (-1)) hx hb hr (fun t ht hWm => ⟨⟨(-1), (), rfl, (show (-1 : Int32) = nbv (nbT (TC f z) a b mo) by unfold nbT; rw [if_neg (fun q => by have q1 := q.1; omega)]; rfl), ⟨F, QT.mk ht hP hD hO hR⟩⟩, hS.F ht⟩) hS.2.2 dX10_numberOf_15
  ·
    have hi_7 : 1 ≤ (b - a) := leN (N := 1) (Int32.not_lt.mp c_5)
    have hl1 : 1 ≤ b - a := Nat.not_lt.mp (fun q => c_5 ((nI_ltI (b := 1) (by omega) (by omega)).mpr q))
    refine lv_iload_n hx hb dX10_numberOf_7 rfl (lv_at hl 2 rfl) ?_
    refine lv_iload_n hx hb dX10_numberOf_8 rfl (lv_at hl 1 rfl) ?_
    refine lv_isub hx hb dX10_numberOf_9 ?_
    refine lv_topi (fun x_8 ex_8 => ?_)
    obtain rfl : x_8 = (nI (b - a)) := ex_8.trans (pk_sub hab)
    refine lv_iload_n hx hb dX10_numberOf_10 rfl (lv_at hl 3 rfl) ?_
    refine lv_icmp_le (tgt := 16) hx hb dX10_numberOf_11 (by decide) (fun c_9 => ?_) (fun c_9 => ?_)
    ·
      have hl2 : b - a ≤ mo := (nI_leI (by omega) (by omega)).mp c_9
      refine lv_iconst (v := 0) hx hb dX10_numberOf_16 (by decide) ?_
      refine lv_istore (lv' := [(4, .int 0), (0, .ref g1), (1, .int (nI a)), (2, .int (nI b)), (3, .int (nI mo))]) hx hb dX10_numberOf_17 hl (by decide) rfl (fun ls hl => ?_)
      refine lv_iload_n hx hb dX10_numberOf_19 rfl (lv_at hl 2 rfl) ?_
      refine lv_istore (lv' := [(5, .int (nI a)), (4, .int 0), (0, .ref g1), (1, .int (nI a)), (2, .int (nI b)), (3, .int (nI mo))]) hx hb dX10_numberOf_20 hl (by decide) rfl (fun ls hl => ?_)
      refine W.widen (k := 0) (n := 0) (by omega) (by omega) ?_
      refine pl_loop (σ := Nat × Nat) A (dC, dI) cs ty L [] F 22 6 (fun (i, vv) => [(5, .int (nI i)), (4, .int (nI vv)), (0, .ref g1), (1, .int (nI a)), (2, .int (nI b)), (3, .int (nI mo))]) (fun (i, vv) => []) (fun (i, vv) _ => a ≤ i ∧ i ≤ b ∧ NBD a i vv ∧ nbw (TC f z) (b - i) i vv = nbw (TC f z) (b - a) a 0) (fun (i, vv) => b - i) ?_ (a, 0) F (⟨Nat.le_refl _, hab, nbd_0 a, rfl⟩) hO hR _ _ hP hD hS ls (lv_sub hl [0, 1, 2, 3, 4, 5] rfl)
      rintro ⟨i, vv⟩ F_11 hv_12 hO hR ih_13 H locs hP hD hS ls hl
      have hl : lv_has ls 6 [(5, .int (nI i)), (4, .int (nI vv)), (0, .ref g1), (1, .int (nI a)), (2, .int (nI b)), (3, .int (nI mo))] := hl
      have hv_12 : a ≤ i ∧ i ≤ b ∧ NBD a i vv ∧ nbw (TC f z) (b - i) i vv = nbw (TC f z) (b - a) a 0 := hv_12
      refine W.eq (g2 := F0 m 22 ls []) rfl ?_
      obtain rfl : F = F_11 := (funext (fun a => hR a List.not_mem_nil)).symm
      obtain ⟨hv1, hv2, hv3, hv4⟩ := id hv_12
      have hvv : vv ≤ 999 := nbd_le hv3 (by omega)
      refine lv_iload hx hb dX10_numberOf_22 (lv_at hl 0 rfl) ?_
      refine lv_iload_n hx hb dX10_numberOf_24 rfl (lv_at hl 4 rfl) ?_
      refine lv_icmp_ge (tgt := 65) hx hb dX10_numberOf_25 (by decide) (fun c_14 => ?_) (fun c_14 => ?_)
      ·
        have hi_15 : b ≤ i := leN (N := b) c_14
        have hib : b ≤ i := (nI_leI (by omega) (by omega)).mp c_14
        refine lv_iload hx hb dX10_numberOf_65 (lv_at hl 1 rfl) ?_
        refine W.widen (k := 0) (n := 0) (by omega) (by omega) ?_
        exact W.iret (v := (nI vv)) hx hb hr (fun t ht hWm => ⟨⟨(nI vv), (), rfl, nbT_y hv4 hib (by omega) (by omega), ⟨F, QT.mk ht hP hD hO hR⟩⟩, hS.F ht⟩) hS.2.2 dX10_numberOf_67
      ·
        have hi_16 : i < b := ltN (N := b) c_14
        have hib : i < b := Nat.not_le.mp (fun q => c_14 ((nI_leI (by omega) (by omega)).mpr q))
        refine lv_aload_n hx hb dX10_numberOf_28 rfl (lv_at hl 2 rfl) ?_
        refine lv_iload hx hb dX10_numberOf_29 (lv_at hl 0 rfl) ?_
        have hFc := pg_free hD hS hA
        refine va_calli (va_runV (As := [.int (nI i)]) (rest := []) ⟨hx, hb, hml, hown, hts⟩ (s_X0_at_g l dC dI cs ty L H.size F g1 σ r1 n1 z i f hW hL_g1 hT_g1 hFg hFr (by omega) (by omega) (by omega)) ⟨callB_of 1 hts (gi kt_21) rfl rfl rfl (hts _ kt_1) (hts _ kt_120) (by decide +kernel) ⟨Nat.le_of_ble_eq_true rfl, Nat.le_of_ble_eq_true rfl⟩, (hts _ kt_23), (hts _ kt_24)⟩ ⟨fun a U g mk q => ⟨q.1, PT.calling q.2⟩, pg_recv hK hP hL_g1 hFg (q := (RX0, TX0, 3)) rfl, fun U hU hWm => ⟨rfl, PT.mk hU hWm hP hK hD hE hO⟩⟩ rfl rfl hl.1 rfl (lv_room (Nat.le_of_ble_eq_true rfl)) dX10_numberOf_31 ⟨by show _ + 0 ≤ 0; omega, by show _ + 0 ≤ 0; omega⟩) hS (fun q _ h => hFc q h) hFc (fun r_17 u t H1 locs ht hvm hw hB hz1 hk1 hS => ?_)
        obtain ⟨F_18, hB1⟩ := hB
        obtain rfl : F = F_18 := (funext (fun a => hB1.2.2.2 a List.not_mem_nil)).symm
        obtain ⟨hP, hD, hO, hR⟩ := QT.back hB1 ht hFc hR (fun q h => absurd h List.not_mem_nil)
        generalize H1 = H at hP hS ⊢
        have hw : r_17 = atn f z i := hw
        have hw_19 := hw
        subst hw_19
        have hFc := pg_free hD hS hA
        refine va_calli (va_runS (As := [.int (atn f z i)]) (rest := []) ⟨hx, hb, hml, hown, hts⟩ (s_X0_isDigit_e l dC dI cs ty L H.size F (atn f z i) hW ) ⟨callB_of 1 hts (gi kt_7) rfl rfl rfl (hts _ kt_1) (hts _ kt_121) (by decide +kernel) ⟨Nat.le_of_ble_eq_true rfl, Nat.le_of_ble_eq_true rfl⟩, (hts _ kt_9)⟩ ⟨fun a U g mk q => ⟨q.1, PT.calling q.2⟩, fun U hU hWm => ⟨rfl, PT.mk hU hWm hP hK hD hE hO⟩⟩ rfl rfl hl.1 rfl (lv_room (Nat.le_of_ble_eq_true rfl)) dX10_numberOf_34 ⟨by show _ + 0 ≤ 0; omega, by show _ + 0 ≤ 0; omega⟩) hS (fun q _ h => hFc q h) hFc (fun r_20 u t H1 locs ht hvm hw hB hz1 hk1 hS => ?_)
        obtain ⟨F_21, hB1⟩ := hB
        obtain rfl : F = F_21 := (funext (fun a => hB1.2.2.2 a List.not_mem_nil)).symm
        obtain ⟨hP, hD, hO, hR⟩ := QT.back hB1 ht hFc hR (fun q h => absurd h List.not_mem_nil)
        generalize H1 = H at hP hS ⊢
        have hw : r_20 = (if 48 ≤ (atn f z i) ∧ (atn f z i) ≤ 57 then 1 else 0) := hw
        have hw_22 := hw
        refine lv_if_ne (tgt := 42) hx hb dX10_numberOf_37 (by decide) (fun c_23 => ?_) (fun c_23 => ?_)
        ·
          have hdg : 48 ≤ (TC f z) i ∧ (TC f z) i ≤ 57 := sme_d hw_22 c_23
          have hcd : atn f z i = nI ((TC f z) i) := cdv_in (by show (TC f z) i < 128; omega)
          refine lv_iload hx hb dX10_numberOf_42 (lv_at hl 1 rfl) ?_
          refine lv_bipush (v := 10) hx hb dX10_numberOf_44 (by decide) ?_
          refine lv_imul hx hb dX10_numberOf_46 ?_
          refine lv_topi (fun x_24 ex_24 => ?_)
          obtain rfl : x_24 = (nI (vv * 10)) := ex_24.trans (pk_mul vv 10)
          refine lv_aload_n hx hb dX10_numberOf_47 rfl (lv_at hl 2 rfl) ?_
          refine lv_iload hx hb dX10_numberOf_48 (lv_at hl 0 rfl) ?_
          have hFc := pg_free hD hS hA
          refine va_calli (va_runV (As := [.int (nI i)]) (rest := [.int (nI (vv * 10))]) ⟨hx, hb, hml, hown, hts⟩ (s_X0_at_g l dC dI cs ty L H.size F g1 σ r1 n1 z i f hW hL_g1 hT_g1 hFg hFr (by omega) (by omega) (by omega)) ⟨callB_of 1 hts (gi kt_21) rfl rfl rfl (hts _ kt_1) (hts _ kt_120) (by decide +kernel) ⟨Nat.le_of_ble_eq_true rfl, Nat.le_of_ble_eq_true rfl⟩, (hts _ kt_23), (hts _ kt_24)⟩ ⟨fun a U g mk q => ⟨q.1, PT.calling q.2⟩, pg_recv hK hP hL_g1 hFg (q := (RX0, TX0, 3)) rfl, fun U hU hWm => ⟨rfl, PT.mk hU hWm hP hK hD hE hO⟩⟩ rfl rfl hl.1 rfl (lv_room (Nat.le_of_ble_eq_true rfl)) dX10_numberOf_50 ⟨by show _ + 0 ≤ 0; omega, by show _ + 0 ≤ 0; omega⟩) hS (fun q _ h => hFc q h) hFc (fun r_25 u t H1 locs ht hvm hw hB hz1 hk1 hS => ?_)
          obtain ⟨F_26, hB1⟩ := hB
          obtain rfl : F = F_26 := (funext (fun a => hB1.2.2.2 a List.not_mem_nil)).symm
          obtain ⟨hP, hD, hO, hR⟩ := QT.back hB1 ht hFc hR (fun q h => absurd h List.not_mem_nil)
          generalize H1 = H at hP hS ⊢
          have hw : r_25 = atn f z i := hw
          have hw_27 := hw
          subst hw_27
          refine lv_iadd hx hb dX10_numberOf_53 ?_
          refine lv_topi (fun x_28 ex_28 => ?_)
          obtain rfl : x_28 = (nI (vv * 10 + (TC f z) i)) := ex_28.trans ((congrArg (fun q => nI (vv * 10) + q) hcd).trans (nI_add (vv * 10) ((TC f z) i)))
          refine lv_bipush (v := 48) hx hb dX10_numberOf_54 (by decide) ?_
          refine lv_isub hx hb dX10_numberOf_56 ?_
          refine lv_topi (fun x_29 ex_29 => ?_)
          obtain rfl : x_29 = (nI (vv * 10 + (TC f z) i - 48)) := ex_29.trans (pk_sub (b := 48) (by omega))
          refine lv_istore (lv' := [(4, .int (nI (vv * 10 + (TC f z) i - 48))), (5, .int (nI i)), (0, .ref g1), (1, .int (nI a)), (2, .int (nI b)), (3, .int (nI mo))]) hx hb dX10_numberOf_57 hl (by decide) rfl (fun ls hl => ?_)
          refine lv_iinc (v := (nI (i + 1))) (lv' := [(5, .int (nI (i + 1))), (4, .int (nI (vv * 10 + (TC f z) i - 48))), (0, .ref g1), (1, .int (nI a)), (2, .int (nI b)), (3, .int (nI mo))]) hx hb dX10_numberOf_59 hl (k := 1) rfl (nI_1 _) (by decide) rfl (fun ls hl => ?_)
          refine lv_goto (tgt := 22) hx hb dX10_numberOf_62 (by decide) ?_
          refine W.widen (k := 0) (n := 0) (by omega) (by omega) ?_
          exact ih_13 ((i + 1), (vv * 10 + (TC f z) i - 48)) F (⟨by omega, by omega, nb_dig hv3 hv1 hdg (by omega), nbw_y hv4 hib hdg⟩) (by show b - (i + 1) < b - i; omega) hO hR _ _ hP hD hS ls (lv_sub hl [0, 1, 2, 3, 4, 5] rfl)
        ·
          have hdg : ¬ (48 ≤ (TC f z) i ∧ (TC f z) i ≤ 57) := sme_n hw_22 c_23
          refine lv_iconst (v := (-1)) hx hb dX10_numberOf_40 (by decide) ?_
          refine W.widen (k := 0) (n := 0) (by omega) (by omega) ?_
          exact W.iret (v := (-1)) hx hb hr (fun t ht hWm => ⟨⟨(-1), (), rfl, nbT_n hv4 hib hdg (by omega) (by omega), ⟨F, QT.mk ht hP hD hO hR⟩⟩, hS.F ht⟩) hS.2.2 dX10_numberOf_41
    ·
      have hl2 : mo < b - a := Nat.not_le.mp (fun q => c_9 ((nI_leI (by omega) (by omega)).mpr q))
      refine lv_iconst (v := (-1)) hx hb dX10_numberOf_14 (by decide) ?_
      refine W.widen (k := 0) (n := 0) (by omega) (by omega) ?_
      exact W.iret (v := (-1)) hx hb hr (fun t ht hWm => ⟨⟨(-1), (), rfl, (show (-1 : Int32) = nbv (nbT (TC f z) a b mo) by unfold nbT; rw [if_neg (fun q => by have q1 := q.2; omega)]; rfl), ⟨F, QT.mk ht hP hD hO hR⟩⟩, hS.F ht⟩) hS.2.2 dX10_numberOf_15
noncomputable def ishw (T : Nat → Nat) (tt : Nat) : Nat → Nat → Bool
  | 0, i => decide (tt ≤ i)
  | k + 1, i => if tt ≤ i then true else @ite Bool ((33 ≤ T i ∧ T i ≤ 126) ∧ ¬ (T i = 37 ∧ mcT T i tt = 0)) (Classical.propDecidable _) (ishw T tt k (i + max 1 (mcT T i tt))) false
theorem ishw_s {T : Nat → Nat} {tt k i : Nat} : ishw T tt (k + 1) i = if tt ≤ i then true else @ite Bool ((33 ≤ T i ∧ T i ≤ 126) ∧ ¬ (T i = 37 ∧ mcT T i tt = 0)) (Classical.propDecidable _) (ishw T tt k (i + max 1 (mcT T i tt))) false := rfl
theorem ishw_d {T : Nat → Nat} {tt : Nat} : ∀ k i, tt ≤ i → ishw T tt k i = true
  | 0, i, h => decide_eq_true h
  | k + 1, i, h => by rw [ishw_s, if_pos h]
theorem ishw_f {T : Nat → Nat} {tt : Nat} : ∀ k m i, tt - i ≤ k → tt - i ≤ m → ishw T tt k i = ishw T tt m i := by
  intro k
  induction k with
  | zero => intro m i h1 h2; rw [ishw_d 0 i (by omega), ishw_d m i (by omega)]
  | succ k ih =>
    intro m i h1 h2
    by_cases c : tt ≤ i
    · rw [ishw_d _ i c, ishw_d _ i c]
    · obtain ⟨q, rfl⟩ : ∃ q, m = q + 1 := ⟨m - 1, by omega⟩
      rw [ishw_s, ishw_s, if_neg c, if_neg c, ih q (i + max 1 (mcT T i tt)) (by omega) (by omega)]
theorem ishw_y {T : Nat → Nat} {tt i : Nat} {X : Bool} (h : ishw T tt (tt - i) i = X) (hi : i < tt) (h1 : (33 ≤ T i ∧ T i ≤ 126) ∧ ¬ (T i = 37 ∧ mcT T i tt = 0)) : ishw T tt (tt - (i + max 1 (mcT T i tt))) (i + max 1 (mcT T i tt)) = X := by
  rw [show tt - i = (tt - i - 1) + 1 by omega, ishw_s, if_neg (by omega), if_pos h1] at h
  rw [← h]
  exact ishw_f _ _ _ (Nat.le_refl _) (by omega)
theorem ishw_n {T : Nat → Nat} {tt i : Nat} {X : Bool} (h : ishw T tt (tt - i) i = X) (hi : i < tt) (h1 : ¬ ((33 ≤ T i ∧ T i ≤ 126) ∧ ¬ (T i = 37 ∧ mcT T i tt = 0))) : ¬ X = true := by
  rw [show tt - i = (tt - i - 1) + 1 by omega, ishw_s, if_neg (by omega), if_neg h1] at h
  rw [← h]
  decide
theorem mcT_le {T : Nat → Nat} {a tt : Nat} : mcT T a tt ≤ 7 := by
  unfold mcT
  by_cases c1 : T a = 37 ∧ a + 1 < tt
  · rw [if_pos c1]
    by_cases c2 : T (a + 1) = 37 ∨ T (a + 1) = 95 ∨ T (a + 1) = 45
    · rw [if_pos c2]
      omega
    · rw [if_neg c2]
      by_cases c3 : T (a + 1) = 123 ∧ mcL (T (a + 2))
      · rw [if_pos c3]
        have h1 := mcD_le T (a + 3)
        have h2 := mcR_le T (mcD T (a + 3))
        unfold mcE
        split <;> omega
      · rw [if_neg c3]
        omega
  · rw [if_neg c1]
    omega
theorem mx1 {m : Nat} (hm : m ≤ 20000) : (if (1 : Int32) < nI m then nI m else 1) = nI (max 1 m) := by
  by_cases c : (1 : Int32) < nI m
  · rw [if_pos c]
    have h9 : 1 < m := (nI_ltI (a := 1) (by omega) (by omega)).mp c
    rw [show max 1 m = m by omega]
  · rw [if_neg c]
    have h9 : ¬ 1 < m := fun q => c ((nI_ltI (a := 1) (by omega) (by omega)).mpr q)
    rw [show max 1 m = 1 by omega]
    rfl
set_option maxHeartbeats 4000000 in
set_option maxRecDepth 100000 in
theorem s_X10_isHost_e (l : Launch) (dC : Nat → ClassId) (dI : Nat → Nat → Nat) (cs : Nat → ClassId) (ty : TyM) (L : List Nat) (sz : Nat) (F : Nat → va_E) (g1 : Nat) (σ : Nat) (r1 : Nat) (n1 : Nat) (z : Nat) (a : Nat) (tt : Nat) (f : Nat → Int32) (hW : WT ty L) (hL_g1 : g1 ∈ L) (hT_g1 : ty g1 = (0, σ, [r1, n1])) (hFg : F g1 = .inr (0, [.ref r1, .int (nI z), .int 0])) (hFr : F r1 = .inl (cs 16, n1, .inl f)) (hzn : z ≤ n1) (hn9 : n1 ≤ 10000) (ha : a ≤ 9000) (htt : tt ≤ 8000) : Met l yX10_isHost (.code yX10_isHost cX10_isHost 7 (some .boolean) :: tb) ({ frames := 2, cells := 0, slots := 0, locals := 46 }) (va_Pc [.ref g1, .int (nI a), .int (nI tt)] (PT (dC, dI) cs ty L F sz)) (va_Qi (fun (r : Int32) (_ : Unit) => r = (if a < tt ∧ ishw (TC f z) tt (tt - a) a = true then 1 else 0)) (fun _ T9 => ∃ F2 : Nat → va_E, QT (dC, dI) cs ty L [] F F2 (va_A (va_pl L F) sz) T9) (va_A (va_pl L F) sz)) 0 0 (va_A (va_pl L F) sz) := by
  refine Met.ofW (cc := cX10_isHost) (maxL := 7) (ret := (some .boolean)) (by decide) rfl ?_
  intro p e s m args below meth c s₁ B hml hv
  obtain ⟨rfl, hsz, hP, hK, hD0, hE, hO⟩ := hv
  have hx := B.exec
  have hb := B.bytes
  have hr := B.returns
  have hts : ∀ w ∈ tb, w.before _ s = true := fun w h => atoms_spec (ws := .code yX10_isHost cX10_isHost 7 (some .boolean) :: tb) B.pre w (List.mem_cons_of_mem _ h)
  have hown : s.vm.findClass RX10 = some m.cls := findClass_of_methodNamed B.named
  have hlocks := B.notSynchronized
  subst hsz
  have hD := hD0.self (sz := s.heap.size)
  generalize hAe : va_A (va_pl L F) s.heap.size = A at hD ⊢
  have hA : ∀ q : Nat, s.heap.size ≤ q → A q := fun q h => by rw [← hAe]; exact Or.inr h
  have hS : va_S A s.heap s.heap [] := va_S.rf
  have hR : FR ty [] F F := FR.refl
  have hl := lv_entry ([.ref g1, .int (nI a), .int (nI tt)]) (n := 7) (Nat.le_of_ble_eq_true rfl)
  rw [lg_entry_eq]
  generalize (lg_sl ([.ref g1, .int (nI a), .int (nI tt)]) ++ List.replicate (7 - (lg_sl ([.ref g1, .int (nI a), .int (nI tt)])).length) Slot.unset).toArray = ls at hl ⊢
  have hl : lv_has ls 7 [(0, .ref g1), (1, .int (nI a)), (2, .int (nI tt))] := hl
  obtain ⟨hi_1, ht_2, hq_3⟩ := hW.bytes hL_g1 hT_g1
  refine lv_iconst (v := 1) hx hb dX10_isHost_0 (by decide) ?_
  refine lv_istore_n (lv' := [(3, .int 1), (0, .ref g1), (1, .int (nI a)), (2, .int (nI tt))]) hx hb dX10_isHost_1 rfl hl (by decide) rfl (fun ls hl => ?_)
  refine lv_iload_n hx hb dX10_isHost_2 rfl (lv_at hl 2 rfl) ?_
  refine lv_istore (lv' := [(4, .int (nI a)), (3, .int 1), (0, .ref g1), (1, .int (nI a)), (2, .int (nI tt))]) hx hb dX10_isHost_3 hl (by decide) rfl (fun ls hl => ?_)
  refine W.widen (k := 0) (n := 0) (by omega) (by omega) ?_
  refine pl_loop (σ := Nat × Int32) A (dC, dI) cs ty L [] F 5 7 (fun (i, w3) => [(4, .int (nI i)), (3, .int w3), (0, .ref g1), (1, .int (nI a)), (2, .int (nI tt))]) (fun (i, w3) => []) (fun (i, w3) _ => a ≤ i ∧ i ≤ 9000 ∧ ishw (TC f z) tt (tt - i) i = ishw (TC f z) tt (tt - a) a) (fun (i, w3) => tt - i) ?_ (a, 1) F (⟨Nat.le_refl _, ha, rfl⟩) hO hR _ _ hP hD hS ls (lv_sub hl [0, 1, 2, 3, 4] rfl)
  rintro ⟨i, w3⟩ F_4 hv_5 hO hR ih_6 H locs hP hD hS ls hl
  have hl : lv_has ls 7 [(4, .int (nI i)), (3, .int w3), (0, .ref g1), (1, .int (nI a)), (2, .int (nI tt))] := hl
  have hv_5 : a ≤ i ∧ i ≤ 9000 ∧ ishw (TC f z) tt (tt - i) i = ishw (TC f z) tt (tt - a) a := hv_5
  refine W.eq (g2 := F0 m 5 ls []) rfl ?_
  obtain rfl : F = F_4 := (funext (fun a => hR a List.not_mem_nil)).symm
  obtain ⟨hv1, hv2, hv3⟩ := id hv_5
  have hmi := mcT_le (T := (TC f z)) (a := i) (tt := tt)
  refine lv_iload hx hb dX10_isHost_5 (lv_at hl 0 rfl) ?_
  refine lv_iload_n hx hb dX10_isHost_7 rfl (lv_at hl 4 rfl) ?_
  refine lv_icmp_ge (tgt := 72) hx hb dX10_isHost_8 (by decide) (fun c_7 => ?_) (fun c_7 => ?_)
  ·
    have hi_8 : tt ≤ i := leN (N := tt) c_7
    have hit : tt ≤ i := (nI_leI (by omega) (by omega)).mp c_7
    refine lv_iload_n hx hb dX10_isHost_72 rfl (lv_at hl 3 rfl) ?_
    refine lv_iload_n hx hb dX10_isHost_73 rfl (lv_at hl 4 rfl) ?_
    refine lv_icmp_ge (tgt := 81) hx hb dX10_isHost_74 (by decide) (fun c_9 => ?_) (fun c_9 => ?_)
    ·
      have hi_10 : tt ≤ a := leN (N := tt) c_9
      have hatt : ¬ a < tt := Nat.not_lt.mpr ((nI_leI (by omega) (by omega)).mp c_9)
      refine lv_iconst (v := 0) hx hb dX10_isHost_81 (by decide) ?_
      refine W.widen (k := 0) (n := 0) (by omega) (by omega) ?_
      exact W.zret (v := 0) (ty := .boolean) hx hb hr (by decide) (fun t ht hWm => ⟨⟨0, (), rfl, ((if_neg (fun q => hatt q.1)).symm), ⟨F, QT.mk ht hP hD hO hR⟩⟩, hS.F ht⟩) hS.2.2 dX10_isHost_82
    ·
      have hi_11 : a < tt := ltN (N := tt) c_9
      have hatt : a < tt := Nat.not_le.mp (fun q => c_9 ((nI_leI (by omega) (by omega)).mpr q))
      refine lv_iconst (v := 1) hx hb dX10_isHost_77 (by decide) ?_
      refine lv_goto (tgt := 82) hx hb dX10_isHost_78 (by decide) ?_
      refine W.widen (k := 0) (n := 0) (by omega) (by omega) ?_
      exact W.zret (v := 1) (ty := .boolean) hx hb hr (by decide) (fun t ht hWm => ⟨⟨1, (), rfl, ((if_pos ⟨hatt, hv3.symm.trans (ishw_d _ i hit)⟩).symm), ⟨F, QT.mk ht hP hD hO hR⟩⟩, hS.F ht⟩) hS.2.2 dX10_isHost_82
  ·
    have hi_12 : i < tt := ltN (N := tt) c_7
    have hit : i < tt := Nat.not_le.mp (fun q => c_7 ((nI_leI (by omega) (by omega)).mpr q))
    refine lv_aload_n hx hb dX10_isHost_11 rfl (lv_at hl 2 rfl) ?_
    refine lv_iload hx hb dX10_isHost_12 (lv_at hl 0 rfl) ?_
    have hFc := pg_free hD hS hA
    refine va_calli (va_runV (As := [.int (nI i)]) (rest := []) ⟨hx, hb, hml, hown, hts⟩ (s_X0_at_g l dC dI cs ty L H.size F g1 σ r1 n1 z i f hW hL_g1 hT_g1 hFg hFr (by omega) (by omega) (by omega)) ⟨callB_of 1 hts (gi kt_21) rfl rfl rfl (hts _ kt_1) (hts _ kt_120) (by decide +kernel) ⟨Nat.le_of_ble_eq_true rfl, Nat.le_of_ble_eq_true rfl⟩, (hts _ kt_23), (hts _ kt_24)⟩ ⟨fun a U g mk q => ⟨q.1, PT.calling q.2⟩, pg_recv hK hP hL_g1 hFg (q := (RX0, TX0, 3)) rfl, fun U hU hWm => ⟨rfl, PT.mk hU hWm hP hK hD hE hO⟩⟩ rfl rfl hl.1 rfl (lv_room (Nat.le_of_ble_eq_true rfl)) dX10_isHost_14 ⟨by show _ + 0 ≤ 0; omega, by show _ + 0 ≤ 0; omega⟩) hS (fun q _ h => hFc q h) hFc (fun r_13 u t H1 locs ht hvm hw hB hz1 hk1 hS => ?_)
    obtain ⟨F_14, hB1⟩ := hB
    obtain rfl : F = F_14 := (funext (fun a => hB1.2.2.2 a List.not_mem_nil)).symm
    obtain ⟨hP, hD, hO, hR⟩ := QT.back hB1 ht hFc hR (fun q h => absurd h List.not_mem_nil)
    generalize H1 = H at hP hS ⊢
    have hw : r_13 = atn f z i := hw
    have hw_15 := hw
    subst hw_15
    refine lv_istore (lv' := [(5, .int (atn f z i)), (4, .int (nI i)), (3, .int w3), (0, .ref g1), (1, .int (nI a)), (2, .int (nI tt))]) hx hb dX10_isHost_17 hl (by decide) rfl (fun ls hl => ?_)
    refine lv_aload_n hx hb dX10_isHost_19 rfl (lv_at hl 3 rfl) ?_
    refine lv_iload hx hb dX10_isHost_20 (lv_at hl 1 rfl) ?_
    refine lv_iload_n hx hb dX10_isHost_22 rfl (lv_at hl 5 rfl) ?_
    have hFc := pg_free hD hS hA
    refine va_calli (va_runS (As := [.ref g1, .int (nI i), .int (nI tt)]) (rest := []) ⟨hx, hb, hml, hown, hts⟩ (s_X10_macroLength_e l dC dI cs ty L H.size F g1 σ r1 n1 z i tt f hW hL_g1 hT_g1 hFg hFr (by omega) (by omega) (by omega) (by omega)) ⟨callB_of 3 hts (gi kt_127) rfl rfl rfl (hts _ kt_90) (hts _ kt_128) (by decide +kernel) ⟨Nat.le_of_ble_eq_true rfl, Nat.le_of_ble_eq_true rfl⟩, (hts _ kt_129)⟩ ⟨fun a U g mk q => ⟨q.1, PT.calling q.2⟩, fun U hU hWm => ⟨rfl, PT.mk hU hWm hP hK hD hE hO⟩⟩ rfl rfl hl.1 rfl (lv_room (Nat.le_of_ble_eq_true rfl)) dX10_isHost_23 ⟨by show _ + 0 ≤ 0; omega, by show _ + 0 ≤ 0; omega⟩) hS (fun q _ h => hFc q h) hFc (fun r_16 u t H1 locs ht hvm hw hB hz1 hk1 hS => ?_)
    obtain ⟨F_17, hB1⟩ := hB
    obtain rfl : F = F_17 := (funext (fun a => hB1.2.2.2 a List.not_mem_nil)).symm
    obtain ⟨hP, hD, hO, hR⟩ := QT.back hB1 ht hFc hR (fun q h => absurd h List.not_mem_nil)
    generalize H1 = H at hP hS ⊢
    have hw : r_16 = nI (mcT (TC f z) i tt) := hw
    have hw_18 := hw
    subst hw_18
    refine lv_istore (lv' := [(6, .int (nI (mcT (TC f z) i tt))), (5, .int (atn f z i)), (4, .int (nI i)), (3, .int w3), (0, .ref g1), (1, .int (nI a)), (2, .int (nI tt))]) hx hb dX10_isHost_26 hl (by decide) rfl (fun ls hl => ?_)
    refine lv_iload hx hb dX10_isHost_28 (lv_at hl 1 rfl) ?_
    refine lv_bipush (v := 33) hx hb dX10_isHost_30 (by decide) ?_
    refine lv_icmp_lt (tgt := 54) hx hb dX10_isHost_32 (by decide) (fun c_19 => ?_) (fun c_19 => ?_)
    ·
      refine lv_iconst (v := 0) hx hb dX10_isHost_54 (by decide) ?_
      refine W.widen (k := 0) (n := 0) (by omega) (by omega) ?_
      exact W.zret (v := 0) (ty := .boolean) hx hb hr (by decide) (fun t ht hWm => ⟨⟨0, (), rfl, ((if_neg (fun q9 => ishw_n hv3 hit (fun q => ((cdv_rng (a := 33) (b := 126) (by omega) (by omega)).mp q.1).1 c_19) q9.2)).symm), ⟨F, QT.mk ht hP hD hO hR⟩⟩, hS.F ht⟩) hS.2.2 dX10_isHost_55
    ·
      refine lv_iload hx hb dX10_isHost_35 (lv_at hl 1 rfl) ?_
      refine lv_bipush (v := 126) hx hb dX10_isHost_37 (by decide) ?_
      refine lv_icmp_gt (tgt := 54) hx hb dX10_isHost_39 (by decide) (fun c_20 => ?_) (fun c_20 => ?_)
      ·
        refine lv_iconst (v := 0) hx hb dX10_isHost_54 (by decide) ?_
        refine W.widen (k := 0) (n := 0) (by omega) (by omega) ?_
        exact W.zret (v := 0) (ty := .boolean) hx hb hr (by decide) (fun t ht hWm => ⟨⟨0, (), rfl, ((if_neg (fun q9 => ishw_n hv3 hit (fun q => ((cdv_rng (a := 33) (b := 126) (by omega) (by omega)).mp q.1).2 c_20) q9.2)).symm), ⟨F, QT.mk ht hP hD hO hR⟩⟩, hS.F ht⟩) hS.2.2 dX10_isHost_55
      ·
        refine lv_iload hx hb dX10_isHost_42 (lv_at hl 1 rfl) ?_
        refine lv_bipush (v := 37) hx hb dX10_isHost_44 (by decide) ?_
        refine lv_icmp_ne (tgt := 56) hx hb dX10_isHost_46 (by decide) (fun c_21 => ?_) (fun c_21 => ?_)
        ·
          refine lv_iconst (v := 1) hx hb dX10_isHost_56 (by decide) ?_
          refine lv_iload hx hb dX10_isHost_57 (lv_at hl 0 rfl) ?_
          refine va_mmax hx hb (by rw [hml]; exact hl.1.symm) hown (hts _ kt_130) (hts _ kt_18) (hts _ kt_19) (hts _ kt_20) (Nat.le_of_ble_eq_true rfl) (Nat.le_of_ble_eq_true rfl) (by show _ ≤ 0; omega) (by show _ ≤ 0; omega) dX10_isHost_59 ?_
          refine lv_topi (fun x_22 ex_22 => ?_)
          obtain rfl : x_22 = (nI (max 1 (mcT (TC f z) i tt))) := ex_22.trans (mx1 (by omega))
          refine lv_istore_n (lv' := [(3, .int (nI (max 1 (mcT (TC f z) i tt)))), (6, .int (nI (mcT (TC f z) i tt))), (5, .int (atn f z i)), (4, .int (nI i)), (0, .ref g1), (1, .int (nI a)), (2, .int (nI tt))]) hx hb dX10_isHost_62 rfl hl (by decide) rfl (fun ls hl => ?_)
          refine lv_iload hx hb dX10_isHost_63 (lv_at hl 3 rfl) ?_
          refine lv_iload_n hx hb dX10_isHost_65 rfl (lv_at hl 0 rfl) ?_
          refine lv_iadd hx hb dX10_isHost_66 ?_
          refine lv_topi (fun x_23 ex_23 => ?_)
          obtain rfl : x_23 = (nI (i + max 1 (mcT (TC f z) i tt))) := ex_23.trans (nI_add i (max 1 (mcT (TC f z) i tt)))
          refine lv_istore (lv' := [(4, .int (nI (i + max 1 (mcT (TC f z) i tt)))), (3, .int (nI (max 1 (mcT (TC f z) i tt)))), (6, .int (nI (mcT (TC f z) i tt))), (5, .int (atn f z i)), (0, .ref g1), (1, .int (nI a)), (2, .int (nI tt))]) hx hb dX10_isHost_67 hl (by decide) rfl (fun ls hl => ?_)
          refine lv_goto (tgt := 5) hx hb dX10_isHost_69 (by decide) ?_
          refine W.widen (k := 0) (n := 0) (by omega) (by omega) ?_
          exact ih_6 ((i + max 1 (mcT (TC f z) i tt)), (nI (max 1 (mcT (TC f z) i tt)))) F (⟨by omega, by omega, ishw_y hv3 hit ⟨(cdv_rng (a := 33) (b := 126) (by omega) (by omega)).mpr ⟨c_19, c_20⟩, fun q => (fun q => c_21 ((cdv_eq (by first | decide | omega)).mp q)) q.1⟩⟩) (by show tt - (i + max 1 (mcT (TC f z) i tt)) < tt - i; omega) hO hR _ _ hP hD hS ls (lv_sub hl [0, 1, 4, 5, 6] rfl)
        ·
          refine lv_iload hx hb dX10_isHost_49 (lv_at hl 0 rfl) ?_
          refine lv_if_ne (tgt := 56) hx hb dX10_isHost_51 (by decide) (fun c_24 => ?_) (fun c_24 => ?_)
          ·
            refine lv_iconst (v := 1) hx hb dX10_isHost_56 (by decide) ?_
            refine lv_iload hx hb dX10_isHost_57 (lv_at hl 0 rfl) ?_
            refine va_mmax hx hb (by rw [hml]; exact hl.1.symm) hown (hts _ kt_130) (hts _ kt_18) (hts _ kt_19) (hts _ kt_20) (Nat.le_of_ble_eq_true rfl) (Nat.le_of_ble_eq_true rfl) (by show _ ≤ 0; omega) (by show _ ≤ 0; omega) dX10_isHost_59 ?_
            refine lv_topi (fun x_26 ex_26 => ?_)
            obtain rfl : x_26 = (nI (max 1 (mcT (TC f z) i tt))) := ex_26.trans (mx1 (by omega))
            refine lv_istore_n (lv' := [(3, .int (nI (max 1 (mcT (TC f z) i tt)))), (6, .int (nI (mcT (TC f z) i tt))), (5, .int (atn f z i)), (4, .int (nI i)), (0, .ref g1), (1, .int (nI a)), (2, .int (nI tt))]) hx hb dX10_isHost_62 rfl hl (by decide) rfl (fun ls hl => ?_)
            refine lv_iload hx hb dX10_isHost_63 (lv_at hl 3 rfl) ?_
            refine lv_iload_n hx hb dX10_isHost_65 rfl (lv_at hl 0 rfl) ?_
            refine lv_iadd hx hb dX10_isHost_66 ?_
            refine lv_topi (fun x_27 ex_27 => ?_)
            obtain rfl : x_27 = (nI (i + max 1 (mcT (TC f z) i tt))) := ex_27.trans (nI_add i (max 1 (mcT (TC f z) i tt)))
            refine lv_istore (lv' := [(4, .int (nI (i + max 1 (mcT (TC f z) i tt)))), (3, .int (nI (max 1 (mcT (TC f z) i tt)))), (6, .int (nI (mcT (TC f z) i tt))), (5, .int (atn f z i)), (0, .ref g1), (1, .int (nI a)), (2, .int (nI tt))]) hx hb dX10_isHost_67 hl (by decide) rfl (fun ls hl => ?_)
            refine lv_goto (tgt := 5) hx hb dX10_isHost_69 (by decide) ?_
            refine W.widen (k := 0) (n := 0) (by omega) (by omega) ?_
            exact ih_6 ((i + max 1 (mcT (TC f z) i tt)), (nI (max 1 (mcT (TC f z) i tt)))) F (⟨by omega, by omega, ishw_y hv3 hit ⟨(cdv_rng (a := 33) (b := 126) (by omega) (by omega)).mpr ⟨c_19, c_20⟩, fun q => c_24 (by rw [q.2]; rfl)⟩⟩) (by show tt - (i + max 1 (mcT (TC f z) i tt)) < tt - i; omega) hO hR _ _ hP hD hS ls (lv_sub hl [0, 1, 4, 5, 6] rfl)
          ·
            refine lv_iconst (v := 0) hx hb dX10_isHost_54 (by decide) ?_
            refine W.widen (k := 0) (n := 0) (by omega) (by omega) ?_
            exact W.zret (v := 0) (ty := .boolean) hx hb hr (by decide) (fun t ht hWm => ⟨⟨0, (), rfl, ((if_neg (fun q9 => ishw_n hv3 hit (fun q => q.2 ⟨((cdv_eq (by first | decide | omega)).mpr c_21), (nI_eq (b := 0) (by omega) (by omega)).mp c_24⟩) q9.2)).symm), ⟨F, QT.mk ht hP hD hO hR⟩⟩, hS.F ht⟩) hS.2.2 dX10_isHost_55
def fdw (T : Nat → Nat) (c : Nat) : Nat → Nat → Nat
  | 0, i => i
  | k + 1, i => if T i = c then i else fdw T c k (i + 1)
def fdT (T : Nat → Nat) (c a b : Nat) : Nat := fdw T c (b - a) a
theorem fdw_of {T : Nat → Nat} {c k : Nat} : ∀ n i, i ≤ k → k ≤ i + n → (∀ j, i ≤ j → j < k → ¬ T j = c) → (k = i + n ∨ T k = c) → fdw T c n i = k := by
  intro n
  induction n with
  | zero => intro i h1 h2 _ _; show i = k; omega
  | succ n ih =>
    intro i h1 h2 h3 h4
    show (if T i = c then i else fdw T c n (i + 1)) = k
    by_cases e : i = k
    · subst e
      rw [if_pos (h4.resolve_left (by omega))]
    · rw [if_neg (h3 i (Nat.le_refl _) (by omega))]
      exact ih (i + 1) (by omega) (by omega) (fun j g1 g2 => h3 j (by omega) g2) (h4.imp (fun q => by omega) id)
theorem fd_of {f : Nat → Int32} {z c a b k : Nat} (h : FSX f (nI c) a b k) (hb : b ≤ z) (hc : c < 128) : k = fdT (TC f z) c a b := by
  obtain ⟨h1, h2, h3, h4⟩ := h
  have hv : ∀ j, j < z → (TC f z j = c ↔ f j = nI c) := fun j hj => by
    have e9 : atn f z j = f j := if_pos hj
    show cdv (atn f z j) = c ↔ f j = nI c
    rw [e9]
    exact cdv_eq hc
  unfold fdT
  refine (fdw_of (b - a) a (by omega) (by omega) (fun j g1 g2 q => ?_) ?_).symm
  · exact h3 j g1 g2 ((hv j (by omega)).mp q)
  · by_cases e : k = b
    · exact Or.inl (by omega)
    · exact Or.inr ((hv k (by omega)).mpr (h4.resolve_left e))
theorem fdT_le {T : Nat → Nat} {c : Nat} : ∀ n i, i ≤ fdw T c n i ∧ fdw T c n i ≤ i + n := by
  intro n
  induction n with
  | zero => intro i; exact ⟨Nat.le_refl _, Nat.le_refl _⟩
  | succ n ih =>
    intro i
    have h9 := ih (i + 1)
    show i ≤ (if T i = c then i else fdw T c n (i + 1)) ∧ (if T i = c then i else fdw T c n (i + 1)) ≤ i + (n + 1)
    split <;> omega
def SML (x : Nat) : Prop := 97 ≤ x ∧ x ≤ 122
def OKO (x : Nat) : Prop := SML x ∨ (48 ≤ x ∧ x ≤ 57) ∨ x = 45 ∨ x = 95 ∨ x = 46
def OTH (T : Nat → Nat) (a tt : Nat) : Prop := fdT T 61 a tt < tt ∧ SML (T a) ∧ ∀ i, a ≤ i → i < fdT T 61 a tt → OKO (T i)
theorem sms_d {x r : Int32} (h : r = (if 97 ≤ x ∧ x ≤ 122 then 1 else 0)) (c : ¬ r = 0) : SML (cdv x) := by
  have h9 := ifb1 h c
  exact (cdv_rng (a := 97) (b := 122) (by omega) (by omega)).mpr ⟨Int32.not_lt.mpr h9.1, Int32.not_lt.mpr h9.2⟩
theorem sms_n {x r : Int32} (h : r = (if 97 ≤ x ∧ x ≤ 122 then 1 else 0)) (c : r = 0) : ¬ SML (cdv x) := fun q => by
  have h9 := (cdv_rng (a := 97) (b := 122) (by omega) (by omega)).mp q
  exact ifb0 h c ⟨Int32.not_lt.mp h9.1, Int32.not_lt.mp h9.2⟩
set_option maxHeartbeats 4000000 in
set_option maxRecDepth 100000 in
theorem s_X10_isOther_e (l : Launch) (dC : Nat → ClassId) (dI : Nat → Nat → Nat) (cs : Nat → ClassId) (ty : TyM) (L : List Nat) (sz : Nat) (F : Nat → va_E) (g1 : Nat) (σ : Nat) (r1 : Nat) (n1 : Nat) (z : Nat) (a : Nat) (tt : Nat) (f : Nat → Int32) (hW : WT ty L) (hL_g1 : g1 ∈ L) (hT_g1 : ty g1 = (0, σ, [r1, n1])) (hFg : F g1 = .inr (0, [.ref r1, .int (nI z), .int 0])) (hFr : F r1 = .inl (cs 16, n1, .inl f)) (hzn : z ≤ n1) (hn9 : n1 ≤ 10000) (hat : a ≤ tt) (htz : tt ≤ z) : Met l yX10_isOther (.code yX10_isOther cX10_isOther 6 (some .boolean) :: tb) ({ frames := 2, cells := 0, slots := 0, locals := 45 }) (va_Pc [.ref g1, .int (nI a), .int (nI tt)] (PT (dC, dI) cs ty L F sz)) (va_Qi (fun (r : Int32) (_ : Unit) => (r = 1 ∧ OTH (TC f z) a tt) ∨ (r = 0 ∧ ¬ OTH (TC f z) a tt)) (fun _ T9 => ∃ F2 : Nat → va_E, QT (dC, dI) cs ty L [] F F2 (va_A (va_pl L F) sz) T9) (va_A (va_pl L F) sz)) 0 0 (va_A (va_pl L F) sz) := by
  refine Met.ofW (cc := cX10_isOther) (maxL := 6) (ret := (some .boolean)) (by decide) rfl ?_
  intro p e s m args below meth c s₁ B hml hv
  obtain ⟨rfl, hsz, hP, hK, hD0, hE, hO⟩ := hv
  have hx := B.exec
  have hb := B.bytes
  have hr := B.returns
  have hts : ∀ w ∈ tb, w.before _ s = true := fun w h => atoms_spec (ws := .code yX10_isOther cX10_isOther 6 (some .boolean) :: tb) B.pre w (List.mem_cons_of_mem _ h)
  have hown : s.vm.findClass RX10 = some m.cls := findClass_of_methodNamed B.named
  have hlocks := B.notSynchronized
  subst hsz
  have hD := hD0.self (sz := s.heap.size)
  generalize hAe : va_A (va_pl L F) s.heap.size = A at hD ⊢
  have hA : ∀ q : Nat, s.heap.size ≤ q → A q := fun q h => by rw [← hAe]; exact Or.inr h
  have hS : va_S A s.heap s.heap [] := va_S.rf
  have hR : FR ty [] F F := FR.refl
  have hl := lv_entry ([.ref g1, .int (nI a), .int (nI tt)]) (n := 6) (Nat.le_of_ble_eq_true rfl)
  rw [lg_entry_eq]
  generalize (lg_sl ([.ref g1, .int (nI a), .int (nI tt)]) ++ List.replicate (6 - (lg_sl ([.ref g1, .int (nI a), .int (nI tt)])).length) Slot.unset).toArray = ls at hl ⊢
  have hl : lv_has ls 6 [(0, .ref g1), (1, .int (nI a)), (2, .int (nI tt))] := hl
  obtain ⟨hi_1, ht_2, hq_3⟩ := hW.bytes hL_g1 hT_g1
  refine lv_aload_n hx hb dX10_isOther_0 rfl (lv_at hl 0 rfl) ?_
  refine lv_bipush (v := 61) hx hb dX10_isOther_1 (by decide) ?_
  refine lv_iload_n hx hb dX10_isOther_3 rfl (lv_at hl 1 rfl) ?_
  refine lv_iload_n hx hb dX10_isOther_4 rfl (lv_at hl 2 rfl) ?_
  have hFc := pg_free hD hS hA
  refine va_calli (va_runV (As := [.int 61, .int (nI a), .int (nI tt)]) (rest := []) ⟨hx, hb, hml, hown, hts⟩ (s_X0_find_g l dC dI cs ty L s.heap.size F g1 σ r1 n1 z a tt f 61 hW hL_g1 hT_g1 hFg hFr (by omega) (by omega) (hat) (htz)) ⟨callB_of 3 hts (gi kt_122) rfl rfl rfl (hts _ kt_1) (hts _ kt_123) (by decide +kernel) ⟨Nat.le_of_ble_eq_true rfl, Nat.le_of_ble_eq_true rfl⟩, (hts _ kt_124), (hts _ kt_125)⟩ ⟨fun a U g mk q => ⟨q.1, PT.calling q.2⟩, pg_recv hK hP hL_g1 hFg (q := (RX0, TX0, 3)) rfl, fun U hU hWm => ⟨rfl, PT.mk hU hWm hP hK hD hE hO⟩⟩ rfl rfl hl.1 rfl (lv_room (Nat.le_of_ble_eq_true rfl)) dX10_isOther_5 ⟨by show _ + 0 ≤ 0; omega, by show _ + 0 ≤ 0; omega⟩) hS (fun q _ h => hFc q h) hFc (fun r_4 u t H1 locs ht hvm hw hB hz1 hk1 hS => ?_)
  obtain ⟨F_5, hB1⟩ := hB
  obtain rfl : F = F_5 := (funext (fun a => hB1.2.2.2 a List.not_mem_nil)).symm
  obtain ⟨hP, hD, hO, hR⟩ := QT.back hB1 ht hFc hR (fun q h => absurd h List.not_mem_nil)
  generalize H1 = H at hP hS ⊢
  have hw : (∃ k : Nat, r_4 = nI k ∧ FSX f 61 a tt k) := hw
  have hw_6 := hw
  obtain ⟨k9, hk9, hfs⟩ := hw_6
  obtain rfl := fd_of (c := 61) hfs htz (by omega)
  subst hk9
  have hfl : a ≤ (fdT (TC f z) 61 a tt) ∧ (fdT (TC f z) 61 a tt) ≤ a + (tt - a) := fdT_le (tt - a) a
  refine lv_istore_n (lv' := [(3, .int (nI (fdT (TC f z) 61 a tt))), (0, .ref g1), (1, .int (nI a)), (2, .int (nI tt))]) hx hb dX10_isOther_8 rfl hl (by decide) rfl (fun ls hl => ?_)
  refine lv_iload_n hx hb dX10_isOther_9 rfl (lv_at hl 0 rfl) ?_
  refine lv_iload_n hx hb dX10_isOther_10 rfl (lv_at hl 3 rfl) ?_
  refine lv_icmp_eq (tgt := 25) hx hb dX10_isOther_11 (by decide) (fun c_7 => ?_) (fun c_7 => ?_)
  ·
    have hse : (fdT (TC f z) 61 a tt) = tt := (nI_eq (by omega) (by omega)).mp c_7
    refine lv_iconst (v := 0) hx hb dX10_isOther_25 (by decide) ?_
    refine W.widen (k := 0) (n := 0) (by omega) (by omega) ?_
    exact W.zret (v := 0) (ty := .boolean) hx hb hr (by decide) (fun t ht hWm => ⟨⟨0, (), rfl, (Or.inr ⟨rfl, fun q => absurd q.1 (by omega)⟩), ⟨F, QT.mk ht hP hD hO hR⟩⟩, hS.F ht⟩) hS.2.2 dX10_isOther_26
  ·
    have hse : (fdT (TC f z) 61 a tt) < tt := by have h9 : (fdT (TC f z) 61 a tt) ≠ tt := fun q => c_7 (by rw [q]); omega
    refine lv_aload_n hx hb dX10_isOther_14 rfl (lv_at hl 1 rfl) ?_
    refine lv_iload_n hx hb dX10_isOther_15 rfl (lv_at hl 2 rfl) ?_
    have hFc := pg_free hD hS hA
    refine va_calli (va_runV (As := [.int (nI a)]) (rest := []) ⟨hx, hb, hml, hown, hts⟩ (s_X0_at_g l dC dI cs ty L H.size F g1 σ r1 n1 z a f hW hL_g1 hT_g1 hFg hFr (by omega) (by omega) (by omega)) ⟨callB_of 1 hts (gi kt_21) rfl rfl rfl (hts _ kt_1) (hts _ kt_120) (by decide +kernel) ⟨Nat.le_of_ble_eq_true rfl, Nat.le_of_ble_eq_true rfl⟩, (hts _ kt_23), (hts _ kt_24)⟩ ⟨fun a U g mk q => ⟨q.1, PT.calling q.2⟩, pg_recv hK hP hL_g1 hFg (q := (RX0, TX0, 3)) rfl, fun U hU hWm => ⟨rfl, PT.mk hU hWm hP hK hD hE hO⟩⟩ rfl rfl hl.1 rfl (lv_room (Nat.le_of_ble_eq_true rfl)) dX10_isOther_16 ⟨by show _ + 0 ≤ 0; omega, by show _ + 0 ≤ 0; omega⟩) hS (fun q _ h => hFc q h) hFc (fun r_10 u t H1 locs ht hvm hw hB hz1 hk1 hS => ?_)
    obtain ⟨F_11, hB1⟩ := hB
    obtain rfl : F = F_11 := (funext (fun a => hB1.2.2.2 a List.not_mem_nil)).symm
    obtain ⟨hP, hD, hO, hR⟩ := QT.back hB1 ht hFc hR (fun q h => absurd h List.not_mem_nil)
    generalize H1 = H at hP hS ⊢
    have hw : r_10 = atn f z a := hw
    have hw_12 := hw
    subst hw_12
    have hFc := pg_free hD hS hA
    refine va_calli (va_runS (As := [.int (atn f z a)]) (rest := []) ⟨hx, hb, hml, hown, hts⟩ (s_X0_isSmall_e l dC dI cs ty L H.size F (atn f z a) hW ) ⟨callB_of 1 hts (gi kt_4) rfl rfl rfl (hts _ kt_1) (hts _ kt_126) (by decide +kernel) ⟨Nat.le_of_ble_eq_true rfl, Nat.le_of_ble_eq_true rfl⟩, (hts _ kt_6)⟩ ⟨fun a U g mk q => ⟨q.1, PT.calling q.2⟩, fun U hU hWm => ⟨rfl, PT.mk hU hWm hP hK hD hE hO⟩⟩ rfl rfl hl.1 rfl (lv_room (Nat.le_of_ble_eq_true rfl)) dX10_isOther_19 ⟨by show _ + 0 ≤ 0; omega, by show _ + 0 ≤ 0; omega⟩) hS (fun q _ h => hFc q h) hFc (fun r_13 u t H1 locs ht hvm hw hB hz1 hk1 hS => ?_)
    obtain ⟨F_14, hB1⟩ := hB
    obtain rfl : F = F_14 := (funext (fun a => hB1.2.2.2 a List.not_mem_nil)).symm
    obtain ⟨hP, hD, hO, hR⟩ := QT.back hB1 ht hFc hR (fun q h => absurd h List.not_mem_nil)
    generalize H1 = H at hP hS ⊢
    have hw : r_13 = (if 97 ≤ (atn f z a) ∧ (atn f z a) ≤ 122 then 1 else 0) := hw
    have hw_15 := hw
    refine lv_if_ne (tgt := 27) hx hb dX10_isOther_22 (by decide) (fun c_16 => ?_) (fun c_16 => ?_)
    ·
      refine lv_iload_n hx hb dX10_isOther_27 rfl (lv_at hl 2 rfl) ?_
      refine lv_istore (lv' := [(4, .int (nI a)), (3, .int (nI (fdT (TC f z) 61 a tt))), (0, .ref g1), (1, .int (nI a)), (2, .int (nI tt))]) hx hb dX10_isOther_28 hl (by decide) rfl (fun ls hl => ?_)
      refine W.widen (k := 0) (n := 0) (by omega) (by omega) ?_
      refine pl_loop (σ := Nat) A (dC, dI) cs ty L [] F 30 6 (fun i => [(4, .int (nI i)), (3, .int (nI (fdT (TC f z) 61 a tt))), (0, .ref g1), (1, .int (nI a)), (2, .int (nI tt))]) (fun i => []) (fun i _ => a ≤ i ∧ i ≤ (fdT (TC f z) 61 a tt) ∧ ∀ j, a ≤ j → j < i → OKO ((TC f z) j)) (fun i => (fdT (TC f z) 61 a tt) - i) ?_ a F (⟨Nat.le_refl _, hfl.1, fun j h1 h2 => absurd h2 (by omega)⟩) hO hR _ _ hP hD hS ls (lv_sub hl [0, 1, 2, 3, 4] rfl)
      rintro i F_17 hv_18 hO hR ih_19 H locs hP hD hS ls hl
      have hl : lv_has ls 6 [(4, .int (nI i)), (3, .int (nI (fdT (TC f z) 61 a tt))), (0, .ref g1), (1, .int (nI a)), (2, .int (nI tt))] := hl
      have hv_18 : a ≤ i ∧ i ≤ (fdT (TC f z) 61 a tt) ∧ ∀ j, a ≤ j → j < i → OKO ((TC f z) j) := hv_18
      refine W.eq (g2 := F0 m 30 ls []) rfl ?_
      obtain rfl : F = F_17 := (funext (fun a => hR a List.not_mem_nil)).symm
      obtain ⟨hv1, hv2, hv3⟩ := id hv_18
      refine lv_iload hx hb dX10_isOther_30 (lv_at hl 0 rfl) ?_
      refine lv_iload_n hx hb dX10_isOther_32 rfl (lv_at hl 1 rfl) ?_
      refine lv_icmp_ge (tgt := 89) hx hb dX10_isOther_33 (by decide) (fun c_20 => ?_) (fun c_20 => ?_)
      ·
        have hi_21 : (fdT (TC f z) 61 a tt) ≤ i := leN (N := (fdT (TC f z) 61 a tt)) c_20
        have his : i = (fdT (TC f z) 61 a tt) := by have h9 : (fdT (TC f z) 61 a tt) ≤ i := (nI_leI (by omega) (by omega)).mp c_20; omega
        refine lv_iconst (v := 1) hx hb dX10_isOther_89 (by decide) ?_
        refine W.widen (k := 0) (n := 0) (by omega) (by omega) ?_
        exact W.zret (v := 1) (ty := .boolean) hx hb hr (by decide) (fun t ht hWm => ⟨⟨1, (), rfl, (Or.inl ⟨rfl, hse, sms_d hw_15 c_16, fun j h1 h2 => hv3 j h1 (by omega)⟩), ⟨F, QT.mk ht hP hD hO hR⟩⟩, hS.F ht⟩) hS.2.2 dX10_isOther_90
      ·
        have hi_22 : i < (fdT (TC f z) 61 a tt) := ltN (N := (fdT (TC f z) 61 a tt)) c_20
        have his : i < (fdT (TC f z) 61 a tt) := Nat.not_le.mp (fun q => c_20 ((nI_leI (by omega) (by omega)).mpr q))
        refine lv_aload_n hx hb dX10_isOther_36 rfl (lv_at hl 2 rfl) ?_
        refine lv_iload hx hb dX10_isOther_37 (lv_at hl 0 rfl) ?_
        have hFc := pg_free hD hS hA
        refine va_calli (va_runV (As := [.int (nI i)]) (rest := []) ⟨hx, hb, hml, hown, hts⟩ (s_X0_at_g l dC dI cs ty L H.size F g1 σ r1 n1 z i f hW hL_g1 hT_g1 hFg hFr (by omega) (by omega) (by omega)) ⟨callB_of 1 hts (gi kt_21) rfl rfl rfl (hts _ kt_1) (hts _ kt_120) (by decide +kernel) ⟨Nat.le_of_ble_eq_true rfl, Nat.le_of_ble_eq_true rfl⟩, (hts _ kt_23), (hts _ kt_24)⟩ ⟨fun a U g mk q => ⟨q.1, PT.calling q.2⟩, pg_recv hK hP hL_g1 hFg (q := (RX0, TX0, 3)) rfl, fun U hU hWm => ⟨rfl, PT.mk hU hWm hP hK hD hE hO⟩⟩ rfl rfl hl.1 rfl (lv_room (Nat.le_of_ble_eq_true rfl)) dX10_isOther_39 ⟨by show _ + 0 ≤ 0; omega, by show _ + 0 ≤ 0; omega⟩) hS (fun q _ h => hFc q h) hFc (fun r_23 u t H1 locs ht hvm hw hB hz1 hk1 hS => ?_)
        obtain ⟨F_24, hB1⟩ := hB
        obtain rfl : F = F_24 := (funext (fun a => hB1.2.2.2 a List.not_mem_nil)).symm
        obtain ⟨hP, hD, hO, hR⟩ := QT.back hB1 ht hFc hR (fun q h => absurd h List.not_mem_nil)
        generalize H1 = H at hP hS ⊢
        have hw : r_23 = atn f z i := hw
        have hw_25 := hw
        subst hw_25
        refine lv_istore (lv' := [(5, .int (atn f z i)), (4, .int (nI i)), (3, .int (nI (fdT (TC f z) 61 a tt))), (0, .ref g1), (1, .int (nI a)), (2, .int (nI tt))]) hx hb dX10_isOther_42 hl (by decide) rfl (fun ls hl => ?_)
        refine W.widen (k := 0) (n := 0) (by omega) (by omega) ?_
        refine pl_cut (σ := Unit) A (dC, dI) cs ty L [] F 83 6 (fun u0 => [(4, .int (nI i)), (3, .int (nI (fdT (TC f z) 61 a tt))), (0, .ref g1), (1, .int (nI a)), (2, .int (nI tt))]) (fun u0 => []) (fun u0 _ => OKO ((TC f z) i)) ?_ (fun jn_26 => ?_)
        ·
          rintro u0 F_27 hv_28 hO hR H locs hP hD hS ls hl
          have hl : lv_has ls 6 [(4, .int (nI i)), (3, .int (nI (fdT (TC f z) 61 a tt))), (0, .ref g1), (1, .int (nI a)), (2, .int (nI tt))] := hl
          have hv_28 : OKO ((TC f z) i) := hv_28
          refine W.eq (g2 := F0 m 83 ls []) rfl ?_
          obtain rfl : F = F_27 := (funext (fun a => hR a List.not_mem_nil)).symm
          have hok : OKO ((TC f z) i) := hv_28
          refine lv_iinc (v := (nI (i + 1))) (lv' := [(4, .int (nI (i + 1))), (3, .int (nI (fdT (TC f z) 61 a tt))), (0, .ref g1), (1, .int (nI a)), (2, .int (nI tt))]) hx hb dX10_isOther_83 hl (k := 0) rfl (nI_1 _) (by decide) rfl (fun ls hl => ?_)
          refine lv_goto (tgt := 30) hx hb dX10_isOther_86 (by decide) ?_
          refine W.widen (k := 0) (n := 0) (by omega) (by omega) ?_
          exact ih_19 (i + 1) F (⟨by omega, by omega, fun j h1 h2 => by rcases Nat.lt_or_ge j i with q | q; exact hv3 j h1 q; rw [show j = i by omega]; exact hok⟩) (by show (fdT (TC f z) 61 a tt) - (i + 1) < (fdT (TC f z) 61 a tt) - i; omega) hO hR _ _ hP hD hS ls (lv_sub hl [0, 1, 2, 3, 4] rfl)
        ·
          refine lv_iload hx hb dX10_isOther_44 (lv_at hl 0 rfl) ?_
          have hFc := pg_free hD hS hA
          refine va_calli (va_runS (As := [.int (atn f z i)]) (rest := []) ⟨hx, hb, hml, hown, hts⟩ (s_X0_isSmall_e l dC dI cs ty L H.size F (atn f z i) hW ) ⟨callB_of 1 hts (gi kt_4) rfl rfl rfl (hts _ kt_1) (hts _ kt_126) (by decide +kernel) ⟨Nat.le_of_ble_eq_true rfl, Nat.le_of_ble_eq_true rfl⟩, (hts _ kt_6)⟩ ⟨fun a U g mk q => ⟨q.1, PT.calling q.2⟩, fun U hU hWm => ⟨rfl, PT.mk hU hWm hP hK hD hE hO⟩⟩ rfl rfl hl.1 rfl (lv_room (Nat.le_of_ble_eq_true rfl)) dX10_isOther_46 ⟨by show _ + 0 ≤ 0; omega, by show _ + 0 ≤ 0; omega⟩) hS (fun q _ h => hFc q h) hFc (fun r_29 u t H1 locs ht hvm hw hB hz1 hk1 hS => ?_)
          obtain ⟨F_30, hB1⟩ := hB
          obtain rfl : F = F_30 := (funext (fun a => hB1.2.2.2 a List.not_mem_nil)).symm
          obtain ⟨hP, hD, hO, hR⟩ := QT.back hB1 ht hFc hR (fun q h => absurd h List.not_mem_nil)
          generalize H1 = H at hP hS ⊢
          have hw : r_29 = (if 97 ≤ (atn f z i) ∧ (atn f z i) ≤ 122 then 1 else 0) := hw
          have hw_31 := hw
          refine lv_if_ne (tgt := 83) hx hb dX10_isOther_49 (by decide) (fun c_32 => ?_) (fun c_32 => ?_)
          ·
            refine W.widen (k := 0) (n := 0) (by omega) (by omega) ?_
            exact jn_26 () F (Or.inl (sms_d hw_31 c_32)) hO hR _ _ hP hD hS ls (lv_sub hl [1, 2, 3, 4, 5] rfl)
          ·
            refine lv_iload hx hb dX10_isOther_52 (lv_at hl 0 rfl) ?_
            have hFc := pg_free hD hS hA
            refine va_calli (va_runS (As := [.int (atn f z i)]) (rest := []) ⟨hx, hb, hml, hown, hts⟩ (s_X0_isDigit_e l dC dI cs ty L H.size F (atn f z i) hW ) ⟨callB_of 1 hts (gi kt_7) rfl rfl rfl (hts _ kt_1) (hts _ kt_121) (by decide +kernel) ⟨Nat.le_of_ble_eq_true rfl, Nat.le_of_ble_eq_true rfl⟩, (hts _ kt_9)⟩ ⟨fun a U g mk q => ⟨q.1, PT.calling q.2⟩, fun U hU hWm => ⟨rfl, PT.mk hU hWm hP hK hD hE hO⟩⟩ rfl rfl hl.1 rfl (lv_room (Nat.le_of_ble_eq_true rfl)) dX10_isOther_54 ⟨by show _ + 0 ≤ 0; omega, by show _ + 0 ≤ 0; omega⟩) hS (fun q _ h => hFc q h) hFc (fun r_33 u t H1 locs ht hvm hw hB hz1 hk1 hS => ?_)
            obtain ⟨F_34, hB1⟩ := hB
            obtain rfl : F = F_34 := (funext (fun a => hB1.2.2.2 a List.not_mem_nil)).symm
            obtain ⟨hP, hD, hO, hR⟩ := QT.back hB1 ht hFc hR (fun q h => absurd h List.not_mem_nil)
            generalize H1 = H at hP hS ⊢
            have hw : r_33 = (if 48 ≤ (atn f z i) ∧ (atn f z i) ≤ 57 then 1 else 0) := hw
            have hw_35 := hw
            refine lv_if_ne (tgt := 83) hx hb dX10_isOther_57 (by decide) (fun c_36 => ?_) (fun c_36 => ?_)
            ·
              refine W.widen (k := 0) (n := 0) (by omega) (by omega) ?_
              exact jn_26 () F (Or.inr (Or.inl (sme_d hw_35 c_36))) hO hR _ _ hP hD hS ls (lv_sub hl [1, 2, 3, 4, 5] rfl)
            ·
              refine lv_iload hx hb dX10_isOther_60 (lv_at hl 0 rfl) ?_
              refine lv_bipush (v := 45) hx hb dX10_isOther_62 (by decide) ?_
              refine lv_icmp_eq (tgt := 83) hx hb dX10_isOther_64 (by decide) (fun c_37 => ?_) (fun c_37 => ?_)
              ·
                refine W.widen (k := 0) (n := 0) (by omega) (by omega) ?_
                exact jn_26 () F (Or.inr (Or.inr (Or.inl ((cdv_eq (by first | decide | omega)).mpr c_37)))) hO hR _ _ hP hD hS ls (lv_sub hl [1, 2, 3, 4, 5] rfl)
              ·
                refine lv_iload hx hb dX10_isOther_67 (lv_at hl 0 rfl) ?_
                refine lv_bipush (v := 95) hx hb dX10_isOther_69 (by decide) ?_
                refine lv_icmp_eq (tgt := 83) hx hb dX10_isOther_71 (by decide) (fun c_38 => ?_) (fun c_38 => ?_)
                ·
                  refine W.widen (k := 0) (n := 0) (by omega) (by omega) ?_
                  exact jn_26 () F (Or.inr (Or.inr (Or.inr (Or.inl ((cdv_eq (by first | decide | omega)).mpr c_38))))) hO hR _ _ hP hD hS ls (lv_sub hl [1, 2, 3, 4, 5] rfl)
                ·
                  refine lv_iload hx hb dX10_isOther_74 (lv_at hl 0 rfl) ?_
                  refine lv_bipush (v := 46) hx hb dX10_isOther_76 (by decide) ?_
                  refine lv_icmp_eq (tgt := 83) hx hb dX10_isOther_78 (by decide) (fun c_39 => ?_) (fun c_39 => ?_)
                  ·
                    refine W.widen (k := 0) (n := 0) (by omega) (by omega) ?_
                    exact jn_26 () F (Or.inr (Or.inr (Or.inr (Or.inr ((cdv_eq (by first | decide | omega)).mpr c_39))))) hO hR _ _ hP hD hS ls (lv_sub hl [1, 2, 3, 4, 5] rfl)
                  ·
                    refine lv_iconst (v := 0) hx hb dX10_isOther_81 (by decide) ?_
                    refine W.widen (k := 0) (n := 0) (by omega) (by omega) ?_
                    exact W.zret (v := 0) (ty := .boolean) hx hb hr (by decide) (fun t ht hWm => ⟨⟨0, (), rfl, (Or.inr ⟨rfl, fun q => by rcases q.2.2 i hv1 his with q9 | q9 | q9 | q9 | q9; exact sms_n hw_31 c_32 q9; exact sme_n hw_35 c_36 q9; exact (fun q => c_37 ((cdv_eq (by first | decide | omega)).mp q)) q9; exact (fun q => c_38 ((cdv_eq (by first | decide | omega)).mp q)) q9; exact (fun q => c_39 ((cdv_eq (by first | decide | omega)).mp q)) q9⟩), ⟨F, QT.mk ht hP hD hO hR⟩⟩, hS.F ht⟩) hS.2.2 dX10_isOther_82
    ·
      refine lv_iconst (v := 0) hx hb dX10_isOther_25 (by decide) ?_
      refine W.widen (k := 0) (n := 0) (by omega) (by omega) ?_
      exact W.zret (v := 0) (ty := .boolean) hx hb hr (by decide) (fun t ht hWm => ⟨⟨0, (), rfl, (Or.inr ⟨rfl, fun q => sms_n hw_15 c_16 q.2.1⟩), ⟨F, QT.mk ht hP hD hO hR⟩⟩, hS.F ht⟩) hS.2.2 dX10_isOther_26
set_option maxHeartbeats 4000000 in
set_option maxRecDepth 100000 in
theorem s_X0_same_e (l : Launch) (dC : Nat → ClassId) (dI : Nat → Nat → Nat) (cs : Nat → ClassId) (ty : TyM) (L : List Nat) (sz : Nat) (F : Nat → va_E) (h0 : Nat) (ρ : Nat) (r0 : Nat) (n : Nat) (g1 : Nat) (σ : Nat) (r1 : Nat) (n1 : Nat) (z : Nat) (y : Nat) (f : Nat → Int32) (fa : Nat → Int32) (oo : Int32) (hW : WT ty L) (hL_h0 : h0 ∈ L) (hT_h0 : ty h0 = (0, ρ, [r0, n])) (hL_g1 : g1 ∈ L) (hT_g1 : ty g1 = (0, σ, [r1, n1])) (hF0 : F h0 = .inr (0, [.ref r0, .int (nI z), .int 0])) (hFr0 : F r0 = .inl (cs 16, n, .inl f)) (hFg : F g1 = .inr (0, [.ref r1, .int (nI y), .int oo])) (hFr1 : F r1 = .inl (cs 16, n1, .inl fa)) (hzn : z ≤ n) (hn9 : n ≤ 10000) (hyn : y ≤ n1) (hm9 : n1 ≤ 10000) : Met l yX0_same (.code yX0_same cX0_same 3 (some .boolean) :: tb) ({ frames := 0, cells := 0, slots := 0, locals := 0 }) (va_Pc [.ref h0, .ref g1] (PT (dC, dI) cs ty L F sz)) (va_Qi (fun (r : Int32) (_ : Unit) => (r = 1 ∧ ((oo : Int32) = 0 ∧ z = y ∧ ∀ j9, j9 < z → f j9 = fa j9)) ∨ (r = 0 ∧ ¬ ((oo : Int32) = 0 ∧ z = y ∧ ∀ j9, j9 < z → f j9 = fa j9))) (fun _ T9 => ∃ F2 : Nat → va_E, QT (dC, dI) cs ty L [] F F2 (va_A (va_pl L F) sz) T9) (va_A (va_pl L F) sz)) 0 0 (va_A (va_pl L F) sz) := by
  refine Met.ofW (cc := cX0_same) (maxL := 3) (ret := (some .boolean)) (by decide) rfl ?_
  intro p e s m args below meth c s₁ B hml hv
  obtain ⟨rfl, hsz, hP, hK, hD0, hE, hO⟩ := hv
  have hx := B.exec
  have hb := B.bytes
  have hr := B.returns
  have hts : ∀ w ∈ tb, w.before _ s = true := fun w h => atoms_spec (ws := .code yX0_same cX0_same 3 (some .boolean) :: tb) B.pre w (List.mem_cons_of_mem _ h)
  have hown : s.vm.findClass RX0 = some m.cls := findClass_of_methodNamed B.named
  have hlocks := B.notSynchronized
  subst hsz
  have hD := hD0.self (sz := s.heap.size)
  generalize hAe : va_A (va_pl L F) s.heap.size = A at hD ⊢
  have hA : ∀ q : Nat, s.heap.size ≤ q → A q := fun q h => by rw [← hAe]; exact Or.inr h
  have hS : va_S A s.heap s.heap [] := va_S.rf
  have hR : FR ty [] F F := FR.refl
  have hl := lv_entry ([.ref h0, .ref g1]) (n := 3) (Nat.le_of_ble_eq_true rfl)
  rw [lg_entry_eq]
  generalize (lg_sl ([.ref h0, .ref g1]) ++ List.replicate (3 - (lg_sl ([.ref h0, .ref g1])).length) Slot.unset).toArray = ls at hl ⊢
  have hl : lv_has ls 3 [(0, .ref h0), (1, .ref g1)] := hl
  obtain ⟨hi_1, ht_2, hq_3⟩ := hW.bytes hL_h0 hT_h0
  obtain ⟨hi_4, ht_5, hq_6⟩ := hW.bytes hL_g1 hT_g1
  refine lv_aload_n hx hb dX0_same_0 rfl (lv_at hl 0 rfl) ?_
  refine pg_get (ci := 0) (v := .int (nI z)) (C := RX0) (T := TX0) (N := 3) hx hb hts it_0 hown hK hP hL_h0 hF0 rfl 1 (by decide) (hts _ kt_10) (fun _ h9 => h9) rfl dX0_same_1 ?_
  refine lv_aload_n hx hb dX0_same_4 rfl (lv_at hl 1 rfl) ?_
  refine pg_get (ci := 0) (v := .int (nI y)) (C := RX0) (T := TX0) (N := 3) hx hb hts it_0 hown hK hP hL_g1 hFg rfl 1 (by decide) (hts _ kt_10) (fun _ h9 => h9) rfl dX0_same_5 ?_
  refine lv_icmp_ne (tgt := 25) hx hb dX0_same_8 (by decide) (fun c_7 => ?_) (fun c_7 => ?_)
  ·
    have hzy : z ≠ y := fun q => c_7 (by rw [q])
    refine lv_iconst (v := 0) hx hb dX0_same_25 (by decide) ?_
    refine W.widen (k := 0) (n := 0) (by omega) (by omega) ?_
    exact W.zret (v := 0) (ty := .boolean) hx hb hr (by decide) (fun t ht hWm => ⟨⟨0, (), rfl, (Or.inr ⟨rfl, fun q => hzy q.2.1⟩), ⟨F, QT.mk ht hP hD hO hR⟩⟩, hS.F ht⟩) hS.2.2 dX0_same_26
  ·
    have hzy : z = y := (nI_eq (by omega) (by omega)).mp c_7
    refine lv_aload_n hx hb dX0_same_11 rfl (lv_at hl 0 rfl) ?_
    refine pg_get (ci := 0) (v := .int 0) (C := RX0) (T := TX0) (N := 3) hx hb hts it_0 hown hK hP hL_h0 hF0 rfl 2 (by decide) (hts _ kt_11) (fun _ h9 => h9) rfl dX0_same_12 ?_
    refine lv_if_ne (tgt := 25) hx hb dX0_same_15 (by decide) (fun c_10 => absurd (by decide) c_10) (fun c_10 => ?_)
    refine lv_aload_n hx hb dX0_same_18 rfl (lv_at hl 1 rfl) ?_
    refine pg_get (ci := 0) (v := .int oo) (C := RX0) (T := TX0) (N := 3) hx hb hts it_0 hown hK hP hL_g1 hFg rfl 2 (by decide) (hts _ kt_11) (fun _ h9 => h9) rfl dX0_same_19 ?_
    refine lv_if_eq (tgt := 27) hx hb dX0_same_22 (by decide) (fun c_11 => ?_) (fun c_11 => ?_)
    ·
      refine lv_iconst (v := 0) hx hb dX0_same_27 (by decide) ?_
      refine lv_istore_n (lv' := [(2, .int 0), (0, .ref h0), (1, .ref g1)]) hx hb dX0_same_28 rfl hl (by decide) rfl (fun ls hl => ?_)
      refine W.widen (k := 0) (n := 0) (by omega) (by omega) ?_
      refine pl_loop (σ := Nat) A (dC, dI) cs ty L [] F 29 3 (fun j => [(2, .int (nI j)), (0, .ref h0), (1, .ref g1)]) (fun j => []) (fun j _ => j ≤ z ∧ ∀ i, i < j → f i = fa i) (fun j => z - j) ?_ 0 F (⟨Nat.zero_le _, fun i hi => absurd hi (Nat.not_lt_zero _)⟩) hO hR _ _ hP hD hS ls (lv_sub hl [0, 1, 2] rfl)
      rintro j F_12 hv_13 hO hR ih_14 H locs hP hD hS ls hl
      have hl : lv_has ls 3 [(2, .int (nI j)), (0, .ref h0), (1, .ref g1)] := hl
      have hv_13 : j ≤ z ∧ ∀ i, i < j → f i = fa i := hv_13
      refine W.eq (g2 := F0 m 29 ls []) rfl ?_
      obtain rfl : F = F_12 := (funext (fun a => hR a List.not_mem_nil)).symm
      obtain ⟨hv1, hv2⟩ := id hv_13
      refine lv_iload_n hx hb dX0_same_29 rfl (lv_at hl 0 rfl) ?_
      refine lv_aload_n hx hb dX0_same_30 rfl (lv_at hl 1 rfl) ?_
      refine pg_get (ci := 0) (v := .int (nI z)) (C := RX0) (T := TX0) (N := 3) hx hb hts it_0 hown hK hP hL_h0 hF0 rfl 1 (by decide) (hts _ kt_10) (fun _ h9 => h9) rfl dX0_same_31 ?_
      refine lv_icmp_ge (tgt := 60) hx hb dX0_same_34 (by decide) (fun c_15 => ?_) (fun c_15 => ?_)
      ·
        have hi_16 : z ≤ j := leN (N := z) c_15
        have hjz : z ≤ j := (nI_leI (by omega) (by omega)).mp c_15
        refine lv_iconst (v := 1) hx hb dX0_same_60 (by decide) ?_
        refine W.widen (k := 0) (n := 0) (by omega) (by omega) ?_
        exact W.zret (v := 1) (ty := .boolean) hx hb hr (by decide) (fun t ht hWm => ⟨⟨1, (), rfl, (Or.inl ⟨rfl, c_11, hzy, fun j9 h9 => hv2 j9 (by omega)⟩), ⟨F, QT.mk ht hP hD hO hR⟩⟩, hS.F ht⟩) hS.2.2 dX0_same_61
      ·
        have hi_17 : j < z := ltN (N := z) c_15
        have hjz : j < z := Nat.not_le.mp (fun q => c_15 ((nI_leI (by omega) (by omega)).mpr q))
        refine lv_aload_n hx hb dX0_same_37 rfl (lv_at hl 1 rfl) ?_
        refine pg_get (ci := 0) (v := .ref r0) (C := RX0) (T := TX0) (N := 3) hx hb hts it_0 hown hK hP hL_h0 hF0 rfl 0 (by decide) (hts _ kt_12) (fun _ h9 => h9) rfl dX0_same_38 ?_
        refine lv_iload_n hx hb dX0_same_41 rfl (lv_at hl 0 rfl) ?_
        refine pg_iald hx hb hK hP hi_1 0 hFr0 rfl (vp_in_nI (by omega) (by omega)) dX0_same_42 ?_
        refine lv_topi (fun x_18 ex_18 => ?_)
        obtain rfl : x_18 = (f j) := ex_18.trans (congrArg f (nI_clamp (by omega)))
        refine lv_aload_n hx hb dX0_same_43 rfl (lv_at hl 2 rfl) ?_
        refine pg_get (ci := 0) (v := .ref r1) (C := RX0) (T := TX0) (N := 3) hx hb hts it_0 hown hK hP hL_g1 hFg rfl 0 (by decide) (hts _ kt_12) (fun _ h9 => h9) rfl dX0_same_44 ?_
        refine lv_iload_n hx hb dX0_same_47 rfl (lv_at hl 0 rfl) ?_
        refine pg_iald hx hb hK hP hi_4 0 hFr1 rfl (vp_in_nI (by omega) (by omega)) dX0_same_48 ?_
        refine lv_topi (fun x_19 ex_19 => ?_)
        obtain rfl : x_19 = (fa j) := ex_19.trans (congrArg fa (nI_clamp (by omega)))
        refine lv_icmp_eq (tgt := 54) hx hb dX0_same_49 (by decide) (fun c_20 => ?_) (fun c_20 => ?_)
        ·
          refine lv_iinc (v := (nI (j + 1))) (lv' := [(2, .int (nI (j + 1))), (0, .ref h0), (1, .ref g1)]) hx hb dX0_same_54 hl (k := 0) rfl (nI_1 _) (by decide) rfl (fun ls hl => ?_)
          refine lv_goto (tgt := 29) hx hb dX0_same_57 (by decide) ?_
          refine W.widen (k := 0) (n := 0) (by omega) (by omega) ?_
          exact ih_14 (j + 1) F (⟨by omega, fun i hi => by rcases Nat.lt_or_ge i j with q | q; exact hv2 i q; rw [show i = j by omega]; exact c_20⟩) (by show z - (j + 1) < z - j; omega) hO hR _ _ hP hD hS ls (lv_sub hl [0, 1, 2] rfl)
        ·
          refine lv_iconst (v := 0) hx hb dX0_same_52 (by decide) ?_
          refine W.widen (k := 0) (n := 0) (by omega) (by omega) ?_
          exact W.zret (v := 0) (ty := .boolean) hx hb hr (by decide) (fun t ht hWm => ⟨⟨0, (), rfl, (Or.inr ⟨rfl, fun q => c_20 (q.2.2 j hjz)⟩), ⟨F, QT.mk ht hP hD hO hR⟩⟩, hS.F ht⟩) hS.2.2 dX0_same_53
    ·
      refine lv_iconst (v := 0) hx hb dX0_same_25 (by decide) ?_
      refine W.widen (k := 0) (n := 0) (by omega) (by omega) ?_
      exact W.zret (v := 0) (ty := .boolean) hx hb hr (by decide) (fun t ht hWm => ⟨⟨0, (), rfl, (Or.inr ⟨rfl, fun q => c_11 q.1⟩), ⟨F, QT.mk ht hP hD hO hR⟩⟩, hS.F ht⟩) hS.2.2 dX0_same_26
def SAMN (d : ETY) (oo : Int32) (y : Nat) (fa : Nat → Int32) : Prop := oo = 0 ∧ d.2.2.1 = y ∧ ∀ j, j < d.2.2.1 → d.2.2.2.1 j = fa j
def HAS (D : Nat → ETY) (ze : Nat) (x oo : Int32) (y : Nat) (fa : Nat → Int32) : Prop := ∃ k, k < ze ∧ (D k).1 = x ∧ SAMN (D k) oo y fa
theorem has_s {D : Nat → ETY} {j : Nat} {x oo : Int32} {y : Nat} {fa : Nat → Int32} (h : ¬ HAS D j x oo y fa) (h1 : ¬ ((D j).1 = x ∧ SAMN (D j) oo y fa)) : ¬ HAS D (j + 1) x oo y fa := by
  rintro ⟨k, hk, q1, q2⟩
  by_cases c : k = j
  · subst c
    exact h1 ⟨q1, q2⟩
  · exact h ⟨k, by omega, q1, q2⟩
set_option maxHeartbeats 4000000 in
set_option maxRecDepth 100000 in
theorem s_X2_has_e (l : Launch) (dC : Nat → ClassId) (dI : Nat → Nat → Nat) (cs : Nat → ClassId) (ty : TyM) (L : List Nat) (sz : Nat) (F : Nat → va_E) (h0 : Nat) (ρ : Nat) (ea : Nat) (g1 : Nat) (σ : Nat) (r1 : Nat) (n1 : Nat) (y : Nat) (cn : Nat) (fa : Nat → Int32) (D : Nat → ETY) (x1 : Int32) (oo : Int32) (hW : WT ty L) (hL_h0 : h0 ∈ L) (hT_h0 : ty h0 = (2, ρ, [ea])) (hL_g1 : g1 ∈ L) (hT_g1 : ty g1 = (0, σ, [r1, n1])) (hFd : F h0 = .inr (2, [.ref ea, .int (nI cn)])) (hcn : cn ≤ 40) (hFg : F g1 = .inr (0, [.ref r1, .int (nI y), .int oo])) (hFr1 : F r1 = .inl (cs 16, n1, .inl fa)) (hyn : y ≤ n1) (hm9 : n1 ≤ 10000) (hDI : DIRC cs F ea cn D) : Met l yX2_has (.code yX2_has cX2_has 4 (some .boolean) :: tb) ({ frames := 1, cells := 0, slots := 0, locals := 22 }) (va_Pc [.ref h0, .int x1, .ref g1] (PT (dC, dI) cs ty L F sz)) (va_Qi (fun (r : Int32) (_ : Unit) => (r = 1 ∧ HAS D cn x1 oo y fa) ∨ (r = 0 ∧ ¬ HAS D cn x1 oo y fa)) (fun _ T9 => ∃ F2 : Nat → va_E, QT (dC, dI) cs ty L [] F F2 (va_A (va_pl L F) sz) T9) (va_A (va_pl L F) sz)) 0 0 (va_A (va_pl L F) sz) := by
  refine Met.ofW (cc := cX2_has) (maxL := 4) (ret := (some .boolean)) (by decide) rfl ?_
  intro p e s m args below meth c s₁ B hml hv
  obtain ⟨rfl, hsz, hP, hK, hD0, hE, hO⟩ := hv
  have hx := B.exec
  have hb := B.bytes
  have hr := B.returns
  have hts : ∀ w ∈ tb, w.before _ s = true := fun w h => atoms_spec (ws := .code yX2_has cX2_has 4 (some .boolean) :: tb) B.pre w (List.mem_cons_of_mem _ h)
  have hown : s.vm.findClass RX2 = some m.cls := findClass_of_methodNamed B.named
  have hlocks := B.notSynchronized
  subst hsz
  have hD := hD0.self (sz := s.heap.size)
  generalize hAe : va_A (va_pl L F) s.heap.size = A at hD ⊢
  have hA : ∀ q : Nat, s.heap.size ≤ q → A q := fun q h => by rw [← hAe]; exact Or.inr h
  have hS : va_S A s.heap s.heap [] := va_S.rf
  have hR : FR ty [] F F := FR.refl
  have hl := lv_entry ([.ref h0, .int x1, .ref g1]) (n := 4) (Nat.le_of_ble_eq_true rfl)
  rw [lg_entry_eq]
  generalize (lg_sl ([.ref h0, .int x1, .ref g1]) ++ List.replicate (4 - (lg_sl ([.ref h0, .int x1, .ref g1])).length) Slot.unset).toArray = ls at hl ⊢
  have hl : lv_has ls 4 [(0, .ref h0), (1, .int x1), (2, .ref g1)] := hl
  obtain ⟨hi_1, ht_2⟩ := hW.dir hL_h0 hT_h0
  obtain ⟨f_3, hF_4, hq_5⟩ := hO.rentry hi_1 ht_2
  obtain ⟨hi_6, ht_7, hq_8⟩ := hW.bytes hL_g1 hT_g1
  refine lv_iconst (v := 0) hx hb dX2_has_0 (by decide) ?_
  refine lv_istore_n (lv' := [(3, .int 0), (0, .ref h0), (1, .int x1), (2, .ref g1)]) hx hb dX2_has_1 rfl hl (by decide) rfl (fun ls hl => ?_)
  refine W.widen (k := 0) (n := 0) (by omega) (by omega) ?_
  refine pl_loop (σ := Nat) A (dC, dI) cs ty L [] F 2 4 (fun j => [(3, .int (nI j)), (0, .ref h0), (1, .int x1), (2, .ref g1)]) (fun j => []) (fun j _ => j ≤ cn ∧ ¬ HAS D j x1 oo y fa) (fun j => cn - j) ?_ 0 F (⟨Nat.zero_le _, fun q => by obtain ⟨k, hk, -⟩ := q; omega⟩) hO hR _ _ hP hD hS ls (lv_sub hl [0, 1, 2, 3] rfl)
  rintro j F_9 hv_10 hO hR ih_11 H locs hP hD hS ls hl
  have hl : lv_has ls 4 [(3, .int (nI j)), (0, .ref h0), (1, .int x1), (2, .ref g1)] := hl
  have hv_10 : j ≤ cn ∧ ¬ HAS D j x1 oo y fa := hv_10
  refine W.eq (g2 := F0 m 2 ls []) rfl ?_
  obtain rfl : F = F_9 := (funext (fun a => hR a List.not_mem_nil)).symm
  obtain ⟨hv1, hv2⟩ := id hv_10
  refine lv_iload_n hx hb dX2_has_2 rfl (lv_at hl 0 rfl) ?_
  refine lv_aload_n hx hb dX2_has_3 rfl (lv_at hl 1 rfl) ?_
  refine pg_get (ci := 2) (v := .int (nI cn)) (C := RX2) (T := TX2) (N := 2) hx hb hts it_2 hown hK hP hL_h0 hFd rfl 1 (by decide) (hts _ kt_83) (fun _ h9 => h9) rfl dX2_has_4 ?_
  refine lv_icmp_ge (tgt := 47) hx hb dX2_has_7 (by decide) (fun c_12 => ?_) (fun c_12 => ?_)
  ·
    have hi_13 : cn ≤ j := leN (N := cn) c_12
    have hjc : j = cn := by have h9 : cn ≤ j := (nI_leI (by omega) (by omega)).mp c_12; omega
    refine lv_iconst (v := 0) hx hb dX2_has_47 (by decide) ?_
    refine W.widen (k := 0) (n := 0) (by omega) (by omega) ?_
    exact W.zret (v := 0) (ty := .boolean) hx hb hr (by decide) (fun t ht hWm => ⟨⟨0, (), rfl, (Or.inr ⟨rfl, by rw [← hjc]; exact hv2⟩), ⟨F, QT.mk ht hP hD hO hR⟩⟩, hS.F ht⟩) hS.2.2 dX2_has_48
  ·
    have hi_14 : j < cn := ltN (N := cn) c_12
    have hjz : j < cn := Nat.not_le.mp (fun q => c_12 ((nI_leI (by omega) (by omega)).mpr q))
    refine lv_aload_n hx hb dX2_has_10 rfl (lv_at hl 1 rfl) ?_
    refine pg_get (ci := 2) (v := .ref ea) (C := RX2) (T := TX2) (N := 2) hx hb hts it_2 hown hK hP hL_h0 hFd rfl 0 (by decide) (hts _ kt_84) (fun _ h9 => h9) rfl dX2_has_11 ?_
    refine lv_iload_n hx hb dX2_has_14 rfl (lv_at hl 0 rfl) ?_
    obtain ⟨b_15, x_16, y_17, hbf_18, hi_19, ht_20⟩ := hq_5 j (by omega)
    refine pg_aald (r := b_15) hx hb hK hP hi_1 5 hF_4 rfl (vp_in_nI (by omega) (by omega)) (show f_3 ((nI j) : Int32).toNatClampNeg = _ from by rw [show ((nI j) : Int32) = nI j from rfl, nI_clamp (by omega)]; exact hbf_18) dX2_has_15 ?_
    obtain ⟨hi_21, hi_22, ⟨r_23, ht_24⟩, ⟨r_25, ht_26⟩⟩ := hW.entry hi_19 ht_20
    have ht_24 : ty x_16 = (0, ρ + j + j + j + 101, [r_23, 60]) := ht_24
    have ht_26 : ty y_17 = (0, ρ + j + j + j + 102, [r_25, 700]) := ht_26
    obtain ⟨hen1, hen2, hen3, hen4, hen5⟩ := DIRC.get hDI hO hF_4 hjz hbf_18 hi_19 ht_20
    obtain ⟨hen6, hen7⟩ := hen2 _ _ hi_21 ht_24
    obtain ⟨hi_27, ht_28, hq_29⟩ := hW.bytes hi_21 ht_24
    refine pg_getN (ci := 3) (v := .int ((D j).1)) (C := RX3) (T := TX3) (N := 4) hx hb hts it_3 hown hK hP hi_19 hen1 rfl 2 (by decide) (hE.nest kn_0) (fun _ h9 => h9) rfl dX2_has_16 ?_
    refine lv_iload_n hx hb dX2_has_19 rfl (lv_at hl 2 rfl) ?_
    refine lv_icmp_ne (tgt := 41) hx hb dX2_has_20 (by decide) (fun c_30 => ?_) (fun c_30 => ?_)
    ·
      refine lv_iinc (v := (nI (j + 1))) (lv' := [(3, .int (nI (j + 1))), (0, .ref h0), (1, .int x1), (2, .ref g1)]) hx hb dX2_has_41 hl (k := 0) rfl (nI_1 _) (by decide) rfl (fun ls hl => ?_)
      refine lv_goto (tgt := 2) hx hb dX2_has_44 (by decide) ?_
      refine W.widen (k := 0) (n := 0) (by omega) (by omega) ?_
      exact ih_11 (j + 1) F (⟨by omega, has_s hv2 (fun q => c_30 q.1)⟩) (by show cn - (j + 1) < cn - j; omega) hO hR _ _ hP hD hS ls (lv_sub hl [0, 1, 2, 3] rfl)
    ·
      refine lv_aload_n hx hb dX2_has_23 rfl (lv_at hl 1 rfl) ?_
      refine pg_get (ci := 2) (v := .ref ea) (C := RX2) (T := TX2) (N := 2) hx hb hts it_2 hown hK hP hL_h0 hFd rfl 0 (by decide) (hts _ kt_84) (fun _ h9 => h9) rfl dX2_has_24 ?_
      refine lv_iload_n hx hb dX2_has_27 rfl (lv_at hl 0 rfl) ?_
      refine pg_aald (r := b_15) hx hb hK hP hi_1 5 hF_4 rfl (vp_in_nI (by omega) (by omega)) (show f_3 ((nI j) : Int32).toNatClampNeg = _ from by rw [show ((nI j) : Int32) = nI j from rfl, nI_clamp (by omega)]; exact hbf_18) dX2_has_28 ?_
      refine pg_getN (ci := 3) (v := .ref x_16) (C := RX3) (T := TX3) (N := 4) hx hb hts it_3 hown hK hP hi_19 hen1 rfl 0 (by decide) (hE.nest kn_1) (fun _ h9 => h9) rfl dX2_has_29 ?_
      refine lv_aload_n hx hb dX2_has_32 rfl (lv_at hl 3 rfl) ?_
      have hFc := pg_free hD hS hA
      refine va_calli (va_runV (As := [.ref g1]) (rest := []) ⟨hx, hb, hml, hown, hts⟩ (s_X0_same_e l dC dI cs ty L H.size F x_16 (ρ + j + j + j + 101) r_23 60 g1 σ r1 n1 ((D j).2.2.1) y ((D j).2.2.2.1) fa oo hW hi_21 ht_24 hL_g1 hT_g1 hen6 hen7 hFg hFr1 (by omega) (by omega) (by omega) (by omega)) ⟨callB_of 1 hts (gi kt_85) rfl rfl rfl (hts _ kt_1) (hts _ kt_86) (by decide +kernel) ⟨Nat.le_of_ble_eq_true rfl, Nat.le_of_ble_eq_true rfl⟩, (hts _ kt_87), (hts _ kt_88)⟩ ⟨fun a U g mk q => ⟨q.1, PT.calling q.2⟩, pg_recv hK hP hi_21 hen6 (q := (RX0, TX0, 3)) rfl, fun U hU hWm => ⟨rfl, PT.mk hU hWm hP hK hD hE hO⟩⟩ rfl rfl hl.1 rfl (lv_room (Nat.le_of_ble_eq_true rfl)) dX2_has_33 ⟨by show _ + 0 ≤ 0; omega, by show _ + 0 ≤ 0; omega⟩) hS (fun q _ h => hFc q h) hFc (fun r_31 u t H1 locs ht hvm hw hB hz1 hk1 hS => ?_)
      obtain ⟨F_32, hB1⟩ := hB
      obtain rfl : F = F_32 := (funext (fun a => hB1.2.2.2 a List.not_mem_nil)).symm
      obtain ⟨hP, hD, hO, hR⟩ := QT.back hB1 ht hFc hR (fun q h => absurd h List.not_mem_nil)
      generalize H1 = H at hP hS ⊢
      have hw : (r_31 = 1 ∧ ((oo : Int32) = 0 ∧ (D j).2.2.1 = y ∧ ∀ j9, j9 < (D j).2.2.1 → (D j).2.2.2.1 j9 = fa j9)) ∨ (r_31 = 0 ∧ ¬ ((oo : Int32) = 0 ∧ (D j).2.2.1 = y ∧ ∀ j9, j9 < (D j).2.2.1 → (D j).2.2.2.1 j9 = fa j9)) := hw
      have hw_33 := hw
      refine lv_if_eq (tgt := 41) hx hb dX2_has_36 (by decide) (fun c_34 => ?_) (fun c_34 => ?_)
      ·
        refine lv_iinc (v := (nI (j + 1))) (lv' := [(3, .int (nI (j + 1))), (0, .ref h0), (1, .int x1), (2, .ref g1)]) hx hb dX2_has_41 hl (k := 0) rfl (nI_1 _) (by decide) rfl (fun ls hl => ?_)
        refine lv_goto (tgt := 2) hx hb dX2_has_44 (by decide) ?_
        refine W.widen (k := 0) (n := 0) (by omega) (by omega) ?_
        exact ih_11 (j + 1) F (⟨by omega, has_s hv2 (fun q => orp0 hw_33 c_34 q.2)⟩) (by show cn - (j + 1) < cn - j; omega) hO hR _ _ hP hD hS ls (lv_sub hl [0, 1, 2, 3] rfl)
      ·
        refine lv_iconst (v := 1) hx hb dX2_has_39 (by decide) ?_
        refine W.widen (k := 0) (n := 0) (by omega) (by omega) ?_
        exact W.zret (v := 1) (ty := .boolean) hx hb hr (by decide) (fun t ht hWm => ⟨⟨1, (), rfl, (Or.inl ⟨rfl, j, hjz, c_30, orp1 hw_33 c_34⟩), ⟨F, QT.mk ht hP hD hO hR⟩⟩, hS.F ht⟩) hS.2.2 dX2_has_40
def LIT (T : Nat → Nat) (a : Nat) (l : List Nat) : Prop := ∀ i, i < l.length → T (a + i) = l.getD i 0
def CLI (C : Nat → Int32) (k : Nat) (l : List Nat) : Prop := l.length = k ∧ ∀ i, i < k → chv (C i) = nI (l.getD i 0) ∧ l.getD i 0 < 128
theorem CLI.go {C : Nat → Int32} {k : Nat} {l : List Nat} (h : CLI C k l) {f : Nat → Int32} {z a j : Nat} (hj : j < z) (ha : a ≤ j) (hk : j - a < k) : (f j = chv (C (j - a)) ↔ TC f z j = l.getD (j - a) 0) := by
  have h9 := h.2 (j - a) hk
  have e9 : atn f z j = f j := if_pos hj
  rw [h9.1]
  show _ ↔ cdv (atn f z j) = _
  rw [e9]
  exact (cdv_eq h9.2).symm
theorem LIT.s {T : Nat → Nat} {a j : Nat} {l : List Nat} (h : ∀ i, i < j - a → T (a + i) = l.getD i 0) (ha : a ≤ j) (h1 : T j = l.getD (j - a) 0) : ∀ i, i < j + 1 - a → T (a + i) = l.getD i 0 := by
  intro i hi
  rcases Nat.lt_or_ge i (j - a) with q | q
  · exact h i q
  · rw [show i = j - a by omega, show a + (j - a) = j by omega]
    exact h1
set_option maxHeartbeats 4000000 in
set_option maxRecDepth 100000 in
theorem s_X0_is_e (l : Launch) (dC : Nat → ClassId) (dI : Nat → Nat → Nat) (cs : Nat → ClassId) (ty : TyM) (L : List Nat) (sz : Nat) (F : Nat → va_E) (h0 : Nat) (ρ : Nat) (r0 : Nat) (n : Nat) (q : Nat) (v : Nat) (k0 : Nat) (C : Nat → Int32) (z : Nat) (a : Nat) (b : Nat) (f : Nat → Int32) (ll : List Nat) (hW : WT ty L) (hL_h0 : h0 ∈ L) (hT_h0 : ty h0 = (0, ρ, [r0, n])) (hF0 : F h0 = .inr (0, [.ref r0, .int (nI z), .int 0])) (hFr : F r0 = .inl (cs 16, n, .inl f)) (hzn : z ≤ n) (hn9 : n ≤ 10000) (hab : a ≤ b) (hbz : b ≤ z) (hCL : CLI C k0 ll) : Met l yX0_is (.code yX0_is cX0_is 5 (some .boolean) :: tb) ({ frames := 4, cells := 0, slots := 0, locals := 85 }) (va_Pc [.ref h0, .int (nI a), .int (nI b), .ref q] (PTC (dC, dI) cs ty L F sz q v k0 C)) (va_Qi (fun (r : Int32) (_ : Unit) => (r = 1 ∧ (a + k0 = b ∧ LIT (TC f z) a ll)) ∨ (r = 0 ∧ ¬ (a + k0 = b ∧ LIT (TC f z) a ll))) (fun _ T9 => ∃ F2 : Nat → va_E, QT (dC, dI) cs ty L [] F F2 (va_A (va_pl L F) sz) T9) (va_A (va_pl L F) sz)) 0 0 (va_A (va_pl L F) sz) := by
  refine Met.ofW (cc := cX0_is) (maxL := 5) (ret := (some .boolean)) (by decide) rfl ?_
  intro p e s m args below meth c s₁ B hml hv
  obtain ⟨rfl, ⟨hsz, hP, hK, hD0, hE, hO⟩, hG, hX⟩ := hv
  have hx := B.exec
  have hb := B.bytes
  have hr := B.returns
  have hts : ∀ w ∈ tb, w.before _ s = true := fun w h => atoms_spec (ws := .code yX0_is cX0_is 5 (some .boolean) :: tb) B.pre w (List.mem_cons_of_mem _ h)
  have hown : s.vm.findClass RX0 = some m.cls := findClass_of_methodNamed B.named
  have hlocks := B.notSynchronized
  subst hsz
  have hD := hD0.self (sz := s.heap.size)
  generalize hAe : va_A (va_pl L F) s.heap.size = A at hD hG hX ⊢
  have hX_q : SX q v k0 A s s.heap := hX.sx
  obtain ⟨xo_q, xc_q, xv_q, xt_q, xn_q⟩ := id hX
  have hA : ∀ q : Nat, s.heap.size ≤ q → A q := fun q h => by rw [← hAe]; exact Or.inr h
  have hS : va_S A s.heap s.heap [] := va_S.rf
  have hR : FR ty [] F F := FR.refl
  have hl := lv_entry ([.ref h0, .int (nI a), .int (nI b), .ref q]) (n := 5) (Nat.le_of_ble_eq_true rfl)
  rw [lg_entry_eq]
  generalize (lg_sl ([.ref h0, .int (nI a), .int (nI b), .ref q]) ++ List.replicate (5 - (lg_sl ([.ref h0, .int (nI a), .int (nI b), .ref q])).length) Slot.unset).toArray = ls at hl ⊢
  have hl : lv_has ls 5 [(0, .ref h0), (1, .int (nI a)), (2, .int (nI b)), (3, .ref q)] := hl
  refine lv_iload_n hx hb dX0_is_0 rfl (lv_at hl 1 rfl) ?_
  refine lv_if_lt (tgt := 22) hx hb dX0_is_1 (by decide) (fun c_1 => absurd c_1 (nI_pos (by omega))) (fun c_1 => ?_)
  refine lv_iload_n hx hb dX0_is_4 rfl (lv_at hl 2 rfl) ?_
  refine lv_aload_n hx hb dX0_is_5 rfl (lv_at hl 0 rfl) ?_
  obtain ⟨hi_2, ht_3, hq_4⟩ := hW.bytes hL_h0 hT_h0
  refine pg_get (ci := 0) (v := .int (nI z)) (C := RX0) (T := TX0) (N := 3) hx hb hts it_0 hown hK hP hL_h0 hF0 rfl 1 (by decide) (hts _ kt_10) (fun _ h9 => h9) rfl dX0_is_6 ?_
  refine lv_icmp_gt (tgt := 22) hx hb dX0_is_9 (by decide) (fun c_5 => absurd c_5 (fun q => absurd ((nI_ltI (by omega) (by omega)).mp q) (by omega))) (fun c_5 => ?_)
  refine lv_iload_n hx hb dX0_is_12 rfl (lv_at hl 2 rfl) ?_
  refine lv_iload_n hx hb dX0_is_13 rfl (lv_at hl 1 rfl) ?_
  refine lv_isub hx hb dX0_is_14 ?_
  refine lv_topi (fun x_6 ex_6 => ?_)
  obtain rfl : x_6 = (nI (b - a)) := ex_6.trans (pk_sub hab)
  refine lv_aload_n hx hb dX0_is_15 rfl (lv_at hl 3 rfl) ?_
  have hFc := pg_free hD hS hA
  refine va_calli (va_runV (As := []) (rest := [.int (nI (b - a))]) ⟨hx, hb, hml, hown, hts⟩ (s_J0_length_8abf5 l dC dI cs ty L s.heap.size F q v k0 hW ) ⟨callB_of 0 hts (gi kt_71) rfl rfl rfl (hts _ kt_51) (hts _ kt_72) (by decide +kernel) ⟨Nat.le_of_ble_eq_true rfl, Nat.le_of_ble_eq_true rfl⟩, (hts _ kt_73), (hts _ kt_74)⟩ ⟨fun a U g mk q => ⟨q.1, PTE.calling q.2⟩, sx_recv hX_q hS, fun U hU hWm => ⟨rfl, PTE.mk hU hWm hP hK hD hE hO hG (fun x hx => by rw [List.mem_singleton] at hx; subst hx; exact hX_q) hS hFc⟩⟩ rfl rfl hl.1 rfl (lv_room (Nat.le_of_ble_eq_true rfl)) dX0_is_16 ⟨by show _ + 0 ≤ 0; omega, by show _ + 0 ≤ 0; omega⟩) hS (fun q _ h => hFc q h) hFc (fun r_7 u t H1 locs ht hvm hw hB hz1 hk1 hS => ?_)
  obtain ⟨F_8, hB1⟩ := hB
  obtain rfl : F = F_8 := (funext (fun a => hB1.2.2.2 a List.not_mem_nil)).symm
  obtain ⟨hP, hD, hO, hR⟩ := QT.back hB1 ht hFc hR (fun q h => absurd h List.not_mem_nil)
  generalize H1 = H at hP hS ⊢
  have hw : r_7 = nI k0 := hw
  have hw_9 := hw
  subst hw_9
  refine lv_icmp_eq (tgt := 24) hx hb dX0_is_19 (by decide) (fun c_10 => ?_) (fun c_10 => ?_)
  ·
    have hlen : b - a = k0 := (nI_eq (by omega) (by omega)).mp c_10
    refine lv_iload_n hx hb dX0_is_24 rfl (lv_at hl 1 rfl) ?_
    refine lv_istore (lv' := [(4, .int (nI a)), (0, .ref h0), (1, .int (nI a)), (2, .int (nI b)), (3, .ref q)]) hx hb dX0_is_25 hl (by decide) rfl (fun ls hl => ?_)
    refine W.widen (k := 0) (n := 0) (by omega) (by omega) ?_
    refine pl_loop (σ := Nat) A (dC, dI) cs ty L [] F 27 5 (fun j => [(4, .int (nI j)), (0, .ref h0), (1, .int (nI a)), (2, .int (nI b)), (3, .ref q)]) (fun j => []) (fun j _ => a ≤ j ∧ j ≤ b ∧ ∀ i, i < j - a → (TC f z) (a + i) = ll.getD i 0) (fun j => b - j) ?_ a F (⟨Nat.le_refl _, hab, fun i hi => absurd hi (by omega)⟩) hO hR _ _ hP hD hS ls (lv_sub hl [0, 1, 2, 3, 4] rfl)
    rintro j F_12 hv_13 hO hR ih_14 H locs hP hD hS ls hl
    have hl : lv_has ls 5 [(4, .int (nI j)), (0, .ref h0), (1, .int (nI a)), (2, .int (nI b)), (3, .ref q)] := hl
    have hv_13 : a ≤ j ∧ j ≤ b ∧ ∀ i, i < j - a → (TC f z) (a + i) = ll.getD i 0 := hv_13
    refine W.eq (g2 := F0 m 27 ls []) rfl ?_
    obtain rfl : F = F_12 := (funext (fun a => hR a List.not_mem_nil)).symm
    obtain ⟨hv1, hv2, hv3⟩ := id hv_13
    refine lv_iload hx hb dX0_is_27 (lv_at hl 0 rfl) ?_
    refine lv_iload_n hx hb dX0_is_29 rfl (lv_at hl 3 rfl) ?_
    refine lv_icmp_ge (tgt := 59) hx hb dX0_is_30 (by decide) (fun c_15 => ?_) (fun c_15 => ?_)
    ·
      have hi_16 : b ≤ j := leN (N := b) c_15
      have hjb : b ≤ j := (nI_leI (by omega) (by omega)).mp c_15
      refine lv_iconst (v := 1) hx hb dX0_is_59 (by decide) ?_
      refine W.widen (k := 0) (n := 0) (by omega) (by omega) ?_
      exact W.zret (v := 1) (ty := .boolean) hx hb hr (by decide) (fun t ht hWm => ⟨⟨1, (), rfl, (Or.inl ⟨rfl, by omega, fun i hi => hv3 i (by have h9 := hCL.1; omega)⟩), ⟨F, QT.mk ht hP hD hO hR⟩⟩, hS.F ht⟩) hS.2.2 dX0_is_60
    ·
      have hi_17 : j < b := ltN (N := b) c_15
      have hjb : j < b := Nat.not_le.mp (fun q => c_15 ((nI_leI (by omega) (by omega)).mpr q))
      have hjz : j < z := by omega
      refine lv_aload_n hx hb dX0_is_33 rfl (lv_at hl 1 rfl) ?_
      refine pg_get (ci := 0) (v := .ref r0) (C := RX0) (T := TX0) (N := 3) hx hb hts it_0 hown hK hP hL_h0 hF0 rfl 0 (by decide) (hts _ kt_12) (fun _ h9 => h9) rfl dX0_is_34 ?_
      refine lv_iload hx hb dX0_is_37 (lv_at hl 0 rfl) ?_
      refine pg_iald hx hb hK hP hi_2 0 hFr rfl (vp_in_nI (by omega) (by omega)) dX0_is_39 ?_
      refine lv_topi (fun x_18 ex_18 => ?_)
      obtain rfl : x_18 = (f j) := ex_18.trans (congrArg f (nI_clamp (by omega)))
      refine lv_aload_n hx hb dX0_is_40 rfl (lv_at hl 4 rfl) ?_
      refine lv_iload hx hb dX0_is_41 (lv_at hl 0 rfl) ?_
      refine lv_iload_n hx hb dX0_is_43 rfl (lv_at hl 2 rfl) ?_
      refine lv_isub hx hb dX0_is_44 ?_
      refine lv_topi (fun x_19 ex_19 => ?_)
      obtain rfl : x_19 = (nI (j - a)) := ex_19.trans (pk_sub hv1)
      have hFc := pg_free hD hS hA
      refine va_calli (va_runV (As := [.int (nI (j - a))]) (rest := [.int (f j)]) ⟨hx, hb, hml, hown, hts⟩ (s_J0_charAt_x l dC dI cs ty L H.size F q v k0 C (j - a) hW (by omega)) ⟨callB_of 1 hts (gi kt_75) rfl rfl rfl (hts _ kt_51) (hts _ kt_76) (by decide +kernel) ⟨Nat.le_of_ble_eq_true rfl, Nat.le_of_ble_eq_true rfl⟩, (hts _ kt_77), (hts _ kt_78)⟩ ⟨fun a U g mk q => ⟨q.1, PTC.calling q.2⟩, sx_recv hX_q hS, fun U hU hWm => ⟨rfl, PTC.mk hU hWm hP hK hD hE hO hG hX hS hFc⟩⟩ rfl rfl hl.1 rfl (lv_room (Nat.le_of_ble_eq_true rfl)) dX0_is_45 ⟨by show _ + 0 ≤ 0; omega, by show _ + 0 ≤ 0; omega⟩) hS (fun q _ h => hFc q h) hFc (fun r_20 u t H1 locs ht hvm hw hB hz1 hk1 hS => ?_)
      obtain ⟨F_21, hB1⟩ := hB
      obtain rfl : F = F_21 := (funext (fun a => hB1.2.2.2 a List.not_mem_nil)).symm
      obtain ⟨hP, hD, hO, hR⟩ := QT.back hB1 ht hFc hR (fun q h => absurd h List.not_mem_nil)
      generalize H1 = H at hP hS ⊢
      have hw : r_20 = chv (C (j - a)) := hw
      have hw_22 := hw
      subst hw_22
      refine lv_icmp_eq (tgt := 53) hx hb dX0_is_48 (by decide) (fun c_23 => ?_) (fun c_23 => ?_)
      ·
        refine lv_iinc (v := (nI (j + 1))) (lv' := [(4, .int (nI (j + 1))), (0, .ref h0), (1, .int (nI a)), (2, .int (nI b)), (3, .ref q)]) hx hb dX0_is_53 hl (k := 0) rfl (nI_1 _) (by decide) rfl (fun ls hl => ?_)
        refine lv_goto (tgt := 27) hx hb dX0_is_56 (by decide) ?_
        refine W.widen (k := 0) (n := 0) (by omega) (by omega) ?_
        exact ih_14 (j + 1) F (⟨by omega, by omega, LIT.s hv3 hv1 ((hCL.go hjz hv1 (by omega)).mp c_23)⟩) (by show b - (j + 1) < b - j; omega) hO hR _ _ hP hD hS ls (lv_sub hl [0, 1, 2, 3, 4] rfl)
      ·
        refine lv_iconst (v := 0) hx hb dX0_is_51 (by decide) ?_
        refine W.widen (k := 0) (n := 0) (by omega) (by omega) ?_
        exact W.zret (v := 0) (ty := .boolean) hx hb hr (by decide) (fun t ht hWm => ⟨⟨0, (), rfl, (Or.inr ⟨rfl, fun q => c_23 ((hCL.go hjz hv1 (by omega)).mpr (by have h9 := q.2 (j - a) (by have h8 := hCL.1; omega); rw [show a + (j - a) = j by omega] at h9; exact h9))⟩), ⟨F, QT.mk ht hP hD hO hR⟩⟩, hS.F ht⟩) hS.2.2 dX0_is_52
  ·
    have hlen : b - a ≠ k0 := fun q => c_10 (by rw [q])
    refine lv_iconst (v := 0) hx hb dX0_is_22 (by decide) ?_
    refine W.widen (k := 0) (n := 0) (by omega) (by omega) ?_
    exact W.zret (v := 0) (ty := .boolean) hx hb hr (by decide) (fun t ht hWm => ⟨⟨0, (), rfl, (Or.inr ⟨rfl, fun q => hlen (by omega)⟩), ⟨F, QT.mk ht hP hD hO hR⟩⟩, hS.F ht⟩) hS.2.2 dX0_is_23
set_option maxHeartbeats 4000000 in
set_option maxRecDepth 100000 in
theorem s_X0_begins_e (l : Launch) (dC : Nat → ClassId) (dI : Nat → Nat → Nat) (cs : Nat → ClassId) (ty : TyM) (L : List Nat) (sz : Nat) (F : Nat → va_E) (h0 : Nat) (ρ : Nat) (r0 : Nat) (n : Nat) (q : Nat) (v : Nat) (k0 : Nat) (C : Nat → Int32) (z : Nat) (a : Nat) (b : Nat) (f : Nat → Int32) (ll : List Nat) (hW : WT ty L) (hL_h0 : h0 ∈ L) (hT_h0 : ty h0 = (0, ρ, [r0, n])) (hF0 : F h0 = .inr (0, [.ref r0, .int (nI z), .int 0])) (hFr : F r0 = .inl (cs 16, n, .inl f)) (hzn : z ≤ n) (hn9 : n ≤ 10000) (hab : a ≤ b) (hbz : b ≤ z) (hCL : CLI C k0 ll) : Met l yX0_begins (.code yX0_begins cX0_begins 4 (some .boolean) :: tb) ({ frames := 5, cells := 0, slots := 0, locals := 109 }) (va_Pc [.ref h0, .int (nI a), .int (nI b), .ref q] (PTC (dC, dI) cs ty L F sz q v k0 C)) (va_Qi (fun (r : Int32) (_ : Unit) => (r = 1 ∧ (a + k0 ≤ b ∧ LIT (TC f z) a ll)) ∨ (r = 0 ∧ ¬ (a + k0 ≤ b ∧ LIT (TC f z) a ll))) (fun _ T9 => ∃ F2 : Nat → va_E, QT (dC, dI) cs ty L [] F F2 (va_A (va_pl L F) sz) T9) (va_A (va_pl L F) sz)) 0 0 (va_A (va_pl L F) sz) := by
  refine Met.ofW (cc := cX0_begins) (maxL := 4) (ret := (some .boolean)) (by decide) rfl ?_
  intro p e s m args below meth c s₁ B hml hv
  obtain ⟨rfl, ⟨hsz, hP, hK, hD0, hE, hO⟩, hG, hX⟩ := hv
  have hx := B.exec
  have hb := B.bytes
  have hr := B.returns
  have hts : ∀ w ∈ tb, w.before _ s = true := fun w h => atoms_spec (ws := .code yX0_begins cX0_begins 4 (some .boolean) :: tb) B.pre w (List.mem_cons_of_mem _ h)
  have hown : s.vm.findClass RX0 = some m.cls := findClass_of_methodNamed B.named
  have hlocks := B.notSynchronized
  subst hsz
  have hD := hD0.self (sz := s.heap.size)
  generalize hAe : va_A (va_pl L F) s.heap.size = A at hD hG hX ⊢
  have hX_q : SX q v k0 A s s.heap := hX.sx
  obtain ⟨xo_q, xc_q, xv_q, xt_q, xn_q⟩ := id hX
  have hA : ∀ q : Nat, s.heap.size ≤ q → A q := fun q h => by rw [← hAe]; exact Or.inr h
  have hS : va_S A s.heap s.heap [] := va_S.rf
  have hR : FR ty [] F F := FR.refl
  have hl := lv_entry ([.ref h0, .int (nI a), .int (nI b), .ref q]) (n := 4) (Nat.le_of_ble_eq_true rfl)
  rw [lg_entry_eq]
  generalize (lg_sl ([.ref h0, .int (nI a), .int (nI b), .ref q]) ++ List.replicate (4 - (lg_sl ([.ref h0, .int (nI a), .int (nI b), .ref q])).length) Slot.unset).toArray = ls at hl ⊢
  have hl : lv_has ls 4 [(0, .ref h0), (1, .int (nI a)), (2, .int (nI b)), (3, .ref q)] := hl
  refine lv_iload_n hx hb dX0_begins_0 rfl (lv_at hl 2 rfl) ?_
  refine lv_iload_n hx hb dX0_begins_1 rfl (lv_at hl 1 rfl) ?_
  refine lv_isub hx hb dX0_begins_2 ?_
  refine lv_topi (fun x_1 ex_1 => ?_)
  obtain rfl : x_1 = (nI (b - a)) := ex_1.trans (pk_sub hab)
  refine lv_aload_n hx hb dX0_begins_3 rfl (lv_at hl 3 rfl) ?_
  have hFc := pg_free hD hS hA
  refine va_calli (va_runV (As := []) (rest := [.int (nI (b - a))]) ⟨hx, hb, hml, hown, hts⟩ (s_J0_length_8abf5 l dC dI cs ty L s.heap.size F q v k0 hW ) ⟨callB_of 0 hts (gi kt_71) rfl rfl rfl (hts _ kt_51) (hts _ kt_72) (by decide +kernel) ⟨Nat.le_of_ble_eq_true rfl, Nat.le_of_ble_eq_true rfl⟩, (hts _ kt_73), (hts _ kt_74)⟩ ⟨fun a U g mk q => ⟨q.1, PTE.calling q.2⟩, sx_recv hX_q hS, fun U hU hWm => ⟨rfl, PTE.mk hU hWm hP hK hD hE hO hG (fun x hx => by rw [List.mem_singleton] at hx; subst hx; exact hX_q) hS hFc⟩⟩ rfl rfl hl.1 rfl (lv_room (Nat.le_of_ble_eq_true rfl)) dX0_begins_4 ⟨by show _ + 0 ≤ 0; omega, by show _ + 0 ≤ 0; omega⟩) hS (fun q _ h => hFc q h) hFc (fun r_2 u t H1 locs ht hvm hw hB hz1 hk1 hS => ?_)
  obtain ⟨F_3, hB1⟩ := hB
  obtain rfl : F = F_3 := (funext (fun a => hB1.2.2.2 a List.not_mem_nil)).symm
  obtain ⟨hP, hD, hO, hR⟩ := QT.back hB1 ht hFc hR (fun q h => absurd h List.not_mem_nil)
  generalize H1 = H at hP hS ⊢
  have hw : r_2 = nI k0 := hw
  have hw_4 := hw
  subst hw_4
  refine lv_icmp_lt (tgt := 29) hx hb dX0_begins_7 (by decide) (fun c_5 => ?_) (fun c_5 => ?_)
  ·
    have hi_6 : (b - a) < k0 := ltN (N := k0) (Int32.not_le.mpr c_5)
    have hle : b - a < k0 := (nI_ltI (by omega) (by omega)).mp c_5
    refine lv_iconst (v := 0) hx hb dX0_begins_29 (by decide) ?_
    refine W.widen (k := 0) (n := 0) (by omega) (by omega) ?_
    exact W.zret (v := 0) (ty := .boolean) hx hb hr (by decide) (fun t ht hWm => ⟨⟨0, (), rfl, (Or.inr ⟨rfl, fun q => absurd q.1 (by omega)⟩), ⟨F, QT.mk ht hP hD hO hR⟩⟩, hS.F ht⟩) hS.2.2 dX0_begins_30
  ·
    have hi_7 : k0 ≤ (b - a) := leN (N := k0) (Int32.not_lt.mp c_5)
    have hle : a + k0 ≤ b := by have h9 : ¬ b - a < k0 := fun q => c_5 ((nI_ltI (by omega) (by omega)).mpr q); omega
    refine lv_aload_n hx hb dX0_begins_10 rfl (lv_at hl 0 rfl) ?_
    refine lv_iload_n hx hb dX0_begins_11 rfl (lv_at hl 1 rfl) ?_
    refine lv_iload_n hx hb dX0_begins_12 rfl (lv_at hl 1 rfl) ?_
    refine lv_aload_n hx hb dX0_begins_13 rfl (lv_at hl 3 rfl) ?_
    have hFc := pg_free hD hS hA
    refine va_calli (va_runV (As := []) (rest := [.int (nI a), .int (nI a), .ref h0]) ⟨hx, hb, hml, hown, hts⟩ (s_J0_length_8abf5 l dC dI cs ty L H.size F q v k0 hW ) ⟨callB_of 0 hts (gi kt_71) rfl rfl rfl (hts _ kt_51) (hts _ kt_72) (by decide +kernel) ⟨Nat.le_of_ble_eq_true rfl, Nat.le_of_ble_eq_true rfl⟩, (hts _ kt_73), (hts _ kt_74)⟩ ⟨fun a U g mk q => ⟨q.1, PTE.calling q.2⟩, sx_recv hX_q hS, fun U hU hWm => ⟨rfl, PTE.mk hU hWm hP hK hD hE hO hG (fun x hx => by rw [List.mem_singleton] at hx; subst hx; exact hX_q) hS hFc⟩⟩ rfl rfl hl.1 rfl (lv_room (Nat.le_of_ble_eq_true rfl)) dX0_begins_14 ⟨by show _ + 0 ≤ 0; omega, by show _ + 0 ≤ 0; omega⟩) hS (fun q _ h => hFc q h) hFc (fun r_8 u t H1 locs ht hvm hw hB hz1 hk1 hS => ?_)
    obtain ⟨F_9, hB1⟩ := hB
    obtain rfl : F = F_9 := (funext (fun a => hB1.2.2.2 a List.not_mem_nil)).symm
    obtain ⟨hP, hD, hO, hR⟩ := QT.back hB1 ht hFc hR (fun q h => absurd h List.not_mem_nil)
    generalize H1 = H at hP hS ⊢
    have hw : r_8 = nI k0 := hw
    have hw_10 := hw
    subst hw_10
    refine lv_iadd hx hb dX0_begins_17 ?_
    refine lv_topi (fun x_11 ex_11 => ?_)
    obtain rfl : x_11 = (nI (a + k0)) := ex_11.trans (nI_add a k0)
    refine lv_aload_n hx hb dX0_begins_18 rfl (lv_at hl 3 rfl) ?_
    obtain ⟨hi_12, ht_13, hq_14⟩ := hW.bytes hL_h0 hT_h0
    have hFc := pg_free hD hS hA
    refine va_calli (va_runV (As := [.int (nI a), .int (nI (a + k0)), .ref q]) (rest := []) ⟨hx, hb, hml, hown, hts⟩ (s_X0_is_e l dC dI cs ty L H.size F h0 ρ r0 n q v k0 C z a (a + k0) f ll hW hL_h0 hT_h0 hF0 hFr (by omega) (by omega) (by omega) (by omega) (hCL)) ⟨callB_of 3 hts (gi kt_79) rfl rfl rfl (hts _ kt_1) (hts _ kt_80) (by decide +kernel) ⟨Nat.le_of_ble_eq_true rfl, Nat.le_of_ble_eq_true rfl⟩, (hts _ kt_81), (hts _ kt_82)⟩ ⟨fun a U g mk q => ⟨q.1, PTC.calling q.2⟩, pg_recv hK hP hL_h0 hF0 (q := (RX0, TX0, 3)) rfl, fun U hU hWm => ⟨rfl, PTC.mk hU hWm hP hK hD hE hO hG hX hS hFc⟩⟩ rfl rfl hl.1 rfl (lv_room (Nat.le_of_ble_eq_true rfl)) dX0_begins_19 ⟨by show _ + 0 ≤ 0; omega, by show _ + 0 ≤ 0; omega⟩) hS (fun q _ h => hFc q h) hFc (fun r_15 u t H1 locs ht hvm hw hB hz1 hk1 hS => ?_)
    obtain ⟨F_16, hB1⟩ := hB
    obtain rfl : F = F_16 := (funext (fun a => hB1.2.2.2 a List.not_mem_nil)).symm
    obtain ⟨hP, hD, hO, hR⟩ := QT.back hB1 ht hFc hR (fun q h => absurd h List.not_mem_nil)
    generalize H1 = H at hP hS ⊢
    have hw : (r_15 = 1 ∧ (a + k0 = (a + k0) ∧ LIT (TC f z) a ll)) ∨ (r_15 = 0 ∧ ¬ (a + k0 = (a + k0) ∧ LIT (TC f z) a ll)) := hw
    have hw_17 := hw
    refine lv_if_eq (tgt := 29) hx hb dX0_begins_22 (by decide) (fun c_18 => ?_) (fun c_18 => ?_)
    ·
      refine lv_iconst (v := 0) hx hb dX0_begins_29 (by decide) ?_
      refine W.widen (k := 0) (n := 0) (by omega) (by omega) ?_
      exact W.zret (v := 0) (ty := .boolean) hx hb hr (by decide) (fun t ht hWm => ⟨⟨0, (), rfl, (Or.inr ⟨rfl, fun q => orp0 hw_17 c_18 ⟨rfl, q.2⟩⟩), ⟨F, QT.mk ht hP hD hO hR⟩⟩, hS.F ht⟩) hS.2.2 dX0_begins_30
    ·
      refine lv_iconst (v := 1) hx hb dX0_begins_25 (by decide) ?_
      refine lv_goto (tgt := 30) hx hb dX0_begins_26 (by decide) ?_
      refine W.widen (k := 0) (n := 0) (by omega) (by omega) ?_
      exact W.zret (v := 1) (ty := .boolean) hx hb hr (by decide) (fun t ht hWm => ⟨⟨1, (), rfl, (Or.inl ⟨rfl, hle, (orp1 hw_17 c_18).2⟩), ⟨F, QT.mk ht hP hD hO hR⟩⟩, hS.F ht⟩) hS.2.2 dX0_begins_30
theorem nbw_lt {T : Nat → Nat} : ∀ k i v w, nbw T k i v = some w → w < (v + 1) * 10 ^ k := by
  intro k
  induction k with
  | zero =>
    intro i v w h
    have h9 : some v = some w := h
    injection h9 with h8
    omega
  | succ k ih =>
    intro i v w h
    by_cases c : 48 ≤ T i ∧ T i ≤ 57
    · have h9 : nbw T k (i + 1) (v * 10 + T i - 48) = some w := (if_pos c).symm.trans h
      have h8 := ih _ _ _ h9
      have h7 : (v * 10 + T i - 48 + 1) * 10 ^ k ≤ ((v + 1) * 10) * 10 ^ k := Nat.mul_le_mul_right _ (by omega)
      rw [Nat.pow_succ, Nat.mul_comm (10 ^ k) 10, ← Nat.mul_assoc]
      omega
    · have h9 : none = some w := (if_neg c).symm.trans h
      cases h9
theorem nbT_lt {T : Nat → Nat} {a b w : Nat} (h : nbT T a b 3 = some w) : w ≤ 999 := by
  unfold nbT at h
  by_cases c : a + 1 ≤ b ∧ b ≤ a + 3
  · rw [if_pos c] at h
    have h9 := nbw_lt _ _ _ _ h
    have h8 : (10 : Nat) ^ (b - a) ≤ 10 ^ 3 := Nat.pow_le_pow_right (by omega) (by omega)
    omega
  · rw [if_neg c] at h
    cases h
theorem nbv_n {X : Option Nat} {r : Int32} (h : r = nbv X) (hX : ∀ w, X = some w → w ≤ 999) (c : r < 0) : X = none := by
  cases X with
  | none => rfl
  | some w => exact absurd (show nI w < 0 from by rw [h] at c; exact c) (nI_pos (by have h9 := hX w rfl; omega))
theorem nbv_s {X : Option Nat} {r : Int32} (h : r = nbv X) (hX : ∀ w, X = some w → w ≤ 999) (c : ¬ r < 0) : ∃ w : Nat, w ≤ 999 ∧ r = nI w ∧ X = some w := by
  cases X with
  | none => exact absurd (show r < 0 by rw [h]; decide) c
  | some w => exact ⟨w, hX w rfl, h, rfl⟩
def qdw (T : Nat → Nat) (b : Nat) : Nat → Nat → Nat → Nat → Nat → Int32 → Option (Nat × Int32)
  | 0, _, _, _, np, x => some (np, x)
  | k + 1, i, dg, v, np, x => if i < b ∧ (48 ≤ T i ∧ T i ≤ 57) then (if 3 < dg + 1 then none else qdw T b k (i + 1) (dg + 1) (v * 10 + T i - 48) np x) else if (i < b ∧ ¬ T i = 46) ∨ dg = 0 ∨ 255 < v then none else qdw T b k (i + 1) 0 0 (np + 1) ((x <<< ((8 : Int32) &&& 31)) ||| nI v)
def qdT (T : Nat → Nat) (a b : Nat) : Option (Nat × Int32) := qdw T b (b + 1 - a) a 0 0 0 0
theorem qdw_s {T : Nat → Nat} {b k i dg v np : Nat} {x : Int32} : qdw T b (k + 1) i dg v np x = if i < b ∧ (48 ≤ T i ∧ T i ≤ 57) then (if 3 < dg + 1 then none else qdw T b k (i + 1) (dg + 1) (v * 10 + T i - 48) np x) else if (i < b ∧ ¬ T i = 46) ∨ dg = 0 ∨ 255 < v then none else qdw T b k (i + 1) 0 0 (np + 1) ((x <<< ((8 : Int32) &&& 31)) ||| nI v) := rfl
def qdx (T : Nat → Nat) (b i np : Nat) (x : Int32) : Option Nat → Option (Nat × Int32)
  | none => none
  | some v => if 255 < v then none else qdw T b (b - i) (i + 1) 0 0 (np + 1) ((x <<< ((8 : Int32) &&& 31)) ||| nI v)
theorem qdw_g {T : Nat → Nat} {b i np : Nat} {x : Int32} (hi : i ≤ b) (he : i = b ∨ T i = 46) : ∀ n j dg v, n = i - j → j ≤ i → (∀ y, j ≤ y → y < i → ¬ T y = 46) → qdw T b (b + 1 - j) j dg v np x = if 1 ≤ n + dg ∧ n + dg ≤ 3 then qdx T b i np x (nbw T n j v) else if n = 0 ∧ 3 < dg then qdx T b i np x (nbw T n j v) else none := by
  intro n
  induction n with
  | zero =>
    intro j dg v hn hj _
    obtain rfl : j = i := by omega
    rw [show b + 1 - j = (b - j) + 1 by omega, qdw_s, if_neg (fun q => by rcases he with h | h <;> omega)]
    by_cases c : dg = 0
    · rw [if_pos (Or.inr (Or.inl c)), if_neg (by omega), if_neg (by omega)]
    · by_cases c2 : 255 < v
      · have e9 : qdx T b j np x (nbw T 0 j v) = none := if_pos c2
        rw [if_pos (Or.inr (Or.inr c2)), e9]
        split
        · rfl
        · split <;> rfl
      · have e9 : qdx T b j np x (nbw T 0 j v) = qdw T b (b - j) (j + 1) 0 0 (np + 1) ((x <<< ((8 : Int32) &&& 31)) ||| nI v) := if_neg c2
        rw [if_neg (fun q => by rcases q with q | q | q; rcases he with h | h <;> omega; omega; omega), e9]
        by_cases c3 : 1 ≤ 0 + dg ∧ 0 + dg ≤ 3
        · rw [if_pos c3]
        · rw [if_neg c3, if_pos (by omega)]
  | succ n ih =>
    intro j dg v hn hj hd
    have hjd := hd j (Nat.le_refl _) (by omega)
    rw [show b + 1 - j = (b + 1 - (j + 1)) + 1 by omega, qdw_s]
    by_cases c : 48 ≤ T j ∧ T j ≤ 57
    · have e9 : nbw T (n + 1) j v = nbw T n (j + 1) (v * 10 + T j - 48) := if_pos c
      rw [if_pos ⟨by omega, c⟩, e9]
      by_cases c1 : 3 < dg + 1
      · rw [if_pos c1, if_neg (by omega), if_neg (by omega)]
      · rw [if_neg c1, ih (j + 1) (dg + 1) _ (by omega) (by omega) (fun y h1 h2 => hd y (by omega) h2), show n + (dg + 1) = n + 1 + dg by omega]
        by_cases c3 : 1 ≤ n + 1 + dg ∧ n + 1 + dg ≤ 3
        · rw [if_pos c3, if_pos c3]
        · rw [if_neg c3, if_neg c3, if_neg (by omega), if_neg (by omega)]
    · have e9 : nbw T (n + 1) j v = none := if_neg c
      rw [if_neg (fun q => c q.2), if_pos (Or.inl ⟨by omega, hjd⟩), e9]
      split
      · rfl
      · split <;> rfl
theorem qdw_at {T : Nat → Nat} {b i j np : Nat} {x : Int32} {X : Option (Nat × Int32)} (h : qdw T b (b + 1 - j) j 0 0 np x = X) (hi : i ≤ b) (hj : j ≤ i) (he : i = b ∨ T i = 46) (hd : ∀ y, j ≤ y → y < i → ¬ T y = 46) : X = qdx T b i np x (nbT T j i 3) := by
  rw [← h, qdw_g hi he (i - j) j 0 0 rfl hj hd]
  unfold nbT
  by_cases c : j + 1 ≤ i ∧ i ≤ j + 3
  · rw [if_pos c, if_pos (by omega)]
  · rw [if_neg c, if_neg (by omega), if_neg (by omega)]
    rfl
theorem qdw_y {T : Nat → Nat} {b i j np v : Nat} {x : Int32} {X : Option (Nat × Int32)} (h : qdw T b (b + 1 - j) j 0 0 np x = X) (hi : i ≤ b) (hj : j ≤ i) (he : i = b ∨ T i = 46) (hd : ∀ y, j ≤ y → y < i → ¬ T y = 46) (hv : nbT T j i 3 = some v) (h2 : v ≤ 255) : qdw T b (b + 1 - (i + 1)) (i + 1) 0 0 (np + 1) ((x <<< ((8 : Int32) &&& 31)) ||| nI v) = X := by
  rw [qdw_at h hi hj he hd, hv, show b + 1 - (i + 1) = b - i by omega]
  exact (if_neg (by omega)).symm
theorem qdw_n {T : Nat → Nat} {b i j np : Nat} {x : Int32} {X : Option (Nat × Int32)} (h : qdw T b (b + 1 - j) j 0 0 np x = X) (hi : i ≤ b) (hj : j ≤ i) (he : i = b ∨ T i = 46) (hd : ∀ y, j ≤ y → y < i → ¬ T y = 46) (hv : ∀ v, nbT T j i 3 = some v → 255 < v) : X = none := by
  rw [qdw_at h hi hj he hd]
  cases e : nbT T j i 3 with
  | none => rfl
  | some v => exact if_pos (hv v e)
set_option maxHeartbeats 4000000 in
set_option maxRecDepth 100000 in
theorem s_X10_readQuad_e (l : Launch) (dC : Nat → ClassId) (dI : Nat → Nat → Nat) (cs : Nat → ClassId) (ty : TyM) (L : List Nat) (sz : Nat) (F : Nat → va_E) (h0 : Nat) (ρ : Nat) (g1 : Nat) (σ : Nat) (r1 : Nat) (n1 : Nat) (z : Nat) (a : Nat) (b : Nat) (f : Nat → Int32) (d0 : Int32) (d1 : Int32) (d2 : Int32) (t3 : Nat) (d4 : Int32) (d5 : Int32) (hW : WT ty L) (hL_h0 : h0 ∈ L) (hT_h0 : ty h0 = (10, ρ, [])) (hL_g1 : g1 ∈ L) (hT_g1 : ty g1 = (0, σ, [r1, n1])) (hFg : F g1 = .inr (0, [.ref r1, .int (nI z), .int 0])) (hFr : F r1 = .inl (cs 16, n1, .inl f)) (hzn : z ≤ n1) (hn9 : n1 ≤ 10000) (hsr : ρ ≠ σ) (ha1 : 1 ≤ a) (hab : a ≤ b) (hb9 : b ≤ 9000) (ht3 : t3 ≤ 10000) (hF0 : F h0 = .inr (10, [.int d0, .int d1, .int d2, .int (nI t3), .int d4, .int d5])) : Met l yX10_readQuad (.code yX10_readQuad cX10_readQuad 8 (some .boolean) :: tb) ({ frames := 2, cells := 0, slots := 0, locals := 46 }) (va_Pc [.ref h0, .ref g1, .int (nI a), .int (nI b)] (PT (dC, dI) cs ty L F sz)) (va_Qi (fun (r : Int32) (ga : Int32) => (r = 1 ∧ qdT (TC f z) a b = some (4, ga)) ∨ (r = 0 ∧ ∀ x9, ¬ qdT (TC f z) a b = some (4, x9))) (fun (ga : Int32) T9 => ∃ F2 : Nat → va_E, QT (dC, dI) cs ty L [ρ] F F2 (va_A (va_pl L F) sz) T9 ∧ F2 h0 = .inr (10, [.int d0, .int d1, .int d2, .int (nI t3), .int d4, .int ga])) (va_A (va_pl L F) sz)) 0 0 (va_A (va_pl L F) sz) := by
  refine Met.ofW (cc := cX10_readQuad) (maxL := 8) (ret := (some .boolean)) (by decide) rfl ?_
  intro p e s m args below meth c s₁ B hml hv
  obtain ⟨rfl, hsz, hP, hK, hD0, hE, hO⟩ := hv
  have hx := B.exec
  have hb := B.bytes
  have hr := B.returns
  have hts : ∀ w ∈ tb, w.before _ s = true := fun w h => atoms_spec (ws := .code yX10_readQuad cX10_readQuad 8 (some .boolean) :: tb) B.pre w (List.mem_cons_of_mem _ h)
  have hown : s.vm.findClass RX10 = some m.cls := findClass_of_methodNamed B.named
  have hlocks := B.notSynchronized
  subst hsz
  have hD := hD0.self (sz := s.heap.size)
  generalize hAe : va_A (va_pl L F) s.heap.size = A at hD ⊢
  have hA : ∀ q : Nat, s.heap.size ≤ q → A q := fun q h => by rw [← hAe]; exact Or.inr h
  have hS : va_S A s.heap s.heap [] := va_S.rf
  have hR : FR ty [ρ] F F := FR.refl
  have hl := lv_entry ([.ref h0, .ref g1, .int (nI a), .int (nI b)]) (n := 8) (Nat.le_of_ble_eq_true rfl)
  rw [lg_entry_eq]
  generalize (lg_sl ([.ref h0, .ref g1, .int (nI a), .int (nI b)]) ++ List.replicate (8 - (lg_sl ([.ref h0, .ref g1, .int (nI a), .int (nI b)])).length) Slot.unset).toArray = ls at hl ⊢
  have hl : lv_has ls 8 [(0, .ref h0), (1, .ref g1), (2, .int (nI a)), (3, .int (nI b))] := hl
  obtain ⟨hi_1, ht_2, hq_3⟩ := hW.bytes hL_g1 hT_g1
  refine lv_iconst (v := 0) hx hb dX10_readQuad_0 (by decide) ?_
  refine lv_istore (lv' := [(4, .int 0), (0, .ref h0), (1, .ref g1), (2, .int (nI a)), (3, .int (nI b))]) hx hb dX10_readQuad_1 hl (by decide) rfl (fun ls hl => ?_)
  refine lv_iload_n hx hb dX10_readQuad_3 rfl (lv_at hl 3 rfl) ?_
  refine lv_iconst (v := 1) hx hb dX10_readQuad_4 (by decide) ?_
  refine lv_isub hx hb dX10_readQuad_5 ?_
  refine lv_topi (fun x_4 ex_4 => ?_)
  obtain rfl : x_4 = (nI (a - 1)) := ex_4.trans (pk_sub (b := 1) ha1)
  refine lv_istore (lv' := [(5, .int (nI (a - 1))), (4, .int 0), (0, .ref h0), (1, .ref g1), (2, .int (nI a)), (3, .int (nI b))]) hx hb dX10_readQuad_6 hl (by decide) rfl (fun ls hl => ?_)
  refine lv_aload_n hx hb dX10_readQuad_8 rfl (lv_at hl 2 rfl) ?_
  refine lv_iconst (v := 0) hx hb dX10_readQuad_9 (by decide) ?_
  refine pg_put (ci := 10) (v := .int 0) (ty := .int) (C := RX10) (T := TX10) (N := 6) hx hb hts it_10 tyX10 tyX10_ok nmX10 hown hK hP hD hS hL_h0 hF0 rfl 5 (by decide) (hts _ kt_131) (fun _ h9 => h9) rfl (by decide +kernel) (rfl) (rfl) (Nat.le_of_ble_eq_true rfl) dX10_readQuad_10 (fun H locs hP hD hS => ?_)
  obtain ⟨F_5, he_6, hP, hD, hO, hR⟩ : ∃ G, G = va_up F h0 (.inr (10, [.int d0, .int d1, .int d2, .int (nI t3), .int d4, .int 0])) ∧ va_P (dC, dI) vwCl (va_pl L G) H ∧ va_D A (va_pl L G) ∧ OK cs ty L G ∧ FR ty [ρ] F G := ⟨_, rfl, hP, hD, hO.up (sh.term hT_h0 ⟨d0, d1, d2, t3, d4, 0, rfl, (by first | omega | assumption | exact Or.inl rfl | exact Or.inr rfl)⟩), hR.up hT_h0 (by simp)⟩
  have hF_7 : F_5 h0 = .inr (10, [.int d0, .int d1, .int d2, .int (nI t3), .int d4, .int 0]) := by rw [he_6]; exact up_self
  have hF_8 : F_5 g1 = .inr (0, [.ref r1, .int (nI z), .int 0]) := by rw [he_6, up_ne (ne_ty hT_g1 hT_h0 (by simp))]; exact hFg
  have hF_9 : F_5 r1 = .inl (cs 16, n1, .inl f) := by rw [he_6, up_ne (ne_ty ht_2 hT_h0 (by simp))]; exact hFr
  refine lv_iload_n hx hb dX10_readQuad_13 rfl (lv_at hl 4 rfl) ?_
  refine lv_istore (lv' := [(6, .int (nI a)), (5, .int (nI (a - 1))), (4, .int 0), (0, .ref h0), (1, .ref g1), (2, .int (nI a)), (3, .int (nI b))]) hx hb dX10_readQuad_14 hl (by decide) rfl (fun ls hl => ?_)
  refine W.widen (k := 0) (n := 0) (by omega) (by omega) ?_
  have hF_11 : F g1 = .inr (0, [.ref r1, .int (nI z), .int 0]) := (hR g1 (by rw [hT_g1]; simp only [List.mem_cons, List.not_mem_nil, or_false]; omega)).symm.trans hF_8
  have hF_12 : F r1 = .inl (cs 16, n1, .inl f) := (hR r1 (by rw [ht_2]; simp only [List.mem_cons, List.not_mem_nil, or_false]; omega)).symm.trans hF_9
  refine pl_loop (σ := Nat × Nat × Nat × Int32) A (dC, dI) cs ty L [ρ] F 16 8 (fun (i, np, dd, aa) => [(6, .int (nI i)), (5, .int (nI dd)), (4, .int (nI np)), (0, .ref h0), (1, .ref g1), (2, .int (nI a)), (3, .int (nI b))]) (fun (i, np, dd, aa) => []) (fun (i, np, dd, aa) FF => (a ≤ i ∧ i ≤ b + 1 ∧ dd + 1 ≤ i ∧ a ≤ dd + 1 ∧ np ≤ i - a) ∧ (∀ j, dd + 1 ≤ j → j < i → ¬ (TC f z) j = 46) ∧ qdw (TC f z) b (b + 1 - (dd + 1)) (dd + 1) 0 0 np aa = qdT (TC f z) a b ∧ (i ≤ b ∨ dd = b) ∧ FF h0 = .inr (10, [.int d0, .int d1, .int d2, .int (nI t3), .int d4, .int aa])) (fun (i, np, dd, aa) => b + 1 - i) ?_ (a, 0, (a - 1), 0) F_5 (⟨⟨by omega, by omega, by omega, by omega, by omega⟩, fun j h1 h2 => absurd h2 (by omega), by rw [show a - 1 + 1 = a by omega]; rfl, Or.inl hab, hF_7⟩) hO hR _ _ hP hD hS ls (lv_sub hl [0, 1, 2, 3, 4, 5, 6] rfl)
  rintro ⟨i, np, dd, aa⟩ F_10 hv_13 hO hR ih_14 H locs hP hD hS ls hl
  have hl : lv_has ls 8 [(6, .int (nI i)), (5, .int (nI dd)), (4, .int (nI np)), (0, .ref h0), (1, .ref g1), (2, .int (nI a)), (3, .int (nI b))] := hl
  have hv_13 : (a ≤ i ∧ i ≤ b + 1 ∧ dd + 1 ≤ i ∧ a ≤ dd + 1 ∧ np ≤ i - a) ∧ (∀ j, dd + 1 ≤ j → j < i → ¬ (TC f z) j = 46) ∧ qdw (TC f z) b (b + 1 - (dd + 1)) (dd + 1) 0 0 np aa = qdT (TC f z) a b ∧ (i ≤ b ∨ dd = b) ∧ F_10 h0 = .inr (10, [.int d0, .int d1, .int d2, .int (nI t3), .int d4, .int aa]) := hv_13
  refine W.eq (g2 := F0 m 16 ls []) rfl ?_
  have hF_15 : F_10 g1 = .inr (0, [.ref r1, .int (nI z), .int 0]) := (hR g1 (by rw [hT_g1]; simp only [List.mem_cons, List.not_mem_nil, or_false]; omega)).trans hF_11
  have hF_16 : F_10 r1 = .inl (cs 16, n1, .inl f) := (hR r1 (by rw [ht_2]; simp only [List.mem_cons, List.not_mem_nil, or_false]; omega)).trans hF_12
  obtain ⟨⟨hv1, hv2, hv3, hv4, hv5⟩, hv6, hv7, hv8, hv9⟩ := id hv_13
  refine lv_iload hx hb dX10_readQuad_16 (lv_at hl 0 rfl) ?_
  refine lv_iload_n hx hb dX10_readQuad_18 rfl (lv_at hl 6 rfl) ?_
  refine lv_icmp_gt (tgt := 97) hx hb dX10_readQuad_19 (by decide) (fun c_17 => ?_) (fun c_17 => ?_)
  ·
    have hi_18 : b < i := (nI_ltI (a := b) (b := i) (by omega) (by omega)).mp c_17
    have hib : b < i := (nI_ltI (by omega) (by omega)).mp c_17
    refine lv_iload hx hb dX10_readQuad_97 (lv_at hl 2 rfl) ?_
    refine lv_iconst (v := 4) hx hb dX10_readQuad_99 (by decide) ?_
    refine lv_icmp_ne (tgt := 107) hx hb dX10_readQuad_100 (by decide) (fun c_19 => ?_) (fun c_19 => ?_)
    ·
      have hall : qdT (TC f z) a b = some (np, aa) := by rw [← hv7, show b + 1 - (dd + 1) = 0 by omega]; rfl
      refine lv_iconst (v := 0) hx hb dX10_readQuad_107 (by decide) ?_
      refine W.widen (k := 0) (n := 0) (by omega) (by omega) ?_
      exact W.zret (v := 0) (ty := .boolean) hx hb hr (by decide) (fun t ht hWm => ⟨⟨0, aa, rfl, (Or.inr ⟨rfl, fun x9 q => by rw [hall] at q; injection q with q1; injection q1 with q2; exact c_19 (by rw [q2]; rfl)⟩), ⟨F_10, QT.mk ht hP hD hO hR, hv9⟩⟩, hS.F ht⟩) hS.2.2 dX10_readQuad_108
    ·
      have hall : qdT (TC f z) a b = some (np, aa) := by rw [← hv7, show b + 1 - (dd + 1) = 0 by omega]; rfl
      obtain rfl : np = 4 := (nI_eq (b := 4) (by omega) (by omega)).mp c_19
      refine lv_iconst (v := 1) hx hb dX10_readQuad_103 (by decide) ?_
      refine lv_goto (tgt := 108) hx hb dX10_readQuad_104 (by decide) ?_
      refine W.widen (k := 0) (n := 0) (by omega) (by omega) ?_
      exact W.zret (v := 1) (ty := .boolean) hx hb hr (by decide) (fun t ht hWm => ⟨⟨1, aa, rfl, (Or.inl ⟨rfl, hall⟩), ⟨F_10, QT.mk ht hP hD hO hR, hv9⟩⟩, hS.F ht⟩) hS.2.2 dX10_readQuad_108
  ·
    have hi_22 : i ≤ b := Nat.not_lt.mp (fun q => c_17 ((nI_ltI (a := b) (b := i) (by omega) (by omega)).mpr q))
    have hib : i ≤ b := Nat.not_lt.mp (fun q => c_17 ((nI_ltI (by omega) (by omega)).mpr q))
    refine lv_iload hx hb dX10_readQuad_22 (lv_at hl 0 rfl) ?_
    refine lv_iload_n hx hb dX10_readQuad_24 rfl (lv_at hl 6 rfl) ?_
    refine lv_icmp_ge (tgt := 42) hx hb dX10_readQuad_25 (by decide) (fun c_23 => ?_) (fun c_23 => ?_)
    ·
      have hi_24 : b ≤ i := leN (N := b) c_23
      have hend : i = b ∨ (TC f z) i = 46 := Or.inl (by have h9 : b ≤ i := (nI_leI (by omega) (by omega)).mp c_23; omega)
      refine lv_aload_n hx hb dX10_readQuad_42 rfl (lv_at hl 4 rfl) ?_
      refine lv_iload hx hb dX10_readQuad_43 (lv_at hl 1 rfl) ?_
      refine lv_iconst (v := 1) hx hb dX10_readQuad_45 (by decide) ?_
      refine lv_iadd hx hb dX10_readQuad_46 ?_
      refine lv_topi (fun x_25 ex_25 => ?_)
      obtain rfl : x_25 = (nI (dd + 1)) := ex_25.trans (nI_add dd 1)
      refine lv_iload hx hb dX10_readQuad_47 (lv_at hl 0 rfl) ?_
      refine lv_iconst (v := 3) hx hb dX10_readQuad_49 (by decide) ?_
      refine W.eq (g2 := F0 m 50 ls [.int (nI 3), .int (nI i), .int (nI (dd + 1)), .ref g1]) rfl ?_
      have hFc := pg_free hD hS hA
      refine va_calli (va_runS (As := [.ref g1, .int (nI (dd + 1)), .int (nI i), .int (nI 3)]) (rest := []) ⟨hx, hb, hml, hown, hts⟩ (s_X10_numberOf_e l dC dI cs ty L H.size F_10 g1 σ r1 n1 z (dd + 1) i 3 f hW hL_g1 hT_g1 hF_15 hF_16 (by omega) (by omega) (by omega) (by omega) (by omega)) ⟨callB_of 4 hts (gi kt_132) rfl rfl rfl (hts _ kt_90) (hts _ kt_133) (by decide +kernel) ⟨Nat.le_of_ble_eq_true rfl, Nat.le_of_ble_eq_true rfl⟩, (hts _ kt_134)⟩ ⟨fun a U g mk q => ⟨q.1, PT.calling q.2⟩, fun U hU hWm => ⟨rfl, PT.mk hU hWm hP hK hD hE hO⟩⟩ rfl rfl hl.1 rfl (lv_room (Nat.le_of_ble_eq_true rfl)) dX10_readQuad_50 ⟨by show _ + 0 ≤ 0; omega, by show _ + 0 ≤ 0; omega⟩) hS (fun q _ h => hFc q h) hFc (fun r_26 u t H1 locs ht hvm hw hB hz1 hk1 hS => ?_)
      obtain ⟨F_27, hB1⟩ := hB
      obtain rfl : F_10 = F_27 := (funext (fun a => hB1.2.2.2 a List.not_mem_nil)).symm
      obtain ⟨hP, hD, hO, hR⟩ := QT.back hB1 ht hFc hR (fun q h => absurd h List.not_mem_nil)
      generalize H1 = H at hP hS ⊢
      have hw : r_26 = nbv (nbT (TC f z) (dd + 1) i 3) := hw
      have hw_28 := hw
      refine lv_istore (lv' := [(7, .int r_26), (6, .int (nI i)), (5, .int (nI dd)), (4, .int (nI np)), (0, .ref h0), (1, .ref g1), (2, .int (nI a)), (3, .int (nI b))]) hx hb dX10_readQuad_53 hl (by decide) rfl (fun ls hl => ?_)
      refine lv_iload hx hb dX10_readQuad_55 (lv_at hl 0 rfl) ?_
      refine lv_if_lt (tgt := 68) hx hb dX10_readQuad_57 (by decide) (fun c_29 => ?_) (fun c_29 => ?_)
      ·
        have hno : qdT (TC f z) a b = none := qdw_n hv7 hib hv3 hend hv6 (fun v9 h9 => by rw [nbv_n hw_28 (fun w9 h9 => nbT_lt h9) c_29] at h9; cases h9)
        refine lv_iconst (v := 0) hx hb dX10_readQuad_68 (by decide) ?_
        refine W.widen (k := 0) (n := 0) (by omega) (by omega) ?_
        exact W.zret (v := 0) (ty := .boolean) hx hb hr (by decide) (fun t ht hWm => ⟨⟨0, aa, rfl, (Or.inr ⟨rfl, fun x9 q => by rw [hno] at q; cases q⟩), ⟨F_10, QT.mk ht hP hD hO hR, hv9⟩⟩, hS.F ht⟩) hS.2.2 dX10_readQuad_69
      ·
        obtain ⟨nw, hnw9, rfl, hnw⟩ := nbv_s hw_28 (fun w9 h9 => nbT_lt h9) c_29
        refine lv_iload hx hb dX10_readQuad_60 (lv_at hl 0 rfl) ?_
        refine lv_sipush (v := 255) hx hb dX10_readQuad_62 (by decide) ?_
        refine lv_icmp_le (tgt := 70) hx hb dX10_readQuad_65 (by decide) (fun c_30 => ?_) (fun c_30 => ?_)
        ·
          have hw255 : nw ≤ 255 := (nI_leI (b := 255) (by omega) (by omega)).mp c_30
          refine lv_aload_n hx hb dX10_readQuad_70 rfl (lv_at hl 4 rfl) ?_
          refine lv_aload_n hx hb dX10_readQuad_71 rfl (lv_at hl 4 rfl) ?_
          refine pg_get (ci := 10) (v := .int aa) (C := RX10) (T := TX10) (N := 6) hx hb hts it_10 hown hK hP hL_h0 hv9 rfl 5 (by decide) (hts _ kt_131) (fun _ h9 => h9) rfl dX10_readQuad_72 ?_
          refine lv_bipush (v := 8) hx hb dX10_readQuad_75 (by decide) ?_
          refine lv_ishl hx hb dX10_readQuad_77 ?_
          refine lv_topi (fun x_32 ex_32 => ?_)
          obtain rfl : x_32 = (aa <<< ((8 : Int32) &&& 31)) := ex_32.trans (rfl)
          refine lv_iload hx hb dX10_readQuad_78 (lv_at hl 0 rfl) ?_
          refine lv_ior hx hb dX10_readQuad_80 ?_
          refine lv_topi (fun x_33 ex_33 => ?_)
          obtain rfl : x_33 = ((aa <<< ((8 : Int32) &&& 31)) ||| nI nw) := ex_33.trans (rfl)
          refine pg_put (ci := 10) (v := .int ((aa <<< ((8 : Int32) &&& 31)) ||| nI nw)) (ty := .int) (C := RX10) (T := TX10) (N := 6) hx hb hts it_10 tyX10 tyX10_ok nmX10 hown hK hP hD hS hL_h0 hv9 rfl 5 (by decide) (hts _ kt_131) (fun _ h9 => h9) rfl (by decide +kernel) (rfl) (rfl) (Nat.le_of_ble_eq_true rfl) dX10_readQuad_81 (fun H locs hP hD hS => ?_)
          obtain ⟨F_34, he_35, hP, hD, hO, hR⟩ : ∃ G, G = va_up F_10 h0 (.inr (10, [.int d0, .int d1, .int d2, .int (nI t3), .int d4, .int ((aa <<< ((8 : Int32) &&& 31)) ||| nI nw)])) ∧ va_P (dC, dI) vwCl (va_pl L G) H ∧ va_D A (va_pl L G) ∧ OK cs ty L G ∧ FR ty [ρ] F G := ⟨_, rfl, hP, hD, hO.up (sh.term hT_h0 ⟨d0, d1, d2, t3, d4, ((aa <<< ((8 : Int32) &&& 31)) ||| nI nw), rfl, (by first | omega | assumption | exact Or.inl rfl | exact Or.inr rfl)⟩), hR.up hT_h0 (by simp)⟩
          have hF_36 : F_34 h0 = .inr (10, [.int d0, .int d1, .int d2, .int (nI t3), .int d4, .int ((aa <<< ((8 : Int32) &&& 31)) ||| nI nw)]) := by rw [he_35]; exact up_self
          have hF_37 : F_34 g1 = .inr (0, [.ref r1, .int (nI z), .int 0]) := by rw [he_35, up_ne (ne_ty hT_g1 hT_h0 (by simp))]; exact hF_15
          have hF_38 : F_34 r1 = .inl (cs 16, n1, .inl f) := by rw [he_35, up_ne (ne_ty ht_2 hT_h0 (by simp))]; exact hF_16
          refine lv_iinc (v := (nI (np + 1))) (lv' := [(4, .int (nI (np + 1))), (7, .int (nI nw)), (6, .int (nI i)), (5, .int (nI dd)), (0, .ref h0), (1, .ref g1), (2, .int (nI a)), (3, .int (nI b))]) hx hb dX10_readQuad_84 hl (k := 3) rfl (nI_1 _) (by decide) rfl (fun ls hl => ?_)
          refine lv_iload hx hb dX10_readQuad_87 (lv_at hl 2 rfl) ?_
          refine lv_istore (lv' := [(5, .int (nI i)), (4, .int (nI (np + 1))), (7, .int (nI nw)), (6, .int (nI i)), (0, .ref h0), (1, .ref g1), (2, .int (nI a)), (3, .int (nI b))]) hx hb dX10_readQuad_89 hl (by decide) rfl (fun ls hl => ?_)
          refine lv_iinc (v := (nI (i + 1))) (lv' := [(6, .int (nI (i + 1))), (5, .int (nI i)), (4, .int (nI (np + 1))), (7, .int (nI nw)), (0, .ref h0), (1, .ref g1), (2, .int (nI a)), (3, .int (nI b))]) hx hb dX10_readQuad_91 hl (k := 3) rfl (nI_1 _) (by decide) rfl (fun ls hl => ?_)
          refine lv_goto (tgt := 16) hx hb dX10_readQuad_94 (by decide) ?_
          refine W.widen (k := 0) (n := 0) (by omega) (by omega) ?_
          exact ih_14 ((i + 1), (np + 1), i, ((aa <<< ((8 : Int32) &&& 31)) ||| nI nw)) F_34 (⟨⟨by omega, by omega, by omega, by omega, by omega⟩, fun j h1 h2 => absurd h2 (by omega), qdw_y hv7 hib hv3 hend hv6 hnw hw255, by omega, hF_36⟩) (by show b + 1 - (i + 1) < b + 1 - i; omega) hO hR _ _ hP hD hS ls (lv_sub hl [0, 1, 2, 4, 5, 6, 7] rfl)
        ·
          have hno : qdT (TC f z) a b = none := qdw_n hv7 hib hv3 hend hv6 (fun v9 h9 => by rw [hnw] at h9; injection h9 with h8; have h7 : ¬ nw ≤ 255 := fun q => c_30 ((nI_leI (b := 255) (by omega) (by omega)).mpr q); omega)
          refine lv_iconst (v := 0) hx hb dX10_readQuad_68 (by decide) ?_
          refine W.widen (k := 0) (n := 0) (by omega) (by omega) ?_
          exact W.zret (v := 0) (ty := .boolean) hx hb hr (by decide) (fun t ht hWm => ⟨⟨0, aa, rfl, (Or.inr ⟨rfl, fun x9 q => by rw [hno] at q; cases q⟩), ⟨F_10, QT.mk ht hP hD hO hR, hv9⟩⟩, hS.F ht⟩) hS.2.2 dX10_readQuad_69
    ·
      have hi_40 : i < b := ltN (N := b) c_23
      have hilt : i < b := Nat.not_le.mp (fun q => c_23 ((nI_leI (by omega) (by omega)).mpr q))
      refine lv_aload_n hx hb dX10_readQuad_28 rfl (lv_at hl 4 rfl) ?_
      refine lv_iload hx hb dX10_readQuad_29 (lv_at hl 0 rfl) ?_
      have hFc := pg_free hD hS hA
      refine va_calli (va_runV (As := [.int (nI i)]) (rest := []) ⟨hx, hb, hml, hown, hts⟩ (s_X0_at_g l dC dI cs ty L H.size F_10 g1 σ r1 n1 z i f hW hL_g1 hT_g1 hF_15 hF_16 (by omega) (by omega) (by omega)) ⟨callB_of 1 hts (gi kt_21) rfl rfl rfl (hts _ kt_1) (hts _ kt_120) (by decide +kernel) ⟨Nat.le_of_ble_eq_true rfl, Nat.le_of_ble_eq_true rfl⟩, (hts _ kt_23), (hts _ kt_24)⟩ ⟨fun a U g mk q => ⟨q.1, PT.calling q.2⟩, pg_recv hK hP hL_g1 hF_15 (q := (RX0, TX0, 3)) rfl, fun U hU hWm => ⟨rfl, PT.mk hU hWm hP hK hD hE hO⟩⟩ rfl rfl hl.1 rfl (lv_room (Nat.le_of_ble_eq_true rfl)) dX10_readQuad_31 ⟨by show _ + 0 ≤ 0; omega, by show _ + 0 ≤ 0; omega⟩) hS (fun q _ h => hFc q h) hFc (fun r_41 u t H1 locs ht hvm hw hB hz1 hk1 hS => ?_)
      obtain ⟨F_42, hB1⟩ := hB
      obtain rfl : F_10 = F_42 := (funext (fun a => hB1.2.2.2 a List.not_mem_nil)).symm
      obtain ⟨hP, hD, hO, hR⟩ := QT.back hB1 ht hFc hR (fun q h => absurd h List.not_mem_nil)
      generalize H1 = H at hP hS ⊢
      have hw : r_41 = atn f z i := hw
      have hw_43 := hw
      subst hw_43
      refine lv_bipush (v := 46) hx hb dX10_readQuad_34 (by decide) ?_
      refine lv_icmp_eq (tgt := 42) hx hb dX10_readQuad_36 (by decide) (fun c_44 => ?_) (fun c_44 => ?_)
      ·
        have hend : i = b ∨ (TC f z) i = 46 := Or.inr ((cdv_eq (by first | decide | omega)).mpr c_44)
        refine lv_aload_n hx hb dX10_readQuad_42 rfl (lv_at hl 4 rfl) ?_
        refine lv_iload hx hb dX10_readQuad_43 (lv_at hl 1 rfl) ?_
        refine lv_iconst (v := 1) hx hb dX10_readQuad_45 (by decide) ?_
        refine lv_iadd hx hb dX10_readQuad_46 ?_
        refine lv_topi (fun x_45 ex_45 => ?_)
        obtain rfl : x_45 = (nI (dd + 1)) := ex_45.trans (nI_add dd 1)
        refine lv_iload hx hb dX10_readQuad_47 (lv_at hl 0 rfl) ?_
        refine lv_iconst (v := 3) hx hb dX10_readQuad_49 (by decide) ?_
        refine W.eq (g2 := F0 m 50 ls [.int (nI 3), .int (nI i), .int (nI (dd + 1)), .ref g1]) rfl ?_
        have hFc := pg_free hD hS hA
        refine va_calli (va_runS (As := [.ref g1, .int (nI (dd + 1)), .int (nI i), .int (nI 3)]) (rest := []) ⟨hx, hb, hml, hown, hts⟩ (s_X10_numberOf_e l dC dI cs ty L H.size F_10 g1 σ r1 n1 z (dd + 1) i 3 f hW hL_g1 hT_g1 hF_15 hF_16 (by omega) (by omega) (by omega) (by omega) (by omega)) ⟨callB_of 4 hts (gi kt_132) rfl rfl rfl (hts _ kt_90) (hts _ kt_133) (by decide +kernel) ⟨Nat.le_of_ble_eq_true rfl, Nat.le_of_ble_eq_true rfl⟩, (hts _ kt_134)⟩ ⟨fun a U g mk q => ⟨q.1, PT.calling q.2⟩, fun U hU hWm => ⟨rfl, PT.mk hU hWm hP hK hD hE hO⟩⟩ rfl rfl hl.1 rfl (lv_room (Nat.le_of_ble_eq_true rfl)) dX10_readQuad_50 ⟨by show _ + 0 ≤ 0; omega, by show _ + 0 ≤ 0; omega⟩) hS (fun q _ h => hFc q h) hFc (fun r_46 u t H1 locs ht hvm hw hB hz1 hk1 hS => ?_)
        obtain ⟨F_47, hB1⟩ := hB
        obtain rfl : F_10 = F_47 := (funext (fun a => hB1.2.2.2 a List.not_mem_nil)).symm
        obtain ⟨hP, hD, hO, hR⟩ := QT.back hB1 ht hFc hR (fun q h => absurd h List.not_mem_nil)
        generalize H1 = H at hP hS ⊢
        have hw : r_46 = nbv (nbT (TC f z) (dd + 1) i 3) := hw
        have hw_48 := hw
        refine lv_istore (lv' := [(7, .int r_46), (6, .int (nI i)), (5, .int (nI dd)), (4, .int (nI np)), (0, .ref h0), (1, .ref g1), (2, .int (nI a)), (3, .int (nI b))]) hx hb dX10_readQuad_53 hl (by decide) rfl (fun ls hl => ?_)
        refine lv_iload hx hb dX10_readQuad_55 (lv_at hl 0 rfl) ?_
        refine lv_if_lt (tgt := 68) hx hb dX10_readQuad_57 (by decide) (fun c_49 => ?_) (fun c_49 => ?_)
        ·
          have hno : qdT (TC f z) a b = none := qdw_n hv7 hib hv3 hend hv6 (fun v9 h9 => by rw [nbv_n hw_48 (fun w9 h9 => nbT_lt h9) c_49] at h9; cases h9)
          refine lv_iconst (v := 0) hx hb dX10_readQuad_68 (by decide) ?_
          refine W.widen (k := 0) (n := 0) (by omega) (by omega) ?_
          exact W.zret (v := 0) (ty := .boolean) hx hb hr (by decide) (fun t ht hWm => ⟨⟨0, aa, rfl, (Or.inr ⟨rfl, fun x9 q => by rw [hno] at q; cases q⟩), ⟨F_10, QT.mk ht hP hD hO hR, hv9⟩⟩, hS.F ht⟩) hS.2.2 dX10_readQuad_69
        ·
          obtain ⟨nw, hnw9, rfl, hnw⟩ := nbv_s hw_48 (fun w9 h9 => nbT_lt h9) c_49
          refine lv_iload hx hb dX10_readQuad_60 (lv_at hl 0 rfl) ?_
          refine lv_sipush (v := 255) hx hb dX10_readQuad_62 (by decide) ?_
          refine lv_icmp_le (tgt := 70) hx hb dX10_readQuad_65 (by decide) (fun c_50 => ?_) (fun c_50 => ?_)
          ·
            have hw255 : nw ≤ 255 := (nI_leI (b := 255) (by omega) (by omega)).mp c_50
            refine lv_aload_n hx hb dX10_readQuad_70 rfl (lv_at hl 4 rfl) ?_
            refine lv_aload_n hx hb dX10_readQuad_71 rfl (lv_at hl 4 rfl) ?_
            refine pg_get (ci := 10) (v := .int aa) (C := RX10) (T := TX10) (N := 6) hx hb hts it_10 hown hK hP hL_h0 hv9 rfl 5 (by decide) (hts _ kt_131) (fun _ h9 => h9) rfl dX10_readQuad_72 ?_
            refine lv_bipush (v := 8) hx hb dX10_readQuad_75 (by decide) ?_
            refine lv_ishl hx hb dX10_readQuad_77 ?_
            refine lv_topi (fun x_52 ex_52 => ?_)
            obtain rfl : x_52 = (aa <<< ((8 : Int32) &&& 31)) := ex_52.trans (rfl)
            refine lv_iload hx hb dX10_readQuad_78 (lv_at hl 0 rfl) ?_
            refine lv_ior hx hb dX10_readQuad_80 ?_
            refine lv_topi (fun x_53 ex_53 => ?_)
            obtain rfl : x_53 = ((aa <<< ((8 : Int32) &&& 31)) ||| nI nw) := ex_53.trans (rfl)
            refine pg_put (ci := 10) (v := .int ((aa <<< ((8 : Int32) &&& 31)) ||| nI nw)) (ty := .int) (C := RX10) (T := TX10) (N := 6) hx hb hts it_10 tyX10 tyX10_ok nmX10 hown hK hP hD hS hL_h0 hv9 rfl 5 (by decide) (hts _ kt_131) (fun _ h9 => h9) rfl (by decide +kernel) (rfl) (rfl) (Nat.le_of_ble_eq_true rfl) dX10_readQuad_81 (fun H locs hP hD hS => ?_)
            obtain ⟨F_54, he_55, hP, hD, hO, hR⟩ : ∃ G, G = va_up F_10 h0 (.inr (10, [.int d0, .int d1, .int d2, .int (nI t3), .int d4, .int ((aa <<< ((8 : Int32) &&& 31)) ||| nI nw)])) ∧ va_P (dC, dI) vwCl (va_pl L G) H ∧ va_D A (va_pl L G) ∧ OK cs ty L G ∧ FR ty [ρ] F G := ⟨_, rfl, hP, hD, hO.up (sh.term hT_h0 ⟨d0, d1, d2, t3, d4, ((aa <<< ((8 : Int32) &&& 31)) ||| nI nw), rfl, (by first | omega | assumption | exact Or.inl rfl | exact Or.inr rfl)⟩), hR.up hT_h0 (by simp)⟩
            have hF_56 : F_54 h0 = .inr (10, [.int d0, .int d1, .int d2, .int (nI t3), .int d4, .int ((aa <<< ((8 : Int32) &&& 31)) ||| nI nw)]) := by rw [he_55]; exact up_self
            have hF_57 : F_54 g1 = .inr (0, [.ref r1, .int (nI z), .int 0]) := by rw [he_55, up_ne (ne_ty hT_g1 hT_h0 (by simp))]; exact hF_15
            have hF_58 : F_54 r1 = .inl (cs 16, n1, .inl f) := by rw [he_55, up_ne (ne_ty ht_2 hT_h0 (by simp))]; exact hF_16
            refine lv_iinc (v := (nI (np + 1))) (lv' := [(4, .int (nI (np + 1))), (7, .int (nI nw)), (6, .int (nI i)), (5, .int (nI dd)), (0, .ref h0), (1, .ref g1), (2, .int (nI a)), (3, .int (nI b))]) hx hb dX10_readQuad_84 hl (k := 3) rfl (nI_1 _) (by decide) rfl (fun ls hl => ?_)
            refine lv_iload hx hb dX10_readQuad_87 (lv_at hl 2 rfl) ?_
            refine lv_istore (lv' := [(5, .int (nI i)), (4, .int (nI (np + 1))), (7, .int (nI nw)), (6, .int (nI i)), (0, .ref h0), (1, .ref g1), (2, .int (nI a)), (3, .int (nI b))]) hx hb dX10_readQuad_89 hl (by decide) rfl (fun ls hl => ?_)
            refine lv_iinc (v := (nI (i + 1))) (lv' := [(6, .int (nI (i + 1))), (5, .int (nI i)), (4, .int (nI (np + 1))), (7, .int (nI nw)), (0, .ref h0), (1, .ref g1), (2, .int (nI a)), (3, .int (nI b))]) hx hb dX10_readQuad_91 hl (k := 3) rfl (nI_1 _) (by decide) rfl (fun ls hl => ?_)
            refine lv_goto (tgt := 16) hx hb dX10_readQuad_94 (by decide) ?_
            refine W.widen (k := 0) (n := 0) (by omega) (by omega) ?_
            exact ih_14 ((i + 1), (np + 1), i, ((aa <<< ((8 : Int32) &&& 31)) ||| nI nw)) F_54 (⟨⟨by omega, by omega, by omega, by omega, by omega⟩, fun j h1 h2 => absurd h2 (by omega), qdw_y hv7 hib hv3 hend hv6 hnw hw255, by omega, hF_56⟩) (by show b + 1 - (i + 1) < b + 1 - i; omega) hO hR _ _ hP hD hS ls (lv_sub hl [0, 1, 2, 4, 5, 6, 7] rfl)
          ·
            have hno : qdT (TC f z) a b = none := qdw_n hv7 hib hv3 hend hv6 (fun v9 h9 => by rw [hnw] at h9; injection h9 with h8; have h7 : ¬ nw ≤ 255 := fun q => c_50 ((nI_leI (b := 255) (by omega) (by omega)).mpr q); omega)
            refine lv_iconst (v := 0) hx hb dX10_readQuad_68 (by decide) ?_
            refine W.widen (k := 0) (n := 0) (by omega) (by omega) ?_
            exact W.zret (v := 0) (ty := .boolean) hx hb hr (by decide) (fun t ht hWm => ⟨⟨0, aa, rfl, (Or.inr ⟨rfl, fun x9 q => by rw [hno] at q; cases q⟩), ⟨F_10, QT.mk ht hP hD hO hR, hv9⟩⟩, hS.F ht⟩) hS.2.2 dX10_readQuad_69
      ·
        refine lv_goto (tgt := 91) hx hb dX10_readQuad_39 (by decide) ?_
        refine lv_iinc (v := (nI (i + 1))) (lv' := [(6, .int (nI (i + 1))), (5, .int (nI dd)), (4, .int (nI np)), (0, .ref h0), (1, .ref g1), (2, .int (nI a)), (3, .int (nI b))]) hx hb dX10_readQuad_91 hl (k := 0) rfl (nI_1 _) (by decide) rfl (fun ls hl => ?_)
        refine lv_goto (tgt := 16) hx hb dX10_readQuad_94 (by decide) ?_
        refine W.widen (k := 0) (n := 0) (by omega) (by omega) ?_
        exact ih_14 ((i + 1), np, dd, aa) F_10 (⟨⟨by omega, by omega, by omega, by omega, by omega⟩, fun j h1 h2 => by rcases Nat.lt_or_ge j i with q | q; exact hv6 j h1 q; rw [show j = i by omega]; exact (fun q => c_44 ((cdv_eq (by first | decide | omega)).mp q)), hv7, Or.inl (by omega), hv9⟩) (by show b + 1 - (i + 1) < b + 1 - i; omega) hO hR _ _ hP hD hS ls (lv_sub hl [0, 1, 2, 3, 4, 5, 6] rfl)
set_option maxHeartbeats 4000000 in
set_option maxRecDepth 100000 in
theorem s_X10_setKind_e (l : Launch) (dC : Nat → ClassId) (dI : Nat → Nat → Nat) (cs : Nat → ClassId) (ty : TyM) (L : List Nat) (sz : Nat) (F : Nat → va_E) (h0 : Nat) (ρ : Nat) (d0 : Int32) (d1 : Int32) (d2 : Int32) (t3 : Nat) (d4 : Int32) (d5 : Int32) (x1 : Int32) (x2 : Int32) (hW : WT ty L) (hL_h0 : h0 ∈ L) (hT_h0 : ty h0 = (10, ρ, [])) (ht3 : t3 ≤ 10000) (hF0 : F h0 = .inr (10, [.int d0, .int d1, .int d2, .int (nI t3), .int d4, .int d5])) : Met l yX10_setKind (.code yX10_setKind cX10_setKind 3 none :: tb) ({ frames := 0, cells := 0, slots := 0, locals := 0 }) (va_Pc [.ref h0, .int x1, .int x2] (PT (dC, dI) cs ty L F sz)) (va_Qv (fun _ : Unit => True) (fun _ T9 => ∃ F2 : Nat → va_E, QT (dC, dI) cs ty L [ρ] F F2 (va_A (va_pl L F) sz) T9 ∧ F2 h0 = .inr (10, [.int x1, .int d1, .int x2, .int (nI t3), .int d4, .int d5])) (va_A (va_pl L F) sz)) 0 0 (va_A (va_pl L F) sz) := by
  refine Met.ofW (cc := cX10_setKind) (maxL := 3) (ret := none) (by decide) rfl ?_
  intro p e s m args below meth c s₁ B hml hv
  obtain ⟨rfl, hsz, hP, hK, hD0, hE, hO⟩ := hv
  have hx := B.exec
  have hb := B.bytes
  have hr := B.returns
  have hts : ∀ w ∈ tb, w.before _ s = true := fun w h => atoms_spec (ws := .code yX10_setKind cX10_setKind 3 none :: tb) B.pre w (List.mem_cons_of_mem _ h)
  have hown : s.vm.findClass RX10 = some m.cls := findClass_of_methodNamed B.named
  have hlocks := B.notSynchronized
  subst hsz
  have hD := hD0.self (sz := s.heap.size)
  generalize hAe : va_A (va_pl L F) s.heap.size = A at hD ⊢
  have hA : ∀ q : Nat, s.heap.size ≤ q → A q := fun q h => by rw [← hAe]; exact Or.inr h
  have hS : va_S A s.heap s.heap [] := va_S.rf
  have hR : FR ty [ρ] F F := FR.refl
  have hl := lv_entry ([.ref h0, .int x1, .int x2]) (n := 3) (Nat.le_of_ble_eq_true rfl)
  rw [lg_entry_eq]
  generalize (lg_sl ([.ref h0, .int x1, .int x2]) ++ List.replicate (3 - (lg_sl ([.ref h0, .int x1, .int x2])).length) Slot.unset).toArray = ls at hl ⊢
  have hl : lv_has ls 3 [(0, .ref h0), (1, .int x1), (2, .int x2)] := hl
  refine lv_aload_n hx hb dX10_setKind_0 rfl (lv_at hl 0 rfl) ?_
  refine lv_iload_n hx hb dX10_setKind_1 rfl (lv_at hl 1 rfl) ?_
  refine pg_put (ci := 10) (v := .int x1) (ty := .int) (C := RX10) (T := TX10) (N := 6) hx hb hts it_10 tyX10 tyX10_ok nmX10 hown hK hP hD hS hL_h0 hF0 rfl 0 (by decide) (hts _ kt_118) (fun _ h9 => h9) rfl (by decide +kernel) (rfl) (rfl) (Nat.le_of_ble_eq_true rfl) dX10_setKind_2 (fun H locs hP hD hS => ?_)
  obtain ⟨F_1, he_2, hP, hD, hO, hR⟩ : ∃ G, G = va_up F h0 (.inr (10, [.int x1, .int d1, .int d2, .int (nI t3), .int d4, .int d5])) ∧ va_P (dC, dI) vwCl (va_pl L G) H ∧ va_D A (va_pl L G) ∧ OK cs ty L G ∧ FR ty [ρ] F G := ⟨_, rfl, hP, hD, hO.up (sh.term hT_h0 ⟨x1, d1, d2, t3, d4, d5, rfl, (by first | omega | assumption | exact Or.inl rfl | exact Or.inr rfl)⟩), hR.up hT_h0 (by simp)⟩
  have hF_3 : F_1 h0 = .inr (10, [.int x1, .int d1, .int d2, .int (nI t3), .int d4, .int d5]) := by rw [he_2]; exact up_self
  refine lv_aload_n hx hb dX10_setKind_5 rfl (lv_at hl 0 rfl) ?_
  refine lv_iload_n hx hb dX10_setKind_6 rfl (lv_at hl 2 rfl) ?_
  refine pg_put (ci := 10) (v := .int x2) (ty := .int) (C := RX10) (T := TX10) (N := 6) hx hb hts it_10 tyX10 tyX10_ok nmX10 hown hK hP hD hS hL_h0 hF_3 rfl 2 (by decide) (hts _ kt_119) (fun _ h9 => h9) rfl (by decide +kernel) (rfl) (rfl) (Nat.le_of_ble_eq_true rfl) dX10_setKind_7 (fun H locs hP hD hS => ?_)
  obtain ⟨F_4, he_5, hP, hD, hO, hR⟩ : ∃ G, G = va_up F_1 h0 (.inr (10, [.int x1, .int d1, .int x2, .int (nI t3), .int d4, .int d5])) ∧ va_P (dC, dI) vwCl (va_pl L G) H ∧ va_D A (va_pl L G) ∧ OK cs ty L G ∧ FR ty [ρ] F G := ⟨_, rfl, hP, hD, hO.up (sh.term hT_h0 ⟨x1, d1, x2, t3, d4, d5, rfl, (by first | omega | assumption | exact Or.inl rfl | exact Or.inr rfl)⟩), hR.up hT_h0 (by simp)⟩
  have hF_6 : F_4 h0 = .inr (10, [.int x1, .int d1, .int x2, .int (nI t3), .int d4, .int d5]) := by rw [he_5]; exact up_self
  refine W.widen (k := 0) (n := 0) (by omega) (by omega) ?_
  exact W.vret hx hb hr (fun t ht hWm => ⟨⟨(), rfl, trivial, ⟨F_4, QT.mk ht hP hD hO hR, hF_6⟩⟩, hS.F ht⟩) hS.2.2 dX10_setKind_10
def SGN (x : Nat) : Prop := x = 43 ∨ x = 63 ∨ x = 126 ∨ x = 45
noncomputable def wdS (T : Nat → Nat) (a : Nat) : Nat := @ite Nat (SGN (T a)) (Classical.propDecidable _) (a + 1) a
noncomputable def sgS (T : Nat → Nat) (a : Nat) : Nat := @ite Nat (SGN (T a)) (Classical.propDecidable _) (T a) 43
def BGW (T : Nat → Nat) (a b k : Nat) (l : List Nat) : Prop := a + k ≤ b ∧ LIT T a l
def ISW (T : Nat → Nat) (a b k : Nat) (l : List Nat) : Prop := a + k = b ∧ LIT T a l
noncomputable def kdW (T : Nat → Nat) (w b g : Nat) : Nat × Nat × Nat := @ite (Nat × Nat × Nat) (ISW T w b 3 [97, 108, 108]) (Classical.propDecidable _) (1, g, b) (@ite (Nat × Nat × Nat) (BGW T w b 8 [105, 110, 99, 108, 117, 100, 101, 58]) (Classical.propDecidable _) (2, g, w + 8) (@ite (Nat × Nat × Nat) (BGW T w b 7 [101, 120, 105, 115, 116, 115, 58]) (Classical.propDecidable _) (6, g, w + 7) (@ite (Nat × Nat × Nat) (BGW T w b 4 [105, 112, 52, 58]) (Classical.propDecidable _) (5, g, w + 4) (@ite (Nat × Nat × Nat) (BGW T w b 2 [109, 120]) (Classical.propDecidable _) (4, g, @ite Nat (BGW T w b 3 [109, 120, 58]) (Classical.propDecidable _) (w + 3) (w + 2)) (@ite (Nat × Nat × Nat) (BGW T w b 1 [97]) (Classical.propDecidable _) (3, g, @ite Nat (BGW T w b 2 [97, 58]) (Classical.propDecidable _) (w + 2) (w + 1)) (0, g, b))))))
noncomputable def kdT (T : Nat → Nat) (a b : Nat) : Nat × Nat × Nat := @ite (Nat × Nat × Nat) (BGW T a b 9 [114, 101, 100, 105, 114, 101, 99, 116, 61]) (Classical.propDecidable _) (7, 43, a + 9) (@ite (Nat × Nat × Nat) (OTH T a b) (Classical.propDecidable _) (8, 43, b) (kdW T (wdS T a) b (sgS T a)))
theorem wdS_le (T : Nat → Nat) (a : Nat) : a ≤ wdS T a ∧ wdS T a ≤ a + 1 := by
  unfold wdS
  by_cases c : SGN (T a)
  · rw [if_pos c]
    omega
  · rw [if_neg c]
    omega
theorem sgS_le (T : Nat → Nat) (a : Nat) : sgS T a ≤ 126 := by
  unfold sgS
  by_cases c : SGN (T a)
  · rw [if_pos c]
    rcases c with c | c | c | c <;> omega
  · rw [if_neg c]
    omega
set_option maxHeartbeats 4000000 in
set_option maxRecDepth 100000 in
theorem s_X10_readKind_e (l : Launch) (dC : Nat → ClassId) (dI : Nat → Nat → Nat) (cs : Nat → ClassId) (ty : TyM) (L : List Nat) (sz : Nat) (F : Nat → va_E) (h0 : Nat) (ρ : Nat) (g1 : Nat) (σ : Nat) (r1 : Nat) (n1 : Nat) (z : Nat) (a : Nat) (b : Nat) (f : Nat → Int32) (d0 : Int32) (d1 : Int32) (d2 : Int32) (t3 : Nat) (d4 : Int32) (d5 : Int32) (hW : WT ty L) (hL_h0 : h0 ∈ L) (hT_h0 : ty h0 = (10, ρ, [])) (hL_g1 : g1 ∈ L) (hT_g1 : ty g1 = (0, σ, [r1, n1])) (hFg : F g1 = .inr (0, [.ref r1, .int (nI z), .int 0])) (hFr : F r1 = .inl (cs 16, n1, .inl f)) (hzn : z ≤ n1) (hn9 : n1 ≤ 10000) (hsr : ρ ≠ σ) (hab : a < b) (hbz : b ≤ z) (hb9 : b ≤ 9000) (ht3 : t3 ≤ 10000) (hF0 : F h0 = .inr (10, [.int d0, .int d1, .int d2, .int (nI t3), .int d4, .int d5])) : Met l yX10_readKind (.code yX10_readKind cX10_readKind 7 none :: tb) ({ frames := 6, cells := 0, slots := 0, locals := 132 }) (va_Pc [.ref h0, .ref g1, .int (nI a), .int (nI b)] (PTE (dC, dI) cs ty L F sz [])) (va_Qv (fun _ : Unit => True) (fun _ T9 => ∃ F2 : Nat → va_E, ∃ k1 : Nat, ∃ k2 : Nat, ∃ k3 : Nat, QT (dC, dI) cs ty L [ρ] F F2 (va_A (va_pl L F) sz) T9 ∧ F2 h0 = .inr (10, [.int (nI k1), .int (nI k2), .int (nI k3), .int (nI t3), .int d4, .int d5]) ∧ (k1, k2, k3) = kdT (TC f z) a b ∧ (k1 ≤ 8 ∧ k2 ≤ 126 ∧ a ≤ k3 ∧ k3 ≤ b)) (va_A (va_pl L F) sz)) 0 0 (va_A (va_pl L F) sz) := by
  refine Met.ofW (cc := cX10_readKind) (maxL := 7) (ret := none) (by decide) rfl ?_
  intro p e s m args below meth c s₁ B hml hv
  obtain ⟨rfl, ⟨hsz, hP, hK, hD0, hE, hO⟩, hG, hX⟩ := hv
  have hx := B.exec
  have hb := B.bytes
  have hr := B.returns
  have hts : ∀ w ∈ tb, w.before _ s = true := fun w h => atoms_spec (ws := .code yX10_readKind cX10_readKind 7 none :: tb) B.pre w (List.mem_cons_of_mem _ h)
  have hown : s.vm.findClass RX10 = some m.cls := findClass_of_methodNamed B.named
  have hlocks := B.notSynchronized
  subst hsz
  have hD := hD0.self (sz := s.heap.size)
  generalize hAe : va_A (va_pl L F) s.heap.size = A at hD hG hX ⊢
  have hA : ∀ q : Nat, s.heap.size ≤ q → A q := fun q h => by rw [← hAe]; exact Or.inr h
  have hS : va_S A s.heap s.heap [] := va_S.rf
  have hR : FR ty [ρ] F F := FR.refl
  have hl := lv_entry ([.ref h0, .ref g1, .int (nI a), .int (nI b)]) (n := 7) (Nat.le_of_ble_eq_true rfl)
  rw [lg_entry_eq]
  generalize (lg_sl ([.ref h0, .ref g1, .int (nI a), .int (nI b)]) ++ List.replicate (7 - (lg_sl ([.ref h0, .ref g1, .int (nI a), .int (nI b)])).length) Slot.unset).toArray = ls at hl ⊢
  have hl : lv_has ls 7 [(0, .ref h0), (1, .ref g1), (2, .int (nI a)), (3, .int (nI b))] := hl
  obtain ⟨hi_1, ht_2, hq_3⟩ := hW.bytes hL_g1 hT_g1
  refine lv_aload_n hx hb dX10_readKind_0 rfl (lv_at hl 0 rfl) ?_
  refine lv_bipush (v := 43) hx hb dX10_readKind_1 (by decide) ?_
  refine pg_put (ci := 10) (v := .int 43) (ty := .int) (C := RX10) (T := TX10) (N := 6) hx hb hts it_10 tyX10 tyX10_ok nmX10 hown hK hP hD hS hL_h0 hF0 rfl 1 (by decide) (hts _ kt_135) (fun _ h9 => h9) rfl (by decide +kernel) (rfl) (rfl) (Nat.le_of_ble_eq_true rfl) dX10_readKind_3 (fun H locs hP hD hS => ?_)
  obtain ⟨F_4, he_5, hP, hD, hO, hR⟩ : ∃ G, G = va_up F h0 (.inr (10, [.int d0, .int 43, .int d2, .int (nI t3), .int d4, .int d5])) ∧ va_P (dC, dI) vwCl (va_pl L G) H ∧ va_D A (va_pl L G) ∧ OK cs ty L G ∧ FR ty [ρ] F G := ⟨_, rfl, hP, hD, hO.up (sh.term hT_h0 ⟨d0, 43, d2, t3, d4, d5, rfl, (by first | omega | assumption | exact Or.inl rfl | exact Or.inr rfl)⟩), hR.up hT_h0 (by simp)⟩
  have hF_6 : F_4 h0 = .inr (10, [.int d0, .int 43, .int d2, .int (nI t3), .int d4, .int d5]) := by rw [he_5]; exact up_self
  have hF_7 : F_4 g1 = .inr (0, [.ref r1, .int (nI z), .int 0]) := by rw [he_5, up_ne (ne_ty hT_g1 hT_h0 (by simp))]; exact hFg
  have hF_8 : F_4 r1 = .inl (cs 16, n1, .inl f) := by rw [he_5, up_ne (ne_ty ht_2 hT_h0 (by simp))]; exact hFr
  refine lv_aload_n hx hb dX10_readKind_6 rfl (lv_at hl 1 rfl) ?_
  refine lv_iload_n hx hb dX10_readKind_7 rfl (lv_at hl 2 rfl) ?_
  refine lv_iload_n hx hb dX10_readKind_8 rfl (lv_at hl 3 rfl) ?_
  obtain ⟨q_9, v_10, hr_q_9, hXc_q_9⟩ := hG.2.2.2.2 ("PostGate$Term", 53, "redirect=", [114, 101, 100, 105, 114, 101, 99, 116, 61]) (by decide +kernel)
  have hXc_q_9 : SXc q_9 v_10 9 (cct [114, 101, 100, 105, 114, 101, 99, 116, 61]) A s s.heap := hXc_q_9
  have hX_q_9 : SX q_9 v_10 9 A s s.heap := hXc_q_9.sx
  obtain ⟨xo_q_9, xc_q_9, xv_q_9, xt_q_9, xn_q_9⟩ := id hXc_q_9
  have hr_q_9 : vk_R "PostGate$Term" 53 "redirect=" q_9 s := hr_q_9
  refine va_ldcS hx hb hown hr_q_9 dX10_readKind_9 ?_
  have hFc := pg_free hD hS hA
  refine va_calli (va_runV (As := [.int (nI a), .int (nI b), .ref q_9]) (rest := []) ⟨hx, hb, hml, hown, hts⟩ (s_X0_begins_e l dC dI cs ty L H.size F_4 g1 σ r1 n1 q_9 v_10 9 (cct [114, 101, 100, 105, 114, 101, 99, 116, 61]) z a b f ([114, 101, 100, 105, 114, 101, 99, 116, 61]) hW hL_g1 hT_g1 hF_7 hF_8 (by omega) (by omega) (by omega) (hbz) (⟨rfl, by decide +kernel⟩)) ⟨callB_of 3 hts (gi kt_112) rfl rfl rfl (hts _ kt_1) (hts _ kt_136) (by decide +kernel) ⟨Nat.le_of_ble_eq_true rfl, Nat.le_of_ble_eq_true rfl⟩, (hts _ kt_114), (hts _ kt_115)⟩ ⟨fun a U g mk q => ⟨q.1, PTC.calling q.2⟩, pg_recv hK hP hL_g1 hF_7 (q := (RX0, TX0, 3)) rfl, fun U hU hWm => ⟨rfl, PTC.mk hU hWm hP hK hD hE hO hG hXc_q_9 hS hFc⟩⟩ rfl rfl hl.1 rfl (lv_room (Nat.le_of_ble_eq_true rfl)) dX10_readKind_11 ⟨by show _ + 0 ≤ 0; omega, by show _ + 0 ≤ 0; omega⟩) hS (fun q _ h => hFc q h) hFc (fun r_11 u t H1 locs ht hvm hw hB hz1 hk1 hS => ?_)
  obtain ⟨F_12, hB1⟩ := hB
  obtain rfl : F_4 = F_12 := (funext (fun a => hB1.2.2.2 a List.not_mem_nil)).symm
  obtain ⟨hP, hD, hO, hR⟩ := QT.back hB1 ht hFc hR (fun q h => absurd h List.not_mem_nil)
  generalize H1 = H at hP hS ⊢
  have hw_13 : ORP r_11 (a + 9 ≤ b ∧ LIT (TC f z) a [114, 101, 100, 105, 114, 101, 99, 116, 61]) := hw
  clear hw
  refine lv_if_eq (tgt := 28) hx hb dX10_readKind_14 (by decide) (fun c_14 => ?_) (fun c_14 => ?_)
  ·
    refine lv_aload_n hx hb dX10_readKind_28 rfl (lv_at hl 1 rfl) ?_
    refine lv_iload_n hx hb dX10_readKind_29 rfl (lv_at hl 2 rfl) ?_
    refine lv_iload_n hx hb dX10_readKind_30 rfl (lv_at hl 3 rfl) ?_
    have hFc := pg_free hD hS hA
    refine va_calli (va_runS (As := [.ref g1, .int (nI a), .int (nI b)]) (rest := []) ⟨hx, hb, hml, hown, hts⟩ (s_X10_isOther_e l dC dI cs ty L H.size F_4 g1 σ r1 n1 z a b f hW hL_g1 hT_g1 hF_7 hF_8 (by omega) (by omega) (by omega) (hbz)) ⟨callB_of 3 hts (gi kt_137) rfl rfl rfl (hts _ kt_90) (hts _ kt_138) (by decide +kernel) ⟨Nat.le_of_ble_eq_true rfl, Nat.le_of_ble_eq_true rfl⟩, (hts _ kt_139)⟩ ⟨fun a U g mk q => ⟨q.1, PT.calling q.2⟩, fun U hU hWm => ⟨rfl, PT.mk hU hWm hP hK hD hE hO⟩⟩ rfl rfl hl.1 rfl (lv_room (Nat.le_of_ble_eq_true rfl)) dX10_readKind_31 ⟨by show _ + 0 ≤ 0; omega, by show _ + 0 ≤ 0; omega⟩) hS (fun q _ h => hFc q h) hFc (fun r_15 u t H1 locs ht hvm hw hB hz1 hk1 hS => ?_)
    obtain ⟨F_16, hB1⟩ := hB
    obtain rfl : F_4 = F_16 := (funext (fun a => hB1.2.2.2 a List.not_mem_nil)).symm
    obtain ⟨hP, hD, hO, hR⟩ := QT.back hB1 ht hFc hR (fun q h => absurd h List.not_mem_nil)
    generalize H1 = H at hP hS ⊢
    have hw_17 : ORP r_15 (OTH (TC f z) a b) := hw
    clear hw
    refine lv_if_eq (tgt := 45) hx hb dX10_readKind_34 (by decide) (fun c_18 => ?_) (fun c_18 => ?_)
    ·
      refine lv_aload_n hx hb dX10_readKind_45 rfl (lv_at hl 1 rfl) ?_
      refine lv_iload_n hx hb dX10_readKind_46 rfl (lv_at hl 2 rfl) ?_
      have hFc := pg_free hD hS hA
      refine va_calli (va_runV (As := [.int (nI a)]) (rest := []) ⟨hx, hb, hml, hown, hts⟩ (s_X0_at_g l dC dI cs ty L H.size F_4 g1 σ r1 n1 z a f hW hL_g1 hT_g1 hF_7 hF_8 (by omega) (by omega) (by omega)) ⟨callB_of 1 hts (gi kt_21) rfl rfl rfl (hts _ kt_1) (hts _ kt_120) (by decide +kernel) ⟨Nat.le_of_ble_eq_true rfl, Nat.le_of_ble_eq_true rfl⟩, (hts _ kt_23), (hts _ kt_24)⟩ ⟨fun a U g mk q => ⟨q.1, PT.calling q.2⟩, pg_recv hK hP hL_g1 hF_7 (q := (RX0, TX0, 3)) rfl, fun U hU hWm => ⟨rfl, PT.mk hU hWm hP hK hD hE hO⟩⟩ rfl rfl hl.1 rfl (lv_room (Nat.le_of_ble_eq_true rfl)) dX10_readKind_47 ⟨by show _ + 0 ≤ 0; omega, by show _ + 0 ≤ 0; omega⟩) hS (fun q _ h => hFc q h) hFc (fun r_19 u t H1 locs ht hvm hw hB hz1 hk1 hS => ?_)
      obtain ⟨F_20, hB1⟩ := hB
      obtain rfl : F_4 = F_20 := (funext (fun a => hB1.2.2.2 a List.not_mem_nil)).symm
      obtain ⟨hP, hD, hO, hR⟩ := QT.back hB1 ht hFc hR (fun q h => absurd h List.not_mem_nil)
      generalize H1 = H at hP hS ⊢
      have hw : r_19 = atn f z a := hw
      have hw_21 := hw
      subst hw_21
      refine lv_istore (lv' := [(4, .int (atn f z a)), (0, .ref h0), (1, .ref g1), (2, .int (nI a)), (3, .int (nI b))]) hx hb dX10_readKind_50 hl (by decide) rfl (fun ls hl => ?_)
      have hF_24 : F g1 = .inr (0, [.ref r1, .int (nI z), .int 0]) := (hR g1 (by rw [hT_g1]; simp only [List.mem_cons, List.not_mem_nil, or_false]; omega)).symm.trans hF_7
      have hF_25 : F r1 = .inl (cs 16, n1, .inl f) := (hR r1 (by rw [ht_2]; simp only [List.mem_cons, List.not_mem_nil, or_false]; omega)).symm.trans hF_8
      refine W.widen (k := 0) (n := 0) (by omega) (by omega) ?_
      refine pl_cut (σ := Int32) A (dC, dI) cs ty L [ρ] F 85 7 (fun s0 => [(4, .int (atn f z a)), (0, .ref h0), (1, .ref g1), (2, .int (nI a)), (3, .int (nI b))]) (fun s0 => [.int s0]) (fun s0 FF => ORP s0 (SGN ((TC f z) a)) ∧ FF h0 = .inr (10, [.int d0, .int 43, .int d2, .int (nI t3), .int d4, .int d5])) ?_ (fun jn_22 => ?_)
      ·
        rintro s0 F_23 hv_26 hO hR H locs hP hD hS ls hl
        have hl : lv_has ls 7 [(4, .int (atn f z a)), (0, .ref h0), (1, .ref g1), (2, .int (nI a)), (3, .int (nI b))] := hl
        have hv_26 : ORP s0 (SGN ((TC f z) a)) ∧ F_23 h0 = .inr (10, [.int d0, .int 43, .int d2, .int (nI t3), .int d4, .int d5]) := hv_26
        refine W.eq (g2 := F0 m 85 ls [.int s0]) rfl ?_
        have hF_27 : F_23 g1 = .inr (0, [.ref r1, .int (nI z), .int 0]) := (hR g1 (by rw [hT_g1]; simp only [List.mem_cons, List.not_mem_nil, or_false]; omega)).trans hF_24
        have hF_28 : F_23 r1 = .inl (cs 16, n1, .inl f) := (hR r1 (by rw [ht_2]; simp only [List.mem_cons, List.not_mem_nil, or_false]; omega)).trans hF_25
        obtain ⟨hs1, hs2⟩ := id hv_26
        refine lv_istore (lv' := [(5, .int s0), (4, .int (atn f z a)), (0, .ref h0), (1, .ref g1), (2, .int (nI a)), (3, .int (nI b))]) hx hb dX10_readKind_85 hl (by decide) rfl (fun ls hl => ?_)
        have hF_31 : F g1 = .inr (0, [.ref r1, .int (nI z), .int 0]) := (hR g1 (by rw [hT_g1]; simp only [List.mem_cons, List.not_mem_nil, or_false]; omega)).symm.trans hF_27
        have hF_32 : F r1 = .inl (cs 16, n1, .inl f) := (hR r1 (by rw [ht_2]; simp only [List.mem_cons, List.not_mem_nil, or_false]; omega)).symm.trans hF_28
        refine W.widen (k := 0) (n := 0) (by omega) (by omega) ?_
        refine pl_cut (σ := Int32 × Int32) A (dC, dI) cs ty L [ρ] F 117 7 (fun (w6, c1) => [(6, .int w6), (0, .ref h0), (1, .ref g1), (2, .int (nI a)), (3, .int (nI b))]) (fun (w6, c1) => []) (fun (w6, c1) FF => w6 = nI (wdS (TC f z) a) ∧ c1 = nI (sgS (TC f z) a) ∧ FF h0 = .inr (10, [.int d0, .int c1, .int d2, .int (nI t3), .int d4, .int d5])) ?_ (fun jn_29 => ?_)
        ·
          rintro ⟨w6, c1⟩ F_30 hv_33 hO hR H locs hP hD hS ls hl
          have hl : lv_has ls 7 [(6, .int w6), (0, .ref h0), (1, .ref g1), (2, .int (nI a)), (3, .int (nI b))] := hl
          have hv_33 : w6 = nI (wdS (TC f z) a) ∧ c1 = nI (sgS (TC f z) a) ∧ F_30 h0 = .inr (10, [.int d0, .int c1, .int d2, .int (nI t3), .int d4, .int d5]) := hv_33
          refine W.eq (g2 := F0 m 117 ls []) rfl ?_
          have hF_34 : F_30 g1 = .inr (0, [.ref r1, .int (nI z), .int 0]) := (hR g1 (by rw [hT_g1]; simp only [List.mem_cons, List.not_mem_nil, or_false]; omega)).trans hF_31
          have hF_35 : F_30 r1 = .inl (cs 16, n1, .inl f) := (hR r1 (by rw [ht_2]; simp only [List.mem_cons, List.not_mem_nil, or_false]; omega)).trans hF_32
          obtain ⟨hs3, hs4, hs5⟩ := id hv_33
          subst hs3
          subst hs4
          have hwd := wdS_le (TC f z) a
          have hsg := sgS_le (TC f z) a
          refine lv_aload_n hx hb dX10_readKind_117 rfl (lv_at hl 2 rfl) ?_
          refine lv_iload hx hb dX10_readKind_118 (lv_at hl 0 rfl) ?_
          refine lv_iload_n hx hb dX10_readKind_120 rfl (lv_at hl 4 rfl) ?_
          obtain ⟨q_36, v_37, hr_q_36, hXc_q_36⟩ := hG.2.2.2.2 ("PostGate$Term", 66, "all", [97, 108, 108]) (by decide +kernel)
          have hXc_q_36 : SXc q_36 v_37 3 (cct [97, 108, 108]) A s s.heap := hXc_q_36
          have hX_q_36 : SX q_36 v_37 3 A s s.heap := hXc_q_36.sx
          obtain ⟨xo_q_36, xc_q_36, xv_q_36, xt_q_36, xn_q_36⟩ := id hXc_q_36
          have hr_q_36 : vk_R "PostGate$Term" 66 "all" q_36 s := hr_q_36
          refine va_ldcS hx hb hown hr_q_36 dX10_readKind_121 ?_
          have hFc := pg_free hD hS hA
          refine va_calli (va_runV (As := [.int (nI (wdS (TC f z) a)), .int (nI b), .ref q_36]) (rest := []) ⟨hx, hb, hml, hown, hts⟩ (s_X0_is_e l dC dI cs ty L H.size F_30 g1 σ r1 n1 q_36 v_37 3 (cct [97, 108, 108]) z (wdS (TC f z) a) b f ([97, 108, 108]) hW hL_g1 hT_g1 hF_34 hF_35 (by omega) (by omega) (by omega) (hbz) (⟨rfl, by decide +kernel⟩)) ⟨callB_of 3 hts (gi kt_79) rfl rfl rfl (hts _ kt_1) (hts _ kt_140) (by decide +kernel) ⟨Nat.le_of_ble_eq_true rfl, Nat.le_of_ble_eq_true rfl⟩, (hts _ kt_81), (hts _ kt_82)⟩ ⟨fun a U g mk q => ⟨q.1, PTC.calling q.2⟩, pg_recv hK hP hL_g1 hF_34 (q := (RX0, TX0, 3)) rfl, fun U hU hWm => ⟨rfl, PTC.mk hU hWm hP hK hD hE hO hG hXc_q_36 hS hFc⟩⟩ rfl rfl hl.1 rfl (lv_room (Nat.le_of_ble_eq_true rfl)) dX10_readKind_123 ⟨by show _ + 0 ≤ 0; omega, by show _ + 0 ≤ 0; omega⟩) hS (fun q _ h => hFc q h) hFc (fun r_38 u t H1 locs ht hvm hw hB hz1 hk1 hS => ?_)
          obtain ⟨F_39, hB1⟩ := hB
          obtain rfl : F_30 = F_39 := (funext (fun a => hB1.2.2.2 a List.not_mem_nil)).symm
          obtain ⟨hP, hD, hO, hR⟩ := QT.back hB1 ht hFc hR (fun q h => absurd h List.not_mem_nil)
          generalize H1 = H at hP hS ⊢
          have hw_40 : ORP r_38 ((wdS (TC f z) a) + 3 = b ∧ LIT (TC f z) (wdS (TC f z) a) [97, 108, 108]) := hw
          clear hw
          refine lv_if_eq (tgt := 138) hx hb dX10_readKind_126 (by decide) (fun c_41 => ?_) (fun c_41 => ?_)
          ·
            refine lv_aload_n hx hb dX10_readKind_138 rfl (lv_at hl 2 rfl) ?_
            refine lv_iload hx hb dX10_readKind_139 (lv_at hl 0 rfl) ?_
            refine lv_iload_n hx hb dX10_readKind_141 rfl (lv_at hl 4 rfl) ?_
            obtain ⟨q_42, v_43, hr_q_42, hXc_q_42⟩ := hG.2.2.2.2 ("PostGate$Term", 71, "include:", [105, 110, 99, 108, 117, 100, 101, 58]) (by decide +kernel)
            have hXc_q_42 : SXc q_42 v_43 8 (cct [105, 110, 99, 108, 117, 100, 101, 58]) A s s.heap := hXc_q_42
            have hX_q_42 : SX q_42 v_43 8 A s s.heap := hXc_q_42.sx
            obtain ⟨xo_q_42, xc_q_42, xv_q_42, xt_q_42, xn_q_42⟩ := id hXc_q_42
            have hr_q_42 : vk_R "PostGate$Term" 71 "include:" q_42 s := hr_q_42
            refine va_ldcS hx hb hown hr_q_42 dX10_readKind_142 ?_
            have hFc := pg_free hD hS hA
            refine va_calli (va_runV (As := [.int (nI (wdS (TC f z) a)), .int (nI b), .ref q_42]) (rest := []) ⟨hx, hb, hml, hown, hts⟩ (s_X0_begins_e l dC dI cs ty L H.size F_30 g1 σ r1 n1 q_42 v_43 8 (cct [105, 110, 99, 108, 117, 100, 101, 58]) z (wdS (TC f z) a) b f ([105, 110, 99, 108, 117, 100, 101, 58]) hW hL_g1 hT_g1 hF_34 hF_35 (by omega) (by omega) (by omega) (hbz) (⟨rfl, by decide +kernel⟩)) ⟨callB_of 3 hts (gi kt_112) rfl rfl rfl (hts _ kt_1) (hts _ kt_136) (by decide +kernel) ⟨Nat.le_of_ble_eq_true rfl, Nat.le_of_ble_eq_true rfl⟩, (hts _ kt_114), (hts _ kt_115)⟩ ⟨fun a U g mk q => ⟨q.1, PTC.calling q.2⟩, pg_recv hK hP hL_g1 hF_34 (q := (RX0, TX0, 3)) rfl, fun U hU hWm => ⟨rfl, PTC.mk hU hWm hP hK hD hE hO hG hXc_q_42 hS hFc⟩⟩ rfl rfl hl.1 rfl (lv_room (Nat.le_of_ble_eq_true rfl)) dX10_readKind_144 ⟨by show _ + 0 ≤ 0; omega, by show _ + 0 ≤ 0; omega⟩) hS (fun q _ h => hFc q h) hFc (fun r_44 u t H1 locs ht hvm hw hB hz1 hk1 hS => ?_)
            obtain ⟨F_45, hB1⟩ := hB
            obtain rfl : F_30 = F_45 := (funext (fun a => hB1.2.2.2 a List.not_mem_nil)).symm
            obtain ⟨hP, hD, hO, hR⟩ := QT.back hB1 ht hFc hR (fun q h => absurd h List.not_mem_nil)
            generalize H1 = H at hP hS ⊢
            have hw_46 : ORP r_44 ((wdS (TC f z) a) + 8 ≤ b ∧ LIT (TC f z) (wdS (TC f z) a) [105, 110, 99, 108, 117, 100, 101, 58]) := hw
            clear hw
            refine lv_if_eq (tgt := 163) hx hb dX10_readKind_147 (by decide) (fun c_47 => ?_) (fun c_47 => ?_)
            ·
              refine lv_aload_n hx hb dX10_readKind_163 rfl (lv_at hl 2 rfl) ?_
              refine lv_iload hx hb dX10_readKind_164 (lv_at hl 0 rfl) ?_
              refine lv_iload_n hx hb dX10_readKind_166 rfl (lv_at hl 4 rfl) ?_
              obtain ⟨q_48, v_49, hr_q_48, hXc_q_48⟩ := hG.2.2.2.2 ("PostGate$Term", 73, "exists:", [101, 120, 105, 115, 116, 115, 58]) (by decide +kernel)
              have hXc_q_48 : SXc q_48 v_49 7 (cct [101, 120, 105, 115, 116, 115, 58]) A s s.heap := hXc_q_48
              have hX_q_48 : SX q_48 v_49 7 A s s.heap := hXc_q_48.sx
              obtain ⟨xo_q_48, xc_q_48, xv_q_48, xt_q_48, xn_q_48⟩ := id hXc_q_48
              have hr_q_48 : vk_R "PostGate$Term" 73 "exists:" q_48 s := hr_q_48
              refine va_ldcS hx hb hown hr_q_48 dX10_readKind_167 ?_
              have hFc := pg_free hD hS hA
              refine va_calli (va_runV (As := [.int (nI (wdS (TC f z) a)), .int (nI b), .ref q_48]) (rest := []) ⟨hx, hb, hml, hown, hts⟩ (s_X0_begins_e l dC dI cs ty L H.size F_30 g1 σ r1 n1 q_48 v_49 7 (cct [101, 120, 105, 115, 116, 115, 58]) z (wdS (TC f z) a) b f ([101, 120, 105, 115, 116, 115, 58]) hW hL_g1 hT_g1 hF_34 hF_35 (by omega) (by omega) (by omega) (hbz) (⟨rfl, by decide +kernel⟩)) ⟨callB_of 3 hts (gi kt_112) rfl rfl rfl (hts _ kt_1) (hts _ kt_136) (by decide +kernel) ⟨Nat.le_of_ble_eq_true rfl, Nat.le_of_ble_eq_true rfl⟩, (hts _ kt_114), (hts _ kt_115)⟩ ⟨fun a U g mk q => ⟨q.1, PTC.calling q.2⟩, pg_recv hK hP hL_g1 hF_34 (q := (RX0, TX0, 3)) rfl, fun U hU hWm => ⟨rfl, PTC.mk hU hWm hP hK hD hE hO hG hXc_q_48 hS hFc⟩⟩ rfl rfl hl.1 rfl (lv_room (Nat.le_of_ble_eq_true rfl)) dX10_readKind_169 ⟨by show _ + 0 ≤ 0; omega, by show _ + 0 ≤ 0; omega⟩) hS (fun q _ h => hFc q h) hFc (fun r_50 u t H1 locs ht hvm hw hB hz1 hk1 hS => ?_)
              obtain ⟨F_51, hB1⟩ := hB
              obtain rfl : F_30 = F_51 := (funext (fun a => hB1.2.2.2 a List.not_mem_nil)).symm
              obtain ⟨hP, hD, hO, hR⟩ := QT.back hB1 ht hFc hR (fun q h => absurd h List.not_mem_nil)
              generalize H1 = H at hP hS ⊢
              have hw_52 : ORP r_50 ((wdS (TC f z) a) + 7 ≤ b ∧ LIT (TC f z) (wdS (TC f z) a) [101, 120, 105, 115, 116, 115, 58]) := hw
              clear hw
              refine lv_if_eq (tgt := 189) hx hb dX10_readKind_172 (by decide) (fun c_53 => ?_) (fun c_53 => ?_)
              ·
                refine lv_aload_n hx hb dX10_readKind_189 rfl (lv_at hl 2 rfl) ?_
                refine lv_iload hx hb dX10_readKind_190 (lv_at hl 0 rfl) ?_
                refine lv_iload_n hx hb dX10_readKind_192 rfl (lv_at hl 4 rfl) ?_
                obtain ⟨q_54, v_55, hr_q_54, hXc_q_54⟩ := hG.2.2.2.2 ("PostGate$Term", 75, "ip4:", [105, 112, 52, 58]) (by decide +kernel)
                have hXc_q_54 : SXc q_54 v_55 4 (cct [105, 112, 52, 58]) A s s.heap := hXc_q_54
                have hX_q_54 : SX q_54 v_55 4 A s s.heap := hXc_q_54.sx
                obtain ⟨xo_q_54, xc_q_54, xv_q_54, xt_q_54, xn_q_54⟩ := id hXc_q_54
                have hr_q_54 : vk_R "PostGate$Term" 75 "ip4:" q_54 s := hr_q_54
                refine va_ldcS hx hb hown hr_q_54 dX10_readKind_193 ?_
                have hFc := pg_free hD hS hA
                refine va_calli (va_runV (As := [.int (nI (wdS (TC f z) a)), .int (nI b), .ref q_54]) (rest := []) ⟨hx, hb, hml, hown, hts⟩ (s_X0_begins_e l dC dI cs ty L H.size F_30 g1 σ r1 n1 q_54 v_55 4 (cct [105, 112, 52, 58]) z (wdS (TC f z) a) b f ([105, 112, 52, 58]) hW hL_g1 hT_g1 hF_34 hF_35 (by omega) (by omega) (by omega) (hbz) (⟨rfl, by decide +kernel⟩)) ⟨callB_of 3 hts (gi kt_112) rfl rfl rfl (hts _ kt_1) (hts _ kt_136) (by decide +kernel) ⟨Nat.le_of_ble_eq_true rfl, Nat.le_of_ble_eq_true rfl⟩, (hts _ kt_114), (hts _ kt_115)⟩ ⟨fun a U g mk q => ⟨q.1, PTC.calling q.2⟩, pg_recv hK hP hL_g1 hF_34 (q := (RX0, TX0, 3)) rfl, fun U hU hWm => ⟨rfl, PTC.mk hU hWm hP hK hD hE hO hG hXc_q_54 hS hFc⟩⟩ rfl rfl hl.1 rfl (lv_room (Nat.le_of_ble_eq_true rfl)) dX10_readKind_195 ⟨by show _ + 0 ≤ 0; omega, by show _ + 0 ≤ 0; omega⟩) hS (fun q _ h => hFc q h) hFc (fun r_56 u t H1 locs ht hvm hw hB hz1 hk1 hS => ?_)
                obtain ⟨F_57, hB1⟩ := hB
                obtain rfl : F_30 = F_57 := (funext (fun a => hB1.2.2.2 a List.not_mem_nil)).symm
                obtain ⟨hP, hD, hO, hR⟩ := QT.back hB1 ht hFc hR (fun q h => absurd h List.not_mem_nil)
                generalize H1 = H at hP hS ⊢
                have hw_58 : ORP r_56 ((wdS (TC f z) a) + 4 ≤ b ∧ LIT (TC f z) (wdS (TC f z) a) [105, 112, 52, 58]) := hw
                clear hw
                refine lv_if_eq (tgt := 213) hx hb dX10_readKind_198 (by decide) (fun c_59 => ?_) (fun c_59 => ?_)
                ·
                  refine lv_aload_n hx hb dX10_readKind_213 rfl (lv_at hl 2 rfl) ?_
                  refine lv_iload hx hb dX10_readKind_214 (lv_at hl 0 rfl) ?_
                  refine lv_iload_n hx hb dX10_readKind_216 rfl (lv_at hl 4 rfl) ?_
                  obtain ⟨q_60, v_61, hr_q_60, hXc_q_60⟩ := hG.2.2.2.2 ("PostGate$Term", 77, "mx", [109, 120]) (by decide +kernel)
                  have hXc_q_60 : SXc q_60 v_61 2 (cct [109, 120]) A s s.heap := hXc_q_60
                  have hX_q_60 : SX q_60 v_61 2 A s s.heap := hXc_q_60.sx
                  obtain ⟨xo_q_60, xc_q_60, xv_q_60, xt_q_60, xn_q_60⟩ := id hXc_q_60
                  have hr_q_60 : vk_R "PostGate$Term" 77 "mx" q_60 s := hr_q_60
                  refine va_ldcS hx hb hown hr_q_60 dX10_readKind_217 ?_
                  have hFc := pg_free hD hS hA
                  refine va_calli (va_runV (As := [.int (nI (wdS (TC f z) a)), .int (nI b), .ref q_60]) (rest := []) ⟨hx, hb, hml, hown, hts⟩ (s_X0_begins_e l dC dI cs ty L H.size F_30 g1 σ r1 n1 q_60 v_61 2 (cct [109, 120]) z (wdS (TC f z) a) b f ([109, 120]) hW hL_g1 hT_g1 hF_34 hF_35 (by omega) (by omega) (by omega) (hbz) (⟨rfl, by decide +kernel⟩)) ⟨callB_of 3 hts (gi kt_112) rfl rfl rfl (hts _ kt_1) (hts _ kt_136) (by decide +kernel) ⟨Nat.le_of_ble_eq_true rfl, Nat.le_of_ble_eq_true rfl⟩, (hts _ kt_114), (hts _ kt_115)⟩ ⟨fun a U g mk q => ⟨q.1, PTC.calling q.2⟩, pg_recv hK hP hL_g1 hF_34 (q := (RX0, TX0, 3)) rfl, fun U hU hWm => ⟨rfl, PTC.mk hU hWm hP hK hD hE hO hG hXc_q_60 hS hFc⟩⟩ rfl rfl hl.1 rfl (lv_room (Nat.le_of_ble_eq_true rfl)) dX10_readKind_219 ⟨by show _ + 0 ≤ 0; omega, by show _ + 0 ≤ 0; omega⟩) hS (fun q _ h => hFc q h) hFc (fun r_62 u t H1 locs ht hvm hw hB hz1 hk1 hS => ?_)
                  obtain ⟨F_63, hB1⟩ := hB
                  obtain rfl : F_30 = F_63 := (funext (fun a => hB1.2.2.2 a List.not_mem_nil)).symm
                  obtain ⟨hP, hD, hO, hR⟩ := QT.back hB1 ht hFc hR (fun q h => absurd h List.not_mem_nil)
                  generalize H1 = H at hP hS ⊢
                  have hw_64 : ORP r_62 ((wdS (TC f z) a) + 2 ≤ b ∧ LIT (TC f z) (wdS (TC f z) a) [109, 120]) := hw
                  clear hw
                  refine lv_if_eq (tgt := 256) hx hb dX10_readKind_222 (by decide) (fun c_65 => ?_) (fun c_65 => ?_)
                  ·
                    refine lv_aload_n hx hb dX10_readKind_256 rfl (lv_at hl 2 rfl) ?_
                    refine lv_iload hx hb dX10_readKind_257 (lv_at hl 0 rfl) ?_
                    refine lv_iload_n hx hb dX10_readKind_259 rfl (lv_at hl 4 rfl) ?_
                    obtain ⟨q_66, v_67, hr_q_66, hXc_q_66⟩ := hG.2.2.2.2 ("PostGate$Term", 81, "a", [97]) (by decide +kernel)
                    have hXc_q_66 : SXc q_66 v_67 1 (cct [97]) A s s.heap := hXc_q_66
                    have hX_q_66 : SX q_66 v_67 1 A s s.heap := hXc_q_66.sx
                    obtain ⟨xo_q_66, xc_q_66, xv_q_66, xt_q_66, xn_q_66⟩ := id hXc_q_66
                    have hr_q_66 : vk_R "PostGate$Term" 81 "a" q_66 s := hr_q_66
                    refine va_ldcS hx hb hown hr_q_66 dX10_readKind_260 ?_
                    have hFc := pg_free hD hS hA
                    refine va_calli (va_runV (As := [.int (nI (wdS (TC f z) a)), .int (nI b), .ref q_66]) (rest := []) ⟨hx, hb, hml, hown, hts⟩ (s_X0_begins_e l dC dI cs ty L H.size F_30 g1 σ r1 n1 q_66 v_67 1 (cct [97]) z (wdS (TC f z) a) b f ([97]) hW hL_g1 hT_g1 hF_34 hF_35 (by omega) (by omega) (by omega) (hbz) (⟨rfl, by decide +kernel⟩)) ⟨callB_of 3 hts (gi kt_112) rfl rfl rfl (hts _ kt_1) (hts _ kt_136) (by decide +kernel) ⟨Nat.le_of_ble_eq_true rfl, Nat.le_of_ble_eq_true rfl⟩, (hts _ kt_114), (hts _ kt_115)⟩ ⟨fun a U g mk q => ⟨q.1, PTC.calling q.2⟩, pg_recv hK hP hL_g1 hF_34 (q := (RX0, TX0, 3)) rfl, fun U hU hWm => ⟨rfl, PTC.mk hU hWm hP hK hD hE hO hG hXc_q_66 hS hFc⟩⟩ rfl rfl hl.1 rfl (lv_room (Nat.le_of_ble_eq_true rfl)) dX10_readKind_262 ⟨by show _ + 0 ≤ 0; omega, by show _ + 0 ≤ 0; omega⟩) hS (fun q _ h => hFc q h) hFc (fun r_68 u t H1 locs ht hvm hw hB hz1 hk1 hS => ?_)
                    obtain ⟨F_69, hB1⟩ := hB
                    obtain rfl : F_30 = F_69 := (funext (fun a => hB1.2.2.2 a List.not_mem_nil)).symm
                    obtain ⟨hP, hD, hO, hR⟩ := QT.back hB1 ht hFc hR (fun q h => absurd h List.not_mem_nil)
                    generalize H1 = H at hP hS ⊢
                    have hw_70 : ORP r_68 ((wdS (TC f z) a) + 1 ≤ b ∧ LIT (TC f z) (wdS (TC f z) a) [97]) := hw
                    clear hw
                    refine lv_if_eq (tgt := 299) hx hb dX10_readKind_265 (by decide) (fun c_71 => ?_) (fun c_71 => ?_)
                    ·
                      refine lv_aload_n hx hb dX10_readKind_299 rfl (lv_at hl 1 rfl) ?_
                      refine lv_iconst (v := 0) hx hb dX10_readKind_300 (by decide) ?_
                      refine lv_iload_n hx hb dX10_readKind_301 rfl (lv_at hl 4 rfl) ?_
                      have hFc := pg_free hD hS hA
                      refine va_callv (va_runV (As := [.int 0, .int (nI b)]) (rest := []) ⟨hx, hb, hml, hown, hts⟩ (s_X10_setKind_e l dC dI cs ty L H.size F_30 h0 ρ d0 (nI (sgS (TC f z) a)) d2 t3 d4 d5 0 (nI b) hW hL_h0 hT_h0 (by omega) hs5) ⟨callB_of 2 hts (gi kt_141) rfl rfl rfl (hts _ kt_90) (hts _ kt_142) (by decide +kernel) ⟨Nat.le_of_ble_eq_true rfl, Nat.le_of_ble_eq_true rfl⟩, (hts _ kt_143), (hts _ kt_144)⟩ ⟨fun a U g mk q => ⟨q.1, PT.calling q.2⟩, pg_recv hK hP hL_h0 hs5 (q := (RX10, TX10, 6)) rfl, fun U hU hWm => ⟨rfl, PT.mk hU hWm hP hK hD hE hO⟩⟩ rfl rfl hl.1 rfl (lv_room (Nat.le_of_ble_eq_true rfl)) dX10_readKind_302 ⟨by show _ + 0 ≤ 0; omega, by show _ + 0 ≤ 0; omega⟩) hS (fun q _ h => hFc q h) hFc (fun u t H1 locs ht hvm hw hB hz1 hk1 hS => ?_)
                      obtain ⟨F_73, hB1, hq_74⟩ := hB
                      obtain ⟨hP, hD, hO, hR⟩ := QT.back hB1 ht hFc hR (fun q h => by simp only [List.mem_cons, List.not_mem_nil, or_false] at h ⊢; omega)
                      have hF_75 : F_73 g1 = .inr (0, [.ref r1, .int (nI z), .int 0]) := (hB1.2.2.2 g1 (by rw [hT_g1]; simp only [List.mem_cons, List.not_mem_nil, or_false]; omega)).trans hF_34
                      have hF_76 : F_73 r1 = .inl (cs 16, n1, .inl f) := (hB1.2.2.2 r1 (by rw [ht_2]; simp only [List.mem_cons, List.not_mem_nil, or_false]; omega)).trans hF_35
                      generalize H1 = H at hP hS ⊢
                      refine W.widen (k := 0) (n := 0) (by omega) (by omega) ?_
                      exact W.vret hx hb hr (fun t ht hWm => ⟨⟨(), rfl, trivial, ⟨F_73, 0, ((sgS (TC f z) a)), b, QT.mk ht hP hD hO hR, hq_74, (by unfold kdT; rw [if_neg (show ¬ BGW (TC f z) a b 9 [114, 101, 100, 105, 114, 101, 99, 116, 61] from (orp0 hw_13 c_14)), if_neg (show ¬ OTH (TC f z) a b from (orp0 hw_17 c_18))]; unfold kdW; rw [if_neg (show ¬ ISW (TC f z) (wdS (TC f z) a) b 3 [97, 108, 108] from (orp0 hw_40 c_41)), if_neg (show ¬ BGW (TC f z) (wdS (TC f z) a) b 8 [105, 110, 99, 108, 117, 100, 101, 58] from (orp0 hw_46 c_47)), if_neg (show ¬ BGW (TC f z) (wdS (TC f z) a) b 7 [101, 120, 105, 115, 116, 115, 58] from (orp0 hw_52 c_53)), if_neg (show ¬ BGW (TC f z) (wdS (TC f z) a) b 4 [105, 112, 52, 58] from (orp0 hw_58 c_59)), if_neg (show ¬ BGW (TC f z) (wdS (TC f z) a) b 2 [109, 120] from (orp0 hw_64 c_65)), if_neg (show ¬ BGW (TC f z) (wdS (TC f z) a) b 1 [97] from (orp0 hw_70 c_71))]), (by omega)⟩⟩, hS.F ht⟩) hS.2.2 dX10_readKind_305
                    ·
                      refine lv_aload_n hx hb dX10_readKind_268 rfl (lv_at hl 1 rfl) ?_
                      refine lv_iconst (v := 3) hx hb dX10_readKind_269 (by decide) ?_
                      refine lv_aload_n hx hb dX10_readKind_270 rfl (lv_at hl 2 rfl) ?_
                      refine lv_iload hx hb dX10_readKind_271 (lv_at hl 0 rfl) ?_
                      refine lv_iload_n hx hb dX10_readKind_273 rfl (lv_at hl 4 rfl) ?_
                      obtain ⟨q_77, v_78, hr_q_77, hXc_q_77⟩ := hG.2.2.2.2 ("PostGate$Term", 83, "a:", [97, 58]) (by decide +kernel)
                      have hXc_q_77 : SXc q_77 v_78 2 (cct [97, 58]) A s s.heap := hXc_q_77
                      have hX_q_77 : SX q_77 v_78 2 A s s.heap := hXc_q_77.sx
                      obtain ⟨xo_q_77, xc_q_77, xv_q_77, xt_q_77, xn_q_77⟩ := id hXc_q_77
                      have hr_q_77 : vk_R "PostGate$Term" 83 "a:" q_77 s := hr_q_77
                      refine va_ldcS hx hb hown hr_q_77 dX10_readKind_274 ?_
                      have hFc := pg_free hD hS hA
                      refine va_calli (va_runV (As := [.int (nI (wdS (TC f z) a)), .int (nI b), .ref q_77]) (rest := [.int 3, .ref h0]) ⟨hx, hb, hml, hown, hts⟩ (s_X0_begins_e l dC dI cs ty L H.size F_30 g1 σ r1 n1 q_77 v_78 2 (cct [97, 58]) z (wdS (TC f z) a) b f ([97, 58]) hW hL_g1 hT_g1 hF_34 hF_35 (by omega) (by omega) (by omega) (hbz) (⟨rfl, by decide +kernel⟩)) ⟨callB_of 3 hts (gi kt_112) rfl rfl rfl (hts _ kt_1) (hts _ kt_136) (by decide +kernel) ⟨Nat.le_of_ble_eq_true rfl, Nat.le_of_ble_eq_true rfl⟩, (hts _ kt_114), (hts _ kt_115)⟩ ⟨fun a U g mk q => ⟨q.1, PTC.calling q.2⟩, pg_recv hK hP hL_g1 hF_34 (q := (RX0, TX0, 3)) rfl, fun U hU hWm => ⟨rfl, PTC.mk hU hWm hP hK hD hE hO hG hXc_q_77 hS hFc⟩⟩ rfl rfl hl.1 rfl (lv_room (Nat.le_of_ble_eq_true rfl)) dX10_readKind_276 ⟨by show _ + 0 ≤ 0; omega, by show _ + 0 ≤ 0; omega⟩) hS (fun q _ h => hFc q h) hFc (fun r_79 u t H1 locs ht hvm hw hB hz1 hk1 hS => ?_)
                      obtain ⟨F_80, hB1⟩ := hB
                      obtain rfl : F_30 = F_80 := (funext (fun a => hB1.2.2.2 a List.not_mem_nil)).symm
                      obtain ⟨hP, hD, hO, hR⟩ := QT.back hB1 ht hFc hR (fun q h => absurd h List.not_mem_nil)
                      generalize H1 = H at hP hS ⊢
                      have hw_81 : ORP r_79 ((wdS (TC f z) a) + 2 ≤ b ∧ LIT (TC f z) (wdS (TC f z) a) [97, 58]) := hw
                      clear hw
                      refine lv_if_eq (tgt := 289) hx hb dX10_readKind_279 (by decide) (fun c_82 => ?_) (fun c_82 => ?_)
                      ·
                        refine lv_iload hx hb dX10_readKind_289 (lv_at hl 0 rfl) ?_
                        refine lv_iconst (v := 1) hx hb dX10_readKind_291 (by decide) ?_
                        refine lv_iadd hx hb dX10_readKind_292 ?_
                        refine lv_topi (fun x_83 ex_83 => ?_)
                        obtain rfl : x_83 = (nI ((wdS (TC f z) a) + 1)) := ex_83.trans (nI_add (wdS (TC f z) a) 1)
                        have hFc := pg_free hD hS hA
                        refine va_callv (va_runV (As := [.int 3, .int (nI ((wdS (TC f z) a) + 1))]) (rest := []) ⟨hx, hb, hml, hown, hts⟩ (s_X10_setKind_e l dC dI cs ty L H.size F_30 h0 ρ d0 (nI (sgS (TC f z) a)) d2 t3 d4 d5 3 (nI ((wdS (TC f z) a) + 1)) hW hL_h0 hT_h0 (by omega) hs5) ⟨callB_of 2 hts (gi kt_141) rfl rfl rfl (hts _ kt_90) (hts _ kt_142) (by decide +kernel) ⟨Nat.le_of_ble_eq_true rfl, Nat.le_of_ble_eq_true rfl⟩, (hts _ kt_143), (hts _ kt_144)⟩ ⟨fun a U g mk q => ⟨q.1, PT.calling q.2⟩, pg_recv hK hP hL_h0 hs5 (q := (RX10, TX10, 6)) rfl, fun U hU hWm => ⟨rfl, PT.mk hU hWm hP hK hD hE hO⟩⟩ rfl rfl hl.1 rfl (lv_room (Nat.le_of_ble_eq_true rfl)) dX10_readKind_293 ⟨by show _ + 0 ≤ 0; omega, by show _ + 0 ≤ 0; omega⟩) hS (fun q _ h => hFc q h) hFc (fun u t H1 locs ht hvm hw hB hz1 hk1 hS => ?_)
                        obtain ⟨F_85, hB1, hq_86⟩ := hB
                        obtain ⟨hP, hD, hO, hR⟩ := QT.back hB1 ht hFc hR (fun q h => by simp only [List.mem_cons, List.not_mem_nil, or_false] at h ⊢; omega)
                        have hF_87 : F_85 g1 = .inr (0, [.ref r1, .int (nI z), .int 0]) := (hB1.2.2.2 g1 (by rw [hT_g1]; simp only [List.mem_cons, List.not_mem_nil, or_false]; omega)).trans hF_34
                        have hF_88 : F_85 r1 = .inl (cs 16, n1, .inl f) := (hB1.2.2.2 r1 (by rw [ht_2]; simp only [List.mem_cons, List.not_mem_nil, or_false]; omega)).trans hF_35
                        generalize H1 = H at hP hS ⊢
                        refine lv_goto (tgt := 305) hx hb dX10_readKind_296 (by decide) ?_
                        refine W.widen (k := 0) (n := 0) (by omega) (by omega) ?_
                        exact W.vret hx hb hr (fun t ht hWm => ⟨⟨(), rfl, trivial, ⟨F_85, 3, ((sgS (TC f z) a)), ((wdS (TC f z) a) + 1), QT.mk ht hP hD hO hR, hq_86, (by unfold kdT; rw [if_neg (show ¬ BGW (TC f z) a b 9 [114, 101, 100, 105, 114, 101, 99, 116, 61] from (orp0 hw_13 c_14)), if_neg (show ¬ OTH (TC f z) a b from (orp0 hw_17 c_18))]; unfold kdW; rw [if_neg (show ¬ ISW (TC f z) (wdS (TC f z) a) b 3 [97, 108, 108] from (orp0 hw_40 c_41)), if_neg (show ¬ BGW (TC f z) (wdS (TC f z) a) b 8 [105, 110, 99, 108, 117, 100, 101, 58] from (orp0 hw_46 c_47)), if_neg (show ¬ BGW (TC f z) (wdS (TC f z) a) b 7 [101, 120, 105, 115, 116, 115, 58] from (orp0 hw_52 c_53)), if_neg (show ¬ BGW (TC f z) (wdS (TC f z) a) b 4 [105, 112, 52, 58] from (orp0 hw_58 c_59)), if_neg (show ¬ BGW (TC f z) (wdS (TC f z) a) b 2 [109, 120] from (orp0 hw_64 c_65)), if_pos (show BGW (TC f z) (wdS (TC f z) a) b 1 [97] from (orp1 hw_70 c_71)), if_neg (show ¬ BGW (TC f z) (wdS (TC f z) a) b 2 [97, 58] from (orp0 hw_81 c_82))]), (by have h265 := (orp1 hw_70 c_71).1; omega)⟩⟩, hS.F ht⟩) hS.2.2 dX10_readKind_305
                      ·
                        refine lv_iload hx hb dX10_readKind_282 (lv_at hl 0 rfl) ?_
                        refine lv_iconst (v := 2) hx hb dX10_readKind_284 (by decide) ?_
                        refine lv_iadd hx hb dX10_readKind_285 ?_
                        refine lv_topi (fun x_89 ex_89 => ?_)
                        obtain rfl : x_89 = (nI ((wdS (TC f z) a) + 2)) := ex_89.trans (nI_add (wdS (TC f z) a) 2)
                        refine lv_goto (tgt := 293) hx hb dX10_readKind_286 (by decide) ?_
                        have hFc := pg_free hD hS hA
                        refine va_callv (va_runV (As := [.int 3, .int (nI ((wdS (TC f z) a) + 2))]) (rest := []) ⟨hx, hb, hml, hown, hts⟩ (s_X10_setKind_e l dC dI cs ty L H.size F_30 h0 ρ d0 (nI (sgS (TC f z) a)) d2 t3 d4 d5 3 (nI ((wdS (TC f z) a) + 2)) hW hL_h0 hT_h0 (by omega) hs5) ⟨callB_of 2 hts (gi kt_141) rfl rfl rfl (hts _ kt_90) (hts _ kt_142) (by decide +kernel) ⟨Nat.le_of_ble_eq_true rfl, Nat.le_of_ble_eq_true rfl⟩, (hts _ kt_143), (hts _ kt_144)⟩ ⟨fun a U g mk q => ⟨q.1, PT.calling q.2⟩, pg_recv hK hP hL_h0 hs5 (q := (RX10, TX10, 6)) rfl, fun U hU hWm => ⟨rfl, PT.mk hU hWm hP hK hD hE hO⟩⟩ rfl rfl hl.1 rfl (lv_room (Nat.le_of_ble_eq_true rfl)) dX10_readKind_293 ⟨by show _ + 0 ≤ 0; omega, by show _ + 0 ≤ 0; omega⟩) hS (fun q _ h => hFc q h) hFc (fun u t H1 locs ht hvm hw hB hz1 hk1 hS => ?_)
                        obtain ⟨F_91, hB1, hq_92⟩ := hB
                        obtain ⟨hP, hD, hO, hR⟩ := QT.back hB1 ht hFc hR (fun q h => by simp only [List.mem_cons, List.not_mem_nil, or_false] at h ⊢; omega)
                        have hF_93 : F_91 g1 = .inr (0, [.ref r1, .int (nI z), .int 0]) := (hB1.2.2.2 g1 (by rw [hT_g1]; simp only [List.mem_cons, List.not_mem_nil, or_false]; omega)).trans hF_34
                        have hF_94 : F_91 r1 = .inl (cs 16, n1, .inl f) := (hB1.2.2.2 r1 (by rw [ht_2]; simp only [List.mem_cons, List.not_mem_nil, or_false]; omega)).trans hF_35
                        generalize H1 = H at hP hS ⊢
                        refine lv_goto (tgt := 305) hx hb dX10_readKind_296 (by decide) ?_
                        refine W.widen (k := 0) (n := 0) (by omega) (by omega) ?_
                        exact W.vret hx hb hr (fun t ht hWm => ⟨⟨(), rfl, trivial, ⟨F_91, 3, ((sgS (TC f z) a)), ((wdS (TC f z) a) + 2), QT.mk ht hP hD hO hR, hq_92, (by unfold kdT; rw [if_neg (show ¬ BGW (TC f z) a b 9 [114, 101, 100, 105, 114, 101, 99, 116, 61] from (orp0 hw_13 c_14)), if_neg (show ¬ OTH (TC f z) a b from (orp0 hw_17 c_18))]; unfold kdW; rw [if_neg (show ¬ ISW (TC f z) (wdS (TC f z) a) b 3 [97, 108, 108] from (orp0 hw_40 c_41)), if_neg (show ¬ BGW (TC f z) (wdS (TC f z) a) b 8 [105, 110, 99, 108, 117, 100, 101, 58] from (orp0 hw_46 c_47)), if_neg (show ¬ BGW (TC f z) (wdS (TC f z) a) b 7 [101, 120, 105, 115, 116, 115, 58] from (orp0 hw_52 c_53)), if_neg (show ¬ BGW (TC f z) (wdS (TC f z) a) b 4 [105, 112, 52, 58] from (orp0 hw_58 c_59)), if_neg (show ¬ BGW (TC f z) (wdS (TC f z) a) b 2 [109, 120] from (orp0 hw_64 c_65)), if_pos (show BGW (TC f z) (wdS (TC f z) a) b 1 [97] from (orp1 hw_70 c_71)), if_pos (show BGW (TC f z) (wdS (TC f z) a) b 2 [97, 58] from (orp1 hw_81 c_82))]), (by have h265 := (orp1 hw_70 c_71).1; have h279 := (orp1 hw_81 c_82).1; omega)⟩⟩, hS.F ht⟩) hS.2.2 dX10_readKind_305
                  ·
                    refine lv_aload_n hx hb dX10_readKind_225 rfl (lv_at hl 1 rfl) ?_
                    refine lv_iconst (v := 4) hx hb dX10_readKind_226 (by decide) ?_
                    refine lv_aload_n hx hb dX10_readKind_227 rfl (lv_at hl 2 rfl) ?_
                    refine lv_iload hx hb dX10_readKind_228 (lv_at hl 0 rfl) ?_
                    refine lv_iload_n hx hb dX10_readKind_230 rfl (lv_at hl 4 rfl) ?_
                    obtain ⟨q_95, v_96, hr_q_95, hXc_q_95⟩ := hG.2.2.2.2 ("PostGate$Term", 79, "mx:", [109, 120, 58]) (by decide +kernel)
                    have hXc_q_95 : SXc q_95 v_96 3 (cct [109, 120, 58]) A s s.heap := hXc_q_95
                    have hX_q_95 : SX q_95 v_96 3 A s s.heap := hXc_q_95.sx
                    obtain ⟨xo_q_95, xc_q_95, xv_q_95, xt_q_95, xn_q_95⟩ := id hXc_q_95
                    have hr_q_95 : vk_R "PostGate$Term" 79 "mx:" q_95 s := hr_q_95
                    refine va_ldcS hx hb hown hr_q_95 dX10_readKind_231 ?_
                    have hFc := pg_free hD hS hA
                    refine va_calli (va_runV (As := [.int (nI (wdS (TC f z) a)), .int (nI b), .ref q_95]) (rest := [.int 4, .ref h0]) ⟨hx, hb, hml, hown, hts⟩ (s_X0_begins_e l dC dI cs ty L H.size F_30 g1 σ r1 n1 q_95 v_96 3 (cct [109, 120, 58]) z (wdS (TC f z) a) b f ([109, 120, 58]) hW hL_g1 hT_g1 hF_34 hF_35 (by omega) (by omega) (by omega) (hbz) (⟨rfl, by decide +kernel⟩)) ⟨callB_of 3 hts (gi kt_112) rfl rfl rfl (hts _ kt_1) (hts _ kt_136) (by decide +kernel) ⟨Nat.le_of_ble_eq_true rfl, Nat.le_of_ble_eq_true rfl⟩, (hts _ kt_114), (hts _ kt_115)⟩ ⟨fun a U g mk q => ⟨q.1, PTC.calling q.2⟩, pg_recv hK hP hL_g1 hF_34 (q := (RX0, TX0, 3)) rfl, fun U hU hWm => ⟨rfl, PTC.mk hU hWm hP hK hD hE hO hG hXc_q_95 hS hFc⟩⟩ rfl rfl hl.1 rfl (lv_room (Nat.le_of_ble_eq_true rfl)) dX10_readKind_233 ⟨by show _ + 0 ≤ 0; omega, by show _ + 0 ≤ 0; omega⟩) hS (fun q _ h => hFc q h) hFc (fun r_97 u t H1 locs ht hvm hw hB hz1 hk1 hS => ?_)
                    obtain ⟨F_98, hB1⟩ := hB
                    obtain rfl : F_30 = F_98 := (funext (fun a => hB1.2.2.2 a List.not_mem_nil)).symm
                    obtain ⟨hP, hD, hO, hR⟩ := QT.back hB1 ht hFc hR (fun q h => absurd h List.not_mem_nil)
                    generalize H1 = H at hP hS ⊢
                    have hw_99 : ORP r_97 ((wdS (TC f z) a) + 3 ≤ b ∧ LIT (TC f z) (wdS (TC f z) a) [109, 120, 58]) := hw
                    clear hw
                    refine lv_if_eq (tgt := 246) hx hb dX10_readKind_236 (by decide) (fun c_100 => ?_) (fun c_100 => ?_)
                    ·
                      refine lv_iload hx hb dX10_readKind_246 (lv_at hl 0 rfl) ?_
                      refine lv_iconst (v := 2) hx hb dX10_readKind_248 (by decide) ?_
                      refine lv_iadd hx hb dX10_readKind_249 ?_
                      refine lv_topi (fun x_101 ex_101 => ?_)
                      obtain rfl : x_101 = (nI ((wdS (TC f z) a) + 2)) := ex_101.trans (nI_add (wdS (TC f z) a) 2)
                      have hFc := pg_free hD hS hA
                      refine va_callv (va_runV (As := [.int 4, .int (nI ((wdS (TC f z) a) + 2))]) (rest := []) ⟨hx, hb, hml, hown, hts⟩ (s_X10_setKind_e l dC dI cs ty L H.size F_30 h0 ρ d0 (nI (sgS (TC f z) a)) d2 t3 d4 d5 4 (nI ((wdS (TC f z) a) + 2)) hW hL_h0 hT_h0 (by omega) hs5) ⟨callB_of 2 hts (gi kt_141) rfl rfl rfl (hts _ kt_90) (hts _ kt_142) (by decide +kernel) ⟨Nat.le_of_ble_eq_true rfl, Nat.le_of_ble_eq_true rfl⟩, (hts _ kt_143), (hts _ kt_144)⟩ ⟨fun a U g mk q => ⟨q.1, PT.calling q.2⟩, pg_recv hK hP hL_h0 hs5 (q := (RX10, TX10, 6)) rfl, fun U hU hWm => ⟨rfl, PT.mk hU hWm hP hK hD hE hO⟩⟩ rfl rfl hl.1 rfl (lv_room (Nat.le_of_ble_eq_true rfl)) dX10_readKind_250 ⟨by show _ + 0 ≤ 0; omega, by show _ + 0 ≤ 0; omega⟩) hS (fun q _ h => hFc q h) hFc (fun u t H1 locs ht hvm hw hB hz1 hk1 hS => ?_)
                      obtain ⟨F_103, hB1, hq_104⟩ := hB
                      obtain ⟨hP, hD, hO, hR⟩ := QT.back hB1 ht hFc hR (fun q h => by simp only [List.mem_cons, List.not_mem_nil, or_false] at h ⊢; omega)
                      have hF_105 : F_103 g1 = .inr (0, [.ref r1, .int (nI z), .int 0]) := (hB1.2.2.2 g1 (by rw [hT_g1]; simp only [List.mem_cons, List.not_mem_nil, or_false]; omega)).trans hF_34
                      have hF_106 : F_103 r1 = .inl (cs 16, n1, .inl f) := (hB1.2.2.2 r1 (by rw [ht_2]; simp only [List.mem_cons, List.not_mem_nil, or_false]; omega)).trans hF_35
                      generalize H1 = H at hP hS ⊢
                      refine lv_goto (tgt := 305) hx hb dX10_readKind_253 (by decide) ?_
                      refine W.widen (k := 0) (n := 0) (by omega) (by omega) ?_
                      exact W.vret hx hb hr (fun t ht hWm => ⟨⟨(), rfl, trivial, ⟨F_103, 4, ((sgS (TC f z) a)), ((wdS (TC f z) a) + 2), QT.mk ht hP hD hO hR, hq_104, (by unfold kdT; rw [if_neg (show ¬ BGW (TC f z) a b 9 [114, 101, 100, 105, 114, 101, 99, 116, 61] from (orp0 hw_13 c_14)), if_neg (show ¬ OTH (TC f z) a b from (orp0 hw_17 c_18))]; unfold kdW; rw [if_neg (show ¬ ISW (TC f z) (wdS (TC f z) a) b 3 [97, 108, 108] from (orp0 hw_40 c_41)), if_neg (show ¬ BGW (TC f z) (wdS (TC f z) a) b 8 [105, 110, 99, 108, 117, 100, 101, 58] from (orp0 hw_46 c_47)), if_neg (show ¬ BGW (TC f z) (wdS (TC f z) a) b 7 [101, 120, 105, 115, 116, 115, 58] from (orp0 hw_52 c_53)), if_neg (show ¬ BGW (TC f z) (wdS (TC f z) a) b 4 [105, 112, 52, 58] from (orp0 hw_58 c_59)), if_pos (show BGW (TC f z) (wdS (TC f z) a) b 2 [109, 120] from (orp1 hw_64 c_65)), if_neg (show ¬ BGW (TC f z) (wdS (TC f z) a) b 3 [109, 120, 58] from (orp0 hw_99 c_100))]), (by have h222 := (orp1 hw_64 c_65).1; omega)⟩⟩, hS.F ht⟩) hS.2.2 dX10_readKind_305
                    ·
                      refine lv_iload hx hb dX10_readKind_239 (lv_at hl 0 rfl) ?_
                      refine lv_iconst (v := 3) hx hb dX10_readKind_241 (by decide) ?_
                      refine lv_iadd hx hb dX10_readKind_242 ?_
                      refine lv_topi (fun x_107 ex_107 => ?_)
                      obtain rfl : x_107 = (nI ((wdS (TC f z) a) + 3)) := ex_107.trans (nI_add (wdS (TC f z) a) 3)
                      refine lv_goto (tgt := 250) hx hb dX10_readKind_243 (by decide) ?_
                      have hFc := pg_free hD hS hA
                      refine va_callv (va_runV (As := [.int 4, .int (nI ((wdS (TC f z) a) + 3))]) (rest := []) ⟨hx, hb, hml, hown, hts⟩ (s_X10_setKind_e l dC dI cs ty L H.size F_30 h0 ρ d0 (nI (sgS (TC f z) a)) d2 t3 d4 d5 4 (nI ((wdS (TC f z) a) + 3)) hW hL_h0 hT_h0 (by omega) hs5) ⟨callB_of 2 hts (gi kt_141) rfl rfl rfl (hts _ kt_90) (hts _ kt_142) (by decide +kernel) ⟨Nat.le_of_ble_eq_true rfl, Nat.le_of_ble_eq_true rfl⟩, (hts _ kt_143), (hts _ kt_144)⟩ ⟨fun a U g mk q => ⟨q.1, PT.calling q.2⟩, pg_recv hK hP hL_h0 hs5 (q := (RX10, TX10, 6)) rfl, fun U hU hWm => ⟨rfl, PT.mk hU hWm hP hK hD hE hO⟩⟩ rfl rfl hl.1 rfl (lv_room (Nat.le_of_ble_eq_true rfl)) dX10_readKind_250 ⟨by show _ + 0 ≤ 0; omega, by show _ + 0 ≤ 0; omega⟩) hS (fun q _ h => hFc q h) hFc (fun u t H1 locs ht hvm hw hB hz1 hk1 hS => ?_)
                      obtain ⟨F_109, hB1, hq_110⟩ := hB
                      obtain ⟨hP, hD, hO, hR⟩ := QT.back hB1 ht hFc hR (fun q h => by simp only [List.mem_cons, List.not_mem_nil, or_false] at h ⊢; omega)
                      have hF_111 : F_109 g1 = .inr (0, [.ref r1, .int (nI z), .int 0]) := (hB1.2.2.2 g1 (by rw [hT_g1]; simp only [List.mem_cons, List.not_mem_nil, or_false]; omega)).trans hF_34
                      have hF_112 : F_109 r1 = .inl (cs 16, n1, .inl f) := (hB1.2.2.2 r1 (by rw [ht_2]; simp only [List.mem_cons, List.not_mem_nil, or_false]; omega)).trans hF_35
                      generalize H1 = H at hP hS ⊢
                      refine lv_goto (tgt := 305) hx hb dX10_readKind_253 (by decide) ?_
                      refine W.widen (k := 0) (n := 0) (by omega) (by omega) ?_
                      exact W.vret hx hb hr (fun t ht hWm => ⟨⟨(), rfl, trivial, ⟨F_109, 4, ((sgS (TC f z) a)), ((wdS (TC f z) a) + 3), QT.mk ht hP hD hO hR, hq_110, (by unfold kdT; rw [if_neg (show ¬ BGW (TC f z) a b 9 [114, 101, 100, 105, 114, 101, 99, 116, 61] from (orp0 hw_13 c_14)), if_neg (show ¬ OTH (TC f z) a b from (orp0 hw_17 c_18))]; unfold kdW; rw [if_neg (show ¬ ISW (TC f z) (wdS (TC f z) a) b 3 [97, 108, 108] from (orp0 hw_40 c_41)), if_neg (show ¬ BGW (TC f z) (wdS (TC f z) a) b 8 [105, 110, 99, 108, 117, 100, 101, 58] from (orp0 hw_46 c_47)), if_neg (show ¬ BGW (TC f z) (wdS (TC f z) a) b 7 [101, 120, 105, 115, 116, 115, 58] from (orp0 hw_52 c_53)), if_neg (show ¬ BGW (TC f z) (wdS (TC f z) a) b 4 [105, 112, 52, 58] from (orp0 hw_58 c_59)), if_pos (show BGW (TC f z) (wdS (TC f z) a) b 2 [109, 120] from (orp1 hw_64 c_65)), if_pos (show BGW (TC f z) (wdS (TC f z) a) b 3 [109, 120, 58] from (orp1 hw_99 c_100))]), (by have h222 := (orp1 hw_64 c_65).1; have h236 := (orp1 hw_99 c_100).1; omega)⟩⟩, hS.F ht⟩) hS.2.2 dX10_readKind_305
                ·
                  refine lv_aload_n hx hb dX10_readKind_201 rfl (lv_at hl 1 rfl) ?_
                  refine lv_iconst (v := 5) hx hb dX10_readKind_202 (by decide) ?_
                  refine lv_iload hx hb dX10_readKind_203 (lv_at hl 0 rfl) ?_
                  refine lv_iconst (v := 4) hx hb dX10_readKind_205 (by decide) ?_
                  refine lv_iadd hx hb dX10_readKind_206 ?_
                  refine lv_topi (fun x_113 ex_113 => ?_)
                  obtain rfl : x_113 = (nI ((wdS (TC f z) a) + 4)) := ex_113.trans (nI_add (wdS (TC f z) a) 4)
                  have hFc := pg_free hD hS hA
                  refine va_callv (va_runV (As := [.int 5, .int (nI ((wdS (TC f z) a) + 4))]) (rest := []) ⟨hx, hb, hml, hown, hts⟩ (s_X10_setKind_e l dC dI cs ty L H.size F_30 h0 ρ d0 (nI (sgS (TC f z) a)) d2 t3 d4 d5 5 (nI ((wdS (TC f z) a) + 4)) hW hL_h0 hT_h0 (by omega) hs5) ⟨callB_of 2 hts (gi kt_141) rfl rfl rfl (hts _ kt_90) (hts _ kt_142) (by decide +kernel) ⟨Nat.le_of_ble_eq_true rfl, Nat.le_of_ble_eq_true rfl⟩, (hts _ kt_143), (hts _ kt_144)⟩ ⟨fun a U g mk q => ⟨q.1, PT.calling q.2⟩, pg_recv hK hP hL_h0 hs5 (q := (RX10, TX10, 6)) rfl, fun U hU hWm => ⟨rfl, PT.mk hU hWm hP hK hD hE hO⟩⟩ rfl rfl hl.1 rfl (lv_room (Nat.le_of_ble_eq_true rfl)) dX10_readKind_207 ⟨by show _ + 0 ≤ 0; omega, by show _ + 0 ≤ 0; omega⟩) hS (fun q _ h => hFc q h) hFc (fun u t H1 locs ht hvm hw hB hz1 hk1 hS => ?_)
                  obtain ⟨F_115, hB1, hq_116⟩ := hB
                  obtain ⟨hP, hD, hO, hR⟩ := QT.back hB1 ht hFc hR (fun q h => by simp only [List.mem_cons, List.not_mem_nil, or_false] at h ⊢; omega)
                  have hF_117 : F_115 g1 = .inr (0, [.ref r1, .int (nI z), .int 0]) := (hB1.2.2.2 g1 (by rw [hT_g1]; simp only [List.mem_cons, List.not_mem_nil, or_false]; omega)).trans hF_34
                  have hF_118 : F_115 r1 = .inl (cs 16, n1, .inl f) := (hB1.2.2.2 r1 (by rw [ht_2]; simp only [List.mem_cons, List.not_mem_nil, or_false]; omega)).trans hF_35
                  generalize H1 = H at hP hS ⊢
                  refine lv_goto (tgt := 305) hx hb dX10_readKind_210 (by decide) ?_
                  refine W.widen (k := 0) (n := 0) (by omega) (by omega) ?_
                  exact W.vret hx hb hr (fun t ht hWm => ⟨⟨(), rfl, trivial, ⟨F_115, 5, ((sgS (TC f z) a)), ((wdS (TC f z) a) + 4), QT.mk ht hP hD hO hR, hq_116, (by unfold kdT; rw [if_neg (show ¬ BGW (TC f z) a b 9 [114, 101, 100, 105, 114, 101, 99, 116, 61] from (orp0 hw_13 c_14)), if_neg (show ¬ OTH (TC f z) a b from (orp0 hw_17 c_18))]; unfold kdW; rw [if_neg (show ¬ ISW (TC f z) (wdS (TC f z) a) b 3 [97, 108, 108] from (orp0 hw_40 c_41)), if_neg (show ¬ BGW (TC f z) (wdS (TC f z) a) b 8 [105, 110, 99, 108, 117, 100, 101, 58] from (orp0 hw_46 c_47)), if_neg (show ¬ BGW (TC f z) (wdS (TC f z) a) b 7 [101, 120, 105, 115, 116, 115, 58] from (orp0 hw_52 c_53)), if_pos (show BGW (TC f z) (wdS (TC f z) a) b 4 [105, 112, 52, 58] from (orp1 hw_58 c_59))]), (by have h198 := (orp1 hw_58 c_59).1; omega)⟩⟩, hS.F ht⟩) hS.2.2 dX10_readKind_305
              ·
                refine lv_aload_n hx hb dX10_readKind_175 rfl (lv_at hl 1 rfl) ?_
                refine lv_bipush (v := 6) hx hb dX10_readKind_176 (by decide) ?_
                refine lv_iload hx hb dX10_readKind_178 (lv_at hl 0 rfl) ?_
                refine lv_bipush (v := 7) hx hb dX10_readKind_180 (by decide) ?_
                refine lv_iadd hx hb dX10_readKind_182 ?_
                refine lv_topi (fun x_119 ex_119 => ?_)
                obtain rfl : x_119 = (nI ((wdS (TC f z) a) + 7)) := ex_119.trans (nI_add (wdS (TC f z) a) 7)
                have hFc := pg_free hD hS hA
                refine va_callv (va_runV (As := [.int 6, .int (nI ((wdS (TC f z) a) + 7))]) (rest := []) ⟨hx, hb, hml, hown, hts⟩ (s_X10_setKind_e l dC dI cs ty L H.size F_30 h0 ρ d0 (nI (sgS (TC f z) a)) d2 t3 d4 d5 6 (nI ((wdS (TC f z) a) + 7)) hW hL_h0 hT_h0 (by omega) hs5) ⟨callB_of 2 hts (gi kt_141) rfl rfl rfl (hts _ kt_90) (hts _ kt_142) (by decide +kernel) ⟨Nat.le_of_ble_eq_true rfl, Nat.le_of_ble_eq_true rfl⟩, (hts _ kt_143), (hts _ kt_144)⟩ ⟨fun a U g mk q => ⟨q.1, PT.calling q.2⟩, pg_recv hK hP hL_h0 hs5 (q := (RX10, TX10, 6)) rfl, fun U hU hWm => ⟨rfl, PT.mk hU hWm hP hK hD hE hO⟩⟩ rfl rfl hl.1 rfl (lv_room (Nat.le_of_ble_eq_true rfl)) dX10_readKind_183 ⟨by show _ + 0 ≤ 0; omega, by show _ + 0 ≤ 0; omega⟩) hS (fun q _ h => hFc q h) hFc (fun u t H1 locs ht hvm hw hB hz1 hk1 hS => ?_)
                obtain ⟨F_121, hB1, hq_122⟩ := hB
                obtain ⟨hP, hD, hO, hR⟩ := QT.back hB1 ht hFc hR (fun q h => by simp only [List.mem_cons, List.not_mem_nil, or_false] at h ⊢; omega)
                have hF_123 : F_121 g1 = .inr (0, [.ref r1, .int (nI z), .int 0]) := (hB1.2.2.2 g1 (by rw [hT_g1]; simp only [List.mem_cons, List.not_mem_nil, or_false]; omega)).trans hF_34
                have hF_124 : F_121 r1 = .inl (cs 16, n1, .inl f) := (hB1.2.2.2 r1 (by rw [ht_2]; simp only [List.mem_cons, List.not_mem_nil, or_false]; omega)).trans hF_35
                generalize H1 = H at hP hS ⊢
                refine lv_goto (tgt := 305) hx hb dX10_readKind_186 (by decide) ?_
                refine W.widen (k := 0) (n := 0) (by omega) (by omega) ?_
                exact W.vret hx hb hr (fun t ht hWm => ⟨⟨(), rfl, trivial, ⟨F_121, 6, ((sgS (TC f z) a)), ((wdS (TC f z) a) + 7), QT.mk ht hP hD hO hR, hq_122, (by unfold kdT; rw [if_neg (show ¬ BGW (TC f z) a b 9 [114, 101, 100, 105, 114, 101, 99, 116, 61] from (orp0 hw_13 c_14)), if_neg (show ¬ OTH (TC f z) a b from (orp0 hw_17 c_18))]; unfold kdW; rw [if_neg (show ¬ ISW (TC f z) (wdS (TC f z) a) b 3 [97, 108, 108] from (orp0 hw_40 c_41)), if_neg (show ¬ BGW (TC f z) (wdS (TC f z) a) b 8 [105, 110, 99, 108, 117, 100, 101, 58] from (orp0 hw_46 c_47)), if_pos (show BGW (TC f z) (wdS (TC f z) a) b 7 [101, 120, 105, 115, 116, 115, 58] from (orp1 hw_52 c_53))]), (by have h172 := (orp1 hw_52 c_53).1; omega)⟩⟩, hS.F ht⟩) hS.2.2 dX10_readKind_305
            ·
              refine lv_aload_n hx hb dX10_readKind_150 rfl (lv_at hl 1 rfl) ?_
              refine lv_iconst (v := 2) hx hb dX10_readKind_151 (by decide) ?_
              refine lv_iload hx hb dX10_readKind_152 (lv_at hl 0 rfl) ?_
              refine lv_bipush (v := 8) hx hb dX10_readKind_154 (by decide) ?_
              refine lv_iadd hx hb dX10_readKind_156 ?_
              refine lv_topi (fun x_125 ex_125 => ?_)
              obtain rfl : x_125 = (nI ((wdS (TC f z) a) + 8)) := ex_125.trans (nI_add (wdS (TC f z) a) 8)
              have hFc := pg_free hD hS hA
              refine va_callv (va_runV (As := [.int 2, .int (nI ((wdS (TC f z) a) + 8))]) (rest := []) ⟨hx, hb, hml, hown, hts⟩ (s_X10_setKind_e l dC dI cs ty L H.size F_30 h0 ρ d0 (nI (sgS (TC f z) a)) d2 t3 d4 d5 2 (nI ((wdS (TC f z) a) + 8)) hW hL_h0 hT_h0 (by omega) hs5) ⟨callB_of 2 hts (gi kt_141) rfl rfl rfl (hts _ kt_90) (hts _ kt_142) (by decide +kernel) ⟨Nat.le_of_ble_eq_true rfl, Nat.le_of_ble_eq_true rfl⟩, (hts _ kt_143), (hts _ kt_144)⟩ ⟨fun a U g mk q => ⟨q.1, PT.calling q.2⟩, pg_recv hK hP hL_h0 hs5 (q := (RX10, TX10, 6)) rfl, fun U hU hWm => ⟨rfl, PT.mk hU hWm hP hK hD hE hO⟩⟩ rfl rfl hl.1 rfl (lv_room (Nat.le_of_ble_eq_true rfl)) dX10_readKind_157 ⟨by show _ + 0 ≤ 0; omega, by show _ + 0 ≤ 0; omega⟩) hS (fun q _ h => hFc q h) hFc (fun u t H1 locs ht hvm hw hB hz1 hk1 hS => ?_)
              obtain ⟨F_127, hB1, hq_128⟩ := hB
              obtain ⟨hP, hD, hO, hR⟩ := QT.back hB1 ht hFc hR (fun q h => by simp only [List.mem_cons, List.not_mem_nil, or_false] at h ⊢; omega)
              have hF_129 : F_127 g1 = .inr (0, [.ref r1, .int (nI z), .int 0]) := (hB1.2.2.2 g1 (by rw [hT_g1]; simp only [List.mem_cons, List.not_mem_nil, or_false]; omega)).trans hF_34
              have hF_130 : F_127 r1 = .inl (cs 16, n1, .inl f) := (hB1.2.2.2 r1 (by rw [ht_2]; simp only [List.mem_cons, List.not_mem_nil, or_false]; omega)).trans hF_35
              generalize H1 = H at hP hS ⊢
              refine lv_goto (tgt := 305) hx hb dX10_readKind_160 (by decide) ?_
              refine W.widen (k := 0) (n := 0) (by omega) (by omega) ?_
              exact W.vret hx hb hr (fun t ht hWm => ⟨⟨(), rfl, trivial, ⟨F_127, 2, ((sgS (TC f z) a)), ((wdS (TC f z) a) + 8), QT.mk ht hP hD hO hR, hq_128, (by unfold kdT; rw [if_neg (show ¬ BGW (TC f z) a b 9 [114, 101, 100, 105, 114, 101, 99, 116, 61] from (orp0 hw_13 c_14)), if_neg (show ¬ OTH (TC f z) a b from (orp0 hw_17 c_18))]; unfold kdW; rw [if_neg (show ¬ ISW (TC f z) (wdS (TC f z) a) b 3 [97, 108, 108] from (orp0 hw_40 c_41)), if_pos (show BGW (TC f z) (wdS (TC f z) a) b 8 [105, 110, 99, 108, 117, 100, 101, 58] from (orp1 hw_46 c_47))]), (by have h147 := (orp1 hw_46 c_47).1; omega)⟩⟩, hS.F ht⟩) hS.2.2 dX10_readKind_305
          ·
            refine lv_aload_n hx hb dX10_readKind_129 rfl (lv_at hl 1 rfl) ?_
            refine lv_iconst (v := 1) hx hb dX10_readKind_130 (by decide) ?_
            refine lv_iload_n hx hb dX10_readKind_131 rfl (lv_at hl 4 rfl) ?_
            have hFc := pg_free hD hS hA
            refine va_callv (va_runV (As := [.int 1, .int (nI b)]) (rest := []) ⟨hx, hb, hml, hown, hts⟩ (s_X10_setKind_e l dC dI cs ty L H.size F_30 h0 ρ d0 (nI (sgS (TC f z) a)) d2 t3 d4 d5 1 (nI b) hW hL_h0 hT_h0 (by omega) hs5) ⟨callB_of 2 hts (gi kt_141) rfl rfl rfl (hts _ kt_90) (hts _ kt_142) (by decide +kernel) ⟨Nat.le_of_ble_eq_true rfl, Nat.le_of_ble_eq_true rfl⟩, (hts _ kt_143), (hts _ kt_144)⟩ ⟨fun a U g mk q => ⟨q.1, PT.calling q.2⟩, pg_recv hK hP hL_h0 hs5 (q := (RX10, TX10, 6)) rfl, fun U hU hWm => ⟨rfl, PT.mk hU hWm hP hK hD hE hO⟩⟩ rfl rfl hl.1 rfl (lv_room (Nat.le_of_ble_eq_true rfl)) dX10_readKind_132 ⟨by show _ + 0 ≤ 0; omega, by show _ + 0 ≤ 0; omega⟩) hS (fun q _ h => hFc q h) hFc (fun u t H1 locs ht hvm hw hB hz1 hk1 hS => ?_)
            obtain ⟨F_132, hB1, hq_133⟩ := hB
            obtain ⟨hP, hD, hO, hR⟩ := QT.back hB1 ht hFc hR (fun q h => by simp only [List.mem_cons, List.not_mem_nil, or_false] at h ⊢; omega)
            have hF_134 : F_132 g1 = .inr (0, [.ref r1, .int (nI z), .int 0]) := (hB1.2.2.2 g1 (by rw [hT_g1]; simp only [List.mem_cons, List.not_mem_nil, or_false]; omega)).trans hF_34
            have hF_135 : F_132 r1 = .inl (cs 16, n1, .inl f) := (hB1.2.2.2 r1 (by rw [ht_2]; simp only [List.mem_cons, List.not_mem_nil, or_false]; omega)).trans hF_35
            generalize H1 = H at hP hS ⊢
            refine lv_goto (tgt := 305) hx hb dX10_readKind_135 (by decide) ?_
            refine W.widen (k := 0) (n := 0) (by omega) (by omega) ?_
            exact W.vret hx hb hr (fun t ht hWm => ⟨⟨(), rfl, trivial, ⟨F_132, 1, ((sgS (TC f z) a)), b, QT.mk ht hP hD hO hR, hq_133, (by unfold kdT; rw [if_neg (show ¬ BGW (TC f z) a b 9 [114, 101, 100, 105, 114, 101, 99, 116, 61] from (orp0 hw_13 c_14)), if_neg (show ¬ OTH (TC f z) a b from (orp0 hw_17 c_18))]; unfold kdW; rw [if_pos (show ISW (TC f z) (wdS (TC f z) a) b 3 [97, 108, 108] from (orp1 hw_40 c_41))]), (by omega)⟩⟩, hS.F ht⟩) hS.2.2 dX10_readKind_305
        ·
          refine lv_aload_n hx hb dX10_readKind_87 rfl (lv_at hl 2 rfl) ?_
          refine lv_iload hx hb dX10_readKind_88 (lv_at hl 0 rfl) ?_
          refine lv_if_eq (tgt := 98) hx hb dX10_readKind_90 (by decide) (fun c_136 => ?_) (fun c_136 => ?_)
          ·
            refine lv_bipush (v := 43) hx hb dX10_readKind_98 (by decide) ?_
            refine pg_put (ci := 10) (v := .int 43) (ty := .int) (C := RX10) (T := TX10) (N := 6) hx hb hts it_10 tyX10 tyX10_ok nmX10 hown hK hP hD hS hL_h0 hs2 rfl 1 (by decide) (hts _ kt_135) (fun _ h9 => h9) rfl (by decide +kernel) (rfl) (rfl) (Nat.le_of_ble_eq_true rfl) dX10_readKind_100 (fun H locs hP hD hS => ?_)
            obtain ⟨F_137, he_138, hP, hD, hO, hR⟩ : ∃ G, G = va_up F_23 h0 (.inr (10, [.int d0, .int 43, .int d2, .int (nI t3), .int d4, .int d5])) ∧ va_P (dC, dI) vwCl (va_pl L G) H ∧ va_D A (va_pl L G) ∧ OK cs ty L G ∧ FR ty [ρ] F G := ⟨_, rfl, hP, hD, hO.up (sh.term hT_h0 ⟨d0, 43, d2, t3, d4, d5, rfl, (by first | omega | assumption | exact Or.inl rfl | exact Or.inr rfl)⟩), hR.up hT_h0 (by simp)⟩
            have hF_139 : F_137 h0 = .inr (10, [.int d0, .int 43, .int d2, .int (nI t3), .int d4, .int d5]) := by rw [he_138]; exact up_self
            have hF_140 : F_137 g1 = .inr (0, [.ref r1, .int (nI z), .int 0]) := by rw [he_138, up_ne (ne_ty hT_g1 hT_h0 (by simp))]; exact hF_27
            have hF_141 : F_137 r1 = .inl (cs 16, n1, .inl f) := by rw [he_138, up_ne (ne_ty ht_2 hT_h0 (by simp))]; exact hF_28
            refine lv_iload hx hb dX10_readKind_103 (lv_at hl 0 rfl) ?_
            refine lv_if_eq (tgt := 114) hx hb dX10_readKind_105 (by decide) (fun c_142 => ?_) (fun c_142 => absurd (c_136) c_142)
            refine lv_iload_n hx hb dX10_readKind_114 rfl (lv_at hl 4 rfl) ?_
            refine lv_istore (lv' := [(6, .int (nI a)), (5, .int s0), (4, .int (atn f z a)), (0, .ref h0), (1, .ref g1), (2, .int (nI a)), (3, .int (nI b))]) hx hb dX10_readKind_115 hl (by decide) rfl (fun ls hl => ?_)
            refine W.widen (k := 0) (n := 0) (by omega) (by omega) ?_
            exact jn_29 ((nI a), 43) F_137 (⟨(congrArg nI (if_neg (orp0 hs1 c_136))).symm, (congrArg nI (if_neg (orp0 hs1 c_136))).symm, hF_139⟩) hO hR _ _ hP hD hS ls (lv_sub hl [0, 3, 4, 5, 6] rfl)
          ·
            refine lv_iload hx hb dX10_readKind_93 (lv_at hl 1 rfl) ?_
            refine lv_goto (tgt := 100) hx hb dX10_readKind_95 (by decide) ?_
            refine pg_put (ci := 10) (v := .int (atn f z a)) (ty := .int) (C := RX10) (T := TX10) (N := 6) hx hb hts it_10 tyX10 tyX10_ok nmX10 hown hK hP hD hS hL_h0 hs2 rfl 1 (by decide) (hts _ kt_135) (fun _ h9 => h9) rfl (by decide +kernel) (rfl) (rfl) (Nat.le_of_ble_eq_true rfl) dX10_readKind_100 (fun H locs hP hD hS => ?_)
            obtain ⟨F_143, he_144, hP, hD, hO, hR⟩ : ∃ G, G = va_up F_23 h0 (.inr (10, [.int d0, .int (atn f z a), .int d2, .int (nI t3), .int d4, .int d5])) ∧ va_P (dC, dI) vwCl (va_pl L G) H ∧ va_D A (va_pl L G) ∧ OK cs ty L G ∧ FR ty [ρ] F G := ⟨_, rfl, hP, hD, hO.up (sh.term hT_h0 ⟨d0, (atn f z a), d2, t3, d4, d5, rfl, (by first | omega | assumption | exact Or.inl rfl | exact Or.inr rfl)⟩), hR.up hT_h0 (by simp)⟩
            have hF_145 : F_143 h0 = .inr (10, [.int d0, .int (atn f z a), .int d2, .int (nI t3), .int d4, .int d5]) := by rw [he_144]; exact up_self
            have hF_146 : F_143 g1 = .inr (0, [.ref r1, .int (nI z), .int 0]) := by rw [he_144, up_ne (ne_ty hT_g1 hT_h0 (by simp))]; exact hF_27
            have hF_147 : F_143 r1 = .inl (cs 16, n1, .inl f) := by rw [he_144, up_ne (ne_ty ht_2 hT_h0 (by simp))]; exact hF_28
            refine lv_iload hx hb dX10_readKind_103 (lv_at hl 0 rfl) ?_
            refine lv_if_eq (tgt := 114) hx hb dX10_readKind_105 (by decide) (fun c_148 => absurd c_148 (c_136)) (fun c_148 => ?_)
            refine lv_iload_n hx hb dX10_readKind_108 rfl (lv_at hl 4 rfl) ?_
            refine lv_iconst (v := 1) hx hb dX10_readKind_109 (by decide) ?_
            refine lv_iadd hx hb dX10_readKind_110 ?_
            refine lv_topi (fun x_149 ex_149 => ?_)
            obtain rfl : x_149 = (nI (a + 1)) := ex_149.trans (nI_add a 1)
            refine lv_goto (tgt := 115) hx hb dX10_readKind_111 (by decide) ?_
            refine lv_istore (lv' := [(6, .int (nI (a + 1))), (5, .int s0), (4, .int (atn f z a)), (0, .ref h0), (1, .ref g1), (2, .int (nI a)), (3, .int (nI b))]) hx hb dX10_readKind_115 hl (by decide) rfl (fun ls hl => ?_)
            refine W.widen (k := 0) (n := 0) (by omega) (by omega) ?_
            exact jn_29 ((nI (a + 1)), (atn f z a)) F_143 (⟨(congrArg nI (if_pos (orp1 hs1 c_136))).symm, (show atn f z a = nI (sgS (TC f z) a) from (cdv_in (by have h9 := (orp1 hs1 c_136); show (TC f z) a < 128; rcases h9 with h9 | h9 | h9 | h9 <;> omega)).trans (congrArg nI (if_pos (orp1 hs1 c_136))).symm), hF_145⟩) hO hR _ _ hP hD hS ls (lv_sub hl [0, 3, 4, 5, 6] rfl)
      ·
        refine lv_iload hx hb dX10_readKind_52 (lv_at hl 0 rfl) ?_
        refine lv_bipush (v := 43) hx hb dX10_readKind_54 (by decide) ?_
        refine lv_icmp_eq (tgt := 80) hx hb dX10_readKind_56 (by decide) (fun c_150 => ?_) (fun c_150 => ?_)
        ·
          refine lv_iconst (v := 1) hx hb dX10_readKind_80 (by decide) ?_
          refine lv_goto (tgt := 85) hx hb dX10_readKind_81 (by decide) ?_
          refine W.widen (k := 0) (n := 0) (by omega) (by omega) ?_
          exact jn_22 1 F_4 (⟨Or.inl ⟨rfl, Or.inl ((cdv_eq (by first | decide | omega)).mpr c_150)⟩, hF_6⟩) hO hR _ _ hP hD hS ls (lv_sub hl [0, 1, 2, 3, 4] rfl)
        ·
          refine lv_iload hx hb dX10_readKind_59 (lv_at hl 0 rfl) ?_
          refine lv_bipush (v := 63) hx hb dX10_readKind_61 (by decide) ?_
          refine lv_icmp_eq (tgt := 80) hx hb dX10_readKind_63 (by decide) (fun c_151 => ?_) (fun c_151 => ?_)
          ·
            refine lv_iconst (v := 1) hx hb dX10_readKind_80 (by decide) ?_
            refine lv_goto (tgt := 85) hx hb dX10_readKind_81 (by decide) ?_
            refine W.widen (k := 0) (n := 0) (by omega) (by omega) ?_
            exact jn_22 1 F_4 (⟨Or.inl ⟨rfl, Or.inr (Or.inl ((cdv_eq (by first | decide | omega)).mpr c_151))⟩, hF_6⟩) hO hR _ _ hP hD hS ls (lv_sub hl [0, 1, 2, 3, 4] rfl)
          ·
            refine lv_iload hx hb dX10_readKind_66 (lv_at hl 0 rfl) ?_
            refine lv_bipush (v := 126) hx hb dX10_readKind_68 (by decide) ?_
            refine lv_icmp_eq (tgt := 80) hx hb dX10_readKind_70 (by decide) (fun c_152 => ?_) (fun c_152 => ?_)
            ·
              refine lv_iconst (v := 1) hx hb dX10_readKind_80 (by decide) ?_
              refine lv_goto (tgt := 85) hx hb dX10_readKind_81 (by decide) ?_
              refine W.widen (k := 0) (n := 0) (by omega) (by omega) ?_
              exact jn_22 1 F_4 (⟨Or.inl ⟨rfl, Or.inr (Or.inr (Or.inl ((cdv_eq (by first | decide | omega)).mpr c_152)))⟩, hF_6⟩) hO hR _ _ hP hD hS ls (lv_sub hl [0, 1, 2, 3, 4] rfl)
            ·
              refine lv_iload hx hb dX10_readKind_73 (lv_at hl 0 rfl) ?_
              refine lv_bipush (v := 45) hx hb dX10_readKind_75 (by decide) ?_
              refine lv_icmp_ne (tgt := 84) hx hb dX10_readKind_77 (by decide) (fun c_153 => ?_) (fun c_153 => ?_)
              ·
                refine lv_iconst (v := 0) hx hb dX10_readKind_84 (by decide) ?_
                refine W.widen (k := 0) (n := 0) (by omega) (by omega) ?_
                exact jn_22 0 F_4 (⟨Or.inr ⟨rfl, fun q => by rcases q with q | q | q | q; exact (fun q => c_150 ((cdv_eq (by first | decide | omega)).mp q)) q; exact (fun q => c_151 ((cdv_eq (by first | decide | omega)).mp q)) q; exact (fun q => c_152 ((cdv_eq (by first | decide | omega)).mp q)) q; exact (fun q => c_153 ((cdv_eq (by first | decide | omega)).mp q)) q⟩, hF_6⟩) hO hR _ _ hP hD hS ls (lv_sub hl [0, 1, 2, 3, 4] rfl)
              ·
                refine lv_iconst (v := 1) hx hb dX10_readKind_80 (by decide) ?_
                refine lv_goto (tgt := 85) hx hb dX10_readKind_81 (by decide) ?_
                refine W.widen (k := 0) (n := 0) (by omega) (by omega) ?_
                exact jn_22 1 F_4 (⟨Or.inl ⟨rfl, Or.inr (Or.inr (Or.inr ((cdv_eq (by first | decide | omega)).mpr c_153)))⟩, hF_6⟩) hO hR _ _ hP hD hS ls (lv_sub hl [0, 1, 2, 3, 4] rfl)
    ·
      refine lv_aload_n hx hb dX10_readKind_37 rfl (lv_at hl 0 rfl) ?_
      refine lv_bipush (v := 8) hx hb dX10_readKind_38 (by decide) ?_
      refine lv_iload_n hx hb dX10_readKind_40 rfl (lv_at hl 3 rfl) ?_
      have hFc := pg_free hD hS hA
      refine va_callv (va_runV (As := [.int 8, .int (nI b)]) (rest := []) ⟨hx, hb, hml, hown, hts⟩ (s_X10_setKind_e l dC dI cs ty L H.size F_4 h0 ρ d0 43 d2 t3 d4 d5 8 (nI b) hW hL_h0 hT_h0 (by omega) hF_6) ⟨callB_of 2 hts (gi kt_141) rfl rfl rfl (hts _ kt_90) (hts _ kt_142) (by decide +kernel) ⟨Nat.le_of_ble_eq_true rfl, Nat.le_of_ble_eq_true rfl⟩, (hts _ kt_143), (hts _ kt_144)⟩ ⟨fun a U g mk q => ⟨q.1, PT.calling q.2⟩, pg_recv hK hP hL_h0 hF_6 (q := (RX10, TX10, 6)) rfl, fun U hU hWm => ⟨rfl, PT.mk hU hWm hP hK hD hE hO⟩⟩ rfl rfl hl.1 rfl (lv_room (Nat.le_of_ble_eq_true rfl)) dX10_readKind_41 ⟨by show _ + 0 ≤ 0; omega, by show _ + 0 ≤ 0; omega⟩) hS (fun q _ h => hFc q h) hFc (fun u t H1 locs ht hvm hw hB hz1 hk1 hS => ?_)
      obtain ⟨F_155, hB1, hq_156⟩ := hB
      obtain ⟨hP, hD, hO, hR⟩ := QT.back hB1 ht hFc hR (fun q h => by simp only [List.mem_cons, List.not_mem_nil, or_false] at h ⊢; omega)
      have hF_157 : F_155 g1 = .inr (0, [.ref r1, .int (nI z), .int 0]) := (hB1.2.2.2 g1 (by rw [hT_g1]; simp only [List.mem_cons, List.not_mem_nil, or_false]; omega)).trans hF_7
      have hF_158 : F_155 r1 = .inl (cs 16, n1, .inl f) := (hB1.2.2.2 r1 (by rw [ht_2]; simp only [List.mem_cons, List.not_mem_nil, or_false]; omega)).trans hF_8
      generalize H1 = H at hP hS ⊢
      refine W.widen (k := 0) (n := 0) (by omega) (by omega) ?_
      exact W.vret hx hb hr (fun t ht hWm => ⟨⟨(), rfl, trivial, ⟨F_155, 8, 43, b, QT.mk ht hP hD hO hR, hq_156, (by unfold kdT; rw [if_neg (show ¬ BGW (TC f z) a b 9 [114, 101, 100, 105, 114, 101, 99, 116, 61] from (orp0 hw_13 c_14)), if_pos (show OTH (TC f z) a b from (orp1 hw_17 c_18))]), (by omega)⟩⟩, hS.F ht⟩) hS.2.2 dX10_readKind_44
  ·
    refine lv_aload_n hx hb dX10_readKind_17 rfl (lv_at hl 0 rfl) ?_
    refine lv_bipush (v := 7) hx hb dX10_readKind_18 (by decide) ?_
    refine lv_iload_n hx hb dX10_readKind_20 rfl (lv_at hl 2 rfl) ?_
    refine lv_bipush (v := 9) hx hb dX10_readKind_21 (by decide) ?_
    refine lv_iadd hx hb dX10_readKind_23 ?_
    refine lv_topi (fun x_159 ex_159 => ?_)
    obtain rfl : x_159 = (nI (a + 9)) := ex_159.trans (nI_add a 9)
    have hFc := pg_free hD hS hA
    refine va_callv (va_runV (As := [.int 7, .int (nI (a + 9))]) (rest := []) ⟨hx, hb, hml, hown, hts⟩ (s_X10_setKind_e l dC dI cs ty L H.size F_4 h0 ρ d0 43 d2 t3 d4 d5 7 (nI (a + 9)) hW hL_h0 hT_h0 (by omega) hF_6) ⟨callB_of 2 hts (gi kt_141) rfl rfl rfl (hts _ kt_90) (hts _ kt_142) (by decide +kernel) ⟨Nat.le_of_ble_eq_true rfl, Nat.le_of_ble_eq_true rfl⟩, (hts _ kt_143), (hts _ kt_144)⟩ ⟨fun a U g mk q => ⟨q.1, PT.calling q.2⟩, pg_recv hK hP hL_h0 hF_6 (q := (RX10, TX10, 6)) rfl, fun U hU hWm => ⟨rfl, PT.mk hU hWm hP hK hD hE hO⟩⟩ rfl rfl hl.1 rfl (lv_room (Nat.le_of_ble_eq_true rfl)) dX10_readKind_24 ⟨by show _ + 0 ≤ 0; omega, by show _ + 0 ≤ 0; omega⟩) hS (fun q _ h => hFc q h) hFc (fun u t H1 locs ht hvm hw hB hz1 hk1 hS => ?_)
    obtain ⟨F_161, hB1, hq_162⟩ := hB
    obtain ⟨hP, hD, hO, hR⟩ := QT.back hB1 ht hFc hR (fun q h => by simp only [List.mem_cons, List.not_mem_nil, or_false] at h ⊢; omega)
    have hF_163 : F_161 g1 = .inr (0, [.ref r1, .int (nI z), .int 0]) := (hB1.2.2.2 g1 (by rw [hT_g1]; simp only [List.mem_cons, List.not_mem_nil, or_false]; omega)).trans hF_7
    have hF_164 : F_161 r1 = .inl (cs 16, n1, .inl f) := (hB1.2.2.2 r1 (by rw [ht_2]; simp only [List.mem_cons, List.not_mem_nil, or_false]; omega)).trans hF_8
    generalize H1 = H at hP hS ⊢
    refine W.widen (k := 0) (n := 0) (by omega) (by omega) ?_
    exact W.vret hx hb hr (fun t ht hWm => ⟨⟨(), rfl, trivial, ⟨F_161, 7, 43, (a + 9), QT.mk ht hP hD hO hR, hq_162, (by unfold kdT; rw [if_pos (show BGW (TC f z) a b 9 [114, 101, 100, 105, 114, 101, 99, 116, 61] from (orp1 hw_13 c_14))]), (by have h14 := (orp1 hw_13 c_14).1; omega)⟩⟩, hS.F ht⟩) hS.2.2 dX10_readKind_27
def HSW (T : Nat → Nat) (a b : Nat) : Prop := a < b ∧ ishw T b (b - a) a = true
abbrev TRA := Nat × Nat × Nat × Nat × Nat × Int32
def btT (T : Nat → Nat) (b q : Nat) : Option Nat := if q = b then some 32 else nbT T (q + 1) b 2
def tnQ (k g st q w : Nat) : Option (Nat × Int32) → Option TRA
  | none => none
  | some y => if y.1 = 4 then some (k, g, st, q, w, y.2) else none
noncomputable def tnN (T : Nat → Nat) (k g st q : Nat) : Option Nat → Option TRA
  | none => none
  | some w => if 32 < w then none else if k = 5 then tnQ k g st q w (qdT T st q) else @ite (Option TRA) ((T (st - 1) = 58 → HSW T st q) ∧ (¬ T (st - 1) = 58 → st = q)) (Classical.propDecidable _) (some (k, g, st, q, w, 0)) none
def NETK (k : Nat) : Prop := k = 5 ∨ k = 3 ∨ k = 4
def HSTK (k : Nat) : Prop := k = 2 ∨ k = 6 ∨ k = 7
noncomputable def tnT (T : Nat → Nat) (b k g st : Nat) : Option TRA := if k = 0 then none else @ite (Option TRA) (NETK k) (Classical.propDecidable _) (tnN T k g st (fdT T 47 st b) (btT T b (fdT T 47 st b))) (@ite (Option TRA) (HSTK k → HSW T st b) (Classical.propDecidable _) (some (k, g, st, b, 32, 0)) none)
noncomputable def trT (T : Nat → Nat) (a b : Nat) : Option TRA := tnT T b (kdT T a b).1 (kdT T a b).2.1 (kdT T a b).2.2
def RT0 (x : Int32) : Prop := ¬ x < 0 ∧ ¬ 32 < x
def STBR (T : Nat → Nat) (k st b q : Nat) (x : Int32) : Prop := (NETK k → q = fdT T 47 st b ∧ x = nbv (btT T b q)) ∧ (¬ NETK k → q = b ∧ x = 32)
def RIG (T : Nat → Nat) (k st q : Nat) (x : Int32) : Prop := (k = 5 → RT0 x ∧ ∃ y, qdT T st q = some (4, y)) ∧ ((k = 3 ∨ k = 4) → RT0 x ∧ (T (st - 1) = 58 → HSW T st q) ∧ (¬ T (st - 1) = 58 → st = q)) ∧ (HSTK k → HSW T st q)
def TRR (X : Option TRA) (k g st q : Nat) (x ad : Int32) : Prop := (X = none ∧ k = 0) ∨ (1 ≤ k ∧ ∃ (w : Nat) (y : Int32), w ≤ 32 ∧ x = nI w ∧ X = some (k, g, st, q, w, y) ∧ (k = 5 → y = ad))
theorem bit_if {r : Int32} {p9 : Prop} {dp : Decidable p9} (h : r = (if p9 then 1 else 0)) : (r = 1 ∧ p9) ∨ (r = 0 ∧ ¬ p9) := by
  by_cases c : p9
  · rw [if_pos c] at h
    exact Or.inl ⟨h, c⟩
  · rw [if_neg c] at h
    exact Or.inr ⟨h, c⟩
theorem rig_5 {T : Nat → Nat} {k st q : Nat} {x y : Int32} (hk : k = 5) (h : RT0 x) (h1 : qdT T st q = some (4, y)) : RIG T k st q x := ⟨fun _ => ⟨h, y, h1⟩, fun c => by omega, fun c => by rcases c with c | c | c <;> omega⟩
theorem rig_3 {T : Nat → Nat} {k st q : Nat} {x : Int32} (hk : k = 3 ∨ k = 4) (h : RT0 x) (h1 : T (st - 1) = 58 → HSW T st q) (h2 : ¬ T (st - 1) = 58 → st = q) : RIG T k st q x := ⟨fun c => by omega, fun _ => ⟨h, h1, h2⟩, fun c => by rcases c with c | c | c <;> omega⟩
theorem rig_2 {T : Nat → Nat} {k st q : Nat} {x : Int32} (hk : HSTK k) (h : HSW T st q) : RIG T k st q x := ⟨fun c => by rcases hk with d | d | d <;> omega, fun c => by rcases hk with d | d | d <;> omega, fun _ => h⟩
theorem rig_0 {T : Nat → Nat} {k st q : Nat} {x : Int32} (h1 : ¬ NETK k) (h2 : ¬ HSTK k) : RIG T k st q x := ⟨fun c => absurd (Or.inl c) h1, fun c => absurd (Or.inr c) h1, fun c => absurd c h2⟩
theorem btT_le {T : Nat → Nat} {b q w : Nat} (h : btT T b q = some w) : w ≤ 999 := by
  unfold btT at h
  by_cases c : q = b
  · rw [if_pos c] at h
    injection h with h9
    omega
  · rw [if_neg c] at h
    unfold nbT at h
    by_cases d : q + 1 + 1 ≤ b ∧ b ≤ q + 1 + 2
    · rw [if_pos d] at h
      have h9 := nbw_lt _ _ _ _ h
      have h8 : (10 : Nat) ^ (b - (q + 1)) ≤ 10 ^ 2 := Nat.pow_le_pow_right (by omega) (by omega)
      omega
    · rw [if_neg d] at h
      cases h
theorem rt0_s {T : Nat → Nat} {b q : Nat} (h : RT0 (nbv (btT T b q))) : ∃ w, w ≤ 32 ∧ btT T b q = some w := by
  cases e : btT T b q with
  | none =>
    rw [e] at h
    exact absurd (show (-1 : Int32) < 0 by decide) h.1
  | some w =>
    rw [e] at h
    have h9 := btT_le e
    exact ⟨w, Nat.not_lt.mp (fun c => h.2 ((nI_ltI (a := 32) (by omega) (by omega)).mpr c)), rfl⟩
theorem rt0_n {T : Nat → Nat} {b q : Nat} (h : ¬ RT0 (nbv (btT T b q))) : ∀ w, btT T b q = some w → 32 < w := by
  intro w e
  have h9 := btT_le e
  rw [e] at h
  exact Nat.not_le.mp (fun c => h ⟨nI_pos (by omega), fun d => absurd ((nI_ltI (a := 32) (by omega) (by omega)).mp d) (by omega)⟩)
theorem tr_y {T : Nat → Nat} {a b k g st q : Nat} {x ad : Int32} (hk : (k, g, st) = kdT T a b) (hs : STBR T k st b q x) (hr : RIG T k st q x) (hq : k = 5 → qdT T st q = some (4, ad)) : TRR (trT T a b) k g st q x ad := by
  unfold trT
  rw [← hk]
  show TRR (tnT T b k g st) k g st q x ad
  unfold tnT
  by_cases c0 : k = 0
  · rw [if_pos c0]
    exact Or.inl ⟨rfl, c0⟩
  · rw [if_neg c0]
    by_cases c1 : NETK k
    · obtain ⟨rfl, hx⟩ := hs.1 c1
      have hR : RT0 x := by
        rcases c1 with c | c
        · exact (hr.1 c).1
        · exact (hr.2.1 c).1
      rw [hx] at hR
      obtain ⟨w, hw, hb⟩ := rt0_s hR
      rw [if_pos c1, hb]
      refine Or.inr ⟨by omega, w, ?_⟩
      rw [hx, hb]
      by_cases c5 : k = 5
      · refine ⟨ad, hw, rfl, ?_, fun _ => rfl⟩
        show (if 32 < w then none else if k = 5 then tnQ k g st _ w (qdT T st _) else _) = _
        rw [if_neg (by omega), if_pos c5, hq c5]
        exact (if_pos rfl : (if (4 : Nat) = 4 then some (k, g, st, fdT T 47 st b, w, ad) else none) = some (k, g, st, fdT T 47 st b, w, ad))
      · refine ⟨0, hw, rfl, ?_, fun c => absurd c c5⟩
        show (if 32 < w then none else if k = 5 then _ else _) = _
        rw [if_neg (by omega), if_neg c5, if_pos (hr.2.1 (c1.resolve_left c5)).2]
    · obtain ⟨rfl, rfl⟩ := hs.2 c1
      rw [if_neg c1, if_pos hr.2.2]
      exact Or.inr ⟨by omega, 32, 0, by omega, rfl, rfl, fun c => absurd (Or.inl c) c1⟩
theorem tr_n {T : Nat → Nat} {a b k g st q g9 st9 q9 : Nat} {x x9 ad : Int32} (hk : (k, g, st) = kdT T a b) (hs : STBR T k st b q x) (hr : ¬ RIG T k st q x) : TRR (trT T a b) 0 g9 st9 q9 x9 ad := by
  refine Or.inl ⟨?_, rfl⟩
  unfold trT
  rw [← hk]
  show tnT T b k g st = none
  unfold tnT
  by_cases c0 : k = 0
  · rw [if_pos c0]
  · rw [if_neg c0]
    by_cases c1 : NETK k
    · obtain ⟨rfl, hx⟩ := hs.1 c1
      rw [if_pos c1]
      cases e : btT T b (fdT T 47 st b) with
      | none => rfl
      | some w =>
        show (if 32 < w then none else if k = 5 then tnQ k g st _ w (qdT T st _) else _) = none
        by_cases c2 : 32 < w
        · rw [if_pos c2]
        · have hR : RT0 x := Classical.byContradiction (fun c => by rw [hx] at c; exact c2 (rt0_n c w e))
          rw [if_neg c2]
          by_cases c5 : k = 5
          · rw [if_pos c5]
            cases e2 : qdT T st (fdT T 47 st b) with
            | none => rfl
            | some y =>
              by_cases c4 : y.1 = 4
              · exact absurd (rig_5 c5 hR (show qdT T st (fdT T 47 st b) = some (4, y.2) by rw [e2, ← c4])) hr
              · exact if_neg c4
          · rw [if_neg c5, if_neg (fun c => hr (rig_3 (c1.resolve_left c5) hR c.1 c.2))]
    · obtain ⟨rfl, rfl⟩ := hs.2 c1
      rw [if_neg c1, if_neg (fun c => by
        by_cases d : HSTK k
        · exact hr (rig_2 d (c d))
        · exact hr (rig_0 c1 d))]
set_option maxHeartbeats 4000000 in
set_option maxRecDepth 100000 in
theorem s_X10_read_e (l : Launch) (dC : Nat → ClassId) (dI : Nat → Nat → Nat) (cs : Nat → ClassId) (ty : TyM) (L : List Nat) (sz : Nat) (F : Nat → va_E) (h0 : Nat) (ρ : Nat) (g1 : Nat) (σ : Nat) (r1 : Nat) (n1 : Nat) (z : Nat) (a : Nat) (b : Nat) (f : Nat → Int32) (d0 : Int32) (d1 : Int32) (d2 : Int32) (t3 : Nat) (d4 : Int32) (d5 : Int32) (hW : WT ty L) (hL_h0 : h0 ∈ L) (hT_h0 : ty h0 = (10, ρ, [])) (hL_g1 : g1 ∈ L) (hT_g1 : ty g1 = (0, σ, [r1, n1])) (hFg : F g1 = .inr (0, [.ref r1, .int (nI z), .int 0])) (hFr : F r1 = .inl (cs 16, n1, .inl f)) (hzn : z ≤ n1) (hn9 : n1 ≤ 10000) (hsr : ρ ≠ σ) (ha1 : 1 ≤ a) (hab : a < b) (hbz : b ≤ z) (hb9 : b ≤ 8000) (ht3 : t3 ≤ 10000) (hF0 : F h0 = .inr (10, [.int d0, .int d1, .int d2, .int (nI t3), .int d4, .int d5])) : Met l yX10_read (.code yX10_read cX10_read 6 none :: tb) ({ frames := 7, cells := 0, slots := 0, locals := 158 }) (va_Pc [.ref h0, .ref g1, .int (nI a), .int (nI b)] (PTE (dC, dI) cs ty L F sz [])) (va_Qv (fun _ : Unit => True) (fun _ T9 => ∃ F2 : Nat → va_E, ∃ k1 : Nat, ∃ k2 : Nat, ∃ k3 : Nat, ∃ k4 : Nat, ∃ xb : Int32, ∃ xa : Int32, QT (dC, dI) cs ty L [ρ] F F2 (va_A (va_pl L F) sz) T9 ∧ F2 h0 = .inr (10, [.int (nI k1), .int (nI k2), .int (nI k3), .int (nI k4), .int xb, .int xa]) ∧ TRR (trT (TC f z) a b) k1 k2 k3 k4 xb xa ∧ (k1 ≤ 8 ∧ k2 ≤ 126 ∧ a ≤ k3 ∧ k3 ≤ k4 ∧ k4 ≤ b)) (va_A (va_pl L F) sz)) 0 0 (va_A (va_pl L F) sz) := by
  refine Met.ofW (cc := cX10_read) (maxL := 6) (ret := none) (by decide) rfl ?_
  intro p e s m args below meth c s₁ B hml hv
  obtain ⟨rfl, ⟨hsz, hP, hK, hD0, hE, hO⟩, hG, hX⟩ := hv
  have hx := B.exec
  have hb := B.bytes
  have hr := B.returns
  have hts : ∀ w ∈ tb, w.before _ s = true := fun w h => atoms_spec (ws := .code yX10_read cX10_read 6 none :: tb) B.pre w (List.mem_cons_of_mem _ h)
  have hown : s.vm.findClass RX10 = some m.cls := findClass_of_methodNamed B.named
  have hlocks := B.notSynchronized
  subst hsz
  have hD := hD0.self (sz := s.heap.size)
  generalize hAe : va_A (va_pl L F) s.heap.size = A at hD hG hX ⊢
  have hA : ∀ q : Nat, s.heap.size ≤ q → A q := fun q h => by rw [← hAe]; exact Or.inr h
  have hS : va_S A s.heap s.heap [] := va_S.rf
  have hR : FR ty [ρ] F F := FR.refl
  have hl := lv_entry ([.ref h0, .ref g1, .int (nI a), .int (nI b)]) (n := 6) (Nat.le_of_ble_eq_true rfl)
  rw [lg_entry_eq]
  generalize (lg_sl ([.ref h0, .ref g1, .int (nI a), .int (nI b)]) ++ List.replicate (6 - (lg_sl ([.ref h0, .ref g1, .int (nI a), .int (nI b)])).length) Slot.unset).toArray = ls at hl ⊢
  have hl : lv_has ls 6 [(0, .ref h0), (1, .ref g1), (2, .int (nI a)), (3, .int (nI b))] := hl
  obtain ⟨hi_1, ht_2, hq_3⟩ := hW.bytes hL_g1 hT_g1
  refine lv_aload_n hx hb dX10_read_0 rfl (lv_at hl 0 rfl) ?_
  refine lv_aload_n hx hb dX10_read_1 rfl (lv_at hl 1 rfl) ?_
  refine lv_iload_n hx hb dX10_read_2 rfl (lv_at hl 2 rfl) ?_
  refine lv_iload_n hx hb dX10_read_3 rfl (lv_at hl 3 rfl) ?_
  have hFc := pg_free hD hS hA
  refine va_callv (va_runV (As := [.ref g1, .int (nI a), .int (nI b)]) (rest := []) ⟨hx, hb, hml, hown, hts⟩ (s_X10_readKind_e l dC dI cs ty L s.heap.size F h0 ρ g1 σ r1 n1 z a b f d0 d1 d2 t3 d4 d5 hW hL_h0 hT_h0 hL_g1 hT_g1 hFg hFr (by omega) (by omega) (by omega) (by omega) (by omega) (by omega) (by omega) hF0) ⟨callB_of 3 hts (gi kt_145) rfl rfl rfl (hts _ kt_90) (hts _ kt_146) (by decide +kernel) ⟨Nat.le_of_ble_eq_true rfl, Nat.le_of_ble_eq_true rfl⟩, (hts _ kt_147), (hts _ kt_148)⟩ ⟨fun a U g mk q => ⟨q.1, PTE.calling q.2⟩, pg_recv hK hP hL_h0 hF0 (q := (RX10, TX10, 6)) rfl, fun U hU hWm => ⟨rfl, PTE.mk hU hWm hP hK hD hE hO hG (fun x hx => absurd hx List.not_mem_nil) hS hFc⟩⟩ rfl rfl hl.1 rfl (lv_room (Nat.le_of_ble_eq_true rfl)) dX10_read_4 ⟨by show _ + 0 ≤ 0; omega, by show _ + 0 ≤ 0; omega⟩) hS (fun q _ h => hFc q h) hFc (fun u t H1 locs ht hvm hw hB hz1 hk1 hS => ?_)
  obtain ⟨F_5, k1_6, k2_7, k3_8, hB1, hq_9, hq_10, hq_11⟩ := hB
  obtain ⟨hP, hD, hO, hR⟩ := QT.back hB1 ht hFc hR (fun q h => by simp only [List.mem_cons, List.not_mem_nil, or_false] at h ⊢; omega)
  have hF_12 : F_5 g1 = .inr (0, [.ref r1, .int (nI z), .int 0]) := (hB1.2.2.2 g1 (by rw [hT_g1]; simp only [List.mem_cons, List.not_mem_nil, or_false]; omega)).trans hFg
  have hF_13 : F_5 r1 = .inl (cs 16, n1, .inl f) := (hB1.2.2.2 r1 (by rw [ht_2]; simp only [List.mem_cons, List.not_mem_nil, or_false]; omega)).trans hFr
  generalize H1 = H at hP hS ⊢
  obtain ⟨hk8, hk126, hka, hkb⟩ := hq_11
  refine lv_aload_n hx hb dX10_read_7 rfl (lv_at hl 0 rfl) ?_
  refine lv_iload_n hx hb dX10_read_8 rfl (lv_at hl 3 rfl) ?_
  refine pg_put (ci := 10) (v := .int (nI b)) (ty := .int) (C := RX10) (T := TX10) (N := 6) hx hb hts it_10 tyX10 tyX10_ok nmX10 hown hK hP hD hS hL_h0 hq_9 rfl 3 (by decide) (hts _ kt_149) (fun _ h9 => h9) rfl (by decide +kernel) (rfl) (rfl) (Nat.le_of_ble_eq_true rfl) dX10_read_9 (fun H locs hP hD hS => ?_)
  obtain ⟨F_14, he_15, hP, hD, hO, hR⟩ : ∃ G, G = va_up F_5 h0 (.inr (10, [.int (nI k1_6), .int (nI k2_7), .int (nI k3_8), .int (nI b), .int d4, .int d5])) ∧ va_P (dC, dI) vwCl (va_pl L G) H ∧ va_D A (va_pl L G) ∧ OK cs ty L G ∧ FR ty [ρ] F G := ⟨_, rfl, hP, hD, hO.up (sh.term hT_h0 ⟨(nI k1_6), (nI k2_7), (nI k3_8), b, d4, d5, rfl, (by first | omega | assumption | exact Or.inl rfl | exact Or.inr rfl)⟩), hR.up hT_h0 (by simp)⟩
  have hF_16 : F_14 h0 = .inr (10, [.int (nI k1_6), .int (nI k2_7), .int (nI k3_8), .int (nI b), .int d4, .int d5]) := by rw [he_15]; exact up_self
  have hF_17 : F_14 g1 = .inr (0, [.ref r1, .int (nI z), .int 0]) := by rw [he_15, up_ne (ne_ty hT_g1 hT_h0 (by simp))]; exact hF_12
  have hF_18 : F_14 r1 = .inl (cs 16, n1, .inl f) := by rw [he_15, up_ne (ne_ty ht_2 hT_h0 (by simp))]; exact hF_13
  refine lv_aload_n hx hb dX10_read_12 rfl (lv_at hl 0 rfl) ?_
  refine lv_bipush (v := 32) hx hb dX10_read_13 (by decide) ?_
  refine pg_put (ci := 10) (v := .int 32) (ty := .int) (C := RX10) (T := TX10) (N := 6) hx hb hts it_10 tyX10 tyX10_ok nmX10 hown hK hP hD hS hL_h0 hF_16 rfl 4 (by decide) (hts _ kt_150) (fun _ h9 => h9) rfl (by decide +kernel) (rfl) (rfl) (Nat.le_of_ble_eq_true rfl) dX10_read_15 (fun H locs hP hD hS => ?_)
  obtain ⟨F_19, he_20, hP, hD, hO, hR⟩ : ∃ G, G = va_up F_14 h0 (.inr (10, [.int (nI k1_6), .int (nI k2_7), .int (nI k3_8), .int (nI b), .int 32, .int d5])) ∧ va_P (dC, dI) vwCl (va_pl L G) H ∧ va_D A (va_pl L G) ∧ OK cs ty L G ∧ FR ty [ρ] F G := ⟨_, rfl, hP, hD, hO.up (sh.term hT_h0 ⟨(nI k1_6), (nI k2_7), (nI k3_8), b, 32, d5, rfl, (by first | omega | assumption | exact Or.inl rfl | exact Or.inr rfl)⟩), hR.up hT_h0 (by simp)⟩
  have hF_21 : F_19 h0 = .inr (10, [.int (nI k1_6), .int (nI k2_7), .int (nI k3_8), .int (nI b), .int 32, .int d5]) := by rw [he_20]; exact up_self
  have hF_22 : F_19 g1 = .inr (0, [.ref r1, .int (nI z), .int 0]) := by rw [he_20, up_ne (ne_ty hT_g1 hT_h0 (by simp))]; exact hF_17
  have hF_23 : F_19 r1 = .inl (cs 16, n1, .inl f) := by rw [he_20, up_ne (ne_ty ht_2 hT_h0 (by simp))]; exact hF_18
  have hF_26 : F g1 = .inr (0, [.ref r1, .int (nI z), .int 0]) := (hR g1 (by rw [hT_g1]; simp only [List.mem_cons, List.not_mem_nil, or_false]; omega)).symm.trans hF_22
  have hF_27 : F r1 = .inl (cs 16, n1, .inl f) := (hR r1 (by rw [ht_2]; simp only [List.mem_cons, List.not_mem_nil, or_false]; omega)).symm.trans hF_23
  refine W.widen (k := 0) (n := 0) (by omega) (by omega) ?_
  refine pl_cut (σ := Nat × Int32) A (dC, dI) cs ty L [ρ] F 86 6 (fun (sq, bt) => [(0, .ref h0), (1, .ref g1), (2, .int (nI a)), (3, .int (nI b))]) (fun (sq, bt) => []) (fun (sq, bt) FF => (k3_8 ≤ sq ∧ sq ≤ b) ∧ STBR (TC f z) k1_6 k3_8 b sq bt ∧ FF h0 = .inr (10, [.int (nI k1_6), .int (nI k2_7), .int (nI k3_8), .int (nI sq), .int bt, .int d5])) ?_ (fun jn_24 => ?_)
  ·
    rintro ⟨sq, bt⟩ F_25 hv_28 hO hR H locs hP hD hS ls hl
    have hl : lv_has ls 6 [(0, .ref h0), (1, .ref g1), (2, .int (nI a)), (3, .int (nI b))] := hl
    have hv_28 : (k3_8 ≤ sq ∧ sq ≤ b) ∧ STBR (TC f z) k1_6 k3_8 b sq bt ∧ F_25 h0 = .inr (10, [.int (nI k1_6), .int (nI k2_7), .int (nI k3_8), .int (nI sq), .int bt, .int d5]) := hv_28
    refine W.eq (g2 := F0 m 86 ls []) rfl ?_
    have hF_29 : F_25 g1 = .inr (0, [.ref r1, .int (nI z), .int 0]) := (hR g1 (by rw [hT_g1]; simp only [List.mem_cons, List.not_mem_nil, or_false]; omega)).trans hF_26
    have hF_30 : F_25 r1 = .inl (cs 16, n1, .inl f) := (hR r1 (by rw [ht_2]; simp only [List.mem_cons, List.not_mem_nil, or_false]; omega)).trans hF_27
    obtain ⟨⟨hv1, hv2⟩, hv3, hv4⟩ := id hv_28
    have hF_33 : F g1 = .inr (0, [.ref r1, .int (nI z), .int 0]) := (hR g1 (by rw [hT_g1]; simp only [List.mem_cons, List.not_mem_nil, or_false]; omega)).symm.trans hF_29
    have hF_34 : F r1 = .inl (cs 16, n1, .inl f) := (hR r1 (by rw [ht_2]; simp only [List.mem_cons, List.not_mem_nil, or_false]; omega)).symm.trans hF_30
    refine W.widen (k := 0) (n := 0) (by omega) (by omega) ?_
    refine pl_cut (σ := Int32) A (dC, dI) cs ty L [ρ] F 109 6 (fun s4 => [(4, .int s4), (0, .ref h0), (1, .ref g1), (2, .int (nI a)), (3, .int (nI b))]) (fun s4 => []) (fun s4 FF => ((s4 = 1 ∧ RT0 bt) ∨ (s4 = 0 ∧ ¬ RT0 bt)) ∧ FF h0 = .inr (10, [.int (nI k1_6), .int (nI k2_7), .int (nI k3_8), .int (nI sq), .int bt, .int d5])) ?_ (fun jn_31 => ?_)
    ·
      rintro s4 F_32 hv_35 hO hR H locs hP hD hS ls hl
      have hl : lv_has ls 6 [(4, .int s4), (0, .ref h0), (1, .ref g1), (2, .int (nI a)), (3, .int (nI b))] := hl
      have hv_35 : ((s4 = 1 ∧ RT0 bt) ∨ (s4 = 0 ∧ ¬ RT0 bt)) ∧ F_32 h0 = .inr (10, [.int (nI k1_6), .int (nI k2_7), .int (nI k3_8), .int (nI sq), .int bt, .int d5]) := hv_35
      refine W.eq (g2 := F0 m 109 ls []) rfl ?_
      have hF_36 : F_32 g1 = .inr (0, [.ref r1, .int (nI z), .int 0]) := (hR g1 (by rw [hT_g1]; simp only [List.mem_cons, List.not_mem_nil, or_false]; omega)).trans hF_33
      have hF_37 : F_32 r1 = .inl (cs 16, n1, .inl f) := (hR r1 (by rw [ht_2]; simp only [List.mem_cons, List.not_mem_nil, or_false]; omega)).trans hF_34
      obtain ⟨hv5, hv6⟩ := id hv_35
      have hF_40 : F g1 = .inr (0, [.ref r1, .int (nI z), .int 0]) := (hR g1 (by rw [hT_g1]; simp only [List.mem_cons, List.not_mem_nil, or_false]; omega)).symm.trans hF_36
      have hF_41 : F r1 = .inl (cs 16, n1, .inl f) := (hR r1 (by rw [ht_2]; simp only [List.mem_cons, List.not_mem_nil, or_false]; omega)).symm.trans hF_37
      refine W.widen (k := 0) (n := 0) (by omega) (by omega) ?_
      refine pl_cut (σ := Int32 × Int32) A (dC, dI) cs ty L [ρ] F 275 6 (fun (s9, c5) => [(4, .int s9), (0, .ref h0), (1, .ref g1), (2, .int (nI a)), (3, .int (nI b))]) (fun (s9, c5) => []) (fun (s9, c5) FF => ((s9 = 1 ∧ RIG (TC f z) k1_6 k3_8 sq bt ∧ (k1_6 = 5 → qdT (TC f z) k3_8 sq = some (4, c5))) ∨ (s9 = 0 ∧ ¬ RIG (TC f z) k1_6 k3_8 sq bt)) ∧ FF h0 = .inr (10, [.int (nI k1_6), .int (nI k2_7), .int (nI k3_8), .int (nI sq), .int bt, .int c5])) ?_ (fun jn_38 => ?_)
      ·
        rintro ⟨s9, c5⟩ F_39 hv_42 hO hR H locs hP hD hS ls hl
        have hl : lv_has ls 6 [(4, .int s9), (0, .ref h0), (1, .ref g1), (2, .int (nI a)), (3, .int (nI b))] := hl
        have hv_42 : ((s9 = 1 ∧ RIG (TC f z) k1_6 k3_8 sq bt ∧ (k1_6 = 5 → qdT (TC f z) k3_8 sq = some (4, c5))) ∨ (s9 = 0 ∧ ¬ RIG (TC f z) k1_6 k3_8 sq bt)) ∧ F_39 h0 = .inr (10, [.int (nI k1_6), .int (nI k2_7), .int (nI k3_8), .int (nI sq), .int bt, .int c5]) := hv_42
        refine W.eq (g2 := F0 m 275 ls []) rfl ?_
        have hF_43 : F_39 g1 = .inr (0, [.ref r1, .int (nI z), .int 0]) := (hR g1 (by rw [hT_g1]; simp only [List.mem_cons, List.not_mem_nil, or_false]; omega)).trans hF_40
        have hF_44 : F_39 r1 = .inl (cs 16, n1, .inl f) := (hR r1 (by rw [ht_2]; simp only [List.mem_cons, List.not_mem_nil, or_false]; omega)).trans hF_41
        obtain ⟨hv7, hv8⟩ := id hv_42
        refine lv_aload_n hx hb dX10_read_275 rfl (lv_at hl 1 rfl) ?_
        refine lv_iload hx hb dX10_read_276 (lv_at hl 0 rfl) ?_
        refine lv_if_eq (tgt := 288) hx hb dX10_read_278 (by decide) (fun c_45 => ?_) (fun c_45 => ?_)
        ·
          refine lv_iconst (v := 0) hx hb dX10_read_288 (by decide) ?_
          refine pg_put (ci := 10) (v := .int 0) (ty := .int) (C := RX10) (T := TX10) (N := 6) hx hb hts it_10 tyX10 tyX10_ok nmX10 hown hK hP hD hS hL_h0 hv8 rfl 0 (by decide) (hts _ kt_118) (fun _ h9 => h9) rfl (by decide +kernel) (rfl) (rfl) (Nat.le_of_ble_eq_true rfl) dX10_read_289 (fun H locs hP hD hS => ?_)
          obtain ⟨F_46, he_47, hP, hD, hO, hR⟩ : ∃ G, G = va_up F_39 h0 (.inr (10, [.int 0, .int (nI k2_7), .int (nI k3_8), .int (nI sq), .int bt, .int c5])) ∧ va_P (dC, dI) vwCl (va_pl L G) H ∧ va_D A (va_pl L G) ∧ OK cs ty L G ∧ FR ty [ρ] F G := ⟨_, rfl, hP, hD, hO.up (sh.term hT_h0 ⟨0, (nI k2_7), (nI k3_8), sq, bt, c5, rfl, (by first | omega | assumption | exact Or.inl rfl | exact Or.inr rfl)⟩), hR.up hT_h0 (by simp)⟩
          have hF_48 : F_46 h0 = .inr (10, [.int 0, .int (nI k2_7), .int (nI k3_8), .int (nI sq), .int bt, .int c5]) := by rw [he_47]; exact up_self
          have hF_49 : F_46 g1 = .inr (0, [.ref r1, .int (nI z), .int 0]) := by rw [he_47, up_ne (ne_ty hT_g1 hT_h0 (by simp))]; exact hF_43
          have hF_50 : F_46 r1 = .inl (cs 16, n1, .inl f) := by rw [he_47, up_ne (ne_ty ht_2 hT_h0 (by simp))]; exact hF_44
          refine W.widen (k := 0) (n := 0) (by omega) (by omega) ?_
          exact W.vret hx hb hr (fun t ht hWm => ⟨⟨(), rfl, trivial, ⟨F_46, 0, k2_7, k3_8, sq, bt, c5, QT.mk ht hP hD hO hR, hF_48, (tr_n hq_10 hv3 (by rcases hv7 with h9 | h9; exact absurd (h9.1.symm.trans c_45) (by decide); exact h9.2)), (by omega)⟩⟩, hS.F ht⟩) hS.2.2 dX10_read_292
        ·
          refine lv_aload_n hx hb dX10_read_281 rfl (lv_at hl 1 rfl) ?_
          refine pg_get (ci := 10) (v := .int (nI k1_6)) (C := RX10) (T := TX10) (N := 6) hx hb hts it_10 hown hK hP hL_h0 hv8 rfl 0 (by decide) (hts _ kt_118) (fun _ h9 => h9) rfl dX10_read_282 ?_
          refine lv_goto (tgt := 289) hx hb dX10_read_285 (by decide) ?_
          refine pg_put (ci := 10) (v := .int (nI k1_6)) (ty := .int) (C := RX10) (T := TX10) (N := 6) hx hb hts it_10 tyX10 tyX10_ok nmX10 hown hK hP hD hS hL_h0 hv8 rfl 0 (by decide) (hts _ kt_118) (fun _ h9 => h9) rfl (by decide +kernel) (rfl) (rfl) (Nat.le_of_ble_eq_true rfl) dX10_read_289 (fun H locs hP hD hS => ?_)
          obtain ⟨F_51, he_52, hP, hD, hO, hR⟩ : ∃ G, G = va_up F_39 h0 (.inr (10, [.int (nI k1_6), .int (nI k2_7), .int (nI k3_8), .int (nI sq), .int bt, .int c5])) ∧ va_P (dC, dI) vwCl (va_pl L G) H ∧ va_D A (va_pl L G) ∧ OK cs ty L G ∧ FR ty [ρ] F G := ⟨_, rfl, hP, hD, hO.up (sh.term hT_h0 ⟨(nI k1_6), (nI k2_7), (nI k3_8), sq, bt, c5, rfl, (by first | omega | assumption | exact Or.inl rfl | exact Or.inr rfl)⟩), hR.up hT_h0 (by simp)⟩
          have hF_53 : F_51 h0 = .inr (10, [.int (nI k1_6), .int (nI k2_7), .int (nI k3_8), .int (nI sq), .int bt, .int c5]) := by rw [he_52]; exact up_self
          have hF_54 : F_51 g1 = .inr (0, [.ref r1, .int (nI z), .int 0]) := by rw [he_52, up_ne (ne_ty hT_g1 hT_h0 (by simp))]; exact hF_43
          have hF_55 : F_51 r1 = .inl (cs 16, n1, .inl f) := by rw [he_52, up_ne (ne_ty ht_2 hT_h0 (by simp))]; exact hF_44
          refine W.widen (k := 0) (n := 0) (by omega) (by omega) ?_
          exact W.vret hx hb hr (fun t ht hWm => ⟨⟨(), rfl, trivial, ⟨F_51, k1_6, k2_7, k3_8, sq, bt, c5, QT.mk ht hP hD hO hR, hF_53, (by rcases hv7 with h9 | h9; exact tr_y hq_10 hv3 h9.2.1 h9.2.2; exact absurd h9.1 c_45), (by omega)⟩⟩, hS.F ht⟩) hS.2.2 dX10_read_292
      ·
        refine lv_aload_n hx hb dX10_read_109 rfl (lv_at hl 1 rfl) ?_
        refine pg_get (ci := 10) (v := .int (nI k1_6)) (C := RX10) (T := TX10) (N := 6) hx hb hts it_10 hown hK hP hL_h0 hv6 rfl 0 (by decide) (hts _ kt_118) (fun _ h9 => h9) rfl dX10_read_110 ?_
        refine lv_iconst (v := 5) hx hb dX10_read_113 (by decide) ?_
        refine lv_icmp_ne (tgt := 148) hx hb dX10_read_114 (by decide) (fun c_56 => ?_) (fun c_56 => ?_)
        ·
          have hq5 : k1_6 ≠ 5 := fun q => c_56 (by rw [q]; rfl)
          refine lv_aload_n hx hb dX10_read_148 rfl (lv_at hl 1 rfl) ?_
          refine pg_get (ci := 10) (v := .int (nI k1_6)) (C := RX10) (T := TX10) (N := 6) hx hb hts it_10 hown hK hP hL_h0 hv6 rfl 0 (by decide) (hts _ kt_118) (fun _ h9 => h9) rfl dX10_read_149 ?_
          refine lv_iconst (v := 3) hx hb dX10_read_152 (by decide) ?_
          refine lv_icmp_eq (tgt := 164) hx hb dX10_read_153 (by decide) (fun c_58 => ?_) (fun c_58 => ?_)
          ·
            have hq3 : k1_6 = 3 := (nI_eq (b := 3) (by omega) (by omega)).mp c_58
            refine lv_aload_n hx hb dX10_read_164 rfl (lv_at hl 2 rfl) ?_
            refine lv_aload_n hx hb dX10_read_165 rfl (lv_at hl 1 rfl) ?_
            refine pg_get (ci := 10) (v := .int (nI k3_8)) (C := RX10) (T := TX10) (N := 6) hx hb hts it_10 hown hK hP hL_h0 hv6 rfl 2 (by decide) (hts _ kt_119) (fun _ h9 => h9) rfl dX10_read_166 ?_
            refine lv_iconst (v := 1) hx hb dX10_read_169 (by decide) ?_
            refine lv_isub hx hb dX10_read_170 ?_
            refine lv_topi (fun x_60 ex_60 => ?_)
            obtain rfl : x_60 = (nI (k3_8 - 1)) := ex_60.trans (pk_sub (b := 1) (by omega))
            have hFc := pg_free hD hS hA
            refine va_calli (va_runV (As := [.int (nI (k3_8 - 1))]) (rest := []) ⟨hx, hb, hml, hown, hts⟩ (s_X0_at_g l dC dI cs ty L H.size F_32 g1 σ r1 n1 z (k3_8 - 1) f hW hL_g1 hT_g1 hF_36 hF_37 (by omega) (by omega) (by omega)) ⟨callB_of 1 hts (gi kt_21) rfl rfl rfl (hts _ kt_1) (hts _ kt_120) (by decide +kernel) ⟨Nat.le_of_ble_eq_true rfl, Nat.le_of_ble_eq_true rfl⟩, (hts _ kt_23), (hts _ kt_24)⟩ ⟨fun a U g mk q => ⟨q.1, PT.calling q.2⟩, pg_recv hK hP hL_g1 hF_36 (q := (RX0, TX0, 3)) rfl, fun U hU hWm => ⟨rfl, PT.mk hU hWm hP hK hD hE hO⟩⟩ rfl rfl hl.1 rfl (lv_room (Nat.le_of_ble_eq_true rfl)) dX10_read_171 ⟨by show _ + 0 ≤ 0; omega, by show _ + 0 ≤ 0; omega⟩) hS (fun q _ h => hFc q h) hFc (fun r_61 u t H1 locs ht hvm hw hB hz1 hk1 hS => ?_)
            obtain ⟨F_62, hB1⟩ := hB
            obtain rfl : F_32 = F_62 := (funext (fun a => hB1.2.2.2 a List.not_mem_nil)).symm
            obtain ⟨hP, hD, hO, hR⟩ := QT.back hB1 ht hFc hR (fun q h => absurd h List.not_mem_nil)
            generalize H1 = H at hP hS ⊢
            have hw : r_61 = atn f z (k3_8 - 1) := hw
            have hw_63 := hw
            subst hw_63
            refine lv_bipush (v := 58) hx hb dX10_read_174 (by decide) ?_
            refine lv_icmp_eq (tgt := 183) hx hb dX10_read_176 (by decide) (fun c_64 => ?_) (fun c_64 => ?_)
            ·
              refine lv_iconst (v := 0) hx hb dX10_read_183 (by decide) ?_
              refine lv_istore (lv' := [(5, .int 0), (4, .int s4), (0, .ref h0), (1, .ref g1), (2, .int (nI a)), (3, .int (nI b))]) hx hb dX10_read_184 hl (by decide) rfl (fun ls hl => ?_)
              refine lv_iload hx hb dX10_read_186 (lv_at hl 1 rfl) ?_
              refine lv_if_eq (tgt := 229) hx hb dX10_read_188 (by decide) (fun c_65 => ?_) (fun c_65 => ?_)
              ·
                refine lv_iconst (v := 0) hx hb dX10_read_229 (by decide) ?_
                refine lv_istore (lv' := [(4, .int 0), (5, .int 0), (0, .ref h0), (1, .ref g1), (2, .int (nI a)), (3, .int (nI b))]) hx hb dX10_read_230 hl (by decide) rfl (fun ls hl => ?_)
                refine lv_goto (tgt := 275) hx hb dX10_read_232 (by decide) ?_
                refine W.widen (k := 0) (n := 0) (by omega) (by omega) ?_
                exact jn_38 (0, d5) F_32 (⟨Or.inr ⟨rfl, fun q => orp0 hv5 c_65 (q.2.1 (Or.inl hq3)).1⟩, hv6⟩) hO hR _ _ hP hD hS ls (lv_sub hl [0, 2, 3, 4, 5] rfl)
              ·
                refine lv_iload hx hb dX10_read_191 (lv_at hl 0 rfl) ?_
                refine lv_if_eq (tgt := 210) hx hb dX10_read_193 (by decide) (fun c_66 => ?_) (fun c_66 => absurd (rfl) c_66)
                refine lv_aload_n hx hb dX10_read_210 rfl (lv_at hl 3 rfl) ?_
                refine lv_aload_n hx hb dX10_read_211 rfl (lv_at hl 2 rfl) ?_
                refine pg_get (ci := 10) (v := .int (nI k3_8)) (C := RX10) (T := TX10) (N := 6) hx hb hts it_10 hown hK hP hL_h0 hv6 rfl 2 (by decide) (hts _ kt_119) (fun _ h9 => h9) rfl dX10_read_212 ?_
                refine lv_aload_n hx hb dX10_read_215 rfl (lv_at hl 2 rfl) ?_
                refine pg_get (ci := 10) (v := .int (nI sq)) (C := RX10) (T := TX10) (N := 6) hx hb hts it_10 hown hK hP hL_h0 hv6 rfl 3 (by decide) (hts _ kt_149) (fun _ h9 => h9) rfl dX10_read_216 ?_
                have hFc := pg_free hD hS hA
                refine va_calli (va_runS (As := [.ref g1, .int (nI k3_8), .int (nI sq)]) (rest := []) ⟨hx, hb, hml, hown, hts⟩ (s_X10_isHost_e l dC dI cs ty L H.size F_32 g1 σ r1 n1 z k3_8 sq f hW hL_g1 hT_g1 hF_36 hF_37 (by omega) (by omega) (by omega) (by omega)) ⟨callB_of 3 hts (gi kt_151) rfl rfl rfl (hts _ kt_90) (hts _ kt_152) (by decide +kernel) ⟨Nat.le_of_ble_eq_true rfl, Nat.le_of_ble_eq_true rfl⟩, (hts _ kt_153)⟩ ⟨fun a U g mk q => ⟨q.1, PT.calling q.2⟩, fun U hU hWm => ⟨rfl, PT.mk hU hWm hP hK hD hE hO⟩⟩ rfl rfl hl.1 rfl (lv_room (Nat.le_of_ble_eq_true rfl)) dX10_read_219 ⟨by show _ + 0 ≤ 0; omega, by show _ + 0 ≤ 0; omega⟩) hS (fun q _ h => hFc q h) hFc (fun r_67 u t H1 locs ht hvm hw hB hz1 hk1 hS => ?_)
                obtain ⟨F_68, hB1⟩ := hB
                obtain rfl : F_32 = F_68 := (funext (fun a => hB1.2.2.2 a List.not_mem_nil)).symm
                obtain ⟨hP, hD, hO, hR⟩ := QT.back hB1 ht hFc hR (fun q h => absurd h List.not_mem_nil)
                generalize H1 = H at hP hS ⊢
                have hw : r_67 = (if k3_8 < sq ∧ ishw (TC f z) sq (sq - k3_8) k3_8 = true then 1 else 0) := hw
                have hw_69 := hw
                refine lv_if_eq (tgt := 229) hx hb dX10_read_222 (by decide) (fun c_70 => ?_) (fun c_70 => ?_)
                ·
                  refine lv_iconst (v := 0) hx hb dX10_read_229 (by decide) ?_
                  refine lv_istore (lv' := [(4, .int 0), (5, .int 0), (0, .ref h0), (1, .ref g1), (2, .int (nI a)), (3, .int (nI b))]) hx hb dX10_read_230 hl (by decide) rfl (fun ls hl => ?_)
                  refine lv_goto (tgt := 275) hx hb dX10_read_232 (by decide) ?_
                  refine W.widen (k := 0) (n := 0) (by omega) (by omega) ?_
                  exact jn_38 (0, d5) F_32 (⟨Or.inr ⟨rfl, fun q => orp0 (bit_if hw_69) c_70 ((q.2.1 (Or.inl hq3)).2.1 ((cdv_eq (by first | decide | omega)).mpr c_64))⟩, hv6⟩) hO hR _ _ hP hD hS ls (lv_sub hl [0, 2, 3, 4, 5] rfl)
                ·
                  refine lv_iconst (v := 1) hx hb dX10_read_225 (by decide) ?_
                  refine lv_goto (tgt := 230) hx hb dX10_read_226 (by decide) ?_
                  refine lv_istore (lv' := [(4, .int 1), (5, .int 0), (0, .ref h0), (1, .ref g1), (2, .int (nI a)), (3, .int (nI b))]) hx hb dX10_read_230 hl (by decide) rfl (fun ls hl => ?_)
                  refine lv_goto (tgt := 275) hx hb dX10_read_232 (by decide) ?_
                  refine W.widen (k := 0) (n := 0) (by omega) (by omega) ?_
                  exact jn_38 (1, d5) F_32 (⟨Or.inl ⟨rfl, rig_3 (Or.inl hq3) (orp1 hv5 c_65) (fun _ => orp1 (bit_if hw_69) c_70) (fun c => absurd ((cdv_eq (by first | decide | omega)).mpr c_64) c), fun c => absurd c hq5⟩, hv6⟩) hO hR _ _ hP hD hS ls (lv_sub hl [0, 2, 3, 4, 5] rfl)
            ·
              refine lv_iconst (v := 1) hx hb dX10_read_179 (by decide) ?_
              refine lv_goto (tgt := 184) hx hb dX10_read_180 (by decide) ?_
              refine lv_istore (lv' := [(5, .int 1), (4, .int s4), (0, .ref h0), (1, .ref g1), (2, .int (nI a)), (3, .int (nI b))]) hx hb dX10_read_184 hl (by decide) rfl (fun ls hl => ?_)
              refine lv_iload hx hb dX10_read_186 (lv_at hl 1 rfl) ?_
              refine lv_if_eq (tgt := 229) hx hb dX10_read_188 (by decide) (fun c_71 => ?_) (fun c_71 => ?_)
              ·
                refine lv_iconst (v := 0) hx hb dX10_read_229 (by decide) ?_
                refine lv_istore (lv' := [(4, .int 0), (5, .int 1), (0, .ref h0), (1, .ref g1), (2, .int (nI a)), (3, .int (nI b))]) hx hb dX10_read_230 hl (by decide) rfl (fun ls hl => ?_)
                refine lv_goto (tgt := 275) hx hb dX10_read_232 (by decide) ?_
                refine W.widen (k := 0) (n := 0) (by omega) (by omega) ?_
                exact jn_38 (0, d5) F_32 (⟨Or.inr ⟨rfl, fun q => orp0 hv5 c_71 (q.2.1 (Or.inl hq3)).1⟩, hv6⟩) hO hR _ _ hP hD hS ls (lv_sub hl [0, 2, 3, 4, 5] rfl)
              ·
                refine lv_iload hx hb dX10_read_191 (lv_at hl 0 rfl) ?_
                refine lv_if_eq (tgt := 210) hx hb dX10_read_193 (by decide) (fun c_72 => absurd c_72 (by decide)) (fun c_72 => ?_)
                refine lv_aload_n hx hb dX10_read_196 rfl (lv_at hl 2 rfl) ?_
                refine pg_get (ci := 10) (v := .int (nI k3_8)) (C := RX10) (T := TX10) (N := 6) hx hb hts it_10 hown hK hP hL_h0 hv6 rfl 2 (by decide) (hts _ kt_119) (fun _ h9 => h9) rfl dX10_read_197 ?_
                refine lv_aload_n hx hb dX10_read_200 rfl (lv_at hl 2 rfl) ?_
                refine pg_get (ci := 10) (v := .int (nI sq)) (C := RX10) (T := TX10) (N := 6) hx hb hts it_10 hown hK hP hL_h0 hv6 rfl 3 (by decide) (hts _ kt_149) (fun _ h9 => h9) rfl dX10_read_201 ?_
                refine lv_icmp_ne (tgt := 229) hx hb dX10_read_204 (by decide) (fun c_73 => ?_) (fun c_73 => ?_)
                ·
                  have hkq : k3_8 ≠ sq := fun q => c_73 (by rw [q])
                  refine lv_iconst (v := 0) hx hb dX10_read_229 (by decide) ?_
                  refine lv_istore (lv' := [(4, .int 0), (5, .int 1), (0, .ref h0), (1, .ref g1), (2, .int (nI a)), (3, .int (nI b))]) hx hb dX10_read_230 hl (by decide) rfl (fun ls hl => ?_)
                  refine lv_goto (tgt := 275) hx hb dX10_read_232 (by decide) ?_
                  refine W.widen (k := 0) (n := 0) (by omega) (by omega) ?_
                  exact jn_38 (0, d5) F_32 (⟨Or.inr ⟨rfl, fun q => hkq ((q.2.1 (Or.inl hq3)).2.2 (fun q => c_64 ((cdv_eq (by first | decide | omega)).mp q)))⟩, hv6⟩) hO hR _ _ hP hD hS ls (lv_sub hl [0, 2, 3, 4, 5] rfl)
                ·
                  have hkq : k3_8 = sq := (nI_eq (by omega) (by omega)).mp c_73
                  refine lv_goto (tgt := 225) hx hb dX10_read_207 (by decide) ?_
                  refine lv_iconst (v := 1) hx hb dX10_read_225 (by decide) ?_
                  refine lv_goto (tgt := 230) hx hb dX10_read_226 (by decide) ?_
                  refine lv_istore (lv' := [(4, .int 1), (5, .int 1), (0, .ref h0), (1, .ref g1), (2, .int (nI a)), (3, .int (nI b))]) hx hb dX10_read_230 hl (by decide) rfl (fun ls hl => ?_)
                  refine lv_goto (tgt := 275) hx hb dX10_read_232 (by decide) ?_
                  refine W.widen (k := 0) (n := 0) (by omega) (by omega) ?_
                  exact jn_38 (1, d5) F_32 (⟨Or.inl ⟨rfl, rig_3 (Or.inl hq3) (orp1 hv5 c_71) (fun c => absurd c (fun q => c_64 ((cdv_eq (by first | decide | omega)).mp q))) (fun _ => hkq), fun c => absurd c hq5⟩, hv6⟩) hO hR _ _ hP hD hS ls (lv_sub hl [0, 2, 3, 4, 5] rfl)
          ·
            have hq3 : k1_6 ≠ 3 := fun q => c_58 (by rw [q]; rfl)
            refine lv_aload_n hx hb dX10_read_156 rfl (lv_at hl 1 rfl) ?_
            refine pg_get (ci := 10) (v := .int (nI k1_6)) (C := RX10) (T := TX10) (N := 6) hx hb hts it_10 hown hK hP hL_h0 hv6 rfl 0 (by decide) (hts _ kt_118) (fun _ h9 => h9) rfl dX10_read_157 ?_
            refine lv_iconst (v := 4) hx hb dX10_read_160 (by decide) ?_
            refine lv_icmp_ne (tgt := 235) hx hb dX10_read_161 (by decide) (fun c_77 => ?_) (fun c_77 => ?_)
            ·
              have hq4 : k1_6 ≠ 4 := fun q => c_77 (by rw [q]; rfl)
              refine lv_aload_n hx hb dX10_read_235 rfl (lv_at hl 1 rfl) ?_
              refine pg_get (ci := 10) (v := .int (nI k1_6)) (C := RX10) (T := TX10) (N := 6) hx hb hts it_10 hown hK hP hL_h0 hv6 rfl 0 (by decide) (hts _ kt_118) (fun _ h9 => h9) rfl dX10_read_236 ?_
              refine lv_iconst (v := 2) hx hb dX10_read_239 (by decide) ?_
              refine lv_icmp_eq (tgt := 261) hx hb dX10_read_240 (by decide) (fun c_79 => ?_) (fun c_79 => ?_)
              ·
                have hq2 : k1_6 = 2 := (nI_eq (b := 2) (by omega) (by omega)).mp c_79
                refine lv_aload_n hx hb dX10_read_261 rfl (lv_at hl 2 rfl) ?_
                refine lv_aload_n hx hb dX10_read_262 rfl (lv_at hl 1 rfl) ?_
                refine pg_get (ci := 10) (v := .int (nI k3_8)) (C := RX10) (T := TX10) (N := 6) hx hb hts it_10 hown hK hP hL_h0 hv6 rfl 2 (by decide) (hts _ kt_119) (fun _ h9 => h9) rfl dX10_read_263 ?_
                refine lv_aload_n hx hb dX10_read_266 rfl (lv_at hl 1 rfl) ?_
                refine pg_get (ci := 10) (v := .int (nI sq)) (C := RX10) (T := TX10) (N := 6) hx hb hts it_10 hown hK hP hL_h0 hv6 rfl 3 (by decide) (hts _ kt_149) (fun _ h9 => h9) rfl dX10_read_267 ?_
                have hFc := pg_free hD hS hA
                refine va_calli (va_runS (As := [.ref g1, .int (nI k3_8), .int (nI sq)]) (rest := []) ⟨hx, hb, hml, hown, hts⟩ (s_X10_isHost_e l dC dI cs ty L H.size F_32 g1 σ r1 n1 z k3_8 sq f hW hL_g1 hT_g1 hF_36 hF_37 (by omega) (by omega) (by omega) (by omega)) ⟨callB_of 3 hts (gi kt_151) rfl rfl rfl (hts _ kt_90) (hts _ kt_152) (by decide +kernel) ⟨Nat.le_of_ble_eq_true rfl, Nat.le_of_ble_eq_true rfl⟩, (hts _ kt_153)⟩ ⟨fun a U g mk q => ⟨q.1, PT.calling q.2⟩, fun U hU hWm => ⟨rfl, PT.mk hU hWm hP hK hD hE hO⟩⟩ rfl rfl hl.1 rfl (lv_room (Nat.le_of_ble_eq_true rfl)) dX10_read_270 ⟨by show _ + 0 ≤ 0; omega, by show _ + 0 ≤ 0; omega⟩) hS (fun q _ h => hFc q h) hFc (fun r_81 u t H1 locs ht hvm hw hB hz1 hk1 hS => ?_)
                obtain ⟨F_82, hB1⟩ := hB
                obtain rfl : F_32 = F_82 := (funext (fun a => hB1.2.2.2 a List.not_mem_nil)).symm
                obtain ⟨hP, hD, hO, hR⟩ := QT.back hB1 ht hFc hR (fun q h => absurd h List.not_mem_nil)
                generalize H1 = H at hP hS ⊢
                have hw : r_81 = (if k3_8 < sq ∧ ishw (TC f z) sq (sq - k3_8) k3_8 = true then 1 else 0) := hw
                have hw_83 := hw
                refine lv_istore (lv' := [(4, .int r_81), (0, .ref h0), (1, .ref g1), (2, .int (nI a)), (3, .int (nI b))]) hx hb dX10_read_273 hl (by decide) rfl (fun ls hl => ?_)
                refine W.widen (k := 0) (n := 0) (by omega) (by omega) ?_
                exact jn_38 (r_81, d5) F_32 (⟨(bit_if hw_83).elim (fun q => Or.inl ⟨q.1, rig_2 (Or.inl hq2) q.2, fun c => absurd c hq5⟩) (fun q => Or.inr ⟨q.1, fun q2 => q.2 (q2.2.2 (Or.inl hq2))⟩), hv6⟩) hO hR _ _ hP hD hS ls (lv_sub hl [0, 1, 2, 3, 4] rfl)
              ·
                have hq2 : k1_6 ≠ 2 := fun q => c_79 (by rw [q]; rfl)
                refine lv_aload_n hx hb dX10_read_243 rfl (lv_at hl 1 rfl) ?_
                refine pg_get (ci := 10) (v := .int (nI k1_6)) (C := RX10) (T := TX10) (N := 6) hx hb hts it_10 hown hK hP hL_h0 hv6 rfl 0 (by decide) (hts _ kt_118) (fun _ h9 => h9) rfl dX10_read_244 ?_
                refine lv_bipush (v := 6) hx hb dX10_read_247 (by decide) ?_
                refine lv_icmp_eq (tgt := 261) hx hb dX10_read_249 (by decide) (fun c_85 => ?_) (fun c_85 => ?_)
                ·
                  have hq6 : k1_6 = 6 := (nI_eq (b := 6) (by omega) (by omega)).mp c_85
                  refine lv_aload_n hx hb dX10_read_261 rfl (lv_at hl 2 rfl) ?_
                  refine lv_aload_n hx hb dX10_read_262 rfl (lv_at hl 1 rfl) ?_
                  refine pg_get (ci := 10) (v := .int (nI k3_8)) (C := RX10) (T := TX10) (N := 6) hx hb hts it_10 hown hK hP hL_h0 hv6 rfl 2 (by decide) (hts _ kt_119) (fun _ h9 => h9) rfl dX10_read_263 ?_
                  refine lv_aload_n hx hb dX10_read_266 rfl (lv_at hl 1 rfl) ?_
                  refine pg_get (ci := 10) (v := .int (nI sq)) (C := RX10) (T := TX10) (N := 6) hx hb hts it_10 hown hK hP hL_h0 hv6 rfl 3 (by decide) (hts _ kt_149) (fun _ h9 => h9) rfl dX10_read_267 ?_
                  have hFc := pg_free hD hS hA
                  refine va_calli (va_runS (As := [.ref g1, .int (nI k3_8), .int (nI sq)]) (rest := []) ⟨hx, hb, hml, hown, hts⟩ (s_X10_isHost_e l dC dI cs ty L H.size F_32 g1 σ r1 n1 z k3_8 sq f hW hL_g1 hT_g1 hF_36 hF_37 (by omega) (by omega) (by omega) (by omega)) ⟨callB_of 3 hts (gi kt_151) rfl rfl rfl (hts _ kt_90) (hts _ kt_152) (by decide +kernel) ⟨Nat.le_of_ble_eq_true rfl, Nat.le_of_ble_eq_true rfl⟩, (hts _ kt_153)⟩ ⟨fun a U g mk q => ⟨q.1, PT.calling q.2⟩, fun U hU hWm => ⟨rfl, PT.mk hU hWm hP hK hD hE hO⟩⟩ rfl rfl hl.1 rfl (lv_room (Nat.le_of_ble_eq_true rfl)) dX10_read_270 ⟨by show _ + 0 ≤ 0; omega, by show _ + 0 ≤ 0; omega⟩) hS (fun q _ h => hFc q h) hFc (fun r_87 u t H1 locs ht hvm hw hB hz1 hk1 hS => ?_)
                  obtain ⟨F_88, hB1⟩ := hB
                  obtain rfl : F_32 = F_88 := (funext (fun a => hB1.2.2.2 a List.not_mem_nil)).symm
                  obtain ⟨hP, hD, hO, hR⟩ := QT.back hB1 ht hFc hR (fun q h => absurd h List.not_mem_nil)
                  generalize H1 = H at hP hS ⊢
                  have hw : r_87 = (if k3_8 < sq ∧ ishw (TC f z) sq (sq - k3_8) k3_8 = true then 1 else 0) := hw
                  have hw_89 := hw
                  refine lv_istore (lv' := [(4, .int r_87), (0, .ref h0), (1, .ref g1), (2, .int (nI a)), (3, .int (nI b))]) hx hb dX10_read_273 hl (by decide) rfl (fun ls hl => ?_)
                  refine W.widen (k := 0) (n := 0) (by omega) (by omega) ?_
                  exact jn_38 (r_87, d5) F_32 (⟨(bit_if hw_89).elim (fun q => Or.inl ⟨q.1, rig_2 (Or.inr (Or.inl hq6)) q.2, fun c => absurd c hq5⟩) (fun q => Or.inr ⟨q.1, fun q2 => q.2 (q2.2.2 (Or.inr (Or.inl hq6)))⟩), hv6⟩) hO hR _ _ hP hD hS ls (lv_sub hl [0, 1, 2, 3, 4] rfl)
                ·
                  have hq6 : k1_6 ≠ 6 := fun q => c_85 (by rw [q]; rfl)
                  refine lv_aload_n hx hb dX10_read_252 rfl (lv_at hl 1 rfl) ?_
                  refine pg_get (ci := 10) (v := .int (nI k1_6)) (C := RX10) (T := TX10) (N := 6) hx hb hts it_10 hown hK hP hL_h0 hv6 rfl 0 (by decide) (hts _ kt_118) (fun _ h9 => h9) rfl dX10_read_253 ?_
                  refine lv_bipush (v := 7) hx hb dX10_read_256 (by decide) ?_
                  refine lv_icmp_ne (tgt := 275) hx hb dX10_read_258 (by decide) (fun c_91 => ?_) (fun c_91 => ?_)
                  ·
                    have hq7 : k1_6 ≠ 7 := fun q => c_91 (by rw [q]; rfl)
                    refine W.widen (k := 0) (n := 0) (by omega) (by omega) ?_
                    exact jn_38 (s4, d5) F_32 (⟨hv5.elim (fun q => Or.inl ⟨q.1, rig_0 (fun d => by rcases d with d | d | d; exact hq5 d; exact hq3 d; exact hq4 d) (fun d => by rcases d with d | d | d; exact hq2 d; exact hq6 d; exact hq7 d), fun c => absurd c hq5⟩) (fun q => absurd (show RT0 bt by rw [(hv3.2 (fun d => by rcases d with d | d | d; exact hq5 d; exact hq3 d; exact hq4 d)).2]; exact ⟨by decide, by decide⟩) q.2), hv6⟩) hO hR _ _ hP hD hS ls (lv_sub hl [0, 1, 2, 3, 4] rfl)
                  ·
                    have hq7 : k1_6 = 7 := (nI_eq (b := 7) (by omega) (by omega)).mp c_91
                    refine lv_aload_n hx hb dX10_read_261 rfl (lv_at hl 2 rfl) ?_
                    refine lv_aload_n hx hb dX10_read_262 rfl (lv_at hl 1 rfl) ?_
                    refine pg_get (ci := 10) (v := .int (nI k3_8)) (C := RX10) (T := TX10) (N := 6) hx hb hts it_10 hown hK hP hL_h0 hv6 rfl 2 (by decide) (hts _ kt_119) (fun _ h9 => h9) rfl dX10_read_263 ?_
                    refine lv_aload_n hx hb dX10_read_266 rfl (lv_at hl 1 rfl) ?_
                    refine pg_get (ci := 10) (v := .int (nI sq)) (C := RX10) (T := TX10) (N := 6) hx hb hts it_10 hown hK hP hL_h0 hv6 rfl 3 (by decide) (hts _ kt_149) (fun _ h9 => h9) rfl dX10_read_267 ?_
                    have hFc := pg_free hD hS hA
                    refine va_calli (va_runS (As := [.ref g1, .int (nI k3_8), .int (nI sq)]) (rest := []) ⟨hx, hb, hml, hown, hts⟩ (s_X10_isHost_e l dC dI cs ty L H.size F_32 g1 σ r1 n1 z k3_8 sq f hW hL_g1 hT_g1 hF_36 hF_37 (by omega) (by omega) (by omega) (by omega)) ⟨callB_of 3 hts (gi kt_151) rfl rfl rfl (hts _ kt_90) (hts _ kt_152) (by decide +kernel) ⟨Nat.le_of_ble_eq_true rfl, Nat.le_of_ble_eq_true rfl⟩, (hts _ kt_153)⟩ ⟨fun a U g mk q => ⟨q.1, PT.calling q.2⟩, fun U hU hWm => ⟨rfl, PT.mk hU hWm hP hK hD hE hO⟩⟩ rfl rfl hl.1 rfl (lv_room (Nat.le_of_ble_eq_true rfl)) dX10_read_270 ⟨by show _ + 0 ≤ 0; omega, by show _ + 0 ≤ 0; omega⟩) hS (fun q _ h => hFc q h) hFc (fun r_94 u t H1 locs ht hvm hw hB hz1 hk1 hS => ?_)
                    obtain ⟨F_95, hB1⟩ := hB
                    obtain rfl : F_32 = F_95 := (funext (fun a => hB1.2.2.2 a List.not_mem_nil)).symm
                    obtain ⟨hP, hD, hO, hR⟩ := QT.back hB1 ht hFc hR (fun q h => absurd h List.not_mem_nil)
                    generalize H1 = H at hP hS ⊢
                    have hw : r_94 = (if k3_8 < sq ∧ ishw (TC f z) sq (sq - k3_8) k3_8 = true then 1 else 0) := hw
                    have hw_96 := hw
                    refine lv_istore (lv' := [(4, .int r_94), (0, .ref h0), (1, .ref g1), (2, .int (nI a)), (3, .int (nI b))]) hx hb dX10_read_273 hl (by decide) rfl (fun ls hl => ?_)
                    refine W.widen (k := 0) (n := 0) (by omega) (by omega) ?_
                    exact jn_38 (r_94, d5) F_32 (⟨(bit_if hw_96).elim (fun q => Or.inl ⟨q.1, rig_2 (Or.inr (Or.inr hq7)) q.2, fun c => absurd c hq5⟩) (fun q => Or.inr ⟨q.1, fun q2 => q.2 (q2.2.2 (Or.inr (Or.inr hq7)))⟩), hv6⟩) hO hR _ _ hP hD hS ls (lv_sub hl [0, 1, 2, 3, 4] rfl)
            ·
              have hq4 : k1_6 = 4 := (nI_eq (b := 4) (by omega) (by omega)).mp c_77
              refine lv_aload_n hx hb dX10_read_164 rfl (lv_at hl 2 rfl) ?_
              refine lv_aload_n hx hb dX10_read_165 rfl (lv_at hl 1 rfl) ?_
              refine pg_get (ci := 10) (v := .int (nI k3_8)) (C := RX10) (T := TX10) (N := 6) hx hb hts it_10 hown hK hP hL_h0 hv6 rfl 2 (by decide) (hts _ kt_119) (fun _ h9 => h9) rfl dX10_read_166 ?_
              refine lv_iconst (v := 1) hx hb dX10_read_169 (by decide) ?_
              refine lv_isub hx hb dX10_read_170 ?_
              refine lv_topi (fun x_98 ex_98 => ?_)
              obtain rfl : x_98 = (nI (k3_8 - 1)) := ex_98.trans (pk_sub (b := 1) (by omega))
              have hFc := pg_free hD hS hA
              refine va_calli (va_runV (As := [.int (nI (k3_8 - 1))]) (rest := []) ⟨hx, hb, hml, hown, hts⟩ (s_X0_at_g l dC dI cs ty L H.size F_32 g1 σ r1 n1 z (k3_8 - 1) f hW hL_g1 hT_g1 hF_36 hF_37 (by omega) (by omega) (by omega)) ⟨callB_of 1 hts (gi kt_21) rfl rfl rfl (hts _ kt_1) (hts _ kt_120) (by decide +kernel) ⟨Nat.le_of_ble_eq_true rfl, Nat.le_of_ble_eq_true rfl⟩, (hts _ kt_23), (hts _ kt_24)⟩ ⟨fun a U g mk q => ⟨q.1, PT.calling q.2⟩, pg_recv hK hP hL_g1 hF_36 (q := (RX0, TX0, 3)) rfl, fun U hU hWm => ⟨rfl, PT.mk hU hWm hP hK hD hE hO⟩⟩ rfl rfl hl.1 rfl (lv_room (Nat.le_of_ble_eq_true rfl)) dX10_read_171 ⟨by show _ + 0 ≤ 0; omega, by show _ + 0 ≤ 0; omega⟩) hS (fun q _ h => hFc q h) hFc (fun r_99 u t H1 locs ht hvm hw hB hz1 hk1 hS => ?_)
              obtain ⟨F_100, hB1⟩ := hB
              obtain rfl : F_32 = F_100 := (funext (fun a => hB1.2.2.2 a List.not_mem_nil)).symm
              obtain ⟨hP, hD, hO, hR⟩ := QT.back hB1 ht hFc hR (fun q h => absurd h List.not_mem_nil)
              generalize H1 = H at hP hS ⊢
              have hw : r_99 = atn f z (k3_8 - 1) := hw
              have hw_101 := hw
              subst hw_101
              refine lv_bipush (v := 58) hx hb dX10_read_174 (by decide) ?_
              refine lv_icmp_eq (tgt := 183) hx hb dX10_read_176 (by decide) (fun c_102 => ?_) (fun c_102 => ?_)
              ·
                refine lv_iconst (v := 0) hx hb dX10_read_183 (by decide) ?_
                refine lv_istore (lv' := [(5, .int 0), (4, .int s4), (0, .ref h0), (1, .ref g1), (2, .int (nI a)), (3, .int (nI b))]) hx hb dX10_read_184 hl (by decide) rfl (fun ls hl => ?_)
                refine lv_iload hx hb dX10_read_186 (lv_at hl 1 rfl) ?_
                refine lv_if_eq (tgt := 229) hx hb dX10_read_188 (by decide) (fun c_103 => ?_) (fun c_103 => ?_)
                ·
                  refine lv_iconst (v := 0) hx hb dX10_read_229 (by decide) ?_
                  refine lv_istore (lv' := [(4, .int 0), (5, .int 0), (0, .ref h0), (1, .ref g1), (2, .int (nI a)), (3, .int (nI b))]) hx hb dX10_read_230 hl (by decide) rfl (fun ls hl => ?_)
                  refine lv_goto (tgt := 275) hx hb dX10_read_232 (by decide) ?_
                  refine W.widen (k := 0) (n := 0) (by omega) (by omega) ?_
                  exact jn_38 (0, d5) F_32 (⟨Or.inr ⟨rfl, fun q => orp0 hv5 c_103 (q.2.1 (Or.inr hq4)).1⟩, hv6⟩) hO hR _ _ hP hD hS ls (lv_sub hl [0, 2, 3, 4, 5] rfl)
                ·
                  refine lv_iload hx hb dX10_read_191 (lv_at hl 0 rfl) ?_
                  refine lv_if_eq (tgt := 210) hx hb dX10_read_193 (by decide) (fun c_104 => ?_) (fun c_104 => absurd (rfl) c_104)
                  refine lv_aload_n hx hb dX10_read_210 rfl (lv_at hl 3 rfl) ?_
                  refine lv_aload_n hx hb dX10_read_211 rfl (lv_at hl 2 rfl) ?_
                  refine pg_get (ci := 10) (v := .int (nI k3_8)) (C := RX10) (T := TX10) (N := 6) hx hb hts it_10 hown hK hP hL_h0 hv6 rfl 2 (by decide) (hts _ kt_119) (fun _ h9 => h9) rfl dX10_read_212 ?_
                  refine lv_aload_n hx hb dX10_read_215 rfl (lv_at hl 2 rfl) ?_
                  refine pg_get (ci := 10) (v := .int (nI sq)) (C := RX10) (T := TX10) (N := 6) hx hb hts it_10 hown hK hP hL_h0 hv6 rfl 3 (by decide) (hts _ kt_149) (fun _ h9 => h9) rfl dX10_read_216 ?_
                  have hFc := pg_free hD hS hA
                  refine va_calli (va_runS (As := [.ref g1, .int (nI k3_8), .int (nI sq)]) (rest := []) ⟨hx, hb, hml, hown, hts⟩ (s_X10_isHost_e l dC dI cs ty L H.size F_32 g1 σ r1 n1 z k3_8 sq f hW hL_g1 hT_g1 hF_36 hF_37 (by omega) (by omega) (by omega) (by omega)) ⟨callB_of 3 hts (gi kt_151) rfl rfl rfl (hts _ kt_90) (hts _ kt_152) (by decide +kernel) ⟨Nat.le_of_ble_eq_true rfl, Nat.le_of_ble_eq_true rfl⟩, (hts _ kt_153)⟩ ⟨fun a U g mk q => ⟨q.1, PT.calling q.2⟩, fun U hU hWm => ⟨rfl, PT.mk hU hWm hP hK hD hE hO⟩⟩ rfl rfl hl.1 rfl (lv_room (Nat.le_of_ble_eq_true rfl)) dX10_read_219 ⟨by show _ + 0 ≤ 0; omega, by show _ + 0 ≤ 0; omega⟩) hS (fun q _ h => hFc q h) hFc (fun r_105 u t H1 locs ht hvm hw hB hz1 hk1 hS => ?_)
                  obtain ⟨F_106, hB1⟩ := hB
                  obtain rfl : F_32 = F_106 := (funext (fun a => hB1.2.2.2 a List.not_mem_nil)).symm
                  obtain ⟨hP, hD, hO, hR⟩ := QT.back hB1 ht hFc hR (fun q h => absurd h List.not_mem_nil)
                  generalize H1 = H at hP hS ⊢
                  have hw : r_105 = (if k3_8 < sq ∧ ishw (TC f z) sq (sq - k3_8) k3_8 = true then 1 else 0) := hw
                  have hw_107 := hw
                  refine lv_if_eq (tgt := 229) hx hb dX10_read_222 (by decide) (fun c_108 => ?_) (fun c_108 => ?_)
                  ·
                    refine lv_iconst (v := 0) hx hb dX10_read_229 (by decide) ?_
                    refine lv_istore (lv' := [(4, .int 0), (5, .int 0), (0, .ref h0), (1, .ref g1), (2, .int (nI a)), (3, .int (nI b))]) hx hb dX10_read_230 hl (by decide) rfl (fun ls hl => ?_)
                    refine lv_goto (tgt := 275) hx hb dX10_read_232 (by decide) ?_
                    refine W.widen (k := 0) (n := 0) (by omega) (by omega) ?_
                    exact jn_38 (0, d5) F_32 (⟨Or.inr ⟨rfl, fun q => orp0 (bit_if hw_107) c_108 ((q.2.1 (Or.inr hq4)).2.1 ((cdv_eq (by first | decide | omega)).mpr c_102))⟩, hv6⟩) hO hR _ _ hP hD hS ls (lv_sub hl [0, 2, 3, 4, 5] rfl)
                  ·
                    refine lv_iconst (v := 1) hx hb dX10_read_225 (by decide) ?_
                    refine lv_goto (tgt := 230) hx hb dX10_read_226 (by decide) ?_
                    refine lv_istore (lv' := [(4, .int 1), (5, .int 0), (0, .ref h0), (1, .ref g1), (2, .int (nI a)), (3, .int (nI b))]) hx hb dX10_read_230 hl (by decide) rfl (fun ls hl => ?_)
                    refine lv_goto (tgt := 275) hx hb dX10_read_232 (by decide) ?_
                    refine W.widen (k := 0) (n := 0) (by omega) (by omega) ?_
                    exact jn_38 (1, d5) F_32 (⟨Or.inl ⟨rfl, rig_3 (Or.inr hq4) (orp1 hv5 c_103) (fun _ => orp1 (bit_if hw_107) c_108) (fun c => absurd ((cdv_eq (by first | decide | omega)).mpr c_102) c), fun c => absurd c hq5⟩, hv6⟩) hO hR _ _ hP hD hS ls (lv_sub hl [0, 2, 3, 4, 5] rfl)
              ·
                refine lv_iconst (v := 1) hx hb dX10_read_179 (by decide) ?_
                refine lv_goto (tgt := 184) hx hb dX10_read_180 (by decide) ?_
                refine lv_istore (lv' := [(5, .int 1), (4, .int s4), (0, .ref h0), (1, .ref g1), (2, .int (nI a)), (3, .int (nI b))]) hx hb dX10_read_184 hl (by decide) rfl (fun ls hl => ?_)
                refine lv_iload hx hb dX10_read_186 (lv_at hl 1 rfl) ?_
                refine lv_if_eq (tgt := 229) hx hb dX10_read_188 (by decide) (fun c_109 => ?_) (fun c_109 => ?_)
                ·
                  refine lv_iconst (v := 0) hx hb dX10_read_229 (by decide) ?_
                  refine lv_istore (lv' := [(4, .int 0), (5, .int 1), (0, .ref h0), (1, .ref g1), (2, .int (nI a)), (3, .int (nI b))]) hx hb dX10_read_230 hl (by decide) rfl (fun ls hl => ?_)
                  refine lv_goto (tgt := 275) hx hb dX10_read_232 (by decide) ?_
                  refine W.widen (k := 0) (n := 0) (by omega) (by omega) ?_
                  exact jn_38 (0, d5) F_32 (⟨Or.inr ⟨rfl, fun q => orp0 hv5 c_109 (q.2.1 (Or.inr hq4)).1⟩, hv6⟩) hO hR _ _ hP hD hS ls (lv_sub hl [0, 2, 3, 4, 5] rfl)
                ·
                  refine lv_iload hx hb dX10_read_191 (lv_at hl 0 rfl) ?_
                  refine lv_if_eq (tgt := 210) hx hb dX10_read_193 (by decide) (fun c_110 => absurd c_110 (by decide)) (fun c_110 => ?_)
                  refine lv_aload_n hx hb dX10_read_196 rfl (lv_at hl 2 rfl) ?_
                  refine pg_get (ci := 10) (v := .int (nI k3_8)) (C := RX10) (T := TX10) (N := 6) hx hb hts it_10 hown hK hP hL_h0 hv6 rfl 2 (by decide) (hts _ kt_119) (fun _ h9 => h9) rfl dX10_read_197 ?_
                  refine lv_aload_n hx hb dX10_read_200 rfl (lv_at hl 2 rfl) ?_
                  refine pg_get (ci := 10) (v := .int (nI sq)) (C := RX10) (T := TX10) (N := 6) hx hb hts it_10 hown hK hP hL_h0 hv6 rfl 3 (by decide) (hts _ kt_149) (fun _ h9 => h9) rfl dX10_read_201 ?_
                  refine lv_icmp_ne (tgt := 229) hx hb dX10_read_204 (by decide) (fun c_111 => ?_) (fun c_111 => ?_)
                  ·
                    have hkq : k3_8 ≠ sq := fun q => c_111 (by rw [q])
                    refine lv_iconst (v := 0) hx hb dX10_read_229 (by decide) ?_
                    refine lv_istore (lv' := [(4, .int 0), (5, .int 1), (0, .ref h0), (1, .ref g1), (2, .int (nI a)), (3, .int (nI b))]) hx hb dX10_read_230 hl (by decide) rfl (fun ls hl => ?_)
                    refine lv_goto (tgt := 275) hx hb dX10_read_232 (by decide) ?_
                    refine W.widen (k := 0) (n := 0) (by omega) (by omega) ?_
                    exact jn_38 (0, d5) F_32 (⟨Or.inr ⟨rfl, fun q => hkq ((q.2.1 (Or.inr hq4)).2.2 (fun q => c_102 ((cdv_eq (by first | decide | omega)).mp q)))⟩, hv6⟩) hO hR _ _ hP hD hS ls (lv_sub hl [0, 2, 3, 4, 5] rfl)
                  ·
                    have hkq : k3_8 = sq := (nI_eq (by omega) (by omega)).mp c_111
                    refine lv_goto (tgt := 225) hx hb dX10_read_207 (by decide) ?_
                    refine lv_iconst (v := 1) hx hb dX10_read_225 (by decide) ?_
                    refine lv_goto (tgt := 230) hx hb dX10_read_226 (by decide) ?_
                    refine lv_istore (lv' := [(4, .int 1), (5, .int 1), (0, .ref h0), (1, .ref g1), (2, .int (nI a)), (3, .int (nI b))]) hx hb dX10_read_230 hl (by decide) rfl (fun ls hl => ?_)
                    refine lv_goto (tgt := 275) hx hb dX10_read_232 (by decide) ?_
                    refine W.widen (k := 0) (n := 0) (by omega) (by omega) ?_
                    exact jn_38 (1, d5) F_32 (⟨Or.inl ⟨rfl, rig_3 (Or.inr hq4) (orp1 hv5 c_109) (fun c => absurd c (fun q => c_102 ((cdv_eq (by first | decide | omega)).mp q))) (fun _ => hkq), fun c => absurd c hq5⟩, hv6⟩) hO hR _ _ hP hD hS ls (lv_sub hl [0, 2, 3, 4, 5] rfl)
        ·
          have hq5 : k1_6 = 5 := (nI_eq (b := 5) (by omega) (by omega)).mp c_56
          refine lv_iload hx hb dX10_read_117 (lv_at hl 0 rfl) ?_
          refine lv_if_eq (tgt := 142) hx hb dX10_read_119 (by decide) (fun c_115 => ?_) (fun c_115 => ?_)
          ·
            refine lv_iconst (v := 0) hx hb dX10_read_142 (by decide) ?_
            refine lv_istore (lv' := [(4, .int 0), (0, .ref h0), (1, .ref g1), (2, .int (nI a)), (3, .int (nI b))]) hx hb dX10_read_143 hl (by decide) rfl (fun ls hl => ?_)
            refine lv_goto (tgt := 275) hx hb dX10_read_145 (by decide) ?_
            refine W.widen (k := 0) (n := 0) (by omega) (by omega) ?_
            exact jn_38 (0, d5) F_32 (⟨Or.inr ⟨rfl, fun q => orp0 hv5 c_115 (q.1 hq5).1⟩, hv6⟩) hO hR _ _ hP hD hS ls (lv_sub hl [0, 1, 2, 3, 4] rfl)
          ·
            refine lv_aload_n hx hb dX10_read_122 rfl (lv_at hl 1 rfl) ?_
            refine lv_aload_n hx hb dX10_read_123 rfl (lv_at hl 2 rfl) ?_
            refine lv_aload_n hx hb dX10_read_124 rfl (lv_at hl 1 rfl) ?_
            refine pg_get (ci := 10) (v := .int (nI k3_8)) (C := RX10) (T := TX10) (N := 6) hx hb hts it_10 hown hK hP hL_h0 hv6 rfl 2 (by decide) (hts _ kt_119) (fun _ h9 => h9) rfl dX10_read_125 ?_
            refine lv_aload_n hx hb dX10_read_128 rfl (lv_at hl 1 rfl) ?_
            refine pg_get (ci := 10) (v := .int (nI sq)) (C := RX10) (T := TX10) (N := 6) hx hb hts it_10 hown hK hP hL_h0 hv6 rfl 3 (by decide) (hts _ kt_149) (fun _ h9 => h9) rfl dX10_read_129 ?_
            have hFc := pg_free hD hS hA
            refine va_calli (va_runV (As := [.ref g1, .int (nI k3_8), .int (nI sq)]) (rest := []) ⟨hx, hb, hml, hown, hts⟩ (s_X10_readQuad_e l dC dI cs ty L H.size F_32 h0 ρ g1 σ r1 n1 z k3_8 sq f (nI k1_6) (nI k2_7) (nI k3_8) sq bt d5 hW hL_h0 hT_h0 hL_g1 hT_g1 hF_36 hF_37 (by omega) (by omega) (hsr) (by omega) (hv1) (by omega) (by omega) hv6) ⟨callB_of 3 hts (gi kt_154) rfl rfl rfl (hts _ kt_90) (hts _ kt_155) (by decide +kernel) ⟨Nat.le_of_ble_eq_true rfl, Nat.le_of_ble_eq_true rfl⟩, (hts _ kt_156), (hts _ kt_157)⟩ ⟨fun a U g mk q => ⟨q.1, PT.calling q.2⟩, pg_recv hK hP hL_h0 hv6 (q := (RX10, TX10, 6)) rfl, fun U hU hWm => ⟨rfl, PT.mk hU hWm hP hK hD hE hO⟩⟩ rfl rfl hl.1 rfl (lv_room (Nat.le_of_ble_eq_true rfl)) dX10_read_132 ⟨by show _ + 0 ≤ 0; omega, by show _ + 0 ≤ 0; omega⟩) hS (fun q _ h => hFc q h) hFc (fun r_117 ga_116 t H1 locs ht hvm hw hB hz1 hk1 hS => ?_)
            obtain ⟨F_118, hB1, hq_119⟩ := hB
            obtain ⟨hP, hD, hO, hR⟩ := QT.back hB1 ht hFc hR (fun q h => by simp only [List.mem_cons, List.not_mem_nil, or_false] at h ⊢; omega)
            have hF_120 : F_118 g1 = .inr (0, [.ref r1, .int (nI z), .int 0]) := (hB1.2.2.2 g1 (by rw [hT_g1]; simp only [List.mem_cons, List.not_mem_nil, or_false]; omega)).trans hF_36
            have hF_121 : F_118 r1 = .inl (cs 16, n1, .inl f) := (hB1.2.2.2 r1 (by rw [ht_2]; simp only [List.mem_cons, List.not_mem_nil, or_false]; omega)).trans hF_37
            generalize H1 = H at hP hS ⊢
            have hw : (r_117 = 1 ∧ qdT (TC f z) k3_8 sq = some (4, ga_116)) ∨ (r_117 = 0 ∧ ∀ x9, ¬ qdT (TC f z) k3_8 sq = some (4, x9)) := hw
            have hw_122 := hw
            refine lv_if_eq (tgt := 142) hx hb dX10_read_135 (by decide) (fun c_123 => ?_) (fun c_123 => ?_)
            ·
              refine lv_iconst (v := 0) hx hb dX10_read_142 (by decide) ?_
              refine lv_istore (lv' := [(4, .int 0), (0, .ref h0), (1, .ref g1), (2, .int (nI a)), (3, .int (nI b))]) hx hb dX10_read_143 hl (by decide) rfl (fun ls hl => ?_)
              refine lv_goto (tgt := 275) hx hb dX10_read_145 (by decide) ?_
              refine W.widen (k := 0) (n := 0) (by omega) (by omega) ?_
              exact jn_38 (0, ga_116) F_118 (⟨Or.inr ⟨rfl, fun q => by obtain ⟨y9, hy9⟩ := (q.1 hq5).2; rcases hw_122 with h9 | h9; exact absurd (h9.1.symm.trans c_123) (by decide); exact h9.2 y9 hy9⟩, hq_119⟩) hO hR _ _ hP hD hS ls (lv_sub hl [0, 1, 2, 3, 4] rfl)
            ·
              refine lv_iconst (v := 1) hx hb dX10_read_138 (by decide) ?_
              refine lv_goto (tgt := 143) hx hb dX10_read_139 (by decide) ?_
              refine lv_istore (lv' := [(4, .int 1), (0, .ref h0), (1, .ref g1), (2, .int (nI a)), (3, .int (nI b))]) hx hb dX10_read_143 hl (by decide) rfl (fun ls hl => ?_)
              refine lv_goto (tgt := 275) hx hb dX10_read_145 (by decide) ?_
              refine W.widen (k := 0) (n := 0) (by omega) (by omega) ?_
              exact jn_38 (1, ga_116) F_118 ((by rcases hw_122 with h9 | h9; exact ⟨Or.inl ⟨rfl, rig_5 hq5 (orp1 hv5 c_115) h9.2, fun _ => h9.2⟩, hq_119⟩; exact absurd h9.1 c_123)) hO hR _ _ hP hD hS ls (lv_sub hl [0, 1, 2, 3, 4] rfl)
    ·
      refine lv_aload_n hx hb dX10_read_86 rfl (lv_at hl 0 rfl) ?_
      refine pg_get (ci := 10) (v := .int bt) (C := RX10) (T := TX10) (N := 6) hx hb hts it_10 hown hK hP hL_h0 hv4 rfl 4 (by decide) (hts _ kt_150) (fun _ h9 => h9) rfl dX10_read_87 ?_
      refine lv_if_lt (tgt := 106) hx hb dX10_read_90 (by decide) (fun c_124 => ?_) (fun c_124 => ?_)
      ·
        refine lv_iconst (v := 0) hx hb dX10_read_106 (by decide) ?_
        refine lv_istore (lv' := [(4, .int 0), (0, .ref h0), (1, .ref g1), (2, .int (nI a)), (3, .int (nI b))]) hx hb dX10_read_107 hl (by decide) rfl (fun ls hl => ?_)
        refine W.widen (k := 0) (n := 0) (by omega) (by omega) ?_
        exact jn_31 0 F_25 (⟨Or.inr ⟨rfl, fun q => q.1 c_124⟩, hv4⟩) hO hR _ _ hP hD hS ls (lv_sub hl [0, 1, 2, 3, 4] rfl)
      ·
        refine lv_aload_n hx hb dX10_read_93 rfl (lv_at hl 0 rfl) ?_
        refine pg_get (ci := 10) (v := .int bt) (C := RX10) (T := TX10) (N := 6) hx hb hts it_10 hown hK hP hL_h0 hv4 rfl 4 (by decide) (hts _ kt_150) (fun _ h9 => h9) rfl dX10_read_94 ?_
        refine lv_bipush (v := 32) hx hb dX10_read_97 (by decide) ?_
        refine lv_icmp_gt (tgt := 106) hx hb dX10_read_99 (by decide) (fun c_125 => ?_) (fun c_125 => ?_)
        ·
          refine lv_iconst (v := 0) hx hb dX10_read_106 (by decide) ?_
          refine lv_istore (lv' := [(4, .int 0), (0, .ref h0), (1, .ref g1), (2, .int (nI a)), (3, .int (nI b))]) hx hb dX10_read_107 hl (by decide) rfl (fun ls hl => ?_)
          refine W.widen (k := 0) (n := 0) (by omega) (by omega) ?_
          exact jn_31 0 F_25 (⟨Or.inr ⟨rfl, fun q => q.2 c_125⟩, hv4⟩) hO hR _ _ hP hD hS ls (lv_sub hl [0, 1, 2, 3, 4] rfl)
        ·
          refine lv_iconst (v := 1) hx hb dX10_read_102 (by decide) ?_
          refine lv_goto (tgt := 107) hx hb dX10_read_103 (by decide) ?_
          refine lv_istore (lv' := [(4, .int 1), (0, .ref h0), (1, .ref g1), (2, .int (nI a)), (3, .int (nI b))]) hx hb dX10_read_107 hl (by decide) rfl (fun ls hl => ?_)
          refine W.widen (k := 0) (n := 0) (by omega) (by omega) ?_
          exact jn_31 1 F_25 (⟨Or.inl ⟨rfl, c_124, c_125⟩, hv4⟩) hO hR _ _ hP hD hS ls (lv_sub hl [0, 1, 2, 3, 4] rfl)
  ·
    refine lv_aload_n hx hb dX10_read_18 rfl (lv_at hl 0 rfl) ?_
    refine pg_get (ci := 10) (v := .int (nI k1_6)) (C := RX10) (T := TX10) (N := 6) hx hb hts it_10 hown hK hP hL_h0 hF_21 rfl 0 (by decide) (hts _ kt_118) (fun _ h9 => h9) rfl dX10_read_19 ?_
    refine lv_iconst (v := 5) hx hb dX10_read_22 (by decide) ?_
    refine lv_icmp_eq (tgt := 42) hx hb dX10_read_23 (by decide) (fun c_126 => ?_) (fun c_126 => ?_)
    ·
      have hq5 : k1_6 = 5 := (nI_eq (b := 5) (by omega) (by omega)).mp c_126
      refine lv_aload_n hx hb dX10_read_42 rfl (lv_at hl 0 rfl) ?_
      refine lv_aload_n hx hb dX10_read_43 rfl (lv_at hl 1 rfl) ?_
      refine lv_bipush (v := 47) hx hb dX10_read_44 (by decide) ?_
      refine lv_aload_n hx hb dX10_read_46 rfl (lv_at hl 0 rfl) ?_
      refine pg_get (ci := 10) (v := .int (nI k3_8)) (C := RX10) (T := TX10) (N := 6) hx hb hts it_10 hown hK hP hL_h0 hF_21 rfl 2 (by decide) (hts _ kt_119) (fun _ h9 => h9) rfl dX10_read_47 ?_
      refine lv_iload_n hx hb dX10_read_50 rfl (lv_at hl 3 rfl) ?_
      have hFc := pg_free hD hS hA
      refine va_calli (va_runV (As := [.int 47, .int (nI k3_8), .int (nI b)]) (rest := [.ref h0]) ⟨hx, hb, hml, hown, hts⟩ (s_X0_find_g l dC dI cs ty L H.size F_19 g1 σ r1 n1 z k3_8 b f 47 hW hL_g1 hT_g1 hF_22 hF_23 (by omega) (by omega) (hkb) (hbz)) ⟨callB_of 3 hts (gi kt_122) rfl rfl rfl (hts _ kt_1) (hts _ kt_123) (by decide +kernel) ⟨Nat.le_of_ble_eq_true rfl, Nat.le_of_ble_eq_true rfl⟩, (hts _ kt_124), (hts _ kt_125)⟩ ⟨fun a U g mk q => ⟨q.1, PT.calling q.2⟩, pg_recv hK hP hL_g1 hF_22 (q := (RX0, TX0, 3)) rfl, fun U hU hWm => ⟨rfl, PT.mk hU hWm hP hK hD hE hO⟩⟩ rfl rfl hl.1 rfl (lv_room (Nat.le_of_ble_eq_true rfl)) dX10_read_51 ⟨by show _ + 0 ≤ 0; omega, by show _ + 0 ≤ 0; omega⟩) hS (fun q _ h => hFc q h) hFc (fun r_128 u t H1 locs ht hvm hw hB hz1 hk1 hS => ?_)
      obtain ⟨F_129, hB1⟩ := hB
      obtain rfl : F_19 = F_129 := (funext (fun a => hB1.2.2.2 a List.not_mem_nil)).symm
      obtain ⟨hP, hD, hO, hR⟩ := QT.back hB1 ht hFc hR (fun q h => absurd h List.not_mem_nil)
      generalize H1 = H at hP hS ⊢
      have hw : (∃ k : Nat, r_128 = nI k ∧ FSX f 47 k3_8 b k) := hw
      have hw_130 := hw
      obtain ⟨k9, hk9, hfs⟩ := hw_130
      obtain rfl := fd_of (c := 47) hfs hbz (by omega)
      subst hk9
      have hfl : k3_8 ≤ (fdT (TC f z) 47 k3_8 b) ∧ (fdT (TC f z) 47 k3_8 b) ≤ k3_8 + (b - k3_8) := fdT_le (b - k3_8) k3_8
      refine pg_put (ci := 10) (v := .int (nI (fdT (TC f z) 47 k3_8 b))) (ty := .int) (C := RX10) (T := TX10) (N := 6) hx hb hts it_10 tyX10 tyX10_ok nmX10 hown hK hP hD hS hL_h0 hF_21 rfl 3 (by decide) (hts _ kt_149) (fun _ h9 => h9) rfl (by decide +kernel) (rfl) (rfl) (Nat.le_of_ble_eq_true rfl) dX10_read_54 (fun H locs hP hD hS => ?_)
      obtain ⟨F_131, he_132, hP, hD, hO, hR⟩ : ∃ G, G = va_up F_19 h0 (.inr (10, [.int (nI k1_6), .int (nI k2_7), .int (nI k3_8), .int (nI (fdT (TC f z) 47 k3_8 b)), .int 32, .int d5])) ∧ va_P (dC, dI) vwCl (va_pl L G) H ∧ va_D A (va_pl L G) ∧ OK cs ty L G ∧ FR ty [ρ] F G := ⟨_, rfl, hP, hD, hO.up (sh.term hT_h0 ⟨(nI k1_6), (nI k2_7), (nI k3_8), (fdT (TC f z) 47 k3_8 b), 32, d5, rfl, (by first | omega | assumption | exact Or.inl rfl | exact Or.inr rfl)⟩), hR.up hT_h0 (by simp)⟩
      have hF_133 : F_131 h0 = .inr (10, [.int (nI k1_6), .int (nI k2_7), .int (nI k3_8), .int (nI (fdT (TC f z) 47 k3_8 b)), .int 32, .int d5]) := by rw [he_132]; exact up_self
      have hF_134 : F_131 g1 = .inr (0, [.ref r1, .int (nI z), .int 0]) := by rw [he_132, up_ne (ne_ty hT_g1 hT_h0 (by simp))]; exact hF_22
      have hF_135 : F_131 r1 = .inl (cs 16, n1, .inl f) := by rw [he_132, up_ne (ne_ty ht_2 hT_h0 (by simp))]; exact hF_23
      refine lv_aload_n hx hb dX10_read_57 rfl (lv_at hl 0 rfl) ?_
      refine lv_aload_n hx hb dX10_read_58 rfl (lv_at hl 0 rfl) ?_
      refine pg_get (ci := 10) (v := .int (nI (fdT (TC f z) 47 k3_8 b))) (C := RX10) (T := TX10) (N := 6) hx hb hts it_10 hown hK hP hL_h0 hF_133 rfl 3 (by decide) (hts _ kt_149) (fun _ h9 => h9) rfl dX10_read_59 ?_
      refine lv_iload_n hx hb dX10_read_62 rfl (lv_at hl 3 rfl) ?_
      refine lv_icmp_ne (tgt := 71) hx hb dX10_read_63 (by decide) (fun c_136 => ?_) (fun c_136 => ?_)
      ·
        have hse : (fdT (TC f z) 47 k3_8 b) ≠ b := fun q => c_136 (by rw [q])
        refine lv_aload_n hx hb dX10_read_71 rfl (lv_at hl 1 rfl) ?_
        refine lv_aload_n hx hb dX10_read_72 rfl (lv_at hl 0 rfl) ?_
        refine pg_get (ci := 10) (v := .int (nI (fdT (TC f z) 47 k3_8 b))) (C := RX10) (T := TX10) (N := 6) hx hb hts it_10 hown hK hP hL_h0 hF_133 rfl 3 (by decide) (hts _ kt_149) (fun _ h9 => h9) rfl dX10_read_73 ?_
        refine lv_iconst (v := 1) hx hb dX10_read_76 (by decide) ?_
        refine lv_iadd hx hb dX10_read_77 ?_
        refine lv_topi (fun x_138 ex_138 => ?_)
        obtain rfl : x_138 = (nI ((fdT (TC f z) 47 k3_8 b) + 1)) := ex_138.trans (nI_add (fdT (TC f z) 47 k3_8 b) 1)
        refine lv_iload_n hx hb dX10_read_78 rfl (lv_at hl 3 rfl) ?_
        refine lv_iconst (v := 2) hx hb dX10_read_79 (by decide) ?_
        refine W.eq (g2 := F0 m 80 ls [.int (nI 2), .int (nI b), .int (nI ((fdT (TC f z) 47 k3_8 b) + 1)), .ref g1, .ref h0]) rfl ?_
        have hFc := pg_free hD hS hA
        refine va_calli (va_runS (As := [.ref g1, .int (nI ((fdT (TC f z) 47 k3_8 b) + 1)), .int (nI b), .int (nI 2)]) (rest := [.ref h0]) ⟨hx, hb, hml, hown, hts⟩ (s_X10_numberOf_e l dC dI cs ty L H.size F_131 g1 σ r1 n1 z ((fdT (TC f z) 47 k3_8 b) + 1) b 2 f hW hL_g1 hT_g1 hF_134 hF_135 (by omega) (by omega) (by omega) (by omega) (by omega)) ⟨callB_of 4 hts (gi kt_132) rfl rfl rfl (hts _ kt_90) (hts _ kt_133) (by decide +kernel) ⟨Nat.le_of_ble_eq_true rfl, Nat.le_of_ble_eq_true rfl⟩, (hts _ kt_134)⟩ ⟨fun a U g mk q => ⟨q.1, PT.calling q.2⟩, fun U hU hWm => ⟨rfl, PT.mk hU hWm hP hK hD hE hO⟩⟩ rfl rfl hl.1 rfl (lv_room (Nat.le_of_ble_eq_true rfl)) dX10_read_80 ⟨by show _ + 0 ≤ 0; omega, by show _ + 0 ≤ 0; omega⟩) hS (fun q _ h => hFc q h) hFc (fun r_139 u t H1 locs ht hvm hw hB hz1 hk1 hS => ?_)
        obtain ⟨F_140, hB1⟩ := hB
        obtain rfl : F_131 = F_140 := (funext (fun a => hB1.2.2.2 a List.not_mem_nil)).symm
        obtain ⟨hP, hD, hO, hR⟩ := QT.back hB1 ht hFc hR (fun q h => absurd h List.not_mem_nil)
        generalize H1 = H at hP hS ⊢
        have hw : r_139 = nbv (nbT (TC f z) ((fdT (TC f z) 47 k3_8 b) + 1) b 2) := hw
        have hw_141 := hw
        subst hw_141
        refine pg_put (ci := 10) (v := .int (nbv (nbT (TC f z) ((fdT (TC f z) 47 k3_8 b) + 1) b 2))) (ty := .int) (C := RX10) (T := TX10) (N := 6) hx hb hts it_10 tyX10 tyX10_ok nmX10 hown hK hP hD hS hL_h0 hF_133 rfl 4 (by decide) (hts _ kt_150) (fun _ h9 => h9) rfl (by decide +kernel) (rfl) (rfl) (Nat.le_of_ble_eq_true rfl) dX10_read_83 (fun H locs hP hD hS => ?_)
        obtain ⟨F_142, he_143, hP, hD, hO, hR⟩ : ∃ G, G = va_up F_131 h0 (.inr (10, [.int (nI k1_6), .int (nI k2_7), .int (nI k3_8), .int (nI (fdT (TC f z) 47 k3_8 b)), .int (nbv (nbT (TC f z) ((fdT (TC f z) 47 k3_8 b) + 1) b 2)), .int d5])) ∧ va_P (dC, dI) vwCl (va_pl L G) H ∧ va_D A (va_pl L G) ∧ OK cs ty L G ∧ FR ty [ρ] F G := ⟨_, rfl, hP, hD, hO.up (sh.term hT_h0 ⟨(nI k1_6), (nI k2_7), (nI k3_8), (fdT (TC f z) 47 k3_8 b), (nbv (nbT (TC f z) ((fdT (TC f z) 47 k3_8 b) + 1) b 2)), d5, rfl, (by first | omega | assumption | exact Or.inl rfl | exact Or.inr rfl)⟩), hR.up hT_h0 (by simp)⟩
        have hF_144 : F_142 h0 = .inr (10, [.int (nI k1_6), .int (nI k2_7), .int (nI k3_8), .int (nI (fdT (TC f z) 47 k3_8 b)), .int (nbv (nbT (TC f z) ((fdT (TC f z) 47 k3_8 b) + 1) b 2)), .int d5]) := by rw [he_143]; exact up_self
        have hF_145 : F_142 g1 = .inr (0, [.ref r1, .int (nI z), .int 0]) := by rw [he_143, up_ne (ne_ty hT_g1 hT_h0 (by simp))]; exact hF_134
        have hF_146 : F_142 r1 = .inl (cs 16, n1, .inl f) := by rw [he_143, up_ne (ne_ty ht_2 hT_h0 (by simp))]; exact hF_135
        refine W.widen (k := 0) (n := 0) (by omega) (by omega) ?_
        exact jn_24 ((fdT (TC f z) 47 k3_8 b), (nbv (nbT (TC f z) ((fdT (TC f z) 47 k3_8 b) + 1) b 2))) F_142 (⟨⟨hfl.1, by omega⟩, ⟨fun _ => ⟨rfl, by unfold btT; rw [if_neg hse]⟩, fun c => absurd (Or.inl hq5) c⟩, hF_144⟩) hO hR _ _ hP hD hS ls (lv_sub hl [0, 1, 2, 3] rfl)
      ·
        have hse : (fdT (TC f z) 47 k3_8 b) = b := (nI_eq (by omega) (by omega)).mp c_136
        refine lv_bipush (v := 32) hx hb dX10_read_66 (by decide) ?_
        refine lv_goto (tgt := 83) hx hb dX10_read_68 (by decide) ?_
        refine pg_put (ci := 10) (v := .int 32) (ty := .int) (C := RX10) (T := TX10) (N := 6) hx hb hts it_10 tyX10 tyX10_ok nmX10 hown hK hP hD hS hL_h0 hF_133 rfl 4 (by decide) (hts _ kt_150) (fun _ h9 => h9) rfl (by decide +kernel) (rfl) (rfl) (Nat.le_of_ble_eq_true rfl) dX10_read_83 (fun H locs hP hD hS => ?_)
        obtain ⟨F_148, he_149, hP, hD, hO, hR⟩ : ∃ G, G = va_up F_131 h0 (.inr (10, [.int (nI k1_6), .int (nI k2_7), .int (nI k3_8), .int (nI (fdT (TC f z) 47 k3_8 b)), .int 32, .int d5])) ∧ va_P (dC, dI) vwCl (va_pl L G) H ∧ va_D A (va_pl L G) ∧ OK cs ty L G ∧ FR ty [ρ] F G := ⟨_, rfl, hP, hD, hO.up (sh.term hT_h0 ⟨(nI k1_6), (nI k2_7), (nI k3_8), (fdT (TC f z) 47 k3_8 b), 32, d5, rfl, (by first | omega | assumption | exact Or.inl rfl | exact Or.inr rfl)⟩), hR.up hT_h0 (by simp)⟩
        have hF_150 : F_148 h0 = .inr (10, [.int (nI k1_6), .int (nI k2_7), .int (nI k3_8), .int (nI (fdT (TC f z) 47 k3_8 b)), .int 32, .int d5]) := by rw [he_149]; exact up_self
        have hF_151 : F_148 g1 = .inr (0, [.ref r1, .int (nI z), .int 0]) := by rw [he_149, up_ne (ne_ty hT_g1 hT_h0 (by simp))]; exact hF_134
        have hF_152 : F_148 r1 = .inl (cs 16, n1, .inl f) := by rw [he_149, up_ne (ne_ty ht_2 hT_h0 (by simp))]; exact hF_135
        refine W.widen (k := 0) (n := 0) (by omega) (by omega) ?_
        exact jn_24 ((fdT (TC f z) 47 k3_8 b), 32) F_148 (⟨⟨hfl.1, by omega⟩, ⟨fun _ => ⟨rfl, by unfold btT; rw [if_pos hse]; rfl⟩, fun c => absurd (Or.inl hq5) c⟩, hF_150⟩) hO hR _ _ hP hD hS ls (lv_sub hl [0, 1, 2, 3] rfl)
    ·
      have hq5 : k1_6 ≠ 5 := fun q => c_126 (by rw [q]; rfl)
      refine lv_aload_n hx hb dX10_read_26 rfl (lv_at hl 0 rfl) ?_
      refine pg_get (ci := 10) (v := .int (nI k1_6)) (C := RX10) (T := TX10) (N := 6) hx hb hts it_10 hown hK hP hL_h0 hF_21 rfl 0 (by decide) (hts _ kt_118) (fun _ h9 => h9) rfl dX10_read_27 ?_
      refine lv_iconst (v := 3) hx hb dX10_read_30 (by decide) ?_
      refine lv_icmp_eq (tgt := 42) hx hb dX10_read_31 (by decide) (fun c_154 => ?_) (fun c_154 => ?_)
      ·
        have hq3 : k1_6 = 3 := (nI_eq (b := 3) (by omega) (by omega)).mp c_154
        refine lv_aload_n hx hb dX10_read_42 rfl (lv_at hl 0 rfl) ?_
        refine lv_aload_n hx hb dX10_read_43 rfl (lv_at hl 1 rfl) ?_
        refine lv_bipush (v := 47) hx hb dX10_read_44 (by decide) ?_
        refine lv_aload_n hx hb dX10_read_46 rfl (lv_at hl 0 rfl) ?_
        refine pg_get (ci := 10) (v := .int (nI k3_8)) (C := RX10) (T := TX10) (N := 6) hx hb hts it_10 hown hK hP hL_h0 hF_21 rfl 2 (by decide) (hts _ kt_119) (fun _ h9 => h9) rfl dX10_read_47 ?_
        refine lv_iload_n hx hb dX10_read_50 rfl (lv_at hl 3 rfl) ?_
        have hFc := pg_free hD hS hA
        refine va_calli (va_runV (As := [.int 47, .int (nI k3_8), .int (nI b)]) (rest := [.ref h0]) ⟨hx, hb, hml, hown, hts⟩ (s_X0_find_g l dC dI cs ty L H.size F_19 g1 σ r1 n1 z k3_8 b f 47 hW hL_g1 hT_g1 hF_22 hF_23 (by omega) (by omega) (hkb) (hbz)) ⟨callB_of 3 hts (gi kt_122) rfl rfl rfl (hts _ kt_1) (hts _ kt_123) (by decide +kernel) ⟨Nat.le_of_ble_eq_true rfl, Nat.le_of_ble_eq_true rfl⟩, (hts _ kt_124), (hts _ kt_125)⟩ ⟨fun a U g mk q => ⟨q.1, PT.calling q.2⟩, pg_recv hK hP hL_g1 hF_22 (q := (RX0, TX0, 3)) rfl, fun U hU hWm => ⟨rfl, PT.mk hU hWm hP hK hD hE hO⟩⟩ rfl rfl hl.1 rfl (lv_room (Nat.le_of_ble_eq_true rfl)) dX10_read_51 ⟨by show _ + 0 ≤ 0; omega, by show _ + 0 ≤ 0; omega⟩) hS (fun q _ h => hFc q h) hFc (fun r_156 u t H1 locs ht hvm hw hB hz1 hk1 hS => ?_)
        obtain ⟨F_157, hB1⟩ := hB
        obtain rfl : F_19 = F_157 := (funext (fun a => hB1.2.2.2 a List.not_mem_nil)).symm
        obtain ⟨hP, hD, hO, hR⟩ := QT.back hB1 ht hFc hR (fun q h => absurd h List.not_mem_nil)
        generalize H1 = H at hP hS ⊢
        have hw : (∃ k : Nat, r_156 = nI k ∧ FSX f 47 k3_8 b k) := hw
        have hw_158 := hw
        obtain ⟨k9, hk9, hfs⟩ := hw_158
        obtain rfl := fd_of (c := 47) hfs hbz (by omega)
        subst hk9
        have hfl : k3_8 ≤ (fdT (TC f z) 47 k3_8 b) ∧ (fdT (TC f z) 47 k3_8 b) ≤ k3_8 + (b - k3_8) := fdT_le (b - k3_8) k3_8
        refine pg_put (ci := 10) (v := .int (nI (fdT (TC f z) 47 k3_8 b))) (ty := .int) (C := RX10) (T := TX10) (N := 6) hx hb hts it_10 tyX10 tyX10_ok nmX10 hown hK hP hD hS hL_h0 hF_21 rfl 3 (by decide) (hts _ kt_149) (fun _ h9 => h9) rfl (by decide +kernel) (rfl) (rfl) (Nat.le_of_ble_eq_true rfl) dX10_read_54 (fun H locs hP hD hS => ?_)
        obtain ⟨F_159, he_160, hP, hD, hO, hR⟩ : ∃ G, G = va_up F_19 h0 (.inr (10, [.int (nI k1_6), .int (nI k2_7), .int (nI k3_8), .int (nI (fdT (TC f z) 47 k3_8 b)), .int 32, .int d5])) ∧ va_P (dC, dI) vwCl (va_pl L G) H ∧ va_D A (va_pl L G) ∧ OK cs ty L G ∧ FR ty [ρ] F G := ⟨_, rfl, hP, hD, hO.up (sh.term hT_h0 ⟨(nI k1_6), (nI k2_7), (nI k3_8), (fdT (TC f z) 47 k3_8 b), 32, d5, rfl, (by first | omega | assumption | exact Or.inl rfl | exact Or.inr rfl)⟩), hR.up hT_h0 (by simp)⟩
        have hF_161 : F_159 h0 = .inr (10, [.int (nI k1_6), .int (nI k2_7), .int (nI k3_8), .int (nI (fdT (TC f z) 47 k3_8 b)), .int 32, .int d5]) := by rw [he_160]; exact up_self
        have hF_162 : F_159 g1 = .inr (0, [.ref r1, .int (nI z), .int 0]) := by rw [he_160, up_ne (ne_ty hT_g1 hT_h0 (by simp))]; exact hF_22
        have hF_163 : F_159 r1 = .inl (cs 16, n1, .inl f) := by rw [he_160, up_ne (ne_ty ht_2 hT_h0 (by simp))]; exact hF_23
        refine lv_aload_n hx hb dX10_read_57 rfl (lv_at hl 0 rfl) ?_
        refine lv_aload_n hx hb dX10_read_58 rfl (lv_at hl 0 rfl) ?_
        refine pg_get (ci := 10) (v := .int (nI (fdT (TC f z) 47 k3_8 b))) (C := RX10) (T := TX10) (N := 6) hx hb hts it_10 hown hK hP hL_h0 hF_161 rfl 3 (by decide) (hts _ kt_149) (fun _ h9 => h9) rfl dX10_read_59 ?_
        refine lv_iload_n hx hb dX10_read_62 rfl (lv_at hl 3 rfl) ?_
        refine lv_icmp_ne (tgt := 71) hx hb dX10_read_63 (by decide) (fun c_164 => ?_) (fun c_164 => ?_)
        ·
          have hse : (fdT (TC f z) 47 k3_8 b) ≠ b := fun q => c_164 (by rw [q])
          refine lv_aload_n hx hb dX10_read_71 rfl (lv_at hl 1 rfl) ?_
          refine lv_aload_n hx hb dX10_read_72 rfl (lv_at hl 0 rfl) ?_
          refine pg_get (ci := 10) (v := .int (nI (fdT (TC f z) 47 k3_8 b))) (C := RX10) (T := TX10) (N := 6) hx hb hts it_10 hown hK hP hL_h0 hF_161 rfl 3 (by decide) (hts _ kt_149) (fun _ h9 => h9) rfl dX10_read_73 ?_
          refine lv_iconst (v := 1) hx hb dX10_read_76 (by decide) ?_
          refine lv_iadd hx hb dX10_read_77 ?_
          refine lv_topi (fun x_166 ex_166 => ?_)
          obtain rfl : x_166 = (nI ((fdT (TC f z) 47 k3_8 b) + 1)) := ex_166.trans (nI_add (fdT (TC f z) 47 k3_8 b) 1)
          refine lv_iload_n hx hb dX10_read_78 rfl (lv_at hl 3 rfl) ?_
          refine lv_iconst (v := 2) hx hb dX10_read_79 (by decide) ?_
          refine W.eq (g2 := F0 m 80 ls [.int (nI 2), .int (nI b), .int (nI ((fdT (TC f z) 47 k3_8 b) + 1)), .ref g1, .ref h0]) rfl ?_
          have hFc := pg_free hD hS hA
          refine va_calli (va_runS (As := [.ref g1, .int (nI ((fdT (TC f z) 47 k3_8 b) + 1)), .int (nI b), .int (nI 2)]) (rest := [.ref h0]) ⟨hx, hb, hml, hown, hts⟩ (s_X10_numberOf_e l dC dI cs ty L H.size F_159 g1 σ r1 n1 z ((fdT (TC f z) 47 k3_8 b) + 1) b 2 f hW hL_g1 hT_g1 hF_162 hF_163 (by omega) (by omega) (by omega) (by omega) (by omega)) ⟨callB_of 4 hts (gi kt_132) rfl rfl rfl (hts _ kt_90) (hts _ kt_133) (by decide +kernel) ⟨Nat.le_of_ble_eq_true rfl, Nat.le_of_ble_eq_true rfl⟩, (hts _ kt_134)⟩ ⟨fun a U g mk q => ⟨q.1, PT.calling q.2⟩, fun U hU hWm => ⟨rfl, PT.mk hU hWm hP hK hD hE hO⟩⟩ rfl rfl hl.1 rfl (lv_room (Nat.le_of_ble_eq_true rfl)) dX10_read_80 ⟨by show _ + 0 ≤ 0; omega, by show _ + 0 ≤ 0; omega⟩) hS (fun q _ h => hFc q h) hFc (fun r_167 u t H1 locs ht hvm hw hB hz1 hk1 hS => ?_)
          obtain ⟨F_168, hB1⟩ := hB
          obtain rfl : F_159 = F_168 := (funext (fun a => hB1.2.2.2 a List.not_mem_nil)).symm
          obtain ⟨hP, hD, hO, hR⟩ := QT.back hB1 ht hFc hR (fun q h => absurd h List.not_mem_nil)
          generalize H1 = H at hP hS ⊢
          have hw : r_167 = nbv (nbT (TC f z) ((fdT (TC f z) 47 k3_8 b) + 1) b 2) := hw
          have hw_169 := hw
          subst hw_169
          refine pg_put (ci := 10) (v := .int (nbv (nbT (TC f z) ((fdT (TC f z) 47 k3_8 b) + 1) b 2))) (ty := .int) (C := RX10) (T := TX10) (N := 6) hx hb hts it_10 tyX10 tyX10_ok nmX10 hown hK hP hD hS hL_h0 hF_161 rfl 4 (by decide) (hts _ kt_150) (fun _ h9 => h9) rfl (by decide +kernel) (rfl) (rfl) (Nat.le_of_ble_eq_true rfl) dX10_read_83 (fun H locs hP hD hS => ?_)
          obtain ⟨F_170, he_171, hP, hD, hO, hR⟩ : ∃ G, G = va_up F_159 h0 (.inr (10, [.int (nI k1_6), .int (nI k2_7), .int (nI k3_8), .int (nI (fdT (TC f z) 47 k3_8 b)), .int (nbv (nbT (TC f z) ((fdT (TC f z) 47 k3_8 b) + 1) b 2)), .int d5])) ∧ va_P (dC, dI) vwCl (va_pl L G) H ∧ va_D A (va_pl L G) ∧ OK cs ty L G ∧ FR ty [ρ] F G := ⟨_, rfl, hP, hD, hO.up (sh.term hT_h0 ⟨(nI k1_6), (nI k2_7), (nI k3_8), (fdT (TC f z) 47 k3_8 b), (nbv (nbT (TC f z) ((fdT (TC f z) 47 k3_8 b) + 1) b 2)), d5, rfl, (by first | omega | assumption | exact Or.inl rfl | exact Or.inr rfl)⟩), hR.up hT_h0 (by simp)⟩
          have hF_172 : F_170 h0 = .inr (10, [.int (nI k1_6), .int (nI k2_7), .int (nI k3_8), .int (nI (fdT (TC f z) 47 k3_8 b)), .int (nbv (nbT (TC f z) ((fdT (TC f z) 47 k3_8 b) + 1) b 2)), .int d5]) := by rw [he_171]; exact up_self
          have hF_173 : F_170 g1 = .inr (0, [.ref r1, .int (nI z), .int 0]) := by rw [he_171, up_ne (ne_ty hT_g1 hT_h0 (by simp))]; exact hF_162
          have hF_174 : F_170 r1 = .inl (cs 16, n1, .inl f) := by rw [he_171, up_ne (ne_ty ht_2 hT_h0 (by simp))]; exact hF_163
          refine W.widen (k := 0) (n := 0) (by omega) (by omega) ?_
          exact jn_24 ((fdT (TC f z) 47 k3_8 b), (nbv (nbT (TC f z) ((fdT (TC f z) 47 k3_8 b) + 1) b 2))) F_170 (⟨⟨hfl.1, by omega⟩, ⟨fun _ => ⟨rfl, by unfold btT; rw [if_neg hse]⟩, fun c => absurd (Or.inr (Or.inl hq3)) c⟩, hF_172⟩) hO hR _ _ hP hD hS ls (lv_sub hl [0, 1, 2, 3] rfl)
        ·
          have hse : (fdT (TC f z) 47 k3_8 b) = b := (nI_eq (by omega) (by omega)).mp c_164
          refine lv_bipush (v := 32) hx hb dX10_read_66 (by decide) ?_
          refine lv_goto (tgt := 83) hx hb dX10_read_68 (by decide) ?_
          refine pg_put (ci := 10) (v := .int 32) (ty := .int) (C := RX10) (T := TX10) (N := 6) hx hb hts it_10 tyX10 tyX10_ok nmX10 hown hK hP hD hS hL_h0 hF_161 rfl 4 (by decide) (hts _ kt_150) (fun _ h9 => h9) rfl (by decide +kernel) (rfl) (rfl) (Nat.le_of_ble_eq_true rfl) dX10_read_83 (fun H locs hP hD hS => ?_)
          obtain ⟨F_176, he_177, hP, hD, hO, hR⟩ : ∃ G, G = va_up F_159 h0 (.inr (10, [.int (nI k1_6), .int (nI k2_7), .int (nI k3_8), .int (nI (fdT (TC f z) 47 k3_8 b)), .int 32, .int d5])) ∧ va_P (dC, dI) vwCl (va_pl L G) H ∧ va_D A (va_pl L G) ∧ OK cs ty L G ∧ FR ty [ρ] F G := ⟨_, rfl, hP, hD, hO.up (sh.term hT_h0 ⟨(nI k1_6), (nI k2_7), (nI k3_8), (fdT (TC f z) 47 k3_8 b), 32, d5, rfl, (by first | omega | assumption | exact Or.inl rfl | exact Or.inr rfl)⟩), hR.up hT_h0 (by simp)⟩
          have hF_178 : F_176 h0 = .inr (10, [.int (nI k1_6), .int (nI k2_7), .int (nI k3_8), .int (nI (fdT (TC f z) 47 k3_8 b)), .int 32, .int d5]) := by rw [he_177]; exact up_self
          have hF_179 : F_176 g1 = .inr (0, [.ref r1, .int (nI z), .int 0]) := by rw [he_177, up_ne (ne_ty hT_g1 hT_h0 (by simp))]; exact hF_162
          have hF_180 : F_176 r1 = .inl (cs 16, n1, .inl f) := by rw [he_177, up_ne (ne_ty ht_2 hT_h0 (by simp))]; exact hF_163
          refine W.widen (k := 0) (n := 0) (by omega) (by omega) ?_
          exact jn_24 ((fdT (TC f z) 47 k3_8 b), 32) F_176 (⟨⟨hfl.1, by omega⟩, ⟨fun _ => ⟨rfl, by unfold btT; rw [if_pos hse]; rfl⟩, fun c => absurd (Or.inr (Or.inl hq3)) c⟩, hF_178⟩) hO hR _ _ hP hD hS ls (lv_sub hl [0, 1, 2, 3] rfl)
      ·
        have hq3 : k1_6 ≠ 3 := fun q => c_154 (by rw [q]; rfl)
        refine lv_aload_n hx hb dX10_read_34 rfl (lv_at hl 0 rfl) ?_
        refine pg_get (ci := 10) (v := .int (nI k1_6)) (C := RX10) (T := TX10) (N := 6) hx hb hts it_10 hown hK hP hL_h0 hF_21 rfl 0 (by decide) (hts _ kt_118) (fun _ h9 => h9) rfl dX10_read_35 ?_
        refine lv_iconst (v := 4) hx hb dX10_read_38 (by decide) ?_
        refine lv_icmp_ne (tgt := 86) hx hb dX10_read_39 (by decide) (fun c_182 => ?_) (fun c_182 => ?_)
        ·
          have hq4 : k1_6 ≠ 4 := fun q => c_182 (by rw [q]; rfl)
          refine W.widen (k := 0) (n := 0) (by omega) (by omega) ?_
          exact jn_24 (b, 32) F_19 (⟨⟨hkb, Nat.le_refl _⟩, ⟨fun c => absurd c (fun d => by rcases d with d | d | d; exact hq5 d; exact hq3 d; exact hq4 d), fun _ => ⟨rfl, rfl⟩⟩, hF_21⟩) hO hR _ _ hP hD hS ls (lv_sub hl [0, 1, 2, 3] rfl)
        ·
          have hq4 : k1_6 = 4 := (nI_eq (b := 4) (by omega) (by omega)).mp c_182
          refine lv_aload_n hx hb dX10_read_42 rfl (lv_at hl 0 rfl) ?_
          refine lv_aload_n hx hb dX10_read_43 rfl (lv_at hl 1 rfl) ?_
          refine lv_bipush (v := 47) hx hb dX10_read_44 (by decide) ?_
          refine lv_aload_n hx hb dX10_read_46 rfl (lv_at hl 0 rfl) ?_
          refine pg_get (ci := 10) (v := .int (nI k3_8)) (C := RX10) (T := TX10) (N := 6) hx hb hts it_10 hown hK hP hL_h0 hF_21 rfl 2 (by decide) (hts _ kt_119) (fun _ h9 => h9) rfl dX10_read_47 ?_
          refine lv_iload_n hx hb dX10_read_50 rfl (lv_at hl 3 rfl) ?_
          have hFc := pg_free hD hS hA
          refine va_calli (va_runV (As := [.int 47, .int (nI k3_8), .int (nI b)]) (rest := [.ref h0]) ⟨hx, hb, hml, hown, hts⟩ (s_X0_find_g l dC dI cs ty L H.size F_19 g1 σ r1 n1 z k3_8 b f 47 hW hL_g1 hT_g1 hF_22 hF_23 (by omega) (by omega) (hkb) (hbz)) ⟨callB_of 3 hts (gi kt_122) rfl rfl rfl (hts _ kt_1) (hts _ kt_123) (by decide +kernel) ⟨Nat.le_of_ble_eq_true rfl, Nat.le_of_ble_eq_true rfl⟩, (hts _ kt_124), (hts _ kt_125)⟩ ⟨fun a U g mk q => ⟨q.1, PT.calling q.2⟩, pg_recv hK hP hL_g1 hF_22 (q := (RX0, TX0, 3)) rfl, fun U hU hWm => ⟨rfl, PT.mk hU hWm hP hK hD hE hO⟩⟩ rfl rfl hl.1 rfl (lv_room (Nat.le_of_ble_eq_true rfl)) dX10_read_51 ⟨by show _ + 0 ≤ 0; omega, by show _ + 0 ≤ 0; omega⟩) hS (fun q _ h => hFc q h) hFc (fun r_185 u t H1 locs ht hvm hw hB hz1 hk1 hS => ?_)
          obtain ⟨F_186, hB1⟩ := hB
          obtain rfl : F_19 = F_186 := (funext (fun a => hB1.2.2.2 a List.not_mem_nil)).symm
          obtain ⟨hP, hD, hO, hR⟩ := QT.back hB1 ht hFc hR (fun q h => absurd h List.not_mem_nil)
          generalize H1 = H at hP hS ⊢
          have hw : (∃ k : Nat, r_185 = nI k ∧ FSX f 47 k3_8 b k) := hw
          have hw_187 := hw
          obtain ⟨k9, hk9, hfs⟩ := hw_187
          obtain rfl := fd_of (c := 47) hfs hbz (by omega)
          subst hk9
          have hfl : k3_8 ≤ (fdT (TC f z) 47 k3_8 b) ∧ (fdT (TC f z) 47 k3_8 b) ≤ k3_8 + (b - k3_8) := fdT_le (b - k3_8) k3_8
          refine pg_put (ci := 10) (v := .int (nI (fdT (TC f z) 47 k3_8 b))) (ty := .int) (C := RX10) (T := TX10) (N := 6) hx hb hts it_10 tyX10 tyX10_ok nmX10 hown hK hP hD hS hL_h0 hF_21 rfl 3 (by decide) (hts _ kt_149) (fun _ h9 => h9) rfl (by decide +kernel) (rfl) (rfl) (Nat.le_of_ble_eq_true rfl) dX10_read_54 (fun H locs hP hD hS => ?_)
          obtain ⟨F_188, he_189, hP, hD, hO, hR⟩ : ∃ G, G = va_up F_19 h0 (.inr (10, [.int (nI k1_6), .int (nI k2_7), .int (nI k3_8), .int (nI (fdT (TC f z) 47 k3_8 b)), .int 32, .int d5])) ∧ va_P (dC, dI) vwCl (va_pl L G) H ∧ va_D A (va_pl L G) ∧ OK cs ty L G ∧ FR ty [ρ] F G := ⟨_, rfl, hP, hD, hO.up (sh.term hT_h0 ⟨(nI k1_6), (nI k2_7), (nI k3_8), (fdT (TC f z) 47 k3_8 b), 32, d5, rfl, (by first | omega | assumption | exact Or.inl rfl | exact Or.inr rfl)⟩), hR.up hT_h0 (by simp)⟩
          have hF_190 : F_188 h0 = .inr (10, [.int (nI k1_6), .int (nI k2_7), .int (nI k3_8), .int (nI (fdT (TC f z) 47 k3_8 b)), .int 32, .int d5]) := by rw [he_189]; exact up_self
          have hF_191 : F_188 g1 = .inr (0, [.ref r1, .int (nI z), .int 0]) := by rw [he_189, up_ne (ne_ty hT_g1 hT_h0 (by simp))]; exact hF_22
          have hF_192 : F_188 r1 = .inl (cs 16, n1, .inl f) := by rw [he_189, up_ne (ne_ty ht_2 hT_h0 (by simp))]; exact hF_23
          refine lv_aload_n hx hb dX10_read_57 rfl (lv_at hl 0 rfl) ?_
          refine lv_aload_n hx hb dX10_read_58 rfl (lv_at hl 0 rfl) ?_
          refine pg_get (ci := 10) (v := .int (nI (fdT (TC f z) 47 k3_8 b))) (C := RX10) (T := TX10) (N := 6) hx hb hts it_10 hown hK hP hL_h0 hF_190 rfl 3 (by decide) (hts _ kt_149) (fun _ h9 => h9) rfl dX10_read_59 ?_
          refine lv_iload_n hx hb dX10_read_62 rfl (lv_at hl 3 rfl) ?_
          refine lv_icmp_ne (tgt := 71) hx hb dX10_read_63 (by decide) (fun c_193 => ?_) (fun c_193 => ?_)
          ·
            have hse : (fdT (TC f z) 47 k3_8 b) ≠ b := fun q => c_193 (by rw [q])
            refine lv_aload_n hx hb dX10_read_71 rfl (lv_at hl 1 rfl) ?_
            refine lv_aload_n hx hb dX10_read_72 rfl (lv_at hl 0 rfl) ?_
            refine pg_get (ci := 10) (v := .int (nI (fdT (TC f z) 47 k3_8 b))) (C := RX10) (T := TX10) (N := 6) hx hb hts it_10 hown hK hP hL_h0 hF_190 rfl 3 (by decide) (hts _ kt_149) (fun _ h9 => h9) rfl dX10_read_73 ?_
            refine lv_iconst (v := 1) hx hb dX10_read_76 (by decide) ?_
            refine lv_iadd hx hb dX10_read_77 ?_
            refine lv_topi (fun x_195 ex_195 => ?_)
            obtain rfl : x_195 = (nI ((fdT (TC f z) 47 k3_8 b) + 1)) := ex_195.trans (nI_add (fdT (TC f z) 47 k3_8 b) 1)
            refine lv_iload_n hx hb dX10_read_78 rfl (lv_at hl 3 rfl) ?_
            refine lv_iconst (v := 2) hx hb dX10_read_79 (by decide) ?_
            refine W.eq (g2 := F0 m 80 ls [.int (nI 2), .int (nI b), .int (nI ((fdT (TC f z) 47 k3_8 b) + 1)), .ref g1, .ref h0]) rfl ?_
            have hFc := pg_free hD hS hA
            refine va_calli (va_runS (As := [.ref g1, .int (nI ((fdT (TC f z) 47 k3_8 b) + 1)), .int (nI b), .int (nI 2)]) (rest := [.ref h0]) ⟨hx, hb, hml, hown, hts⟩ (s_X10_numberOf_e l dC dI cs ty L H.size F_188 g1 σ r1 n1 z ((fdT (TC f z) 47 k3_8 b) + 1) b 2 f hW hL_g1 hT_g1 hF_191 hF_192 (by omega) (by omega) (by omega) (by omega) (by omega)) ⟨callB_of 4 hts (gi kt_132) rfl rfl rfl (hts _ kt_90) (hts _ kt_133) (by decide +kernel) ⟨Nat.le_of_ble_eq_true rfl, Nat.le_of_ble_eq_true rfl⟩, (hts _ kt_134)⟩ ⟨fun a U g mk q => ⟨q.1, PT.calling q.2⟩, fun U hU hWm => ⟨rfl, PT.mk hU hWm hP hK hD hE hO⟩⟩ rfl rfl hl.1 rfl (lv_room (Nat.le_of_ble_eq_true rfl)) dX10_read_80 ⟨by show _ + 0 ≤ 0; omega, by show _ + 0 ≤ 0; omega⟩) hS (fun q _ h => hFc q h) hFc (fun r_196 u t H1 locs ht hvm hw hB hz1 hk1 hS => ?_)
            obtain ⟨F_197, hB1⟩ := hB
            obtain rfl : F_188 = F_197 := (funext (fun a => hB1.2.2.2 a List.not_mem_nil)).symm
            obtain ⟨hP, hD, hO, hR⟩ := QT.back hB1 ht hFc hR (fun q h => absurd h List.not_mem_nil)
            generalize H1 = H at hP hS ⊢
            have hw : r_196 = nbv (nbT (TC f z) ((fdT (TC f z) 47 k3_8 b) + 1) b 2) := hw
            have hw_198 := hw
            subst hw_198
            refine pg_put (ci := 10) (v := .int (nbv (nbT (TC f z) ((fdT (TC f z) 47 k3_8 b) + 1) b 2))) (ty := .int) (C := RX10) (T := TX10) (N := 6) hx hb hts it_10 tyX10 tyX10_ok nmX10 hown hK hP hD hS hL_h0 hF_190 rfl 4 (by decide) (hts _ kt_150) (fun _ h9 => h9) rfl (by decide +kernel) (rfl) (rfl) (Nat.le_of_ble_eq_true rfl) dX10_read_83 (fun H locs hP hD hS => ?_)
            obtain ⟨F_199, he_200, hP, hD, hO, hR⟩ : ∃ G, G = va_up F_188 h0 (.inr (10, [.int (nI k1_6), .int (nI k2_7), .int (nI k3_8), .int (nI (fdT (TC f z) 47 k3_8 b)), .int (nbv (nbT (TC f z) ((fdT (TC f z) 47 k3_8 b) + 1) b 2)), .int d5])) ∧ va_P (dC, dI) vwCl (va_pl L G) H ∧ va_D A (va_pl L G) ∧ OK cs ty L G ∧ FR ty [ρ] F G := ⟨_, rfl, hP, hD, hO.up (sh.term hT_h0 ⟨(nI k1_6), (nI k2_7), (nI k3_8), (fdT (TC f z) 47 k3_8 b), (nbv (nbT (TC f z) ((fdT (TC f z) 47 k3_8 b) + 1) b 2)), d5, rfl, (by first | omega | assumption | exact Or.inl rfl | exact Or.inr rfl)⟩), hR.up hT_h0 (by simp)⟩
            have hF_201 : F_199 h0 = .inr (10, [.int (nI k1_6), .int (nI k2_7), .int (nI k3_8), .int (nI (fdT (TC f z) 47 k3_8 b)), .int (nbv (nbT (TC f z) ((fdT (TC f z) 47 k3_8 b) + 1) b 2)), .int d5]) := by rw [he_200]; exact up_self
            have hF_202 : F_199 g1 = .inr (0, [.ref r1, .int (nI z), .int 0]) := by rw [he_200, up_ne (ne_ty hT_g1 hT_h0 (by simp))]; exact hF_191
            have hF_203 : F_199 r1 = .inl (cs 16, n1, .inl f) := by rw [he_200, up_ne (ne_ty ht_2 hT_h0 (by simp))]; exact hF_192
            refine W.widen (k := 0) (n := 0) (by omega) (by omega) ?_
            exact jn_24 ((fdT (TC f z) 47 k3_8 b), (nbv (nbT (TC f z) ((fdT (TC f z) 47 k3_8 b) + 1) b 2))) F_199 (⟨⟨hfl.1, by omega⟩, ⟨fun _ => ⟨rfl, by unfold btT; rw [if_neg hse]⟩, fun c => absurd (Or.inr (Or.inr hq4)) c⟩, hF_201⟩) hO hR _ _ hP hD hS ls (lv_sub hl [0, 1, 2, 3] rfl)
          ·
            have hse : (fdT (TC f z) 47 k3_8 b) = b := (nI_eq (by omega) (by omega)).mp c_193
            refine lv_bipush (v := 32) hx hb dX10_read_66 (by decide) ?_
            refine lv_goto (tgt := 83) hx hb dX10_read_68 (by decide) ?_
            refine pg_put (ci := 10) (v := .int 32) (ty := .int) (C := RX10) (T := TX10) (N := 6) hx hb hts it_10 tyX10 tyX10_ok nmX10 hown hK hP hD hS hL_h0 hF_190 rfl 4 (by decide) (hts _ kt_150) (fun _ h9 => h9) rfl (by decide +kernel) (rfl) (rfl) (Nat.le_of_ble_eq_true rfl) dX10_read_83 (fun H locs hP hD hS => ?_)
            obtain ⟨F_205, he_206, hP, hD, hO, hR⟩ : ∃ G, G = va_up F_188 h0 (.inr (10, [.int (nI k1_6), .int (nI k2_7), .int (nI k3_8), .int (nI (fdT (TC f z) 47 k3_8 b)), .int 32, .int d5])) ∧ va_P (dC, dI) vwCl (va_pl L G) H ∧ va_D A (va_pl L G) ∧ OK cs ty L G ∧ FR ty [ρ] F G := ⟨_, rfl, hP, hD, hO.up (sh.term hT_h0 ⟨(nI k1_6), (nI k2_7), (nI k3_8), (fdT (TC f z) 47 k3_8 b), 32, d5, rfl, (by first | omega | assumption | exact Or.inl rfl | exact Or.inr rfl)⟩), hR.up hT_h0 (by simp)⟩
            have hF_207 : F_205 h0 = .inr (10, [.int (nI k1_6), .int (nI k2_7), .int (nI k3_8), .int (nI (fdT (TC f z) 47 k3_8 b)), .int 32, .int d5]) := by rw [he_206]; exact up_self
            have hF_208 : F_205 g1 = .inr (0, [.ref r1, .int (nI z), .int 0]) := by rw [he_206, up_ne (ne_ty hT_g1 hT_h0 (by simp))]; exact hF_191
            have hF_209 : F_205 r1 = .inl (cs 16, n1, .inl f) := by rw [he_206, up_ne (ne_ty ht_2 hT_h0 (by simp))]; exact hF_192
            refine W.widen (k := 0) (n := 0) (by omega) (by omega) ?_
            exact jn_24 ((fdT (TC f z) 47 k3_8 b), 32) F_205 (⟨⟨hfl.1, by omega⟩, ⟨fun _ => ⟨rfl, by unfold btT; rw [if_pos hse]; rfl⟩, fun c => absurd (Or.inr (Or.inr hq4)) c⟩, hF_207⟩) hO hR _ _ hP hD hS ls (lv_sub hl [0, 1, 2, 3] rfl)
