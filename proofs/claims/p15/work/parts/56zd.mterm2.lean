def IMPL (p9 q9 : Prop) : Prop := p9 → q9
theorem tc_at {f : Nat → Int32} {z j : Nat} (h : j < z) : TC f z j = cdv (f j) := congrArg cdv (if_pos h)
theorem tc_eq {f : Nat → Int32} {z j c : Nat} (h : j < z) (hc : c < 128) : TC f z j = c ↔ f j = nI c := by
  rw [tc_at h]
  exact cdv_eq hc
theorem tc_rng {f : Nat → Int32} {z j a b : Nat} (h : j < z) (ha : a < 128) (hb : b < 128) : (a ≤ TC f z j ∧ TC f z j ≤ b) ↔ (¬ f j < nI a ∧ ¬ nI b < f j) := by
  rw [tc_at h]
  exact cdv_rng ha hb
theorem tc_in {f : Nat → Int32} {z j : Nat} (h : j < z) (hc : TC f z j < 128) : f j = nI (TC f z j) := by
  rw [tc_at h] at hc ⊢
  exact cdv_in hc
def btv : Option Nat → Int32
  | none => (-1)
  | some v => if 32 < v then (-1) else nI v
theorem in_33 {x r : Int32} (hr : r = (if (33 : Int64) ≤ x.toInt64 ∧ x.toInt64 ≤ (126 : Int64) then 1 else 0)) : (r = 1 ∧ (¬ x < nI 33 ∧ ¬ nI 126 < x)) ∨ (r = 0 ∧ ¬ (¬ x < nI 33 ∧ ¬ nI 126 < x)) := by
  have e1 : (33 : Int64) ≤ x.toInt64 ↔ ¬ x < nI 33 := by
    rw [show (33 : Int64) = (nI 33).toInt64 by decide, l64]
    exact Int32.not_lt.symm
  have e2 : x.toInt64 ≤ (126 : Int64) ↔ ¬ nI 126 < x := by
    rw [show (126 : Int64) = (nI 126).toInt64 by decide, l64]
    exact Int32.not_lt.symm
  by_cases c : (33 : Int64) ≤ x.toInt64 ∧ x.toInt64 ≤ (126 : Int64)
  · rw [if_pos c] at hr
    exact Or.inl ⟨hr, e1.mp c.1, e2.mp c.2⟩
  · rw [if_neg c] at hr
    exact Or.inr ⟨hr, fun q => c ⟨e1.mpr q.1, e2.mpr q.2⟩⟩
theorem mc1_le {f : Nat → Int32} {z tt k : Nat} (hz : tt ≤ z) (hk : k < tt) : mac1 f tt k = mcD (TC f z) k := by
  unfold mac1 mcD
  by_cases c : ¬ f k < 49 ∧ ¬ 57 < f k
  · rw [if_pos ⟨hk, c⟩, if_pos ((tc_rng (a := 49) (b := 57) (by omega) (by omega) (by omega)).mpr c)]
  · rw [if_neg (fun q => c q.2), if_neg (fun q => c ((tc_rng (a := 49) (b := 57) (by omega) (by omega) (by omega)).mp q))]
theorem mc2_le {f : Nat → Int32} {z tt k : Nat} (hz : tt ≤ z) (hk : k < tt) : mac2 f tt k = mcR (TC f z) k := by
  unfold mac2 mcR
  by_cases c : f k = 114
  · rw [if_pos ⟨hk, c⟩, if_pos ((tc_eq (c := 114) (by omega) (by omega)).mpr c)]
  · rw [if_neg (fun q => c q.2), if_neg (fun q => c ((tc_eq (c := 114) (by omega) (by omega)).mp q))]
theorem mc3_le {f : Nat → Int32} {z tt k a : Nat} (hz : tt ≤ z) : mac3 f tt k a = mcE (TC f z) a tt k := by
  unfold mac3 mcE
  by_cases c : k < tt
  · by_cases d : f k = 125
    · rw [if_pos ⟨c, d⟩, if_pos ⟨c, (tc_eq (c := 125) (by omega) (by omega)).mpr d⟩]
    · rw [if_neg (fun q => d q.2), if_neg (fun q => d ((tc_eq (c := 125) (by omega) (by omega)).mp q.2))]
  · rw [if_neg (fun q => c q.1), if_neg (fun q => c q.1)]
theorem mcE_0 {T : Nat → Nat} {a tt k : Nat} (h : ¬ k < tt) : mcE T a tt k = 0 := if_neg (fun q => h q.1)
theorem mac3_0 {f : Nat → Int32} {a tt k : Nat} (h : ¬ k < tt) : mac3 f tt k a = 0 := if_neg (fun q => h q.1)
theorem mac_mcT {f : Nat → Int32} {z a tt : Nat} (hz : tt ≤ z) (h37 : TC f z a = 37) : mac f a tt = mcT (TC f z) a tt := by
  unfold mac mcT
  by_cases c1 : tt ≤ a + 1
  · rw [if_pos c1, if_neg (fun q => absurd q.2 (by omega))]
  · rw [if_neg c1, if_pos (show TC f z a = 37 ∧ a + 1 < tt from ⟨h37, by omega⟩)]
    have e1 : ∀ c, c < 128 → (TC f z (a + 1) = c ↔ f (a + 1) = nI c) := fun c hc => tc_eq (by omega) hc
    by_cases c2 : f (a + 1) = 37 ∨ f (a + 1) = 95 ∨ f (a + 1) = 45
    · rw [if_pos c2, if_pos (c2.imp (e1 37 (by omega)).mpr (fun q => q.imp (e1 95 (by omega)).mpr (e1 45 (by omega)).mpr))]
    · rw [if_neg c2, if_neg (show ¬ (TC f z (a + 1) = 37 ∨ TC f z (a + 1) = 95 ∨ TC f z (a + 1) = 45) from fun q => c2 (q.imp (e1 37 (by omega)).mp (fun q => q.imp (e1 95 (by omega)).mp (e1 45 (by omega)).mp)))]
      by_cases c3 : ¬ f (a + 1) = 123 ∨ tt ≤ a + 2
      · rw [if_pos c3]
        by_cases d : TC f z (a + 1) = 123 ∧ mcL (TC f z (a + 2))
        · rw [if_pos d]
          rcases c3 with q | q
          · exact absurd ((e1 123 (by omega)).mp d.1) q
          · have g1 := mcD_le (TC f z) (a + 3)
            have g2 := mcR_le (TC f z) (mcD (TC f z) (a + 3))
            rw [mcE_0 (by omega)]
        · rw [if_neg d]
      · rw [if_neg c3]
        have d1 : f (a + 1) = 123 := Classical.byContradiction (fun q => c3 (Or.inl q))
        have d2 : a + 2 < tt := by
          rcases Nat.lt_or_ge (a + 2) tt with q | q
          · exact q
          · exact absurd (Or.inr q) c3
        have e2 : ∀ c, c < 128 → (TC f z (a + 2) = c ↔ f (a + 2) = nI c) := fun c hc => tc_eq (by omega) hc
        have e3 : (f (a + 2) = 115 ∨ f (a + 2) = 108 ∨ f (a + 2) = 111 ∨ f (a + 2) = 100 ∨ f (a + 2) = 105) ↔ mcL (TC f z (a + 2)) := by
          unfold mcL
          rw [e2 115 (by omega), e2 108 (by omega), e2 111 (by omega), e2 100 (by omega), e2 105 (by omega)]
          exact Iff.rfl
        by_cases c4 : f (a + 2) = 115 ∨ f (a + 2) = 108 ∨ f (a + 2) = 111 ∨ f (a + 2) = 100 ∨ f (a + 2) = 105
        · rw [if_pos c4, if_pos ⟨(e1 123 (by omega)).mpr d1, e3.mp c4⟩]
          by_cases k1 : a + 3 < tt
          · rw [mc1_le hz k1]
            by_cases k2 : mcD (TC f z) (a + 3) < tt
            · rw [mc2_le hz k2, mc3_le hz]
            · have g2 := mcR_le (TC f z) (mcD (TC f z) (a + 3))
              have g3 := mac2_b f tt (mcD (TC f z) (a + 3))
              rw [mac3_0 (by omega), mcE_0 (by omega)]
          · have g1 := mcD_le (TC f z) (a + 3)
            have g2 := mcR_le (TC f z) (mcD (TC f z) (a + 3))
            have g3 := mac1_b f tt (a + 3)
            have g4 := mac2_b f tt (mac1 f tt (a + 3))
            rw [mac3_0 (by omega), mcE_0 (by omega)]
        · rw [if_neg c4, if_neg (fun q => c4 (e3.mpr q.2))]
theorem mcT_nz {T : Nat → Nat} {a tt : Nat} (h : ¬ T a = 37) : mcT T a tt = 0 := by
  unfold mcT
  rw [if_neg (fun q => h q.1)]
set_option maxHeartbeats 4000000 in
set_option maxRecDepth 100000 in
theorem s_X15_slashOf_x (l : Launch) (dC : Nat → ClassId) (dI : Nat → Nat → Nat) (cs : Nat → ClassId) (ty : TyM) (gm : Nat → Nat → Nat) (L : List Nat) (sz : Nat) (F : Nat → va_E) (g1 : Nat) (σ : Nat) (n1 : Nat) (z : Nat) (a : Nat) (tt : Nat) (fv : Nat → Int32) (hW : WTm ty gm L) (hL_g1 : g1 ∈ L) (hT_g1 : ty g1 = (17, σ, [n1])) (hFg : F g1 = .inl (cs 17, n1, .inl fv)) (htz : tt ≤ z) (hzn : z ≤ n1) (hn9 : n1 ≤ 3000) (hat : a ≤ tt) : Met l yX15_slashOf (.code yX15_slashOf cX15_slashOf 4 (some .int) :: tb) ({ frames := 0, cells := 0, slots := 0, locals := 0 }) (va_Pc [.ref g1, .int (nI a), .int (nI tt)] (PTm (dC, dI) cs ty gm L F sz)) (va_Qi (fun (r : Int32) (_ : Unit) => r = nI (fdT (TC fv z) 47 a tt)) (fun _ T9 => ∃ F2 : Nat → va_E, QTm (dC, dI) cs ty gm L [] F F2 (va_A (va_pl L F) sz) T9) (va_A (va_pl L F) sz)) 0 0 (va_A (va_pl L F) sz) := by
  refine Met.ofW (cc := cX15_slashOf) (maxL := 4) (ret := (some .int)) (by decide) rfl ?_
  intro p e s m args below meth c s₁ B hml hv
  obtain ⟨rfl, hsz, hP, hK, hD0, hE, hO⟩ := hv
  have hx := B.exec
  have hb := B.bytes
  have hr := B.returns
  have hts : ∀ w ∈ tb, w.before _ s = true := fun w h => atoms_spec (ws := .code yX15_slashOf cX15_slashOf 4 (some .int) :: tb) B.pre w (List.mem_cons_of_mem _ h)
  have hown : s.vm.findClass RX15 = some m.cls := findClass_of_methodNamed B.named
  have hlocks := B.notSynchronized
  subst hsz
  have hD := hD0.self (sz := s.heap.size)
  generalize hAe : va_A (va_pl L F) s.heap.size = A at hD ⊢
  have hA : ∀ q : Nat, s.heap.size ≤ q → A q := fun q h => by rw [← hAe]; exact Or.inr h
  have hS : va_S A s.heap s.heap [] := va_S.rf
  have hR : FR ty [] F F := FR.refl
  have hl := lv_entry ([.ref g1, .int (nI a), .int (nI tt)]) (n := 4) (Nat.le_of_ble_eq_true rfl)
  rw [lg_entry_eq]
  generalize (lg_sl ([.ref g1, .int (nI a), .int (nI tt)]) ++ List.replicate (4 - (lg_sl ([.ref g1, .int (nI a), .int (nI tt)])).length) Slot.unset).toArray = ls at hl ⊢
  have hl : lv_has ls 4 [(0, .ref g1), (1, .int (nI a)), (2, .int (nI tt))] := hl
  obtain ⟨hq_1, hq_2⟩ := hW.octs hL_g1 hT_g1
  refine lv_iload_n hx hb dX15_slashOf_0 rfl (lv_at hl 1 rfl) ?_
  refine lv_istore_n (lv' := [(3, .int (nI a)), (0, .ref g1), (1, .int (nI a)), (2, .int (nI tt))]) hx hb dX15_slashOf_1 rfl hl (by decide) rfl (fun ls hl => ?_)
  refine W.widen (k := 0) (n := 0) (by omega) (by omega) ?_
  refine pl_loopm (σ := Nat) A (dC, dI) cs ty gm L [] F 2 4 (fun j => [(3, .int (nI j)), (0, .ref g1), (1, .int (nI a)), (2, .int (nI tt))]) (fun j => []) (fun j _ => a ≤ j ∧ j ≤ tt ∧ ∀ i, a ≤ i → i < j → ¬ (TC fv z) i = 47) (fun j => tt - j) ?_ a F (⟨Nat.le_refl _, hat, fun i h1 h2 => absurd h2 (by omega)⟩) hO hR _ _ hP hD hS ls (lv_sub hl [0, 1, 2, 3] rfl)
  rintro j F_3 hv_4 hO hR ih_5 H locs hP hD hS ls hl
  have hl : lv_has ls 4 [(3, .int (nI j)), (0, .ref g1), (1, .int (nI a)), (2, .int (nI tt))] := hl
  have hv_4 : a ≤ j ∧ j ≤ tt ∧ ∀ i, a ≤ i → i < j → ¬ (TC fv z) i = 47 := hv_4
  refine W.eq (g2 := F0 m 2 ls []) rfl ?_
  obtain rfl : F = F_3 := (funext (fun a => hR a List.not_mem_nil)).symm
  obtain ⟨hv1, hv2, hv3⟩ := id hv_4
  refine lv_iload_n hx hb dX15_slashOf_2 rfl (lv_at hl 0 rfl) ?_
  refine lv_iload_n hx hb dX15_slashOf_3 rfl (lv_at hl 3 rfl) ?_
  refine lv_icmp_ge (tgt := 21) hx hb dX15_slashOf_4 (by decide) (fun c_6 => ?_) (fun c_6 => ?_)
  ·
    have hi_7 : tt ≤ j := leN (N := tt) c_6
    refine lv_iload_n hx hb dX15_slashOf_21 rfl (lv_at hl 0 rfl) ?_
    refine W.widen (k := 0) (n := 0) (by omega) (by omega) ?_
    exact W.iret (v := (nI j)) hx hb hr (fun t ht hWm => ⟨⟨(nI j), (), rfl, (congrArg nI (fdw_of (tt - a) a hv1 (by omega) hv3 (Or.inl (by omega)))).symm, ⟨F, QTm.mk ht hP hD hO hR⟩⟩, hS.F ht⟩) hS.2.2 dX15_slashOf_22
  ·
    have hi_8 : j < tt := ltN (N := tt) c_6
    refine lv_aload_n hx hb dX15_slashOf_7 rfl (lv_at hl 1 rfl) ?_
    refine lv_iload_n hx hb dX15_slashOf_8 rfl (lv_at hl 0 rfl) ?_
    refine pg_bald hx hb hK hP hL_g1 1 hFg rfl (vp_in_nI (by omega) (by omega)) dX15_slashOf_9 ?_
    refine lv_topi (fun x_9 ex_9 => ?_)
    obtain rfl : x_9 = fv j := ex_9.trans (congrArg fv (show ((nI j) : Int32).toNatClampNeg = j from nI_clamp (by omega)))
    refine lv_bipush (v := 47) hx hb dX15_slashOf_10 (by decide) ?_
    refine lv_icmp_eq (tgt := 21) hx hb dX15_slashOf_12 (by decide) (fun c_10 => ?_) (fun c_10 => ?_)
    ·
      refine lv_iload_n hx hb dX15_slashOf_21 rfl (lv_at hl 0 rfl) ?_
      refine W.widen (k := 0) (n := 0) (by omega) (by omega) ?_
      exact W.iret (v := (nI j)) hx hb hr (fun t ht hWm => ⟨⟨(nI j), (), rfl, (congrArg nI (fdw_of (tt - a) a hv1 (by omega) hv3 (Or.inr ((tc_eq (by omega) (by first | decide | omega)).mpr c_10)))).symm, ⟨F, QTm.mk ht hP hD hO hR⟩⟩, hS.F ht⟩) hS.2.2 dX15_slashOf_22
    ·
      refine lv_iinc (v := (nI (j + 1))) (lv' := [(3, .int (nI (j + 1))), (0, .ref g1), (1, .int (nI a)), (2, .int (nI tt))]) hx hb dX15_slashOf_15 hl (k := 0) rfl (nI_1 _) (by decide) rfl (fun ls hl => ?_)
      refine lv_goto (tgt := 2) hx hb dX15_slashOf_18 (by decide) ?_
      refine W.widen (k := 0) (n := 0) (by omega) (by omega) ?_
      exact ih_5 (j + 1) F (⟨by omega, by omega, fun i h1 h2 => by rcases Nat.lt_or_ge i j with q | q; exact hv3 i h1 q; rw [show i = j by omega]; exact fun q => c_10 ((tc_eq (by omega) (by first | decide | omega)).mp q)⟩) (by show tt - (j + 1) < tt - j; omega) hO hR _ _ hP hD hS ls (lv_sub hl [0, 1, 2, 3] rfl)
set_option maxHeartbeats 4000000 in
set_option maxRecDepth 100000 in
theorem s_X15_bits_x (l : Launch) (dC : Nat → ClassId) (dI : Nat → Nat → Nat) (cs : Nat → ClassId) (ty : TyM) (gm : Nat → Nat → Nat) (L : List Nat) (sz : Nat) (F : Nat → va_E) (g1 : Nat) (σ : Nat) (n1 : Nat) (z : Nat) (a : Nat) (tt : Nat) (fv : Nat → Int32) (hW : WTm ty gm L) (hL_g1 : g1 ∈ L) (hT_g1 : ty g1 = (17, σ, [n1])) (hFg : F g1 = .inl (cs 17, n1, .inl fv)) (htz : tt ≤ z) (hzn : z ≤ n1) (hn9 : n1 ≤ 3000) (hat : a ≤ tt) : Met l yX15_bits (.code yX15_bits cX15_bits 5 (some .int) :: tb) ({ frames := 1, cells := 0, slots := 0, locals := 25 }) (va_Pc [.ref g1, .int (nI a), .int (nI tt)] (PTm (dC, dI) cs ty gm L F sz)) (va_Qi (fun (r : Int32) (_ : Unit) => r = btv (nbT (TC fv z) a tt 2)) (fun _ T9 => ∃ F2 : Nat → va_E, QTm (dC, dI) cs ty gm L [] F F2 (va_A (va_pl L F) sz) T9) (va_A (va_pl L F) sz)) 0 0 (va_A (va_pl L F) sz) := by
  refine Met.ofW (cc := cX15_bits) (maxL := 5) (ret := (some .int)) (by decide) rfl ?_
  intro p e s m args below meth c s₁ B hml hv
  obtain ⟨rfl, hsz, hP, hK, hD0, hE, hO⟩ := hv
  have hx := B.exec
  have hb := B.bytes
  have hr := B.returns
  have hts : ∀ w ∈ tb, w.before _ s = true := fun w h => atoms_spec (ws := .code yX15_bits cX15_bits 5 (some .int) :: tb) B.pre w (List.mem_cons_of_mem _ h)
  have hown : s.vm.findClass RX15 = some m.cls := findClass_of_methodNamed B.named
  have hlocks := B.notSynchronized
  subst hsz
  have hD := hD0.self (sz := s.heap.size)
  generalize hAe : va_A (va_pl L F) s.heap.size = A at hD ⊢
  have hA : ∀ q : Nat, s.heap.size ≤ q → A q := fun q h => by rw [← hAe]; exact Or.inr h
  have hS : va_S A s.heap s.heap [] := va_S.rf
  have hR : FR ty [] F F := FR.refl
  have hl := lv_entry ([.ref g1, .int (nI a), .int (nI tt)]) (n := 5) (Nat.le_of_ble_eq_true rfl)
  rw [lg_entry_eq]
  generalize (lg_sl ([.ref g1, .int (nI a), .int (nI tt)]) ++ List.replicate (5 - (lg_sl ([.ref g1, .int (nI a), .int (nI tt)])).length) Slot.unset).toArray = ls at hl ⊢
  have hl : lv_has ls 5 [(0, .ref g1), (1, .int (nI a)), (2, .int (nI tt))] := hl
  obtain ⟨hq_1, hq_2⟩ := hW.octs hL_g1 hT_g1
  refine lv_iload_n hx hb dX15_bits_0 rfl (lv_at hl 2 rfl) ?_
  refine lv_iload_n hx hb dX15_bits_1 rfl (lv_at hl 1 rfl) ?_
  refine lv_isub hx hb dX15_bits_2 ?_
  refine lv_topi (fun x_3 ex_3 => ?_)
  obtain rfl : x_3 = (nI (tt - a)) := ex_3.trans (pk_sub (a := tt) (b := a) (by omega))
  refine lv_i2l (v := (nI (tt - a)).toInt64) hx hb dX15_bits_3 rfl ?_
  refine lv_lconst (v := 1) hx hb dX15_bits_4 (by decide) ?_
  refine lv_ldc2 (v := 2) hx hb hown (hts _ kt_706) dX15_bits_5 ?_
  have hFc := pg_free hD hS hA
  refine va_calli (va_runS (As := [.long ((nI (tt - a)).toInt64), .long 1, .long 2]) (rest := []) ⟨hx, hb, hml, hown, hts⟩ (s_X15_in l dC dI cs ty gm L s.heap.size F ((nI (tt - a)).toInt64) 1 2 hW ) ⟨callB_of 3 hts (gi kt_685) rfl rfl rfl (hts _ kt_669) (hts _ kt_705) (by decide +kernel) ⟨Nat.le_of_ble_eq_true rfl, Nat.le_of_ble_eq_true rfl⟩, (hts _ kt_686)⟩ ⟨fun a U g mk q => ⟨q.1, PTm.calling q.2⟩, fun U hU hWm => ⟨rfl, PTm.mk hU hWm hP hK hD hE hO⟩⟩ rfl rfl hl.1 rfl (lv_room (Nat.le_of_ble_eq_true rfl)) dX15_bits_8 ⟨by show _ + 0 ≤ 0; omega, by show _ + 0 ≤ 0; omega⟩) hS (fun q _ h => hFc q h) hFc (fun r_4 u t H1 locs ht hvm hw hB hz1 hk1 hS => ?_)
  obtain ⟨F_5, hB1⟩ := hB
  obtain rfl : F = F_5 := (funext (fun a => hB1.2.2.2 a List.not_mem_nil)).symm
  obtain ⟨hP, hD, hO, hR⟩ := QTm.back hB1 ht hFc hR (fun q h => absurd h List.not_mem_nil)
  generalize H1 = H at hP hS ⊢
  have hw : r_4 = (if 1 ≤ (nI (tt - a)).toInt64 ∧ (nI (tt - a)).toInt64 ≤ 2 then 1 else 0) := hw
  have hw_6 := hw
  refine lv_if_ne (tgt := 16) hx hb dX15_bits_11 (by decide) (fun c_7 => ?_) (fun c_7 => ?_)
  ·
    have hin := in_nat (lo := 1) (hi := 2) hw_6 c_7 (by decide) (by decide) (by omega)
    refine lv_iconst (v := 0) hx hb dX15_bits_16 (by decide) ?_
    refine lv_istore_n (lv' := [(3, .int 0), (0, .ref g1), (1, .int (nI a)), (2, .int (nI tt))]) hx hb dX15_bits_17 rfl hl (by decide) rfl (fun ls hl => ?_)
    refine lv_iload_n hx hb dX15_bits_18 rfl (lv_at hl 2 rfl) ?_
    refine lv_istore (lv' := [(4, .int (nI a)), (3, .int 0), (0, .ref g1), (1, .int (nI a)), (2, .int (nI tt))]) hx hb dX15_bits_19 hl (by decide) rfl (fun ls hl => ?_)
    refine W.widen (k := 0) (n := 0) (by omega) (by omega) ?_
    refine pl_loopm (σ := Nat × Nat) A (dC, dI) cs ty gm L [] F 21 5 (fun (i, vv) => [(4, .int (nI i)), (3, .int (nI vv)), (0, .ref g1), (1, .int (nI a)), (2, .int (nI tt))]) (fun (i, vv) => []) (fun (i, vv) _ => a ≤ i ∧ i ≤ tt ∧ NBD a i vv ∧ nbw (TC fv z) (tt - i) i vv = nbw (TC fv z) (tt - a) a 0) (fun (i, vv) => tt - i) ?_ (a, 0) F (⟨Nat.le_refl _, hat, nbd_0 a, rfl⟩) hO hR _ _ hP hD hS ls (lv_sub hl [0, 1, 2, 3, 4] rfl)
    rintro ⟨i, vv⟩ F_8 hv_9 hO hR ih_10 H locs hP hD hS ls hl
    have hl : lv_has ls 5 [(4, .int (nI i)), (3, .int (nI vv)), (0, .ref g1), (1, .int (nI a)), (2, .int (nI tt))] := hl
    have hv_9 : a ≤ i ∧ i ≤ tt ∧ NBD a i vv ∧ nbw (TC fv z) (tt - i) i vv = nbw (TC fv z) (tt - a) a 0 := hv_9
    refine W.eq (g2 := F0 m 21 ls []) rfl ?_
    obtain rfl : F = F_8 := (funext (fun a => hR a List.not_mem_nil)).symm
    obtain ⟨hv1, hv2, hv3, hv4⟩ := id hv_9
    have hvv : vv ≤ 999 := nbd_le hv3 (by omega)
    refine lv_iload hx hb dX15_bits_21 (lv_at hl 0 rfl) ?_
    refine lv_iload_n hx hb dX15_bits_23 rfl (lv_at hl 4 rfl) ?_
    refine lv_icmp_ge (tgt := 58) hx hb dX15_bits_24 (by decide) (fun c_11 => ?_) (fun c_11 => ?_)
    ·
      have hi_12 : tt ≤ i := leN (N := tt) c_11
      refine lv_iload_n hx hb dX15_bits_58 rfl (lv_at hl 1 rfl) ?_
      refine lv_bipush (v := 32) hx hb dX15_bits_59 (by decide) ?_
      refine lv_icmp_gt (tgt := 68) hx hb dX15_bits_61 (by decide) (fun c_13 => ?_) (fun c_13 => ?_)
      ·
        have hi_14 : 32 < vv := (nI_ltI (a := 32) (b := vv) (by omega) (by omega)).mp c_13
        refine lv_iconst (v := (-1)) hx hb dX15_bits_68 (by decide) ?_
        refine W.widen (k := 0) (n := 0) (by omega) (by omega) ?_
        exact W.iret (v := (-1)) hx hb hr (fun t ht hWm => ⟨⟨(-1), (), rfl, (by unfold nbT; rw [if_pos ⟨by omega, by omega⟩, nbw_e hv4 (by omega)]; show _ = (if 32 < vv then (-1) else nI vv); rw [if_pos (show 32 < vv by omega)]), ⟨F, QTm.mk ht hP hD hO hR⟩⟩, hS.F ht⟩) hS.2.2 dX15_bits_69
      ·
        have hi_15 : vv ≤ 32 := Nat.not_lt.mp (fun q => c_13 ((nI_ltI (a := 32) (b := vv) (by omega) (by omega)).mpr q))
        refine lv_iload_n hx hb dX15_bits_64 rfl (lv_at hl 1 rfl) ?_
        refine lv_goto (tgt := 69) hx hb dX15_bits_65 (by decide) ?_
        refine W.widen (k := 0) (n := 0) (by omega) (by omega) ?_
        exact W.iret (v := (nI vv)) hx hb hr (fun t ht hWm => ⟨⟨(nI vv), (), rfl, (by unfold nbT; rw [if_pos ⟨by omega, by omega⟩, nbw_e hv4 (by omega)]; show _ = (if 32 < vv then (-1) else nI vv); rw [if_neg (show ¬ 32 < vv by omega)]), ⟨F, QTm.mk ht hP hD hO hR⟩⟩, hS.F ht⟩) hS.2.2 dX15_bits_69
    ·
      have hi_16 : i < tt := ltN (N := tt) c_11
      refine lv_aload_n hx hb dX15_bits_27 rfl (lv_at hl 2 rfl) ?_
      refine lv_iload hx hb dX15_bits_28 (lv_at hl 0 rfl) ?_
      refine pg_bald hx hb hK hP hL_g1 1 hFg rfl (vp_in_nI (by omega) (by omega)) dX15_bits_30 ?_
      refine lv_topi (fun x_17 ex_17 => ?_)
      obtain rfl : x_17 = fv i := ex_17.trans (congrArg fv (show ((nI i) : Int32).toNatClampNeg = i from nI_clamp (by omega)))
      have hFc := pg_free hD hS hA
      refine va_calli (va_runS (As := [.int (fv i)]) (rest := []) ⟨hx, hb, hml, hown, hts⟩ (s_X15_isDigit_e l dC dI cs ty gm L H.size F (fv i) hW ) ⟨callB_of 1 hts (gi kt_687) rfl rfl rfl (hts _ kt_669) (hts _ kt_707) (by decide +kernel) ⟨Nat.le_of_ble_eq_true rfl, Nat.le_of_ble_eq_true rfl⟩, (hts _ kt_688)⟩ ⟨fun a U g mk q => ⟨q.1, PTm.calling q.2⟩, fun U hU hWm => ⟨rfl, PTm.mk hU hWm hP hK hD hE hO⟩⟩ rfl rfl hl.1 rfl (lv_room (Nat.le_of_ble_eq_true rfl)) dX15_bits_31 ⟨by show _ + 0 ≤ 0; omega, by show _ + 0 ≤ 0; omega⟩) hS (fun q _ h => hFc q h) hFc (fun r_18 u t H1 locs ht hvm hw hB hz1 hk1 hS => ?_)
      obtain ⟨F_19, hB1⟩ := hB
      obtain rfl : F = F_19 := (funext (fun a => hB1.2.2.2 a List.not_mem_nil)).symm
      obtain ⟨hP, hD, hO, hR⟩ := QTm.back hB1 ht hFc hR (fun q h => absurd h List.not_mem_nil)
      generalize H1 = H at hP hS ⊢
      have hw : r_18 = (if 48 ≤ (fv i) ∧ (fv i) ≤ 57 then 1 else 0) := hw
      have hw_20 := hw
      refine lv_if_ne (tgt := 39) hx hb dX15_bits_34 (by decide) (fun c_21 => ?_) (fun c_21 => ?_)
      ·
        have hdg : 48 ≤ (TC fv z) i ∧ (TC fv z) i ≤ 57 := by rw [tc_at (show i < z by omega)]; exact sme_d hw_20 c_21
        have hcd : fv i = nI ((TC fv z) i) := tc_in (by omega) (by omega)
        refine lv_bipush (v := 10) hx hb dX15_bits_39 (by decide) ?_
        refine lv_iload_n hx hb dX15_bits_41 rfl (lv_at hl 1 rfl) ?_
        refine lv_imul hx hb dX15_bits_42 ?_
        refine lv_topi (fun x_22 ex_22 => ?_)
        obtain rfl : x_22 = (nI (vv * 10)) := ex_22.trans ((show (10 : Int32) * nI vv = nI (vv * 10) from by rw [show (10 : Int32) = nI 10 from rfl, pk_mul, Nat.mul_comm]))
        refine lv_aload_n hx hb dX15_bits_43 rfl (lv_at hl 2 rfl) ?_
        refine lv_iload hx hb dX15_bits_44 (lv_at hl 0 rfl) ?_
        refine pg_bald hx hb hK hP hL_g1 1 hFg rfl (vp_in_nI (by omega) (by omega)) dX15_bits_46 ?_
        refine lv_topi (fun x_23 ex_23 => ?_)
        obtain rfl : x_23 = fv i := ex_23.trans (congrArg fv (show ((nI i) : Int32).toNatClampNeg = i from nI_clamp (by omega)))
        refine lv_iadd hx hb dX15_bits_47 ?_
        refine lv_topi (fun x_24 ex_24 => ?_)
        obtain rfl : x_24 = (nI (vv * 10 + (TC fv z) i)) := ex_24.trans ((congrArg (fun q => nI (vv * 10) + q) hcd).trans (nI_add (vv * 10) ((TC fv z) i)))
        refine lv_bipush (v := 48) hx hb dX15_bits_48 (by decide) ?_
        refine lv_isub hx hb dX15_bits_50 ?_
        refine lv_topi (fun x_25 ex_25 => ?_)
        obtain rfl : x_25 = (nI (vv * 10 + (TC fv z) i - 48)) := ex_25.trans (pk_sub (b := 48) (by omega))
        refine lv_istore_n (lv' := [(3, .int (nI (vv * 10 + (TC fv z) i - 48))), (4, .int (nI i)), (0, .ref g1), (1, .int (nI a)), (2, .int (nI tt))]) hx hb dX15_bits_51 rfl hl (by decide) rfl (fun ls hl => ?_)
        refine lv_iinc (v := (nI (i + 1))) (lv' := [(4, .int (nI (i + 1))), (3, .int (nI (vv * 10 + (TC fv z) i - 48))), (0, .ref g1), (1, .int (nI a)), (2, .int (nI tt))]) hx hb dX15_bits_52 hl (k := 1) rfl (nI_1 _) (by decide) rfl (fun ls hl => ?_)
        refine lv_goto (tgt := 21) hx hb dX15_bits_55 (by decide) ?_
        refine W.widen (k := 0) (n := 0) (by omega) (by omega) ?_
        exact ih_10 ((i + 1), (vv * 10 + (TC fv z) i - 48)) F (⟨by omega, by omega, nb_dig hv3 hv1 hdg (by omega), nbw_y hv4 (by omega) hdg⟩) (by show tt - (i + 1) < tt - i; omega) hO hR _ _ hP hD hS ls (lv_sub hl [0, 1, 2, 3, 4] rfl)
      ·
        have hdg : ¬ (48 ≤ (TC fv z) i ∧ (TC fv z) i ≤ 57) := by rw [tc_at (show i < z by omega)]; exact sme_n hw_20 c_21
        refine lv_iconst (v := (-1)) hx hb dX15_bits_37 (by decide) ?_
        refine W.widen (k := 0) (n := 0) (by omega) (by omega) ?_
        exact W.iret (v := (-1)) hx hb hr (fun t ht hWm => ⟨⟨(-1), (), rfl, (by unfold nbT; rw [if_pos ⟨by omega, by omega⟩, nbw_n hv4 (by omega) hdg]; rfl), ⟨F, QTm.mk ht hP hD hO hR⟩⟩, hS.F ht⟩) hS.2.2 dX15_bits_38
  ·
    have hin := in_nat0 (lo := 1) (hi := 2) hw_6 c_7 (by decide) (by decide) (by omega)
    refine lv_iconst (v := (-1)) hx hb dX15_bits_14 (by decide) ?_
    refine W.widen (k := 0) (n := 0) (by omega) (by omega) ?_
    exact W.iret (v := (-1)) hx hb hr (fun t ht hWm => ⟨⟨(-1), (), rfl, (by unfold nbT; rw [if_neg (fun q => hin ⟨by omega, by omega⟩)]; rfl), ⟨F, QTm.mk ht hP hD hO hR⟩⟩, hS.F ht⟩) hS.2.2 dX15_bits_15
set_option maxHeartbeats 4000000 in
set_option maxRecDepth 100000 in
theorem s_X15_isD_x (l : Launch) (dC : Nat → ClassId) (dI : Nat → Nat → Nat) (cs : Nat → ClassId) (ty : TyM) (gm : Nat → Nat → Nat) (L : List Nat) (sz : Nat) (F : Nat → va_E) (g1 : Nat) (σ : Nat) (n1 : Nat) (z : Nat) (a : Nat) (tt : Nat) (fv : Nat → Int32) (x3 : Int32) (hW : WTm ty gm L) (hL_g1 : g1 ∈ L) (hT_g1 : ty g1 = (17, σ, [n1])) (hFg : F g1 = .inl (cs 17, n1, .inl fv)) (htz : tt ≤ z) (hzn : z ≤ n1) (hn9 : n1 ≤ 3000) (ha : a ≤ 3001) (hsl : (¬ x3 = 0 ∨ ∀ i, a ≤ i → i < tt → ¬ (TC fv z) i = 47)) : Met l yX15_isD (.code yX15_isD cX15_isD 6 (some .boolean) :: tb) ({ frames := 1, cells := 0, slots := 0, locals := 25 }) (va_Pc [.ref g1, .int (nI a), .int (nI tt), .int x3] (PTm (dC, dI) cs ty gm L F sz)) (va_Qi (fun (r : Int32) (_ : Unit) => ((r = 1 ∧ HSW (TC fv z) a tt) ∨ (r = 0 ∧ ¬ HSW (TC fv z) a tt))) (fun _ T9 => ∃ F2 : Nat → va_E, QTm (dC, dI) cs ty gm L [] F F2 (va_A (va_pl L F) sz) T9) (va_A (va_pl L F) sz)) 0 0 (va_A (va_pl L F) sz) := by
  refine Met.ofW (cc := cX15_isD) (maxL := 6) (ret := (some .boolean)) (by decide) rfl ?_
  intro p e s m args below meth c s₁ B hml hv
  obtain ⟨rfl, hsz, hP, hK, hD0, hE, hO⟩ := hv
  have hx := B.exec
  have hb := B.bytes
  have hr := B.returns
  have hts : ∀ w ∈ tb, w.before _ s = true := fun w h => atoms_spec (ws := .code yX15_isD cX15_isD 6 (some .boolean) :: tb) B.pre w (List.mem_cons_of_mem _ h)
  have hown : s.vm.findClass RX15 = some m.cls := findClass_of_methodNamed B.named
  have hlocks := B.notSynchronized
  subst hsz
  have hD := hD0.self (sz := s.heap.size)
  generalize hAe : va_A (va_pl L F) s.heap.size = A at hD ⊢
  have hA : ∀ q : Nat, s.heap.size ≤ q → A q := fun q h => by rw [← hAe]; exact Or.inr h
  have hS : va_S A s.heap s.heap [] := va_S.rf
  have hR : FR ty [] F F := FR.refl
  have hl := lv_entry ([.ref g1, .int (nI a), .int (nI tt), .int x3]) (n := 6) (Nat.le_of_ble_eq_true rfl)
  rw [lg_entry_eq]
  generalize (lg_sl ([.ref g1, .int (nI a), .int (nI tt), .int x3]) ++ List.replicate (6 - (lg_sl ([.ref g1, .int (nI a), .int (nI tt), .int x3])).length) Slot.unset).toArray = ls at hl ⊢
  have hl : lv_has ls 6 [(0, .ref g1), (1, .int (nI a)), (2, .int (nI tt)), (3, .int x3)] := hl
  obtain ⟨hq_1, hq_2⟩ := hW.octs hL_g1 hT_g1
  have hgf := gA_fun hFg
  refine lv_iload_n hx hb dX15_isD_0 rfl (lv_at hl 1 rfl) ?_
  refine lv_iload_n hx hb dX15_isD_1 rfl (lv_at hl 2 rfl) ?_
  refine lv_icmp_lt (tgt := 7) hx hb dX15_isD_2 (by decide) (fun c_3 => ?_) (fun c_3 => ?_)
  ·
    have hi_4 : a < tt := ltN (N := tt) (Int32.not_le.mpr c_3)
    refine lv_iload_n hx hb dX15_isD_7 rfl (lv_at hl 1 rfl) ?_
    refine lv_istore (lv' := [(4, .int (nI a)), (0, .ref g1), (1, .int (nI a)), (2, .int (nI tt)), (3, .int x3)]) hx hb dX15_isD_8 hl (by decide) rfl (fun ls hl => ?_)
    refine W.widen (k := 0) (n := 0) (by omega) (by omega) ?_
    refine pl_loopm (σ := Nat) A (dC, dI) cs ty gm L [] F 10 6 (fun i => [(4, .int (nI i)), (0, .ref g1), (1, .int (nI a)), (2, .int (nI tt)), (3, .int x3)]) (fun i => []) (fun i _ => a ≤ i ∧ i ≤ 3100 ∧ ishw (TC fv z) tt (tt - i) i = ishw (TC fv z) tt (tt - a) a) (fun i => tt - i) ?_ a F (⟨Nat.le_refl _, by omega, rfl⟩) hO hR _ _ hP hD hS ls (lv_sub hl [0, 1, 2, 3, 4] rfl)
    rintro i F_5 hv_6 hO hR ih_7 H locs hP hD hS ls hl
    have hl : lv_has ls 6 [(4, .int (nI i)), (0, .ref g1), (1, .int (nI a)), (2, .int (nI tt)), (3, .int x3)] := hl
    have hv_6 : a ≤ i ∧ i ≤ 3100 ∧ ishw (TC fv z) tt (tt - i) i = ishw (TC fv z) tt (tt - a) a := hv_6
    refine W.eq (g2 := F0 m 10 ls []) rfl ?_
    obtain rfl : F = F_5 := (funext (fun a => hR a List.not_mem_nil)).symm
    obtain ⟨hv1, hv2, hv3⟩ := id hv_6
    refine lv_iload hx hb dX15_isD_10 (lv_at hl 0 rfl) ?_
    refine lv_iload_n hx hb dX15_isD_12 rfl (lv_at hl 3 rfl) ?_
    refine lv_icmp_ge (tgt := 91) hx hb dX15_isD_13 (by decide) (fun c_8 => ?_) (fun c_8 => ?_)
    ·
      have hi_9 : tt ≤ i := leN (N := tt) c_8
      refine lv_iconst (v := 1) hx hb dX15_isD_91 (by decide) ?_
      refine W.widen (k := 0) (n := 0) (by omega) (by omega) ?_
      exact W.zret (v := 1) (ty := .boolean) hx hb hr (by decide) (fun t ht hWm => ⟨⟨1, (), rfl, (Or.inl ⟨rfl, by omega, hv3.symm.trans (ishw_d _ i (by omega))⟩), ⟨F, QTm.mk ht hP hD hO hR⟩⟩, hS.F ht⟩) hS.2.2 dX15_isD_92
    ·
      have hi_10 : i < tt := ltN (N := tt) c_8
      refine lv_aload_n hx hb dX15_isD_16 rfl (lv_at hl 1 rfl) ?_
      refine lv_iload hx hb dX15_isD_17 (lv_at hl 0 rfl) ?_
      refine pg_bald hx hb hK hP hL_g1 1 hFg rfl (vp_in_nI (by omega) (by omega)) dX15_isD_19 ?_
      refine lv_topi (fun x_11 ex_11 => ?_)
      obtain rfl : x_11 = fv i := ex_11.trans (congrArg fv (show ((nI i) : Int32).toNatClampNeg = i from nI_clamp (by omega)))
      refine lv_i2l (v := (fv i).toInt64) hx hb dX15_isD_20 rfl ?_
      refine lv_ldc2 (v := 33) hx hb hown (hts _ kt_703) dX15_isD_21 ?_
      refine lv_ldc2 (v := 126) hx hb hown (hts _ kt_704) dX15_isD_24 ?_
      have hFc := pg_free hD hS hA
      refine va_calli (va_runS (As := [.long ((fv i).toInt64), .long 33, .long 126]) (rest := []) ⟨hx, hb, hml, hown, hts⟩ (s_X15_in l dC dI cs ty gm L H.size F ((fv i).toInt64) 33 126 hW ) ⟨callB_of 3 hts (gi kt_685) rfl rfl rfl (hts _ kt_669) (hts _ kt_705) (by decide +kernel) ⟨Nat.le_of_ble_eq_true rfl, Nat.le_of_ble_eq_true rfl⟩, (hts _ kt_686)⟩ ⟨fun a U g mk q => ⟨q.1, PTm.calling q.2⟩, fun U hU hWm => ⟨rfl, PTm.mk hU hWm hP hK hD hE hO⟩⟩ rfl rfl hl.1 rfl (lv_room (Nat.le_of_ble_eq_true rfl)) dX15_isD_27 ⟨by show _ + 0 ≤ 0; omega, by show _ + 0 ≤ 0; omega⟩) hS (fun q _ h => hFc q h) hFc (fun r_12 u t H1 locs ht hvm hw hB hz1 hk1 hS => ?_)
      obtain ⟨F_13, hB1⟩ := hB
      obtain rfl : F = F_13 := (funext (fun a => hB1.2.2.2 a List.not_mem_nil)).symm
      obtain ⟨hP, hD, hO, hR⟩ := QTm.back hB1 ht hFc hR (fun q h => absurd h List.not_mem_nil)
      generalize H1 = H at hP hS ⊢
      have hw : r_12 = (if 33 ≤ (fv i).toInt64 ∧ (fv i).toInt64 ≤ 126 then 1 else 0) := hw
      have hw_14 := hw
      refine lv_if_eq (tgt := 46) hx hb dX15_isD_30 (by decide) (fun c_15 => ?_) (fun c_15 => ?_)
      ·
        refine lv_iconst (v := 0) hx hb dX15_isD_46 (by decide) ?_
        refine W.widen (k := 0) (n := 0) (by omega) (by omega) ?_
        exact W.zret (v := 0) (ty := .boolean) hx hb hr (by decide) (fun t ht hWm => ⟨⟨0, (), rfl, (Or.inr ⟨rfl, fun q9 => ishw_n hv3 (by omega) (fun q => orp0 (in_33 hw_14) c_15 ((tc_rng (a := 33) (b := 126) (by omega) (by omega) (by omega)).mp q.1)) q9.2⟩), ⟨F, QTm.mk ht hP hD hO hR⟩⟩, hS.F ht⟩) hS.2.2 dX15_isD_47
      ·
        refine lv_iload_n hx hb dX15_isD_33 rfl (lv_at hl 4 rfl) ?_
        refine lv_if_ne (tgt := 48) hx hb dX15_isD_34 (by decide) (fun c_16 => ?_) (fun c_16 => ?_)
        ·
          refine lv_aload_n hx hb dX15_isD_48 rfl (lv_at hl 1 rfl) ?_
          refine lv_iload hx hb dX15_isD_49 (lv_at hl 0 rfl) ?_
          refine pg_bald hx hb hK hP hL_g1 1 hFg rfl (vp_in_nI (by omega) (by omega)) dX15_isD_51 ?_
          refine lv_topi (fun x_17 ex_17 => ?_)
          obtain rfl : x_17 = fv i := ex_17.trans (congrArg fv (show ((nI i) : Int32).toNatClampNeg = i from nI_clamp (by omega)))
          refine lv_bipush (v := 37) hx hb dX15_isD_52 (by decide) ?_
          refine lv_icmp_eq (tgt := 60) hx hb dX15_isD_54 (by decide) (fun c_18 => ?_) (fun c_18 => ?_)
          ·
            have h37 : (TC fv z) i = 37 := (tc_eq (by omega) (by first | decide | omega)).mpr c_18
            have hmc := mac_mcT htz h37
            refine lv_aload_n hx hb dX15_isD_60 rfl (lv_at hl 1 rfl) ?_
            refine lv_iload hx hb dX15_isD_61 (lv_at hl 0 rfl) ?_
            refine lv_iload_n hx hb dX15_isD_63 rfl (lv_at hl 3 rfl) ?_
            have hFc := pg_free hD hS hA
            refine va_calli (va_runS (As := [.ref g1, .int (nI i), .int (nI tt)]) (rest := []) ⟨hx, hb, hml, hown, hts⟩ (s_X15_macro l dC dI cs ty gm L H.size F g1 σ n1 i tt hW hL_g1 hT_g1 (by first | omega | assumption | exact Or.inl rfl) (by first | omega | assumption | exact Or.inl rfl)) ⟨callB_of 3 hts (gi kt_700) rfl rfl rfl (hts _ kt_669) (hts _ kt_701) (by decide +kernel) ⟨Nat.le_of_ble_eq_true rfl, Nat.le_of_ble_eq_true rfl⟩, (hts _ kt_702)⟩ ⟨fun a U g mk q => ⟨q.1, PTm.calling q.2⟩, fun U hU hWm => ⟨rfl, PTm.mk hU hWm hP hK hD hE hO⟩⟩ rfl rfl hl.1 rfl (lv_room (Nat.le_of_ble_eq_true rfl)) dX15_isD_64 ⟨by show _ + 0 ≤ 0; omega, by show _ + 0 ≤ 0; omega⟩) hS (fun q _ h => hFc q h) hFc (fun r_19 u t H1 locs ht hvm hw hB hz1 hk1 hS => ?_)
            obtain ⟨F_20, hB1⟩ := hB
            obtain rfl : F = F_20 := (funext (fun a => hB1.2.2.2 a List.not_mem_nil)).symm
            obtain ⟨hP, hD, hO, hR⟩ := QTm.back hB1 ht hFc hR (fun q h => absurd h List.not_mem_nil)
            generalize H1 = H at hP hS ⊢
            have hw : r_19 = nI (mac (gA (F g1)) i tt) := hw
            subst hw
            refine lv_topi (fun x9 ex9 => ?_)
            obtain rfl : x9 = nI (mcT (TC fv z) i tt) := ex9.trans (by rw [hgf, hmc])
            have hmi := mcT_le (T := (TC fv z)) (a := i) (tt := tt)
            refine lv_istore (lv' := [(5, .int (nI (mcT (TC fv z) i tt))), (4, .int (nI i)), (0, .ref g1), (1, .int (nI a)), (2, .int (nI tt)), (3, .int x3)]) hx hb dX15_isD_67 hl (by decide) rfl (fun ls hl => ?_)
            refine lv_iload hx hb dX15_isD_69 (lv_at hl 0 rfl) ?_
            refine lv_if_ne (tgt := 76) hx hb dX15_isD_71 (by decide) (fun c_21 => ?_) (fun c_21 => ?_)
            ·
              have hi_22 : (mcT (TC fv z) i tt) ≠ 0 := fun q => c_21 (by rw [q]; rfl)
              have hm0 : ¬ (mcT (TC fv z) i tt) = 0 := fun q => c_21 (by rw [q]; rfl)
              refine lv_iload hx hb dX15_isD_76 (lv_at hl 1 rfl) ?_
              refine lv_iload hx hb dX15_isD_78 (lv_at hl 0 rfl) ?_
              refine lv_iconst (v := 1) hx hb dX15_isD_80 (by decide) ?_
              refine lv_isub hx hb dX15_isD_81 ?_
              refine lv_topi (fun x_23 ex_23 => ?_)
              obtain rfl : x_23 = (nI ((mcT (TC fv z) i tt) - 1)) := ex_23.trans (pk_sub (a := (mcT (TC fv z) i tt)) (b := 1) (by omega))
              refine lv_iadd hx hb dX15_isD_82 ?_
              refine lv_topi (fun x_24 ex_24 => ?_)
              obtain rfl : x_24 = (nI (i + ((mcT (TC fv z) i tt) - 1))) := ex_24.trans (nI_add i ((mcT (TC fv z) i tt) - 1))
              refine lv_istore (lv' := [(4, .int (nI (i + ((mcT (TC fv z) i tt) - 1)))), (5, .int (nI (mcT (TC fv z) i tt))), (0, .ref g1), (1, .int (nI a)), (2, .int (nI tt)), (3, .int x3)]) hx hb dX15_isD_83 hl (by decide) rfl (fun ls hl => ?_)
              refine lv_iinc (v := (nI ((i + ((mcT (TC fv z) i tt) - 1)) + 1))) (lv' := [(4, .int (nI ((i + ((mcT (TC fv z) i tt) - 1)) + 1))), (5, .int (nI (mcT (TC fv z) i tt))), (0, .ref g1), (1, .int (nI a)), (2, .int (nI tt)), (3, .int x3)]) hx hb dX15_isD_85 hl (k := 0) rfl (nI_1 _) (by decide) rfl (fun ls hl => ?_)
              refine lv_goto (tgt := 10) hx hb dX15_isD_88 (by decide) ?_
              refine W.widen (k := 0) (n := 0) (by omega) (by omega) ?_
              exact ih_7 ((i + ((mcT (TC fv z) i tt) - 1)) + 1) F (⟨by omega, by omega, by have h9 := ishw_y hv3 (by omega) ⟨(tc_rng (a := 33) (b := 126) (by omega) (by omega) (by omega)).mpr (orp1 (in_33 hw_14) c_15), fun q => hm0 q.2⟩; rw [show i + max 1 (mcT (TC fv z) i tt) = i + ((mcT (TC fv z) i tt) - 1) + 1 by omega] at h9; exact h9⟩) (by show tt - ((i + ((mcT (TC fv z) i tt) - 1)) + 1) < tt - i; omega) hO hR _ _ hP hD hS ls (lv_sub hl [0, 2, 3, 4, 5] rfl)
            ·
              have hi_25 : (mcT (TC fv z) i tt) = 0 := (nI_eq (a := (mcT (TC fv z) i tt)) (b := 0) (by omega) (by omega)).mp c_21
              refine lv_iconst (v := 0) hx hb dX15_isD_74 (by decide) ?_
              refine W.widen (k := 0) (n := 0) (by omega) (by omega) ?_
              exact W.zret (v := 0) (ty := .boolean) hx hb hr (by decide) (fun t ht hWm => ⟨⟨0, (), rfl, (Or.inr ⟨rfl, fun q9 => ishw_n hv3 (by omega) (fun q => q.2 ⟨h37, (nI_eq (b := 0) (by omega) (by omega)).mp c_21⟩) q9.2⟩), ⟨F, QTm.mk ht hP hD hO hR⟩⟩, hS.F ht⟩) hS.2.2 dX15_isD_75
          ·
            have h37 : ¬ (TC fv z) i = 37 := fun q => c_18 ((tc_eq (by omega) (by first | decide | omega)).mp q)
            refine lv_goto (tgt := 85) hx hb dX15_isD_57 (by decide) ?_
            refine lv_iinc (v := (nI (i + 1))) (lv' := [(4, .int (nI (i + 1))), (0, .ref g1), (1, .int (nI a)), (2, .int (nI tt)), (3, .int x3)]) hx hb dX15_isD_85 hl (k := 0) rfl (nI_1 _) (by decide) rfl (fun ls hl => ?_)
            refine lv_goto (tgt := 10) hx hb dX15_isD_88 (by decide) ?_
            refine W.widen (k := 0) (n := 0) (by omega) (by omega) ?_
            exact ih_7 (i + 1) F (⟨by omega, by omega, by have h9 := ishw_y hv3 (by omega) ⟨(tc_rng (a := 33) (b := 126) (by omega) (by omega) (by omega)).mpr (orp1 (in_33 hw_14) c_15), fun q => h37 q.1⟩; rw [mcT_nz h37, show max 1 0 = 1 from rfl] at h9; exact h9⟩) (by show tt - (i + 1) < tt - i; omega) hO hR _ _ hP hD hS ls (lv_sub hl [0, 1, 2, 3, 4] rfl)
        ·
          refine lv_aload_n hx hb dX15_isD_37 rfl (lv_at hl 1 rfl) ?_
          refine lv_iload hx hb dX15_isD_38 (lv_at hl 0 rfl) ?_
          refine pg_bald hx hb hK hP hL_g1 1 hFg rfl (vp_in_nI (by omega) (by omega)) dX15_isD_40 ?_
          refine lv_topi (fun x_26 ex_26 => ?_)
          obtain rfl : x_26 = fv i := ex_26.trans (congrArg fv (show ((nI i) : Int32).toNatClampNeg = i from nI_clamp (by omega)))
          refine lv_bipush (v := 47) hx hb dX15_isD_41 (by decide) ?_
          refine lv_icmp_ne (tgt := 48) hx hb dX15_isD_43 (by decide) (fun c_27 => ?_) (fun c_27 => ?_)
          ·
            refine lv_aload_n hx hb dX15_isD_48 rfl (lv_at hl 1 rfl) ?_
            refine lv_iload hx hb dX15_isD_49 (lv_at hl 0 rfl) ?_
            refine pg_bald hx hb hK hP hL_g1 1 hFg rfl (vp_in_nI (by omega) (by omega)) dX15_isD_51 ?_
            refine lv_topi (fun x_28 ex_28 => ?_)
            obtain rfl : x_28 = fv i := ex_28.trans (congrArg fv (show ((nI i) : Int32).toNatClampNeg = i from nI_clamp (by omega)))
            refine lv_bipush (v := 37) hx hb dX15_isD_52 (by decide) ?_
            refine lv_icmp_eq (tgt := 60) hx hb dX15_isD_54 (by decide) (fun c_29 => ?_) (fun c_29 => ?_)
            ·
              have h37 : (TC fv z) i = 37 := (tc_eq (by omega) (by first | decide | omega)).mpr c_29
              have hmc := mac_mcT htz h37
              refine lv_aload_n hx hb dX15_isD_60 rfl (lv_at hl 1 rfl) ?_
              refine lv_iload hx hb dX15_isD_61 (lv_at hl 0 rfl) ?_
              refine lv_iload_n hx hb dX15_isD_63 rfl (lv_at hl 3 rfl) ?_
              have hFc := pg_free hD hS hA
              refine va_calli (va_runS (As := [.ref g1, .int (nI i), .int (nI tt)]) (rest := []) ⟨hx, hb, hml, hown, hts⟩ (s_X15_macro l dC dI cs ty gm L H.size F g1 σ n1 i tt hW hL_g1 hT_g1 (by first | omega | assumption | exact Or.inl rfl) (by first | omega | assumption | exact Or.inl rfl)) ⟨callB_of 3 hts (gi kt_700) rfl rfl rfl (hts _ kt_669) (hts _ kt_701) (by decide +kernel) ⟨Nat.le_of_ble_eq_true rfl, Nat.le_of_ble_eq_true rfl⟩, (hts _ kt_702)⟩ ⟨fun a U g mk q => ⟨q.1, PTm.calling q.2⟩, fun U hU hWm => ⟨rfl, PTm.mk hU hWm hP hK hD hE hO⟩⟩ rfl rfl hl.1 rfl (lv_room (Nat.le_of_ble_eq_true rfl)) dX15_isD_64 ⟨by show _ + 0 ≤ 0; omega, by show _ + 0 ≤ 0; omega⟩) hS (fun q _ h => hFc q h) hFc (fun r_30 u t H1 locs ht hvm hw hB hz1 hk1 hS => ?_)
              obtain ⟨F_31, hB1⟩ := hB
              obtain rfl : F = F_31 := (funext (fun a => hB1.2.2.2 a List.not_mem_nil)).symm
              obtain ⟨hP, hD, hO, hR⟩ := QTm.back hB1 ht hFc hR (fun q h => absurd h List.not_mem_nil)
              generalize H1 = H at hP hS ⊢
              have hw : r_30 = nI (mac (gA (F g1)) i tt) := hw
              subst hw
              refine lv_topi (fun x9 ex9 => ?_)
              obtain rfl : x9 = nI (mcT (TC fv z) i tt) := ex9.trans (by rw [hgf, hmc])
              have hmi := mcT_le (T := (TC fv z)) (a := i) (tt := tt)
              refine lv_istore (lv' := [(5, .int (nI (mcT (TC fv z) i tt))), (4, .int (nI i)), (0, .ref g1), (1, .int (nI a)), (2, .int (nI tt)), (3, .int x3)]) hx hb dX15_isD_67 hl (by decide) rfl (fun ls hl => ?_)
              refine lv_iload hx hb dX15_isD_69 (lv_at hl 0 rfl) ?_
              refine lv_if_ne (tgt := 76) hx hb dX15_isD_71 (by decide) (fun c_32 => ?_) (fun c_32 => ?_)
              ·
                have hi_33 : (mcT (TC fv z) i tt) ≠ 0 := fun q => c_32 (by rw [q]; rfl)
                have hm0 : ¬ (mcT (TC fv z) i tt) = 0 := fun q => c_32 (by rw [q]; rfl)
                refine lv_iload hx hb dX15_isD_76 (lv_at hl 1 rfl) ?_
                refine lv_iload hx hb dX15_isD_78 (lv_at hl 0 rfl) ?_
                refine lv_iconst (v := 1) hx hb dX15_isD_80 (by decide) ?_
                refine lv_isub hx hb dX15_isD_81 ?_
                refine lv_topi (fun x_34 ex_34 => ?_)
                obtain rfl : x_34 = (nI ((mcT (TC fv z) i tt) - 1)) := ex_34.trans (pk_sub (a := (mcT (TC fv z) i tt)) (b := 1) (by omega))
                refine lv_iadd hx hb dX15_isD_82 ?_
                refine lv_topi (fun x_35 ex_35 => ?_)
                obtain rfl : x_35 = (nI (i + ((mcT (TC fv z) i tt) - 1))) := ex_35.trans (nI_add i ((mcT (TC fv z) i tt) - 1))
                refine lv_istore (lv' := [(4, .int (nI (i + ((mcT (TC fv z) i tt) - 1)))), (5, .int (nI (mcT (TC fv z) i tt))), (0, .ref g1), (1, .int (nI a)), (2, .int (nI tt)), (3, .int x3)]) hx hb dX15_isD_83 hl (by decide) rfl (fun ls hl => ?_)
                refine lv_iinc (v := (nI ((i + ((mcT (TC fv z) i tt) - 1)) + 1))) (lv' := [(4, .int (nI ((i + ((mcT (TC fv z) i tt) - 1)) + 1))), (5, .int (nI (mcT (TC fv z) i tt))), (0, .ref g1), (1, .int (nI a)), (2, .int (nI tt)), (3, .int x3)]) hx hb dX15_isD_85 hl (k := 0) rfl (nI_1 _) (by decide) rfl (fun ls hl => ?_)
                refine lv_goto (tgt := 10) hx hb dX15_isD_88 (by decide) ?_
                refine W.widen (k := 0) (n := 0) (by omega) (by omega) ?_
                exact ih_7 ((i + ((mcT (TC fv z) i tt) - 1)) + 1) F (⟨by omega, by omega, by have h9 := ishw_y hv3 (by omega) ⟨(tc_rng (a := 33) (b := 126) (by omega) (by omega) (by omega)).mpr (orp1 (in_33 hw_14) c_15), fun q => hm0 q.2⟩; rw [show i + max 1 (mcT (TC fv z) i tt) = i + ((mcT (TC fv z) i tt) - 1) + 1 by omega] at h9; exact h9⟩) (by show tt - ((i + ((mcT (TC fv z) i tt) - 1)) + 1) < tt - i; omega) hO hR _ _ hP hD hS ls (lv_sub hl [0, 2, 3, 4, 5] rfl)
              ·
                have hi_36 : (mcT (TC fv z) i tt) = 0 := (nI_eq (a := (mcT (TC fv z) i tt)) (b := 0) (by omega) (by omega)).mp c_32
                refine lv_iconst (v := 0) hx hb dX15_isD_74 (by decide) ?_
                refine W.widen (k := 0) (n := 0) (by omega) (by omega) ?_
                exact W.zret (v := 0) (ty := .boolean) hx hb hr (by decide) (fun t ht hWm => ⟨⟨0, (), rfl, (Or.inr ⟨rfl, fun q9 => ishw_n hv3 (by omega) (fun q => q.2 ⟨h37, (nI_eq (b := 0) (by omega) (by omega)).mp c_32⟩) q9.2⟩), ⟨F, QTm.mk ht hP hD hO hR⟩⟩, hS.F ht⟩) hS.2.2 dX15_isD_75
            ·
              have h37 : ¬ (TC fv z) i = 37 := fun q => c_29 ((tc_eq (by omega) (by first | decide | omega)).mp q)
              refine lv_goto (tgt := 85) hx hb dX15_isD_57 (by decide) ?_
              refine lv_iinc (v := (nI (i + 1))) (lv' := [(4, .int (nI (i + 1))), (0, .ref g1), (1, .int (nI a)), (2, .int (nI tt)), (3, .int x3)]) hx hb dX15_isD_85 hl (k := 0) rfl (nI_1 _) (by decide) rfl (fun ls hl => ?_)
              refine lv_goto (tgt := 10) hx hb dX15_isD_88 (by decide) ?_
              refine W.widen (k := 0) (n := 0) (by omega) (by omega) ?_
              exact ih_7 (i + 1) F (⟨by omega, by omega, by have h9 := ishw_y hv3 (by omega) ⟨(tc_rng (a := 33) (b := 126) (by omega) (by omega) (by omega)).mpr (orp1 (in_33 hw_14) c_15), fun q => h37 q.1⟩; rw [mcT_nz h37, show max 1 0 = 1 from rfl] at h9; exact h9⟩) (by show tt - (i + 1) < tt - i; omega) hO hR _ _ hP hD hS ls (lv_sub hl [0, 1, 2, 3, 4] rfl)
          ·
            exact absurd ((tc_eq (by omega) (by first | decide | omega)).mpr c_27) (hsl.resolve_left (fun q => q c_16) i hv1 (by omega))
  ·
    have hi_37 : tt ≤ a := leN (N := tt) (Int32.not_lt.mp c_3)
    refine lv_iconst (v := 0) hx hb dX15_isD_5 (by decide) ?_
    refine W.widen (k := 0) (n := 0) (by omega) (by omega) ?_
    exact W.zret (v := 0) (ty := .boolean) hx hb hr (by decide) (fun t ht hWm => ⟨⟨0, (), rfl, (Or.inr ⟨rfl, fun q => absurd q.1 (by omega)⟩), ⟨F, QTm.mk ht hP hD hO hR⟩⟩, hS.F ht⟩) hS.2.2 dX15_isD_6
set_option maxHeartbeats 4000000 in
set_option maxRecDepth 100000 in
theorem s_X15_is_x (l : Launch) (dC : Nat → ClassId) (dI : Nat → Nat → Nat) (cs : Nat → ClassId) (ty : TyM) (gm : Nat → Nat → Nat) (L : List Nat) (sz : Nat) (F : Nat → va_E) (g1 : Nat) (σ : Nat) (n1 : Nat) (q : Nat) (v : Nat) (k0 : Nat) (C : Nat → Int32) (z : Nat) (a : Nat) (tt : Nat) (fv : Nat → Int32) (ll : List Nat) (hW : WTm ty gm L) (hL_g1 : g1 ∈ L) (hT_g1 : ty g1 = (17, σ, [n1])) (hFg : F g1 = .inl (cs 17, n1, .inl fv)) (htz : tt ≤ z) (hzn : z ≤ n1) (hn9 : n1 ≤ 3000) (ha : a ≤ 3000) (hCL : CLI C k0 ll) : Met l yX15_is (.code yX15_is cX15_is 5 (some .boolean) :: tb) ({ frames := 4, cells := 0, slots := 0, locals := 85 }) (va_Pc [.ref g1, .int (nI a), .int (nI tt), .ref q] (PTEm (dC, dI) cs ty gm L F sz [(q, v, k0, C)])) (va_Qi (fun (r : Int32) (_ : Unit) => ((r = 1 ∧ ISW (TC fv z) a tt k0 ll) ∨ (r = 0 ∧ ¬ ISW (TC fv z) a tt k0 ll))) (fun _ T9 => ∃ F2 : Nat → va_E, QTm (dC, dI) cs ty gm L [] F F2 (va_A (va_pl L F) sz) T9) (va_A (va_pl L F) sz)) 0 0 (va_A (va_pl L F) sz) := by
  refine Met.ofW (cc := cX15_is) (maxL := 5) (ret := (some .boolean)) (by decide) rfl ?_
  intro p e s m args below meth c s₁ B hml hv
  obtain ⟨rfl, ⟨hsz, hP, hK, hD0, hE, hO⟩, hG, hX⟩ := hv
  have hx := B.exec
  have hb := B.bytes
  have hr := B.returns
  have hts : ∀ w ∈ tb, w.before _ s = true := fun w h => atoms_spec (ws := .code yX15_is cX15_is 5 (some .boolean) :: tb) B.pre w (List.mem_cons_of_mem _ h)
  have hown : s.vm.findClass RX15 = some m.cls := findClass_of_methodNamed B.named
  have hlocks := B.notSynchronized
  subst hsz
  have hD := hD0.self (sz := s.heap.size)
  generalize hAe : va_A (va_pl L F) s.heap.size = A at hD hG hX ⊢
  have hX_q : SXc q v k0 C A s s.heap := hX (q, v, k0, C) (by simp)
  obtain ⟨xo_q, xc_q, xv_q, xt_q, xn_q⟩ := id hX_q
  have hA : ∀ q : Nat, s.heap.size ≤ q → A q := fun q h => by rw [← hAe]; exact Or.inr h
  have hS : va_S A s.heap s.heap [] := va_S.rf
  have hR : FR ty [] F F := FR.refl
  have hl := lv_entry ([.ref g1, .int (nI a), .int (nI tt), .ref q]) (n := 5) (Nat.le_of_ble_eq_true rfl)
  rw [lg_entry_eq]
  generalize (lg_sl ([.ref g1, .int (nI a), .int (nI tt), .ref q]) ++ List.replicate (5 - (lg_sl ([.ref g1, .int (nI a), .int (nI tt), .ref q])).length) Slot.unset).toArray = ls at hl ⊢
  have hl : lv_has ls 5 [(0, .ref g1), (1, .int (nI a)), (2, .int (nI tt)), (3, .ref q)] := hl
  obtain ⟨hq_1, hq_2⟩ := hW.octs hL_g1 hT_g1
  refine lv_iload_n hx hb dX15_is_0 rfl (lv_at hl 2 rfl) ?_
  refine lv_iload_n hx hb dX15_is_1 rfl (lv_at hl 1 rfl) ?_
  refine lv_isub hx hb dX15_is_2 ?_
  refine lv_topi (fun x_3 ex_3 => ?_)
  obtain rfl : x_3 = ((nI tt) - (nI a)) := ex_3.trans (rfl)
  refine lv_aload_n hx hb dX15_is_3 rfl (lv_at hl 3 rfl) ?_
  have hFc := pg_free hD hS hA
  refine va_calli (va_runV (As := []) (rest := [.int ((nI tt) - (nI a))]) ⟨hx, hb, hml, hown, hts⟩ (m_J0_length_8abf5 l dC dI cs ty gm L s.heap.size F q v k0 C hW ) ⟨callB_of 0 hts (gi kt_71) rfl rfl rfl (hts _ kt_51) (hts _ kt_692) (by decide +kernel) ⟨Nat.le_of_ble_eq_true rfl, Nat.le_of_ble_eq_true rfl⟩, (hts _ kt_73), (hts _ kt_74)⟩ ⟨fun a U g mk q => ⟨q.1, PTEm.calling q.2⟩, sx_recv hX_q.sx hS, fun U hU hWm => ⟨rfl, PTEm.mk hU hWm hP hK hD hE hO hG (fun x hx => by rw [List.mem_singleton] at hx; subst hx; exact hX_q) hS hFc⟩⟩ rfl rfl hl.1 rfl (lv_room (Nat.le_of_ble_eq_true rfl)) dX15_is_4 ⟨by show _ + 0 ≤ 0; omega, by show _ + 0 ≤ 0; omega⟩) hS (fun q _ h => hFc q h) hFc (fun r_4 u t H1 locs ht hvm hw hB hz1 hk1 hS => ?_)
  obtain ⟨F_5, hB1⟩ := hB
  obtain rfl : F = F_5 := (funext (fun a => hB1.2.2.2 a List.not_mem_nil)).symm
  obtain ⟨hP, hD, hO, hR⟩ := QTm.back hB1 ht hFc hR (fun q h => absurd h List.not_mem_nil)
  generalize H1 = H at hP hS ⊢
  have hw : r_4 = nI k0 := hw
  subst hw
  refine lv_icmp_eq (tgt := 12) hx hb dX15_is_7 (by decide) (fun c_6 => ?_) (fun c_6 => ?_)
  ·
    have hts9 := sub_eqN c_6 (by omega) (by omega) (by omega)
    refine lv_iconst (v := 0) hx hb dX15_is_12 (by decide) ?_
    refine lv_istore (lv' := [(4, .int 0), (0, .ref g1), (1, .int (nI a)), (2, .int (nI tt)), (3, .ref q)]) hx hb dX15_is_13 hl (by decide) rfl (fun ls hl => ?_)
    refine W.widen (k := 0) (n := 0) (by omega) (by omega) ?_
    refine pl_loopm (σ := Nat) A (dC, dI) cs ty gm L [] F 15 5 (fun j => [(4, .int (nI j)), (0, .ref g1), (1, .int (nI a)), (2, .int (nI tt)), (3, .ref q)]) (fun j => []) (fun j _ => j ≤ k0 ∧ ∀ i, i < j → (TC fv z) (a + i) = ll.getD i 0) (fun j => k0 - j) ?_ 0 F (⟨Nat.zero_le _, fun i hi => absurd hi (Nat.not_lt_zero _)⟩) hO hR _ _ hP hD hS ls (lv_sub hl [0, 1, 2, 3, 4] rfl)
    rintro j F_7 hv_8 hO hR ih_9 H locs hP hD hS ls hl
    have hl : lv_has ls 5 [(4, .int (nI j)), (0, .ref g1), (1, .int (nI a)), (2, .int (nI tt)), (3, .ref q)] := hl
    have hv_8 : j ≤ k0 ∧ ∀ i, i < j → (TC fv z) (a + i) = ll.getD i 0 := hv_8
    refine W.eq (g2 := F0 m 15 ls []) rfl ?_
    obtain rfl : F = F_7 := (funext (fun a => hR a List.not_mem_nil)).symm
    obtain ⟨hv1, hv2⟩ := hv_8
    refine lv_iload hx hb dX15_is_15 (lv_at hl 0 rfl) ?_
    refine lv_aload_n hx hb dX15_is_17 rfl (lv_at hl 4 rfl) ?_
    have hFc := pg_free hD hS hA
    refine va_calli (va_runV (As := []) (rest := [.int (nI j)]) ⟨hx, hb, hml, hown, hts⟩ (m_J0_length_8abf5 l dC dI cs ty gm L H.size F q v k0 C hW ) ⟨callB_of 0 hts (gi kt_71) rfl rfl rfl (hts _ kt_51) (hts _ kt_692) (by decide +kernel) ⟨Nat.le_of_ble_eq_true rfl, Nat.le_of_ble_eq_true rfl⟩, (hts _ kt_73), (hts _ kt_74)⟩ ⟨fun a U g mk q => ⟨q.1, PTEm.calling q.2⟩, sx_recv hX_q.sx hS, fun U hU hWm => ⟨rfl, PTEm.mk hU hWm hP hK hD hE hO hG (fun x hx => by rw [List.mem_singleton] at hx; subst hx; exact hX_q) hS hFc⟩⟩ rfl rfl hl.1 rfl (lv_room (Nat.le_of_ble_eq_true rfl)) dX15_is_18 ⟨by show _ + 0 ≤ 0; omega, by show _ + 0 ≤ 0; omega⟩) hS (fun q _ h => hFc q h) hFc (fun r_10 u t H1 locs ht hvm hw hB hz1 hk1 hS => ?_)
    obtain ⟨F_11, hB1⟩ := hB
    obtain rfl : F = F_11 := (funext (fun a => hB1.2.2.2 a List.not_mem_nil)).symm
    obtain ⟨hP, hD, hO, hR⟩ := QTm.back hB1 ht hFc hR (fun q h => absurd h List.not_mem_nil)
    generalize H1 = H at hP hS ⊢
    have hw : r_10 = nI k0 := hw
    subst hw
    refine lv_icmp_ge (tgt := 47) hx hb dX15_is_21 (by decide) (fun c_12 => ?_) (fun c_12 => ?_)
    ·
      have hi_13 : k0 ≤ j := leN (N := k0) c_12
      refine lv_iconst (v := 1) hx hb dX15_is_47 (by decide) ?_
      refine W.widen (k := 0) (n := 0) (by omega) (by omega) ?_
      exact W.zret (v := 1) (ty := .boolean) hx hb hr (by decide) (fun t ht hWm => ⟨⟨1, (), rfl, (Or.inl ⟨rfl, by omega, fun i hi => hv2 i (by have h9 := hCL.1; omega)⟩), ⟨F, QTm.mk ht hP hD hO hR⟩⟩, hS.F ht⟩) hS.2.2 dX15_is_48
    ·
      have hi_14 : j < k0 := ltN (N := k0) c_12
      refine lv_aload_n hx hb dX15_is_24 rfl (lv_at hl 1 rfl) ?_
      refine lv_iload_n hx hb dX15_is_25 rfl (lv_at hl 2 rfl) ?_
      refine lv_iload hx hb dX15_is_26 (lv_at hl 0 rfl) ?_
      refine lv_iadd hx hb dX15_is_28 ?_
      refine lv_topi (fun x_15 ex_15 => ?_)
      obtain rfl : x_15 = (nI (a + j)) := ex_15.trans (nI_add a j)
      refine pg_bald hx hb hK hP hL_g1 1 hFg rfl (vp_in_nI (by omega) (by omega)) dX15_is_29 ?_
      refine lv_topi (fun x_16 ex_16 => ?_)
      obtain rfl : x_16 = fv (a + j) := ex_16.trans (congrArg fv (show ((nI (a + j)) : Int32).toNatClampNeg = (a + j) from nI_clamp (by omega)))
      refine lv_aload_n hx hb dX15_is_30 rfl (lv_at hl 4 rfl) ?_
      refine lv_iload hx hb dX15_is_31 (lv_at hl 0 rfl) ?_
      have hFc := pg_free hD hS hA
      refine va_calli (va_runV (As := [.int (nI j)]) (rest := [.int (fv (a + j))]) ⟨hx, hb, hml, hown, hts⟩ (m_J0_charAt_5068e l dC dI cs ty gm L H.size F q v k0 C j hW (by first | omega | assumption | exact Or.inl rfl)) ⟨callB_of 1 hts (gi kt_75) rfl rfl rfl (hts _ kt_51) (hts _ kt_693) (by decide +kernel) ⟨Nat.le_of_ble_eq_true rfl, Nat.le_of_ble_eq_true rfl⟩, (hts _ kt_77), (hts _ kt_78)⟩ ⟨fun a U g mk q => ⟨q.1, PTEm.calling q.2⟩, sx_recv hX_q.sx hS, fun U hU hWm => ⟨rfl, PTEm.mk hU hWm hP hK hD hE hO hG (fun x hx => by rw [List.mem_singleton] at hx; subst hx; exact hX_q) hS hFc⟩⟩ rfl rfl hl.1 rfl (lv_room (Nat.le_of_ble_eq_true rfl)) dX15_is_33 ⟨by show _ + 0 ≤ 0; omega, by show _ + 0 ≤ 0; omega⟩) hS (fun q _ h => hFc q h) hFc (fun r_17 u t H1 locs ht hvm hw hB hz1 hk1 hS => ?_)
      obtain ⟨F_18, hB1⟩ := hB
      obtain rfl : F = F_18 := (funext (fun a => hB1.2.2.2 a List.not_mem_nil)).symm
      obtain ⟨hP, hD, hO, hR⟩ := QTm.back hB1 ht hFc hR (fun q h => absurd h List.not_mem_nil)
      generalize H1 = H at hP hS ⊢
      have hw : r_17 = chv (C j) := hw
      subst hw
      refine lv_icmp_eq (tgt := 41) hx hb dX15_is_36 (by decide) (fun c_19 => ?_) (fun c_19 => ?_)
      ·
        refine lv_iinc (v := (nI (j + 1))) (lv' := [(4, .int (nI (j + 1))), (0, .ref g1), (1, .int (nI a)), (2, .int (nI tt)), (3, .ref q)]) hx hb dX15_is_41 hl (k := 0) rfl (nI_1 _) (by decide) rfl (fun ls hl => ?_)
        refine lv_goto (tgt := 15) hx hb dX15_is_44 (by decide) ?_
        refine W.widen (k := 0) (n := 0) (by omega) (by omega) ?_
        exact ih_9 (j + 1) F (⟨by omega, all_step hv2 (by have h9 := hCL.2 j (by omega); exact (tc_eq (by omega) h9.2).mpr (c_19.trans h9.1))⟩) (by show k0 - (j + 1) < k0 - j; omega) hO hR _ _ hP hD hS ls (lv_sub hl [0, 1, 2, 3, 4] rfl)
      ·
        refine lv_iconst (v := 0) hx hb dX15_is_39 (by decide) ?_
        refine W.widen (k := 0) (n := 0) (by omega) (by omega) ?_
        exact W.zret (v := 0) (ty := .boolean) hx hb hr (by decide) (fun t ht hWm => ⟨⟨0, (), rfl, (Or.inr ⟨rfl, fun h => c_19 (by have h9 := hCL.2 j (by omega); exact ((tc_eq (by omega) h9.2).mp (h.2 j (by have h8 := hCL.1; omega))).trans h9.1.symm)⟩), ⟨F, QTm.mk ht hP hD hO hR⟩⟩, hS.F ht⟩) hS.2.2 dX15_is_40
  ·
    refine lv_iconst (v := 0) hx hb dX15_is_10 (by decide) ?_
    refine W.widen (k := 0) (n := 0) (by omega) (by omega) ?_
    exact W.zret (v := 0) (ty := .boolean) hx hb hr (by decide) (fun t ht hWm => ⟨⟨0, (), rfl, (Or.inr ⟨rfl, fun h => c_6 (by rw [show tt = a + k0 from h.1.symm, pk_sub (by omega)]; congr 1; omega)⟩), ⟨F, QTm.mk ht hP hD hO hR⟩⟩, hS.F ht⟩) hS.2.2 dX15_is_11
set_option maxHeartbeats 4000000 in
set_option maxRecDepth 100000 in
theorem s_X15_begins_x (l : Launch) (dC : Nat → ClassId) (dI : Nat → Nat → Nat) (cs : Nat → ClassId) (ty : TyM) (gm : Nat → Nat → Nat) (L : List Nat) (sz : Nat) (F : Nat → va_E) (g1 : Nat) (σ : Nat) (n1 : Nat) (q : Nat) (v : Nat) (k0 : Nat) (C : Nat → Int32) (z : Nat) (a : Nat) (tt : Nat) (fv : Nat → Int32) (ll : List Nat) (hW : WTm ty gm L) (hL_g1 : g1 ∈ L) (hT_g1 : ty g1 = (17, σ, [n1])) (hFg : F g1 = .inl (cs 17, n1, .inl fv)) (htz : tt ≤ z) (hzn : z ≤ n1) (hn9 : n1 ≤ 3000) (ha : a ≤ 3000) (hCL : CLI C k0 ll) : Met l yX15_begins (.code yX15_begins cX15_begins 4 (some .boolean) :: tb) ({ frames := 5, cells := 0, slots := 0, locals := 109 }) (va_Pc [.ref g1, .int (nI a), .int (nI tt), .ref q] (PTEm (dC, dI) cs ty gm L F sz [(q, v, k0, C)])) (va_Qi (fun (r : Int32) (_ : Unit) => ((r = 1 ∧ BGW (TC fv z) a tt k0 ll) ∨ (r = 0 ∧ ¬ BGW (TC fv z) a tt k0 ll))) (fun _ T9 => ∃ F2 : Nat → va_E, QTm (dC, dI) cs ty gm L [] F F2 (va_A (va_pl L F) sz) T9) (va_A (va_pl L F) sz)) 0 0 (va_A (va_pl L F) sz) := by
  refine Met.ofW (cc := cX15_begins) (maxL := 4) (ret := (some .boolean)) (by decide) rfl ?_
  intro p e s m args below meth c s₁ B hml hv
  obtain ⟨rfl, ⟨hsz, hP, hK, hD0, hE, hO⟩, hG, hX⟩ := hv
  have hx := B.exec
  have hb := B.bytes
  have hr := B.returns
  have hts : ∀ w ∈ tb, w.before _ s = true := fun w h => atoms_spec (ws := .code yX15_begins cX15_begins 4 (some .boolean) :: tb) B.pre w (List.mem_cons_of_mem _ h)
  have hown : s.vm.findClass RX15 = some m.cls := findClass_of_methodNamed B.named
  have hlocks := B.notSynchronized
  subst hsz
  have hD := hD0.self (sz := s.heap.size)
  generalize hAe : va_A (va_pl L F) s.heap.size = A at hD hG hX ⊢
  have hX_q : SXc q v k0 C A s s.heap := hX (q, v, k0, C) (by simp)
  obtain ⟨xo_q, xc_q, xv_q, xt_q, xn_q⟩ := id hX_q
  have hA : ∀ q : Nat, s.heap.size ≤ q → A q := fun q h => by rw [← hAe]; exact Or.inr h
  have hS : va_S A s.heap s.heap [] := va_S.rf
  have hR : FR ty [] F F := FR.refl
  have hl := lv_entry ([.ref g1, .int (nI a), .int (nI tt), .ref q]) (n := 4) (Nat.le_of_ble_eq_true rfl)
  rw [lg_entry_eq]
  generalize (lg_sl ([.ref g1, .int (nI a), .int (nI tt), .ref q]) ++ List.replicate (4 - (lg_sl ([.ref g1, .int (nI a), .int (nI tt), .ref q])).length) Slot.unset).toArray = ls at hl ⊢
  have hl : lv_has ls 4 [(0, .ref g1), (1, .int (nI a)), (2, .int (nI tt)), (3, .ref q)] := hl
  obtain ⟨hq_1, hq_2⟩ := hW.octs hL_g1 hT_g1
  refine lv_iload_n hx hb dX15_begins_0 rfl (lv_at hl 2 rfl) ?_
  refine lv_iload_n hx hb dX15_begins_1 rfl (lv_at hl 1 rfl) ?_
  refine lv_isub hx hb dX15_begins_2 ?_
  refine lv_topi (fun x_3 ex_3 => ?_)
  obtain rfl : x_3 = ((nI tt) - (nI a)) := ex_3.trans (rfl)
  refine lv_aload_n hx hb dX15_begins_3 rfl (lv_at hl 3 rfl) ?_
  have hFc := pg_free hD hS hA
  refine va_calli (va_runV (As := []) (rest := [.int ((nI tt) - (nI a))]) ⟨hx, hb, hml, hown, hts⟩ (m_J0_length_8abf5 l dC dI cs ty gm L s.heap.size F q v k0 C hW ) ⟨callB_of 0 hts (gi kt_71) rfl rfl rfl (hts _ kt_51) (hts _ kt_692) (by decide +kernel) ⟨Nat.le_of_ble_eq_true rfl, Nat.le_of_ble_eq_true rfl⟩, (hts _ kt_73), (hts _ kt_74)⟩ ⟨fun a U g mk q => ⟨q.1, PTEm.calling q.2⟩, sx_recv hX_q.sx hS, fun U hU hWm => ⟨rfl, PTEm.mk hU hWm hP hK hD hE hO hG (fun x hx => by rw [List.mem_singleton] at hx; subst hx; exact hX_q) hS hFc⟩⟩ rfl rfl hl.1 rfl (lv_room (Nat.le_of_ble_eq_true rfl)) dX15_begins_4 ⟨by show _ + 0 ≤ 0; omega, by show _ + 0 ≤ 0; omega⟩) hS (fun q _ h => hFc q h) hFc (fun r_4 u t H1 locs ht hvm hw hB hz1 hk1 hS => ?_)
  obtain ⟨F_5, hB1⟩ := hB
  obtain rfl : F = F_5 := (funext (fun a => hB1.2.2.2 a List.not_mem_nil)).symm
  obtain ⟨hP, hD, hO, hR⟩ := QTm.back hB1 ht hFc hR (fun q h => absurd h List.not_mem_nil)
  generalize H1 = H at hP hS ⊢
  have hw : r_4 = nI k0 := hw
  subst hw
  refine lv_icmp_lt (tgt := 29) hx hb dX15_begins_7 (by decide) (fun c_6 => ?_) (fun c_6 => ?_)
  ·
    have hat := sub_ltN c_6 (by omega) (by omega) (by omega)
    refine lv_iconst (v := 0) hx hb dX15_begins_29 (by decide) ?_
    refine W.widen (k := 0) (n := 0) (by omega) (by omega) ?_
    exact W.zret (v := 0) (ty := .boolean) hx hb hr (by decide) (fun t ht hWm => ⟨⟨0, (), rfl, (Or.inr ⟨rfl, fun h => hat h.1⟩), ⟨F, QTm.mk ht hP hD hO hR⟩⟩, hS.F ht⟩) hS.2.2 dX15_begins_30
  ·
    have hat := sub_geN c_6 (by omega) (by omega) (by omega)
    refine lv_aload_n hx hb dX15_begins_10 rfl (lv_at hl 0 rfl) ?_
    refine lv_iload_n hx hb dX15_begins_11 rfl (lv_at hl 1 rfl) ?_
    refine lv_iload_n hx hb dX15_begins_12 rfl (lv_at hl 1 rfl) ?_
    refine lv_aload_n hx hb dX15_begins_13 rfl (lv_at hl 3 rfl) ?_
    have hFc := pg_free hD hS hA
    refine va_calli (va_runV (As := []) (rest := [.int (nI a), .int (nI a), .ref g1]) ⟨hx, hb, hml, hown, hts⟩ (m_J0_length_8abf5 l dC dI cs ty gm L H.size F q v k0 C hW ) ⟨callB_of 0 hts (gi kt_71) rfl rfl rfl (hts _ kt_51) (hts _ kt_692) (by decide +kernel) ⟨Nat.le_of_ble_eq_true rfl, Nat.le_of_ble_eq_true rfl⟩, (hts _ kt_73), (hts _ kt_74)⟩ ⟨fun a U g mk q => ⟨q.1, PTEm.calling q.2⟩, sx_recv hX_q.sx hS, fun U hU hWm => ⟨rfl, PTEm.mk hU hWm hP hK hD hE hO hG (fun x hx => by rw [List.mem_singleton] at hx; subst hx; exact hX_q) hS hFc⟩⟩ rfl rfl hl.1 rfl (lv_room (Nat.le_of_ble_eq_true rfl)) dX15_begins_14 ⟨by show _ + 0 ≤ 0; omega, by show _ + 0 ≤ 0; omega⟩) hS (fun q _ h => hFc q h) hFc (fun r_7 u t H1 locs ht hvm hw hB hz1 hk1 hS => ?_)
    obtain ⟨F_8, hB1⟩ := hB
    obtain rfl : F = F_8 := (funext (fun a => hB1.2.2.2 a List.not_mem_nil)).symm
    obtain ⟨hP, hD, hO, hR⟩ := QTm.back hB1 ht hFc hR (fun q h => absurd h List.not_mem_nil)
    generalize H1 = H at hP hS ⊢
    have hw : r_7 = nI k0 := hw
    subst hw
    refine lv_iadd hx hb dX15_begins_17 ?_
    refine lv_topi (fun x_9 ex_9 => ?_)
    obtain rfl : x_9 = (nI (a + k0)) := ex_9.trans (nI_add a k0)
    refine lv_aload_n hx hb dX15_begins_18 rfl (lv_at hl 3 rfl) ?_
    have hFc := pg_free hD hS hA
    refine va_calli (va_runS (As := [.ref g1, .int (nI a), .int (nI (a + k0)), .ref q]) (rest := []) ⟨hx, hb, hml, hown, hts⟩ (s_X15_is_x l dC dI cs ty gm L H.size F g1 σ n1 q v k0 C z a (a + k0) fv ll hW hL_g1 hT_g1 hFg (by omega) (hzn) (by first | omega | assumption | exact Or.inl rfl) (ha) (hCL)) ⟨callB_of 4 hts (gi kt_694) rfl rfl rfl (hts _ kt_669) (hts _ kt_695) (by decide +kernel) ⟨Nat.le_of_ble_eq_true rfl, Nat.le_of_ble_eq_true rfl⟩, (hts _ kt_696)⟩ ⟨fun a U g mk q => ⟨q.1, PTEm.calling q.2⟩, fun U hU hWm => ⟨rfl, PTEm.mk hU hWm hP hK hD hE hO hG (fun x hx => by rw [List.mem_singleton] at hx; subst hx; exact hX_q) hS hFc⟩⟩ rfl rfl hl.1 rfl (lv_room (Nat.le_of_ble_eq_true rfl)) dX15_begins_19 ⟨by show _ + 0 ≤ 0; omega, by show _ + 0 ≤ 0; omega⟩) hS (fun q _ h => hFc q h) hFc (fun r_10 u t H1 locs ht hvm hw hB hz1 hk1 hS => ?_)
    obtain ⟨F_11, hB1⟩ := hB
    obtain rfl : F = F_11 := (funext (fun a => hB1.2.2.2 a List.not_mem_nil)).symm
    obtain ⟨hP, hD, hO, hR⟩ := QTm.back hB1 ht hFc hR (fun q h => absurd h List.not_mem_nil)
    generalize H1 = H at hP hS ⊢
    have hw : ((r_10 = 1 ∧ ISW (TC fv z) a (a + k0) k0 ll) ∨ (r_10 = 0 ∧ ¬ ISW (TC fv z) a (a + k0) k0 ll)) := hw
    have hw_12 := hw
    refine lv_if_eq (tgt := 29) hx hb dX15_begins_22 (by decide) (fun c_13 => ?_) (fun c_13 => ?_)
    ·
      refine lv_iconst (v := 0) hx hb dX15_begins_29 (by decide) ?_
      refine W.widen (k := 0) (n := 0) (by omega) (by omega) ?_
      exact W.zret (v := 0) (ty := .boolean) hx hb hr (by decide) (fun t ht hWm => ⟨⟨0, (), rfl, (Or.inr ⟨rfl, fun h => orp0 hw_12 c_13 ⟨rfl, h.2⟩⟩), ⟨F, QTm.mk ht hP hD hO hR⟩⟩, hS.F ht⟩) hS.2.2 dX15_begins_30
    ·
      refine lv_iconst (v := 1) hx hb dX15_begins_25 (by decide) ?_
      refine lv_goto (tgt := 30) hx hb dX15_begins_26 (by decide) ?_
      refine W.widen (k := 0) (n := 0) (by omega) (by omega) ?_
      exact W.zret (v := 1) (ty := .boolean) hx hb hr (by decide) (fun t ht hWm => ⟨⟨1, (), rfl, (Or.inl ⟨rfl, hat, (orp1 hw_12 c_13).2⟩), ⟨F, QTm.mk ht hP hD hO hR⟩⟩, hS.F ht⟩) hS.2.2 dX15_begins_30
theorem qd_a {T : Nat → Nat} {b j dg v np : Nat} {x : Int32} {X : Option (Nat × Int32)} (h : qdw T b (b + 1 - j) j dg v np x = X) (h1 : j < b) (h2 : 48 ≤ T j ∧ T j ≤ 57) (h3 : ¬ 3 < dg + 1) : qdw T b (b + 1 - (j + 1)) (j + 1) (dg + 1) (v * 10 + T j - 48) np x = X := by
  rw [show b + 1 - j = (b + 1 - (j + 1)) + 1 by omega, qdw_s, if_pos ⟨h1, h2⟩, if_neg h3] at h
  exact h
theorem qd_a0 {T : Nat → Nat} {b j dg v np : Nat} {x : Int32} {X : Option (Nat × Int32)} (h : qdw T b (b + 1 - j) j dg v np x = X) (h1 : j < b) (h2 : 48 ≤ T j ∧ T j ≤ 57) (h3 : 3 < dg + 1) : X = none := by
  rw [show b + 1 - j = (b + 1 - (j + 1)) + 1 by omega, qdw_s, if_pos ⟨h1, h2⟩, if_pos h3] at h
  exact h.symm
theorem qd_b {T : Nat → Nat} {b j dg v np : Nat} {x : Int32} {X : Option (Nat × Int32)} (h : qdw T b (b + 1 - j) j dg v np x = X) (hj : j ≤ b) (h1 : ¬ (j < b ∧ (48 ≤ T j ∧ T j ≤ 57))) (h2 : ¬ ((j < b ∧ ¬ T j = 46) ∨ dg = 0 ∨ 255 < v)) : qdw T b (b + 1 - (j + 1)) (j + 1) 0 0 (np + 1) ((x <<< ((8 : Int32) &&& 31)) ||| nI v) = X := by
  rw [show b + 1 - j = (b + 1 - (j + 1)) + 1 by omega, qdw_s, if_neg h1, if_neg h2] at h
  exact h
theorem qd_b0 {T : Nat → Nat} {b j dg v np : Nat} {x : Int32} {X : Option (Nat × Int32)} (h : qdw T b (b + 1 - j) j dg v np x = X) (hj : j ≤ b) (h1 : ¬ (j < b ∧ (48 ≤ T j ∧ T j ≤ 57))) (h2 : (j < b ∧ ¬ T j = 46) ∨ dg = 0 ∨ 255 < v) : X = none := by
  rw [show b + 1 - j = (b + 1 - (j + 1)) + 1 by omega, qdw_s, if_neg h1, if_pos h2] at h
  exact h.symm
theorem qd_e {T : Nat → Nat} {b j dg v np : Nat} {x : Int32} {X : Option (Nat × Int32)} (h : qdw T b (b + 1 - j) j dg v np x = X) (hj : b < j) : X = some (np, x) := by
  rw [show b + 1 - j = 0 by omega] at h
  exact h.symm
def QDG (dg vv : Nat) : Prop := (dg = 0 → vv = 0) ∧ (dg = 1 → vv ≤ 9) ∧ (dg = 2 → vv ≤ 99) ∧ (dg = 3 → vv ≤ 999)
theorem qdg_0 : QDG 0 0 := ⟨fun _ => rfl, fun _ => Nat.zero_le _, fun _ => Nat.zero_le _, fun _ => Nat.zero_le _⟩
theorem qdg_le {dg vv : Nat} (h : QDG dg vv) (h3 : dg ≤ 3) : vv ≤ 999 := by
  unfold QDG at h
  omega
theorem qdg_s {dg vv c : Nat} (h : QDG dg vv) (hc : 48 ≤ c ∧ c ≤ 57) (h3 : dg + 1 ≤ 3) : QDG (dg + 1) (vv * 10 + c - 48) := by
  unfold QDG at h ⊢
  omega
theorem qd_n4 {X : Option (Nat × Int32)} (h : X = none) : ∀ y, ¬ X = some (4, y) := fun y q => by
  rw [h] at q
  exact (nomatch q)
set_option maxHeartbeats 4000000 in
set_option maxRecDepth 100000 in
theorem s_X15_isQuad_x (l : Launch) (dC : Nat → ClassId) (dI : Nat → Nat → Nat) (cs : Nat → ClassId) (ty : TyM) (gm : Nat → Nat → Nat) (L : List Nat) (sz : Nat) (F : Nat → va_E) (h0 : Nat) (ρ : Nat) (ta : Nat) (ou : Nat) (so : Nat) (ad : Nat) (na : Nat) (va : Nat) (lc : Nat) (dm : Nat) (tg : Nat) (pe : Nat) (ml : Nat) (bg : Nat) (co : Nat) (sp : Nat) (nb0 : Nat) (nb1 : Nat) (nb2 : Nat) (pl : Nat) (se : Nat) (ke : Nat) (wi : Nat) (hs : Nat) (mo : Nat) (po : Nat) (nu : Nat) (pr : Nat) (sq : Nat) (xa : Nat) (sa : Nat) (n64 : Nat) (m64 : Nat) (ex : Nat) (wh : Nat) (sd : Nat) (tk : Nat) (hd : Nat) (ak : Nat) (ho : Nat) (ot : Nat) (sx : Nat) (s0 : Nat) (s1 : Nat) (s2 : Nat) (nf : Nat) (bd : Nat) (mm : Nat) (zo : Nat) (fm : Nat) (sn : Nat) (hg : Nat) (gc : Nat) (gv : Nat) (ze : Nat) (zt : Nat) (v14 : Int32) (v15 : Int32) (v17 : Int32) (v18 : Int32) (v19 : Int32) (v20 : Int32) (v21 : Int32) (v22 : Int32) (v33 : Int32) (v52 : Int32) (v53 : Int32) (v54 : Int32) (g1 : Nat) (μ : Nat) (fv : Nat → Int32) (z : Nat) (a : Nat) (tt : Nat) (hW : WTm ty gm L) (hL_h0 : h0 ∈ L) (hT_h0 : ty h0 = (15, ρ, [ta, ou, so, ad, na, va, lc, dm, tg, pe, ml, bg, co, sp, nb0, nb1, nb2, pl, se, ke, wi, hs, mo, po, nu, pr, sq, xa, sa, n64, m64, ex, wh, sd, tk, hd, ak, ho, ot, sx, s0, s1, s2, nf, bd, mm, zo, fm, sn, hg, gc, gv, ze, zt])) (hL_g1 : g1 ∈ L) (hT_g1 : ty g1 = (17, μ, [700])) (hF0 : F h0 = .inr (15, (.ref ta) :: (.int (nI zt)) :: (.int (nI zo)) :: (.int (nI ze)) :: (.ref ou) :: (.ref so) :: (.ref ad) :: (.ref na) :: (.ref va) :: (.ref lc) :: (.ref dm) :: (.int (nI fm)) :: (.int (nI sn)) :: (.ref tg) :: (.int v14) :: (.int v15) :: (.ref pe) :: (.int v17) :: (.int v18) :: (.int v19) :: (.int v20) :: (.int v21) :: (.int v22) :: (.ref ml) :: (.ref bg) :: (.ref co) :: (.ref sp) :: (.ref nb0) :: (.ref nb1) :: (.ref nb2) :: (.int (nI nf)) :: (.int (nI bd)) :: (.int (nI mm)) :: (.int v33) :: (.ref pl) :: (.ref se) :: (.ref ke) :: (.ref wi) :: (.ref hs) :: (.ref mo) :: (.ref po) :: (.ref nu) :: (.ref pr) :: (.ref sq) :: (.ref xa) :: (.ref sa) :: (.ref n64) :: (.ref m64) :: (.ref ex) :: (.ref wh) :: (.ref sd) :: (.ref tk) :: (.int v52) :: (.int v53) :: (.int v54) :: (.ref hd) :: (.ref ak) :: (.ref ho) :: (.ref ot) :: [])) (hzo : zo ≤ 6000) (hze : ze ≤ 40) (h33 : ((v33 = 0 ∧ nf = 0) ∨ (v33 = 1 ∧ 1 ≤ nf))) (h54 : (v54 = 0 ∨ v54 = 1)) (hgf : (hg = 0 ∨ (v14 = nI gc ∧ v15 = nI gv))) (hFg : F g1 = .inl (cs 17, 700, .inl fv)) (hmu : ρ + 100 ≤ μ) (htz : tt ≤ z) (hzn : z ≤ 700) (hat : a ≤ tt) : Met l yX15_isQuad (.code yX15_isQuad cX15_isQuad 8 (some .boolean) :: tb) ({ frames := 1, cells := 0, slots := 0, locals := 20 }) (va_Pc [.ref h0, .ref g1, .int (nI a), .int (nI tt)] (PTm (dC, dI) cs ty gm L F sz)) (va_Qi (fun (r : Int32) (uq : Int32) => ((r = 1 ∧ qdT (TC fv z) a tt = some (4, uq)) ∨ (r = 0 ∧ ∀ y, ¬ qdT (TC fv z) a tt = some (4, y)))) (fun (uq : Int32) T9 => ∃ F2 : Nat → va_E, QTm (dC, dI) cs ty gm L [ρ] F F2 (va_A (va_pl L F) sz) T9 ∧ F2 h0 = .inr (15, (.ref ta) :: (.int (nI zt)) :: (.int (nI zo)) :: (.int (nI ze)) :: (.ref ou) :: (.ref so) :: (.ref ad) :: (.ref na) :: (.ref va) :: (.ref lc) :: (.ref dm) :: (.int (nI fm)) :: (.int (nI sn)) :: (.ref tg) :: (.int v14) :: (.int v15) :: (.ref pe) :: (.int v17) :: (.int v18) :: (.int v19) :: (.int v20) :: (.int v21) :: (.int uq) :: (.ref ml) :: (.ref bg) :: (.ref co) :: (.ref sp) :: (.ref nb0) :: (.ref nb1) :: (.ref nb2) :: (.int (nI nf)) :: (.int (nI bd)) :: (.int (nI mm)) :: (.int v33) :: (.ref pl) :: (.ref se) :: (.ref ke) :: (.ref wi) :: (.ref hs) :: (.ref mo) :: (.ref po) :: (.ref nu) :: (.ref pr) :: (.ref sq) :: (.ref xa) :: (.ref sa) :: (.ref n64) :: (.ref m64) :: (.ref ex) :: (.ref wh) :: (.ref sd) :: (.ref tk) :: (.int v52) :: (.int v53) :: (.int v54) :: (.ref hd) :: (.ref ak) :: (.ref ho) :: (.ref ot) :: [])) (va_A (va_pl L F) sz)) 0 0 (va_A (va_pl L F) sz) := by
  refine Met.ofW (cc := cX15_isQuad) (maxL := 8) (ret := (some .boolean)) (by decide) rfl ?_
  intro p e s m args below meth c s₁ B hml hv
  obtain ⟨rfl, hsz, hP, hK, hD0, hE, hO⟩ := hv
  have hx := B.exec
  have hb := B.bytes
  have hr := B.returns
  have hts : ∀ w ∈ tb, w.before _ s = true := fun w h => atoms_spec (ws := .code yX15_isQuad cX15_isQuad 8 (some .boolean) :: tb) B.pre w (List.mem_cons_of_mem _ h)
  have hown : s.vm.findClass RX15 = some m.cls := findClass_of_methodNamed B.named
  have hlocks := B.notSynchronized
  subst hsz
  have hD := hD0.self (sz := s.heap.size)
  generalize hAe : va_A (va_pl L F) s.heap.size = A at hD ⊢
  have hA : ∀ q : Nat, s.heap.size ≤ q → A q := fun q h => by rw [← hAe]; exact Or.inr h
  have hS : va_S A s.heap s.heap [] := va_S.rf
  have hR : FR ty [ρ] F F := FR.refl
  have hl := lv_entry ([.ref h0, .ref g1, .int (nI a), .int (nI tt)]) (n := 8) (Nat.le_of_ble_eq_true rfl)
  rw [lg_entry_eq]
  generalize (lg_sl ([.ref h0, .ref g1, .int (nI a), .int (nI tt)]) ++ List.replicate (8 - (lg_sl ([.ref h0, .ref g1, .int (nI a), .int (nI tt)])).length) Slot.unset).toArray = ls at hl ⊢
  have hl : lv_has ls 8 [(0, .ref h0), (1, .ref g1), (2, .int (nI a)), (3, .int (nI tt))] := hl
  obtain ⟨hq_1, hq_2⟩ := hW.octs hL_g1 hT_g1
  refine lv_iconst (v := 0) hx hb dX15_isQuad_0 (by decide) ?_
  refine lv_istore (lv' := [(4, .int 0), (0, .ref h0), (1, .ref g1), (2, .int (nI a)), (3, .int (nI tt))]) hx hb dX15_isQuad_1 hl (by decide) rfl (fun ls hl => ?_)
  refine lv_iconst (v := 0) hx hb dX15_isQuad_3 (by decide) ?_
  refine lv_istore (lv' := [(5, .int 0), (4, .int 0), (0, .ref h0), (1, .ref g1), (2, .int (nI a)), (3, .int (nI tt))]) hx hb dX15_isQuad_4 hl (by decide) rfl (fun ls hl => ?_)
  refine lv_iconst (v := 0) hx hb dX15_isQuad_6 (by decide) ?_
  refine lv_istore (lv' := [(6, .int 0), (5, .int 0), (4, .int 0), (0, .ref h0), (1, .ref g1), (2, .int (nI a)), (3, .int (nI tt))]) hx hb dX15_isQuad_7 hl (by decide) rfl (fun ls hl => ?_)
  refine lv_aload_n hx hb dX15_isQuad_9 rfl (lv_at hl 3 rfl) ?_
  refine lv_iconst (v := 0) hx hb dX15_isQuad_10 (by decide) ?_
  obtain ⟨hq_25, hq_26, hq_27, hq_28, hq_29, hgO, hgA, hgB, hq_30⟩ := hW.sc hL_h0 hT_h0
  refine pg_put (ci := 15) (v := .int 0) (ty := .int) (C := RX15) (T := TX15) (N := 59) hx hb hts it_15 tyX15 tyX15_ok nmX15 hown hK hP hD hS hL_h0 hF0 rfl 22 (by decide) (hts _ kt_745) (fun _ h9 => h9) rfl (by decide +kernel) (rfl) (rfl) (Nat.le_of_ble_eq_true rfl) dX15_isQuad_11 (fun H locs hP hD hS => ?_)
  obtain ⟨F_31, he_32, hP, hD, hO, hR⟩ : ∃ G, G = va_up F h0 (.inr (15, (.ref ta) :: (.int (nI zt)) :: (.int (nI zo)) :: (.int (nI ze)) :: (.ref ou) :: (.ref so) :: (.ref ad) :: (.ref na) :: (.ref va) :: (.ref lc) :: (.ref dm) :: (.int (nI fm)) :: (.int (nI sn)) :: (.ref tg) :: (.int v14) :: (.int v15) :: (.ref pe) :: (.int v17) :: (.int v18) :: (.int v19) :: (.int v20) :: (.int v21) :: (.int 0) :: (.ref ml) :: (.ref bg) :: (.ref co) :: (.ref sp) :: (.ref nb0) :: (.ref nb1) :: (.ref nb2) :: (.int (nI nf)) :: (.int (nI bd)) :: (.int (nI mm)) :: (.int v33) :: (.ref pl) :: (.ref se) :: (.ref ke) :: (.ref wi) :: (.ref hs) :: (.ref mo) :: (.ref po) :: (.ref nu) :: (.ref pr) :: (.ref sq) :: (.ref xa) :: (.ref sa) :: (.ref n64) :: (.ref m64) :: (.ref ex) :: (.ref wh) :: (.ref sd) :: (.ref tk) :: (.int v52) :: (.int v53) :: (.int v54) :: (.ref hd) :: (.ref ak) :: (.ref ho) :: (.ref ot) :: [])) ∧ va_P (dC, dI) vwCl (va_pl L G) H ∧ va_D A (va_pl L G) ∧ OKm cs ty gm L G ∧ FR ty [ρ] F G := ⟨_, rfl, hP, hD, hO.up (shm.mod hT_h0 ⟨v14, v15, v17, v18, v19, v20, v21, 0, v33, v52, v53, v54, rfl, (by first | omega | assumption | exact Or.inl rfl | exact Or.inr rfl), (by first | omega | assumption | exact Or.inl rfl | exact Or.inr rfl), (by first | omega | assumption | exact Or.inl rfl | exact Or.inr rfl), (by first | omega | assumption | exact Or.inl rfl | exact Or.inr rfl), (by first | omega | assumption | exact Or.inl rfl | exact Or.inr rfl)⟩), hR.up hT_h0 (by simp)⟩
  have hF_33 : F_31 h0 = .inr (15, (.ref ta) :: (.int (nI zt)) :: (.int (nI zo)) :: (.int (nI ze)) :: (.ref ou) :: (.ref so) :: (.ref ad) :: (.ref na) :: (.ref va) :: (.ref lc) :: (.ref dm) :: (.int (nI fm)) :: (.int (nI sn)) :: (.ref tg) :: (.int v14) :: (.int v15) :: (.ref pe) :: (.int v17) :: (.int v18) :: (.int v19) :: (.int v20) :: (.int v21) :: (.int 0) :: (.ref ml) :: (.ref bg) :: (.ref co) :: (.ref sp) :: (.ref nb0) :: (.ref nb1) :: (.ref nb2) :: (.int (nI nf)) :: (.int (nI bd)) :: (.int (nI mm)) :: (.int v33) :: (.ref pl) :: (.ref se) :: (.ref ke) :: (.ref wi) :: (.ref hs) :: (.ref mo) :: (.ref po) :: (.ref nu) :: (.ref pr) :: (.ref sq) :: (.ref xa) :: (.ref sa) :: (.ref n64) :: (.ref m64) :: (.ref ex) :: (.ref wh) :: (.ref sd) :: (.ref tk) :: (.int v52) :: (.int v53) :: (.int v54) :: (.ref hd) :: (.ref ak) :: (.ref ho) :: (.ref ot) :: []) := by rw [he_32]; exact up_self
  have hF_34 : F_31 g1 = .inl (cs 17, 700, .inl fv) := by rw [he_32, up_ne (ne_ty hT_g1 hT_h0 (by simp))]; exact hFg
  refine lv_iload_n hx hb dX15_isQuad_14 rfl (lv_at hl 5 rfl) ?_
  refine lv_istore (lv' := [(7, .int (nI a)), (6, .int 0), (5, .int 0), (4, .int 0), (0, .ref h0), (1, .ref g1), (2, .int (nI a)), (3, .int (nI tt))]) hx hb dX15_isQuad_15 hl (by decide) rfl (fun ls hl => ?_)
  refine W.widen (k := 0) (n := 0) (by omega) (by omega) ?_
  have hF_36 : F g1 = .inl (cs 17, 700, .inl fv) := (hR g1 (by rw [hT_g1]; simp only [List.mem_cons, List.not_mem_nil, or_false]; omega)).symm.trans hF_34
  refine pl_loopm (σ := Nat × Nat × Nat × Nat × Int32) A (dC, dI) cs ty gm L [ρ] F 17 8 (fun (j, np, dg, vv, q22) => [(7, .int (nI j)), (6, .int (nI vv)), (5, .int (nI dg)), (4, .int (nI np)), (0, .ref h0), (1, .ref g1), (2, .int (nI a)), (3, .int (nI tt))]) (fun (j, np, dg, vv, q22) => []) (fun (j, np, dg, vv, q22) FF => (a ≤ j ∧ j ≤ tt + 1 ∧ dg ≤ 3 ∧ np ≤ j - a) ∧ QDG dg vv ∧ FF h0 = .inr (15, (.ref ta) :: (.int (nI zt)) :: (.int (nI zo)) :: (.int (nI ze)) :: (.ref ou) :: (.ref so) :: (.ref ad) :: (.ref na) :: (.ref va) :: (.ref lc) :: (.ref dm) :: (.int (nI fm)) :: (.int (nI sn)) :: (.ref tg) :: (.int v14) :: (.int v15) :: (.ref pe) :: (.int v17) :: (.int v18) :: (.int v19) :: (.int v20) :: (.int v21) :: (.int q22) :: (.ref ml) :: (.ref bg) :: (.ref co) :: (.ref sp) :: (.ref nb0) :: (.ref nb1) :: (.ref nb2) :: (.int (nI nf)) :: (.int (nI bd)) :: (.int (nI mm)) :: (.int v33) :: (.ref pl) :: (.ref se) :: (.ref ke) :: (.ref wi) :: (.ref hs) :: (.ref mo) :: (.ref po) :: (.ref nu) :: (.ref pr) :: (.ref sq) :: (.ref xa) :: (.ref sa) :: (.ref n64) :: (.ref m64) :: (.ref ex) :: (.ref wh) :: (.ref sd) :: (.ref tk) :: (.int v52) :: (.int v53) :: (.int v54) :: (.ref hd) :: (.ref ak) :: (.ref ho) :: (.ref ot) :: []) ∧ qdw (TC fv z) tt (tt + 1 - j) j dg vv np q22 = qdT (TC fv z) a tt) (fun (j, np, dg, vv, q22) => tt + 1 - j) ?_ (a, 0, 0, 0, 0) F_31 (⟨⟨Nat.le_refl _, by omega, by omega, by omega⟩, qdg_0, hF_33, rfl⟩) hO hR _ _ hP hD hS ls (lv_sub hl [0, 1, 2, 3, 4, 5, 6, 7] rfl)
  rintro ⟨j, np, dg, vv, q22⟩ F_35 hv_37 hO hR ih_38 H locs hP hD hS ls hl
  have hl : lv_has ls 8 [(7, .int (nI j)), (6, .int (nI vv)), (5, .int (nI dg)), (4, .int (nI np)), (0, .ref h0), (1, .ref g1), (2, .int (nI a)), (3, .int (nI tt))] := hl
  have hv_37 : (a ≤ j ∧ j ≤ tt + 1 ∧ dg ≤ 3 ∧ np ≤ j - a) ∧ QDG dg vv ∧ F_35 h0 = .inr (15, (.ref ta) :: (.int (nI zt)) :: (.int (nI zo)) :: (.int (nI ze)) :: (.ref ou) :: (.ref so) :: (.ref ad) :: (.ref na) :: (.ref va) :: (.ref lc) :: (.ref dm) :: (.int (nI fm)) :: (.int (nI sn)) :: (.ref tg) :: (.int v14) :: (.int v15) :: (.ref pe) :: (.int v17) :: (.int v18) :: (.int v19) :: (.int v20) :: (.int v21) :: (.int q22) :: (.ref ml) :: (.ref bg) :: (.ref co) :: (.ref sp) :: (.ref nb0) :: (.ref nb1) :: (.ref nb2) :: (.int (nI nf)) :: (.int (nI bd)) :: (.int (nI mm)) :: (.int v33) :: (.ref pl) :: (.ref se) :: (.ref ke) :: (.ref wi) :: (.ref hs) :: (.ref mo) :: (.ref po) :: (.ref nu) :: (.ref pr) :: (.ref sq) :: (.ref xa) :: (.ref sa) :: (.ref n64) :: (.ref m64) :: (.ref ex) :: (.ref wh) :: (.ref sd) :: (.ref tk) :: (.int v52) :: (.int v53) :: (.int v54) :: (.ref hd) :: (.ref ak) :: (.ref ho) :: (.ref ot) :: []) ∧ qdw (TC fv z) tt (tt + 1 - j) j dg vv np q22 = qdT (TC fv z) a tt := hv_37
  refine W.eq (g2 := F0 m 17 ls []) rfl ?_
  have hF_39 : F_35 g1 = .inl (cs 17, 700, .inl fv) := (hR g1 (by rw [hT_g1]; simp only [List.mem_cons, List.not_mem_nil, or_false]; omega)).trans hF_36
  obtain ⟨⟨hv1, hv2, hv3, hv0⟩, hv4, hv5, hv6⟩ := hv_37
  have hvv : vv ≤ 999 := qdg_le hv4 hv3
  refine lv_iload hx hb dX15_isQuad_17 (lv_at hl 0 rfl) ?_
  refine lv_iload_n hx hb dX15_isQuad_19 rfl (lv_at hl 7 rfl) ?_
  refine lv_icmp_gt (tgt := 124) hx hb dX15_isQuad_20 (by decide) (fun c_40 => ?_) (fun c_40 => ?_)
  ·
    have hi_41 : tt < j := (nI_ltI (a := tt) (b := j) (by omega) (by omega)).mp c_40
    refine lv_iload hx hb dX15_isQuad_124 (lv_at hl 3 rfl) ?_
    refine lv_iconst (v := 4) hx hb dX15_isQuad_126 (by decide) ?_
    refine lv_icmp_ne (tgt := 134) hx hb dX15_isQuad_127 (by decide) (fun c_42 => ?_) (fun c_42 => ?_)
    ·
      have hi_43 : np ≠ 4 := fun q => c_42 (by rw [q]; rfl)
      refine lv_iconst (v := 0) hx hb dX15_isQuad_134 (by decide) ?_
      refine W.widen (k := 0) (n := 0) (by omega) (by omega) ?_
      exact W.zret (v := 0) (ty := .boolean) hx hb hr (by decide) (fun t ht hWm => ⟨⟨0, q22, rfl, (Or.inr ⟨rfl, fun y q => by rw [qd_e hv6 (by omega)] at q; have h9 : np = 4 := congrArg Prod.fst (Option.some.inj q); exact c_42 (by rw [h9]; rfl)⟩), ⟨F_35, QTm.mk ht hP hD hO hR, hv5⟩⟩, hS.F ht⟩) hS.2.2 dX15_isQuad_135
    ·
      have hi_44 : np = 4 := (nI_eq (a := np) (b := 4) (by omega) (by omega)).mp c_42
      refine lv_iconst (v := 1) hx hb dX15_isQuad_130 (by decide) ?_
      refine lv_goto (tgt := 135) hx hb dX15_isQuad_131 (by decide) ?_
      refine W.widen (k := 0) (n := 0) (by omega) (by omega) ?_
      exact W.zret (v := 1) (ty := .boolean) hx hb hr (by decide) (fun t ht hWm => ⟨⟨1, q22, rfl, (Or.inl ⟨rfl, by rw [qd_e hv6 (by omega), show np = 4 from (nI_eq (b := 4) (by omega) (by omega)).mp c_42]⟩), ⟨F_35, QTm.mk ht hP hD hO hR, hv5⟩⟩, hS.F ht⟩) hS.2.2 dX15_isQuad_135
  ·
    have hi_45 : j ≤ tt := Nat.not_lt.mp (fun q => c_40 ((nI_ltI (a := tt) (b := j) (by omega) (by omega)).mpr q))
    refine lv_iload hx hb dX15_isQuad_23 (lv_at hl 0 rfl) ?_
    refine lv_iload_n hx hb dX15_isQuad_25 rfl (lv_at hl 7 rfl) ?_
    refine lv_icmp_ge (tgt := 65) hx hb dX15_isQuad_26 (by decide) (fun c_46 => ?_) (fun c_46 => ?_)
    ·
      have hi_47 : tt ≤ j := leN (N := tt) c_46
      have hnd : ¬ (j < tt ∧ (48 ≤ (TC fv z) j ∧ (TC fv z) j ≤ 57)) := fun q => absurd q.1 (by omega)
      refine lv_iload hx hb dX15_isQuad_65 (lv_at hl 0 rfl) ?_
      refine lv_iload_n hx hb dX15_isQuad_67 rfl (lv_at hl 7 rfl) ?_
      refine lv_icmp_ge (tgt := 80) hx hb dX15_isQuad_68 (by decide) (fun c_48 => ?_) (fun c_48 => absurd (Int32.not_lt.mp (fun q => absurd ((nI_ltI (by omega) (by omega)).mp q) (by omega))) c_48)
      refine lv_iload hx hb dX15_isQuad_80 (lv_at hl 2 rfl) ?_
      refine lv_if_eq (tgt := 93) hx hb dX15_isQuad_82 (by decide) (fun c_49 => ?_) (fun c_49 => ?_)
      ·
        have hi_50 : dg = 0 := (nI_eq (a := dg) (b := 0) (by omega) (by omega)).mp c_49
        refine lv_iconst (v := 0) hx hb dX15_isQuad_93 (by decide) ?_
        refine W.widen (k := 0) (n := 0) (by omega) (by omega) ?_
        exact W.zret (v := 0) (ty := .boolean) hx hb hr (by decide) (fun t ht hWm => ⟨⟨0, q22, rfl, (Or.inr ⟨rfl, qd_n4 (qd_b0 hv6 (by omega) hnd (Or.inr (Or.inl ((nI_eq (b := 0) (by omega) (by omega)).mp c_49))))⟩), ⟨F_35, QTm.mk ht hP hD hO hR, hv5⟩⟩, hS.F ht⟩) hS.2.2 dX15_isQuad_94
      ·
        have hi_51 : dg ≠ 0 := fun q => c_49 (by rw [q]; rfl)
        refine lv_iload hx hb dX15_isQuad_85 (lv_at hl 1 rfl) ?_
        refine lv_sipush (v := 255) hx hb dX15_isQuad_87 (by decide) ?_
        refine lv_icmp_le (tgt := 95) hx hb dX15_isQuad_90 (by decide) (fun c_52 => ?_) (fun c_52 => ?_)
        ·
          have hi_53 : vv ≤ 255 := (nI_leI (a := vv) (b := 255) (by omega) (by omega)).mp c_52
          have hok : ¬ ((j < tt ∧ ¬ (TC fv z) j = 46) ∨ dg = 0 ∨ 255 < vv) := fun q => by rcases q with q | q | q; exact (fun q => absurd q.1 (by omega)) q; exact c_49 (by rw [q]; rfl); omega
          refine lv_aload_n hx hb dX15_isQuad_95 rfl (lv_at hl 4 rfl) ?_
          refine lv_aload_n hx hb dX15_isQuad_96 rfl (lv_at hl 4 rfl) ?_
          refine pg_get (ci := 15) (v := .int q22) (C := RX15) (T := TX15) (N := 59) hx hb hts it_15 hown hK hP hL_h0 hv5 rfl 22 (by decide) (hts _ kt_745) (fun _ h9 => h9) rfl dX15_isQuad_97 ?_
          refine lv_bipush (v := 8) hx hb dX15_isQuad_100 (by decide) ?_
          refine lv_ishl hx hb dX15_isQuad_102 ?_
          refine lv_topi (fun x_54 ex_54 => ?_)
          obtain rfl : x_54 = (q22 <<< ((8 : Int32) &&& 31)) := ex_54.trans (rfl)
          refine lv_iload hx hb dX15_isQuad_103 (lv_at hl 1 rfl) ?_
          refine lv_ior hx hb dX15_isQuad_105 ?_
          refine lv_topi (fun x_55 ex_55 => ?_)
          obtain rfl : x_55 = ((q22 <<< ((8 : Int32) &&& 31)) ||| nI vv) := ex_55.trans (rfl)
          refine pg_put (ci := 15) (v := .int ((q22 <<< ((8 : Int32) &&& 31)) ||| nI vv)) (ty := .int) (C := RX15) (T := TX15) (N := 59) hx hb hts it_15 tyX15 tyX15_ok nmX15 hown hK hP hD hS hL_h0 hv5 rfl 22 (by decide) (hts _ kt_745) (fun _ h9 => h9) rfl (by decide +kernel) (rfl) (rfl) (Nat.le_of_ble_eq_true rfl) dX15_isQuad_106 (fun H locs hP hD hS => ?_)
          obtain ⟨F_56, he_57, hP, hD, hO, hR⟩ : ∃ G, G = va_up F_35 h0 (.inr (15, (.ref ta) :: (.int (nI zt)) :: (.int (nI zo)) :: (.int (nI ze)) :: (.ref ou) :: (.ref so) :: (.ref ad) :: (.ref na) :: (.ref va) :: (.ref lc) :: (.ref dm) :: (.int (nI fm)) :: (.int (nI sn)) :: (.ref tg) :: (.int v14) :: (.int v15) :: (.ref pe) :: (.int v17) :: (.int v18) :: (.int v19) :: (.int v20) :: (.int v21) :: (.int ((q22 <<< ((8 : Int32) &&& 31)) ||| nI vv)) :: (.ref ml) :: (.ref bg) :: (.ref co) :: (.ref sp) :: (.ref nb0) :: (.ref nb1) :: (.ref nb2) :: (.int (nI nf)) :: (.int (nI bd)) :: (.int (nI mm)) :: (.int v33) :: (.ref pl) :: (.ref se) :: (.ref ke) :: (.ref wi) :: (.ref hs) :: (.ref mo) :: (.ref po) :: (.ref nu) :: (.ref pr) :: (.ref sq) :: (.ref xa) :: (.ref sa) :: (.ref n64) :: (.ref m64) :: (.ref ex) :: (.ref wh) :: (.ref sd) :: (.ref tk) :: (.int v52) :: (.int v53) :: (.int v54) :: (.ref hd) :: (.ref ak) :: (.ref ho) :: (.ref ot) :: [])) ∧ va_P (dC, dI) vwCl (va_pl L G) H ∧ va_D A (va_pl L G) ∧ OKm cs ty gm L G ∧ FR ty [ρ] F G := ⟨_, rfl, hP, hD, hO.up (shm.mod hT_h0 ⟨v14, v15, v17, v18, v19, v20, v21, ((q22 <<< ((8 : Int32) &&& 31)) ||| nI vv), v33, v52, v53, v54, rfl, (by first | omega | assumption | exact Or.inl rfl | exact Or.inr rfl), (by first | omega | assumption | exact Or.inl rfl | exact Or.inr rfl), (by first | omega | assumption | exact Or.inl rfl | exact Or.inr rfl), (by first | omega | assumption | exact Or.inl rfl | exact Or.inr rfl), (by first | omega | assumption | exact Or.inl rfl | exact Or.inr rfl)⟩), hR.up hT_h0 (by simp)⟩
          have hF_58 : F_56 h0 = .inr (15, (.ref ta) :: (.int (nI zt)) :: (.int (nI zo)) :: (.int (nI ze)) :: (.ref ou) :: (.ref so) :: (.ref ad) :: (.ref na) :: (.ref va) :: (.ref lc) :: (.ref dm) :: (.int (nI fm)) :: (.int (nI sn)) :: (.ref tg) :: (.int v14) :: (.int v15) :: (.ref pe) :: (.int v17) :: (.int v18) :: (.int v19) :: (.int v20) :: (.int v21) :: (.int ((q22 <<< ((8 : Int32) &&& 31)) ||| nI vv)) :: (.ref ml) :: (.ref bg) :: (.ref co) :: (.ref sp) :: (.ref nb0) :: (.ref nb1) :: (.ref nb2) :: (.int (nI nf)) :: (.int (nI bd)) :: (.int (nI mm)) :: (.int v33) :: (.ref pl) :: (.ref se) :: (.ref ke) :: (.ref wi) :: (.ref hs) :: (.ref mo) :: (.ref po) :: (.ref nu) :: (.ref pr) :: (.ref sq) :: (.ref xa) :: (.ref sa) :: (.ref n64) :: (.ref m64) :: (.ref ex) :: (.ref wh) :: (.ref sd) :: (.ref tk) :: (.int v52) :: (.int v53) :: (.int v54) :: (.ref hd) :: (.ref ak) :: (.ref ho) :: (.ref ot) :: []) := by rw [he_57]; exact up_self
          have hF_59 : F_56 g1 = .inl (cs 17, 700, .inl fv) := by rw [he_57, up_ne (ne_ty hT_g1 hT_h0 (by simp))]; exact hF_39
          refine lv_iinc (v := (nI (np + 1))) (lv' := [(4, .int (nI (np + 1))), (7, .int (nI j)), (6, .int (nI vv)), (5, .int (nI dg)), (0, .ref h0), (1, .ref g1), (2, .int (nI a)), (3, .int (nI tt))]) hx hb dX15_isQuad_109 hl (k := 3) rfl (nI_1 _) (by decide) rfl (fun ls hl => ?_)
          refine lv_iconst (v := 0) hx hb dX15_isQuad_112 (by decide) ?_
          refine lv_istore (lv' := [(5, .int 0), (4, .int (nI (np + 1))), (7, .int (nI j)), (6, .int (nI vv)), (0, .ref h0), (1, .ref g1), (2, .int (nI a)), (3, .int (nI tt))]) hx hb dX15_isQuad_113 hl (by decide) rfl (fun ls hl => ?_)
          refine lv_iconst (v := 0) hx hb dX15_isQuad_115 (by decide) ?_
          refine lv_istore (lv' := [(6, .int 0), (5, .int 0), (4, .int (nI (np + 1))), (7, .int (nI j)), (0, .ref h0), (1, .ref g1), (2, .int (nI a)), (3, .int (nI tt))]) hx hb dX15_isQuad_116 hl (by decide) rfl (fun ls hl => ?_)
          refine lv_iinc (v := (nI (j + 1))) (lv' := [(7, .int (nI (j + 1))), (6, .int 0), (5, .int 0), (4, .int (nI (np + 1))), (0, .ref h0), (1, .ref g1), (2, .int (nI a)), (3, .int (nI tt))]) hx hb dX15_isQuad_118 hl (k := 3) rfl (nI_1 _) (by decide) rfl (fun ls hl => ?_)
          refine lv_goto (tgt := 17) hx hb dX15_isQuad_121 (by decide) ?_
          refine W.widen (k := 0) (n := 0) (by omega) (by omega) ?_
          exact ih_38 ((j + 1), (np + 1), 0, 0, ((q22 <<< ((8 : Int32) &&& 31)) ||| nI vv)) F_56 (⟨⟨by omega, by omega, by omega, by omega⟩, qdg_0, hF_58, qd_b hv6 (by omega) hnd hok⟩) (by show tt + 1 - (j + 1) < tt + 1 - j; omega) hO hR _ _ hP hD hS ls (lv_sub hl [0, 1, 2, 3, 4, 5, 6, 7] rfl)
        ·
          have hi_60 : 255 < vv := Nat.not_le.mp (fun q => c_52 ((nI_leI (a := vv) (b := 255) (by omega) (by omega)).mpr q))
          refine lv_iconst (v := 0) hx hb dX15_isQuad_93 (by decide) ?_
          refine W.widen (k := 0) (n := 0) (by omega) (by omega) ?_
          exact W.zret (v := 0) (ty := .boolean) hx hb hr (by decide) (fun t ht hWm => ⟨⟨0, q22, rfl, (Or.inr ⟨rfl, qd_n4 (qd_b0 hv6 (by omega) hnd (Or.inr (Or.inr (by omega))))⟩), ⟨F_35, QTm.mk ht hP hD hO hR, hv5⟩⟩, hS.F ht⟩) hS.2.2 dX15_isQuad_94
    ·
      have hi_61 : j < tt := ltN (N := tt) c_46
      refine lv_aload_n hx hb dX15_isQuad_29 rfl (lv_at hl 5 rfl) ?_
      refine lv_iload hx hb dX15_isQuad_30 (lv_at hl 0 rfl) ?_
      refine pg_bald hx hb hK hP hL_g1 1 hF_39 rfl (vp_in_nI (by omega) (by omega)) dX15_isQuad_32 ?_
      refine lv_topi (fun x_62 ex_62 => ?_)
      obtain rfl : x_62 = fv j := ex_62.trans (congrArg fv (show ((nI j) : Int32).toNatClampNeg = j from nI_clamp (by omega)))
      have hFc := pg_free hD hS hA
      refine va_calli (va_runS (As := [.int (fv j)]) (rest := []) ⟨hx, hb, hml, hown, hts⟩ (s_X15_isDigit_e l dC dI cs ty gm L H.size F_35 (fv j) hW ) ⟨callB_of 1 hts (gi kt_687) rfl rfl rfl (hts _ kt_669) (hts _ kt_707) (by decide +kernel) ⟨Nat.le_of_ble_eq_true rfl, Nat.le_of_ble_eq_true rfl⟩, (hts _ kt_688)⟩ ⟨fun a U g mk q => ⟨q.1, PTm.calling q.2⟩, fun U hU hWm => ⟨rfl, PTm.mk hU hWm hP hK hD hE hO⟩⟩ rfl rfl hl.1 rfl (lv_room (Nat.le_of_ble_eq_true rfl)) dX15_isQuad_33 ⟨by show _ + 0 ≤ 0; omega, by show _ + 0 ≤ 0; omega⟩) hS (fun q _ h => hFc q h) hFc (fun r_63 u t H1 locs ht hvm hw hB hz1 hk1 hS => ?_)
      obtain ⟨F_64, hB1⟩ := hB
      obtain rfl : F_35 = F_64 := (funext (fun a => hB1.2.2.2 a List.not_mem_nil)).symm
      obtain ⟨hP, hD, hO, hR⟩ := QTm.back hB1 ht hFc hR (fun q h => absurd h List.not_mem_nil)
      generalize H1 = H at hP hS ⊢
      have hw : r_63 = (if 48 ≤ (fv j) ∧ (fv j) ≤ 57 then 1 else 0) := hw
      have hw_65 := hw
      refine lv_if_eq (tgt := 65) hx hb dX15_isQuad_36 (by decide) (fun c_66 => ?_) (fun c_66 => ?_)
      ·
        have hnd : ¬ (j < tt ∧ (48 ≤ (TC fv z) j ∧ (TC fv z) j ≤ 57)) := fun q => absurd q.2 (by rw [tc_at (show j < z by omega)]; exact sme_n hw_65 c_66)
        refine lv_iload hx hb dX15_isQuad_65 (lv_at hl 0 rfl) ?_
        refine lv_iload_n hx hb dX15_isQuad_67 rfl (lv_at hl 7 rfl) ?_
        refine lv_icmp_ge (tgt := 80) hx hb dX15_isQuad_68 (by decide) (fun c_67 => absurd c_67 (fun q => absurd ((nI_leI (by omega) (by omega)).mp q) (by omega))) (fun c_67 => ?_)
        refine lv_aload_n hx hb dX15_isQuad_71 rfl (lv_at hl 5 rfl) ?_
        refine lv_iload hx hb dX15_isQuad_72 (lv_at hl 0 rfl) ?_
        refine pg_bald hx hb hK hP hL_g1 1 hF_39 rfl (vp_in_nI (by omega) (by omega)) dX15_isQuad_74 ?_
        refine lv_topi (fun x_68 ex_68 => ?_)
        obtain rfl : x_68 = fv j := ex_68.trans (congrArg fv (show ((nI j) : Int32).toNatClampNeg = j from nI_clamp (by omega)))
        refine lv_bipush (v := 46) hx hb dX15_isQuad_75 (by decide) ?_
        refine lv_icmp_ne (tgt := 93) hx hb dX15_isQuad_77 (by decide) (fun c_69 => ?_) (fun c_69 => ?_)
        ·
          refine lv_iconst (v := 0) hx hb dX15_isQuad_93 (by decide) ?_
          refine W.widen (k := 0) (n := 0) (by omega) (by omega) ?_
          exact W.zret (v := 0) (ty := .boolean) hx hb hr (by decide) (fun t ht hWm => ⟨⟨0, q22, rfl, (Or.inr ⟨rfl, qd_n4 (qd_b0 hv6 (by omega) hnd (Or.inl ⟨by omega, fun q => c_69 ((tc_eq (by omega) (by first | decide | omega)).mp q)⟩))⟩), ⟨F_35, QTm.mk ht hP hD hO hR, hv5⟩⟩, hS.F ht⟩) hS.2.2 dX15_isQuad_94
        ·
          refine lv_iload hx hb dX15_isQuad_80 (lv_at hl 2 rfl) ?_
          refine lv_if_eq (tgt := 93) hx hb dX15_isQuad_82 (by decide) (fun c_70 => ?_) (fun c_70 => ?_)
          ·
            have hi_71 : dg = 0 := (nI_eq (a := dg) (b := 0) (by omega) (by omega)).mp c_70
            refine lv_iconst (v := 0) hx hb dX15_isQuad_93 (by decide) ?_
            refine W.widen (k := 0) (n := 0) (by omega) (by omega) ?_
            exact W.zret (v := 0) (ty := .boolean) hx hb hr (by decide) (fun t ht hWm => ⟨⟨0, q22, rfl, (Or.inr ⟨rfl, qd_n4 (qd_b0 hv6 (by omega) hnd (Or.inr (Or.inl ((nI_eq (b := 0) (by omega) (by omega)).mp c_70))))⟩), ⟨F_35, QTm.mk ht hP hD hO hR, hv5⟩⟩, hS.F ht⟩) hS.2.2 dX15_isQuad_94
          ·
            have hi_72 : dg ≠ 0 := fun q => c_70 (by rw [q]; rfl)
            refine lv_iload hx hb dX15_isQuad_85 (lv_at hl 1 rfl) ?_
            refine lv_sipush (v := 255) hx hb dX15_isQuad_87 (by decide) ?_
            refine lv_icmp_le (tgt := 95) hx hb dX15_isQuad_90 (by decide) (fun c_73 => ?_) (fun c_73 => ?_)
            ·
              have hi_74 : vv ≤ 255 := (nI_leI (a := vv) (b := 255) (by omega) (by omega)).mp c_73
              have hok : ¬ ((j < tt ∧ ¬ (TC fv z) j = 46) ∨ dg = 0 ∨ 255 < vv) := fun q => by rcases q with q | q | q; exact (fun q => q.2 ((tc_eq (by omega) (by first | decide | omega)).mpr c_69)) q; exact c_70 (by rw [q]; rfl); omega
              refine lv_aload_n hx hb dX15_isQuad_95 rfl (lv_at hl 4 rfl) ?_
              refine lv_aload_n hx hb dX15_isQuad_96 rfl (lv_at hl 4 rfl) ?_
              refine pg_get (ci := 15) (v := .int q22) (C := RX15) (T := TX15) (N := 59) hx hb hts it_15 hown hK hP hL_h0 hv5 rfl 22 (by decide) (hts _ kt_745) (fun _ h9 => h9) rfl dX15_isQuad_97 ?_
              refine lv_bipush (v := 8) hx hb dX15_isQuad_100 (by decide) ?_
              refine lv_ishl hx hb dX15_isQuad_102 ?_
              refine lv_topi (fun x_75 ex_75 => ?_)
              obtain rfl : x_75 = (q22 <<< ((8 : Int32) &&& 31)) := ex_75.trans (rfl)
              refine lv_iload hx hb dX15_isQuad_103 (lv_at hl 1 rfl) ?_
              refine lv_ior hx hb dX15_isQuad_105 ?_
              refine lv_topi (fun x_76 ex_76 => ?_)
              obtain rfl : x_76 = ((q22 <<< ((8 : Int32) &&& 31)) ||| nI vv) := ex_76.trans (rfl)
              refine pg_put (ci := 15) (v := .int ((q22 <<< ((8 : Int32) &&& 31)) ||| nI vv)) (ty := .int) (C := RX15) (T := TX15) (N := 59) hx hb hts it_15 tyX15 tyX15_ok nmX15 hown hK hP hD hS hL_h0 hv5 rfl 22 (by decide) (hts _ kt_745) (fun _ h9 => h9) rfl (by decide +kernel) (rfl) (rfl) (Nat.le_of_ble_eq_true rfl) dX15_isQuad_106 (fun H locs hP hD hS => ?_)
              obtain ⟨F_77, he_78, hP, hD, hO, hR⟩ : ∃ G, G = va_up F_35 h0 (.inr (15, (.ref ta) :: (.int (nI zt)) :: (.int (nI zo)) :: (.int (nI ze)) :: (.ref ou) :: (.ref so) :: (.ref ad) :: (.ref na) :: (.ref va) :: (.ref lc) :: (.ref dm) :: (.int (nI fm)) :: (.int (nI sn)) :: (.ref tg) :: (.int v14) :: (.int v15) :: (.ref pe) :: (.int v17) :: (.int v18) :: (.int v19) :: (.int v20) :: (.int v21) :: (.int ((q22 <<< ((8 : Int32) &&& 31)) ||| nI vv)) :: (.ref ml) :: (.ref bg) :: (.ref co) :: (.ref sp) :: (.ref nb0) :: (.ref nb1) :: (.ref nb2) :: (.int (nI nf)) :: (.int (nI bd)) :: (.int (nI mm)) :: (.int v33) :: (.ref pl) :: (.ref se) :: (.ref ke) :: (.ref wi) :: (.ref hs) :: (.ref mo) :: (.ref po) :: (.ref nu) :: (.ref pr) :: (.ref sq) :: (.ref xa) :: (.ref sa) :: (.ref n64) :: (.ref m64) :: (.ref ex) :: (.ref wh) :: (.ref sd) :: (.ref tk) :: (.int v52) :: (.int v53) :: (.int v54) :: (.ref hd) :: (.ref ak) :: (.ref ho) :: (.ref ot) :: [])) ∧ va_P (dC, dI) vwCl (va_pl L G) H ∧ va_D A (va_pl L G) ∧ OKm cs ty gm L G ∧ FR ty [ρ] F G := ⟨_, rfl, hP, hD, hO.up (shm.mod hT_h0 ⟨v14, v15, v17, v18, v19, v20, v21, ((q22 <<< ((8 : Int32) &&& 31)) ||| nI vv), v33, v52, v53, v54, rfl, (by first | omega | assumption | exact Or.inl rfl | exact Or.inr rfl), (by first | omega | assumption | exact Or.inl rfl | exact Or.inr rfl), (by first | omega | assumption | exact Or.inl rfl | exact Or.inr rfl), (by first | omega | assumption | exact Or.inl rfl | exact Or.inr rfl), (by first | omega | assumption | exact Or.inl rfl | exact Or.inr rfl)⟩), hR.up hT_h0 (by simp)⟩
              have hF_79 : F_77 h0 = .inr (15, (.ref ta) :: (.int (nI zt)) :: (.int (nI zo)) :: (.int (nI ze)) :: (.ref ou) :: (.ref so) :: (.ref ad) :: (.ref na) :: (.ref va) :: (.ref lc) :: (.ref dm) :: (.int (nI fm)) :: (.int (nI sn)) :: (.ref tg) :: (.int v14) :: (.int v15) :: (.ref pe) :: (.int v17) :: (.int v18) :: (.int v19) :: (.int v20) :: (.int v21) :: (.int ((q22 <<< ((8 : Int32) &&& 31)) ||| nI vv)) :: (.ref ml) :: (.ref bg) :: (.ref co) :: (.ref sp) :: (.ref nb0) :: (.ref nb1) :: (.ref nb2) :: (.int (nI nf)) :: (.int (nI bd)) :: (.int (nI mm)) :: (.int v33) :: (.ref pl) :: (.ref se) :: (.ref ke) :: (.ref wi) :: (.ref hs) :: (.ref mo) :: (.ref po) :: (.ref nu) :: (.ref pr) :: (.ref sq) :: (.ref xa) :: (.ref sa) :: (.ref n64) :: (.ref m64) :: (.ref ex) :: (.ref wh) :: (.ref sd) :: (.ref tk) :: (.int v52) :: (.int v53) :: (.int v54) :: (.ref hd) :: (.ref ak) :: (.ref ho) :: (.ref ot) :: []) := by rw [he_78]; exact up_self
              have hF_80 : F_77 g1 = .inl (cs 17, 700, .inl fv) := by rw [he_78, up_ne (ne_ty hT_g1 hT_h0 (by simp))]; exact hF_39
              refine lv_iinc (v := (nI (np + 1))) (lv' := [(4, .int (nI (np + 1))), (7, .int (nI j)), (6, .int (nI vv)), (5, .int (nI dg)), (0, .ref h0), (1, .ref g1), (2, .int (nI a)), (3, .int (nI tt))]) hx hb dX15_isQuad_109 hl (k := 3) rfl (nI_1 _) (by decide) rfl (fun ls hl => ?_)
              refine lv_iconst (v := 0) hx hb dX15_isQuad_112 (by decide) ?_
              refine lv_istore (lv' := [(5, .int 0), (4, .int (nI (np + 1))), (7, .int (nI j)), (6, .int (nI vv)), (0, .ref h0), (1, .ref g1), (2, .int (nI a)), (3, .int (nI tt))]) hx hb dX15_isQuad_113 hl (by decide) rfl (fun ls hl => ?_)
              refine lv_iconst (v := 0) hx hb dX15_isQuad_115 (by decide) ?_
              refine lv_istore (lv' := [(6, .int 0), (5, .int 0), (4, .int (nI (np + 1))), (7, .int (nI j)), (0, .ref h0), (1, .ref g1), (2, .int (nI a)), (3, .int (nI tt))]) hx hb dX15_isQuad_116 hl (by decide) rfl (fun ls hl => ?_)
              refine lv_iinc (v := (nI (j + 1))) (lv' := [(7, .int (nI (j + 1))), (6, .int 0), (5, .int 0), (4, .int (nI (np + 1))), (0, .ref h0), (1, .ref g1), (2, .int (nI a)), (3, .int (nI tt))]) hx hb dX15_isQuad_118 hl (k := 3) rfl (nI_1 _) (by decide) rfl (fun ls hl => ?_)
              refine lv_goto (tgt := 17) hx hb dX15_isQuad_121 (by decide) ?_
              refine W.widen (k := 0) (n := 0) (by omega) (by omega) ?_
              exact ih_38 ((j + 1), (np + 1), 0, 0, ((q22 <<< ((8 : Int32) &&& 31)) ||| nI vv)) F_77 (⟨⟨by omega, by omega, by omega, by omega⟩, qdg_0, hF_79, qd_b hv6 (by omega) hnd hok⟩) (by show tt + 1 - (j + 1) < tt + 1 - j; omega) hO hR _ _ hP hD hS ls (lv_sub hl [0, 1, 2, 3, 4, 5, 6, 7] rfl)
            ·
              have hi_81 : 255 < vv := Nat.not_le.mp (fun q => c_73 ((nI_leI (a := vv) (b := 255) (by omega) (by omega)).mpr q))
              refine lv_iconst (v := 0) hx hb dX15_isQuad_93 (by decide) ?_
              refine W.widen (k := 0) (n := 0) (by omega) (by omega) ?_
              exact W.zret (v := 0) (ty := .boolean) hx hb hr (by decide) (fun t ht hWm => ⟨⟨0, q22, rfl, (Or.inr ⟨rfl, qd_n4 (qd_b0 hv6 (by omega) hnd (Or.inr (Or.inr (by omega))))⟩), ⟨F_35, QTm.mk ht hP hD hO hR, hv5⟩⟩, hS.F ht⟩) hS.2.2 dX15_isQuad_94
      ·
        have hdg : 48 ≤ (TC fv z) j ∧ (TC fv z) j ≤ 57 := by rw [tc_at (show j < z by omega)]; exact sme_d hw_65 c_66
        have hcd : fv j = nI ((TC fv z) j) := tc_in (by omega) (by omega)
        refine lv_bipush (v := 10) hx hb dX15_isQuad_39 (by decide) ?_
        refine lv_iload hx hb dX15_isQuad_41 (lv_at hl 1 rfl) ?_
        refine lv_imul hx hb dX15_isQuad_43 ?_
        refine lv_topi (fun x_82 ex_82 => ?_)
        obtain rfl : x_82 = (nI (10 * vv)) := ex_82.trans (pk_mul 10 vv)
        refine lv_aload_n hx hb dX15_isQuad_44 rfl (lv_at hl 5 rfl) ?_
        refine lv_iload hx hb dX15_isQuad_45 (lv_at hl 0 rfl) ?_
        refine pg_bald hx hb hK hP hL_g1 1 hF_39 rfl (vp_in_nI (by omega) (by omega)) dX15_isQuad_47 ?_
        refine lv_topi (fun x_83 ex_83 => ?_)
        obtain rfl : x_83 = fv j := ex_83.trans (congrArg fv (show ((nI j) : Int32).toNatClampNeg = j from nI_clamp (by omega)))
        refine lv_iadd hx hb dX15_isQuad_48 ?_
        refine lv_topi (fun x_84 ex_84 => ?_)
        obtain rfl : x_84 = (nI (vv * 10 + (TC fv z) j)) := ex_84.trans ((congrArg (fun q => nI (10 * vv) + q) hcd).trans ((nI_add (10 * vv) ((TC fv z) j)).trans (by rw [Nat.mul_comm 10 vv])))
        refine lv_bipush (v := 48) hx hb dX15_isQuad_49 (by decide) ?_
        refine lv_isub hx hb dX15_isQuad_51 ?_
        refine lv_topi (fun x_85 ex_85 => ?_)
        obtain rfl : x_85 = (nI (vv * 10 + (TC fv z) j - 48)) := ex_85.trans (pk_sub (b := 48) (by omega))
        refine lv_istore (lv' := [(6, .int (nI (vv * 10 + (TC fv z) j - 48))), (7, .int (nI j)), (5, .int (nI dg)), (4, .int (nI np)), (0, .ref h0), (1, .ref g1), (2, .int (nI a)), (3, .int (nI tt))]) hx hb dX15_isQuad_52 hl (by decide) rfl (fun ls hl => ?_)
        refine lv_iinc (v := (nI (dg + 1))) (lv' := [(5, .int (nI (dg + 1))), (6, .int (nI (vv * 10 + (TC fv z) j - 48))), (7, .int (nI j)), (4, .int (nI np)), (0, .ref h0), (1, .ref g1), (2, .int (nI a)), (3, .int (nI tt))]) hx hb dX15_isQuad_54 hl (k := 2) rfl (nI_1 _) (by decide) rfl (fun ls hl => ?_)
        refine lv_iload hx hb dX15_isQuad_57 (lv_at hl 0 rfl) ?_
        refine lv_iconst (v := 3) hx hb dX15_isQuad_59 (by decide) ?_
        refine lv_icmp_le (tgt := 118) hx hb dX15_isQuad_60 (by decide) (fun c_86 => ?_) (fun c_86 => ?_)
        ·
          have hi_87 : (dg + 1) ≤ 3 := (nI_leI (a := (dg + 1)) (b := 3) (by omega) (by omega)).mp c_86
          refine lv_iinc (v := (nI (j + 1))) (lv' := [(7, .int (nI (j + 1))), (5, .int (nI (dg + 1))), (6, .int (nI (vv * 10 + (TC fv z) j - 48))), (4, .int (nI np)), (0, .ref h0), (1, .ref g1), (2, .int (nI a)), (3, .int (nI tt))]) hx hb dX15_isQuad_118 hl (k := 2) rfl (nI_1 _) (by decide) rfl (fun ls hl => ?_)
          refine lv_goto (tgt := 17) hx hb dX15_isQuad_121 (by decide) ?_
          refine W.widen (k := 0) (n := 0) (by omega) (by omega) ?_
          exact ih_38 ((j + 1), np, (dg + 1), (vv * 10 + (TC fv z) j - 48), q22) F_35 (⟨⟨by omega, by omega, by omega, by omega⟩, qdg_s hv4 hdg (by omega), hv5, qd_a hv6 (by omega) hdg (by omega)⟩) (by show tt + 1 - (j + 1) < tt + 1 - j; omega) hO hR _ _ hP hD hS ls (lv_sub hl [0, 2, 1, 3, 4, 5, 6, 7] rfl)
        ·
          have hi_88 : 3 < (dg + 1) := Nat.not_le.mp (fun q => c_86 ((nI_leI (a := (dg + 1)) (b := 3) (by omega) (by omega)).mpr q))
          refine lv_iconst (v := 0) hx hb dX15_isQuad_63 (by decide) ?_
          refine W.widen (k := 0) (n := 0) (by omega) (by omega) ?_
          exact W.zret (v := 0) (ty := .boolean) hx hb hr (by decide) (fun t ht hWm => ⟨⟨0, q22, rfl, (Or.inr ⟨rfl, qd_n4 (qd_a0 hv6 (by omega) hdg (by omega))⟩), ⟨F_35, QTm.mk ht hP hD hO hR, hv5⟩⟩, hS.F ht⟩) hS.2.2 dX15_isQuad_64
