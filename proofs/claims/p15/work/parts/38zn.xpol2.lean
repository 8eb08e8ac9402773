noncomputable def otv (Q : ETY → Prop) (D : Nat → ETY) : Nat → Int32
  | 0 => (-1)
  | j + 1 => @ite Int32 (Q (D j)) (Classical.propDecidable _) (if otv Q D j = (-1) then nI j else (-2)) (otv Q D j)
theorem otv_s {Q : ETY → Prop} {D : Nat → ETY} {j : Nat} : otv Q D (j + 1) = @ite Int32 (Q (D j)) (Classical.propDecidable _) (if otv Q D j = (-1) then nI j else (-2)) (otv Q D j) := rfl
theorem otv_n {Q : ETY → Prop} {D : Nat → ETY} {j : Nat} {x : Int32} (h : x = otv Q D j) (h1 : ¬ Q (D j)) : x = otv Q D (j + 1) := h.trans (if_neg h1).symm
theorem otv_f {Q : ETY → Prop} {D : Nat → ETY} {j : Nat} {x : Int32} (h : x = otv Q D j) (h1 : Q (D j)) (h2 : x = (-1)) : nI j = otv Q D (j + 1) := ((if_pos h1).trans (if_pos (h ▸ h2))).symm
theorem otv_m {Q : ETY → Prop} {D : Nat → ETY} {j : Nat} {x : Int32} (h : x = otv Q D j) (h1 : Q (D j)) (h2 : ¬ x = (-1)) : (-2) = otv Q D (j + 1) := ((if_pos h1).trans (if_neg (h ▸ h2))).symm
theorem otv_cg {Q P : ETY → Prop} {D : Nat → ETY} (h : ∀ d, Q d ↔ P d) : ∀ n, otv Q D n = otv P D n := by
  intro n
  induction n with
  | zero => rfl
  | succ n ih =>
    rw [otv_s, otv_s, ih]
    by_cases c : Q (D n)
    · rw [if_pos c, if_pos ((h _).mp c)]
    · rw [if_neg c, if_neg (fun q => c ((h _).mpr q))]
theorem otv_ge {Q : ETY → Prop} {D : Nat → ETY} : ∀ n, ¬ otv Q D n < 0 → ∃ j, j < n ∧ otv Q D n = nI j ∧ Q (D j) := by
  intro n
  induction n with
  | zero =>
    intro h
    exact absurd (show (-1 : Int32) < 0 by decide) h
  | succ n ih =>
    intro h
    rw [otv_s] at h ⊢
    by_cases c : Q (D n)
    · rw [if_pos c] at h ⊢
      by_cases d : otv Q D n = (-1)
      · rw [if_pos d]
        exact ⟨n, by omega, rfl, c⟩
      · rw [if_neg d] at h
        exact absurd (show (-2 : Int32) < 0 by decide) h
    · rw [if_neg c] at h ⊢
      obtain ⟨j, h1, h2, h3⟩ := ih h
      exact ⟨j, by omega, h2, h3⟩
def OTR (oo : Int32) (y : Nat) (fa : Nat → Int32) (k : Nat) (l : List Nat) (d : ETY) : Prop := d.1 = 0 ∧ SAMN d oo y fa ∧ BGW (TC d.2.2.2.2.2 d.2.2.2.2.1) 0 d.2.2.2.2.1 k l
theorem otr_u {oo : Int32} {y k : Nat} {fa : Nat → Int32} {l U : List Nat} (h : TGA U 60 y oo fa) (d : ETY) : OTR oo y fa k l d ↔ OTR (ooU U) (yU U) (faU U) k l d := by
  obtain ⟨h1, h2, h3⟩ := h
  have e1 : y = yU U := h1
  have e2 : oo = ooU U := h2
  subst e1
  subst e2
  unfold OTR
  rw [samn_cg (d := d) (oo := ooU U) (fb := faU U) h3]
theorem cnt_ex {P : Nat → Prop} : ∀ n w, CNT P n w → 0 < w → ∃ i, i < n ∧ P i := by
  intro n
  induction n with
  | zero =>
    intro w h hw
    have h9 : w = 0 := h
    omega
  | succ n ih =>
    intro w h hw
    rcases h with ⟨h1, -⟩ | ⟨h1, h2⟩
    · exact ⟨n, by omega, h1⟩
    · obtain ⟨i, q1, q2⟩ := ih w h2 hw
      exact ⟨i, by omega, q2⟩
def LNO : List Nat := [110, 111, 110, 101]
def LQU : List Nat := [113, 117, 97, 114, 97, 110, 116, 105, 110, 101]
def LRJ : List Nat := [114, 101, 106, 101, 99, 116]
noncomputable def wnW (T : Nat → Nat) (g : Nat → Nat → Nat) (n : Nat) (l : List Nat) : Nat := @ite Nat (TGV T g n l LNO) (Classical.propDecidable _) 7 (@ite Nat (TGV T g n l LQU) (Classical.propDecidable _) 8 (@ite Nat (TGV T g n l LRJ) (Classical.propDecidable _) 9 6))
theorem wnW_le {T : Nat → Nat} {g : Nat → Nat → Nat} {n : Nat} {l : List Nat} : wnW T g n l ≤ 9 := by
  unfold wnW
  by_cases c1 : TGV T g n l LNO
  · rw [if_pos c1]
    omega
  · rw [if_neg c1]
    by_cases c2 : TGV T g n l LQU
    · rw [if_pos c2]
      omega
    · rw [if_neg c2]
      by_cases c3 : TGV T g n l LRJ
      · rw [if_pos c3]
        omega
      · rw [if_neg c3]
        omega
noncomputable def rsW (T : Nat → Nat) (own : Int32) : Option TGG → Int32
  | none => 6
  | some gg => if wnW T gg.2 gg.1 [112] = 6 then 6 else @ite Int32 (own = 0 ∧ TGE T gg.2 gg.1 [115, 112]) (Classical.propDecidable _) (if wnW T gg.2 gg.1 [115, 112] = 6 then 6 else (-1)) (-1)
noncomputable def rrW (T : Nat → Nat) (z : Nat) (own : Int32) : Int32 := rsW (flT T 0 (z - 0)) own (tgT (flT T 0 (z - 0)) (flI T 0 (z - 0)).length)
def DMS : List Nat := [118, 61, 68, 77, 65, 82, 67, 49]
def DMU (V : List Nat) (hs : Nat) : List Nat := [95, 100, 109, 97, 114, 99, 46] ++ rgL V hs (V.length - hs)
noncomputable def otU (D : Nat → ETY) (ze : Nat) (U : List Nat) : Int32 := otv (OTR (ooU U) (yU U) (faU U) 8 DMS) D ze
noncomputable def rvU (D : Nat → ETY) (x own : Int32) : Int32 := rrW (TC (D x.toNatClampNeg).2.2.2.2.2 (D x.toNatClampNeg).2.2.2.2.1) (D x.toNatClampNeg).2.2.2.2.1 own
noncomputable def hsU (D : Nat → ETY) (ze : Nat) (V : List Nat) : Nat := HST (UND (faU V) V.length) (faU V) V.length D ze
noncomputable def pvW (D : Nat → ETY) (ze : Nat) (V : List Nat) : Int32 := @ite Int32 (HAS D ze 3 (ooU (DMU V 0)) (yU (DMU V 0)) (faU (DMU V 0))) (Classical.propDecidable _) 5 (if ¬ otU D ze (DMU V 0) < 0 then rvU D (otU D ze (DMU V 0)) 1 else @ite Int32 (HAS D ze 3 (ooU (DMU V (hsU D ze V))) (yU (DMU V (hsU D ze V))) (faU (DMU V (hsU D ze V)))) (Classical.propDecidable _) 5 (if otU D ze (DMU V (hsU D ze V)) < 0 then 0 else rvU D (otU D ze (DMU V (hsU D ze V))) 0))
noncomputable def psW (D : Nat → ETY) (ze : Nat) : Option (List Nat) → Int32
  | none => 1
  | some V => pvW D ze V
def PLR (P : Nat → Prop) (n : Nat) (Z : Nat → Int32) (r : Int32) : Prop := ∃ w, CNT P n w ∧ ((¬ w = 1 ∧ r = 1) ∨ (w = 1 ∧ ∃ j, j < n ∧ P j ∧ (∀ i, i < j → ¬ P i) ∧ r = Z j))
set_option maxHeartbeats 4000000 in
set_option maxRecDepth 100000 in
theorem s_X2_onlyText_f (l : Launch) (dC : Nat → ClassId) (dI : Nat → Nat → Nat) (cs : Nat → ClassId) (ty : TyM) (L : List Nat) (sz : Nat) (F : Nat → va_E) (h0 : Nat) (ρ : Nat) (ea : Nat) (g1 : Nat) (σ : Nat) (r1 : Nat) (n1 : Nat) (q : Nat) (v : Nat) (k0 : Nat) (C : Nat → Int32) (y : Nat) (cn : Nat) (fa : Nat → Int32) (D : Nat → ETY) (oo : Int32) (ll : List Nat) (hW : WT ty L) (hL_h0 : h0 ∈ L) (hT_h0 : ty h0 = (2, ρ, [ea])) (hL_g1 : g1 ∈ L) (hT_g1 : ty g1 = (0, σ, [r1, n1])) (hFd : F h0 = .inr (2, [.ref ea, .int (nI cn)])) (hcn : cn ≤ 40) (hFg : F g1 = .inr (0, [.ref r1, .int (nI y), .int oo])) (hFr1 : F r1 = .inl (cs 16, n1, .inl fa)) (hyn : y ≤ n1) (hm9 : n1 ≤ 10000) (hDI : DIRC cs F ea cn D) (hCL : CLI C k0 ll) : Met l yX2_onlyText (.code yX2_onlyText cX2_onlyText 7 (some .int) :: tb) ({ frames := 6, cells := 0, slots := 0, locals := 132 }) (va_Pc [.ref h0, .ref g1, .ref q, .int 0] (PTC (dC, dI) cs ty L F sz q v k0 C)) (va_Qi (fun (r : Int32) (_ : Unit) => r = otv (OTR oo y fa k0 ll) D cn) (fun _ T9 => ∃ F2 : Nat → va_E, QT (dC, dI) cs ty L [] F F2 (va_A (va_pl L F) sz) T9) (va_A (va_pl L F) sz)) 0 0 (va_A (va_pl L F) sz) := by
  refine Met.ofW (cc := cX2_onlyText) (maxL := 7) (ret := (some .int)) (by decide) rfl ?_
  intro p e s m args below meth c s₁ B hml hv
  obtain ⟨rfl, ⟨hsz, hP, hK, hD0, hE, hO⟩, hG, hX⟩ := hv
  have hx := B.exec
  have hb := B.bytes
  have hr := B.returns
  have hts : ∀ w ∈ tb, w.before _ s = true := fun w h => atoms_spec (ws := .code yX2_onlyText cX2_onlyText 7 (some .int) :: tb) B.pre w (List.mem_cons_of_mem _ h)
  have hown : s.vm.findClass RX2 = some m.cls := findClass_of_methodNamed B.named
  have hlocks := B.notSynchronized
  subst hsz
  have hD := hD0.self (sz := s.heap.size)
  generalize hAe : va_A (va_pl L F) s.heap.size = A at hD hG hX ⊢
  have hX_q : SX q v k0 A s s.heap := hX.sx
  obtain ⟨xo_q, xc_q, xv_q, xt_q, xn_q⟩ := id hX
  have hA : ∀ q : Nat, s.heap.size ≤ q → A q := fun q h => by rw [← hAe]; exact Or.inr h
  have hS : va_S A s.heap s.heap [] := va_S.rf
  have hR : FR ty [] F F := FR.refl
  have hl := lv_entry ([.ref h0, .ref g1, .ref q, .int 0]) (n := 7) (Nat.le_of_ble_eq_true rfl)
  rw [lg_entry_eq]
  generalize (lg_sl ([.ref h0, .ref g1, .ref q, .int 0]) ++ List.replicate (7 - (lg_sl ([.ref h0, .ref g1, .ref q, .int 0])).length) Slot.unset).toArray = ls at hl ⊢
  have hl : lv_has ls 7 [(0, .ref h0), (1, .ref g1), (2, .ref q), (3, .int 0)] := hl
  obtain ⟨hi_1, ht_2⟩ := hW.dir hL_h0 hT_h0
  obtain ⟨f_3, hF_4, hq_5⟩ := hO.rentry hi_1 ht_2
  obtain ⟨hi_6, ht_7, hq_8⟩ := hW.bytes hL_g1 hT_g1
  refine lv_iconst (v := (-1)) hx hb dX2_onlyText_0 (by decide) ?_
  refine lv_istore (lv' := [(4, .int (-1)), (0, .ref h0), (1, .ref g1), (2, .ref q), (3, .int 0)]) hx hb dX2_onlyText_1 hl (by decide) rfl (fun ls hl => ?_)
  refine lv_iconst (v := 0) hx hb dX2_onlyText_3 (by decide) ?_
  refine lv_istore (lv' := [(5, .int 0), (4, .int (-1)), (0, .ref h0), (1, .ref g1), (2, .ref q), (3, .int 0)]) hx hb dX2_onlyText_4 hl (by decide) rfl (fun ls hl => ?_)
  refine W.widen (k := 0) (n := 0) (by omega) (by omega) ?_
  refine pl_loop (σ := Nat × Int32) A (dC, dI) cs ty L [] F 6 7 (fun (j, w4) => [(5, .int (nI j)), (4, .int w4), (0, .ref h0), (1, .ref g1), (2, .ref q), (3, .int 0)]) (fun (j, w4) => []) (fun (j, w4) _ => j ≤ cn ∧ w4 = otv (OTR oo y fa k0 ll) D j) (fun (j, w4) => cn - j) ?_ (0, (-1)) F (⟨Nat.zero_le _, rfl⟩) hO hR _ _ hP hD hS ls (lv_sub hl [0, 1, 2, 3, 4, 5] rfl)
  rintro ⟨j, w4⟩ F_9 hv_10 hO hR ih_11 H locs hP hD hS ls hl
  have hl : lv_has ls 7 [(5, .int (nI j)), (4, .int w4), (0, .ref h0), (1, .ref g1), (2, .ref q), (3, .int 0)] := hl
  have hv_10 : j ≤ cn ∧ w4 = otv (OTR oo y fa k0 ll) D j := hv_10
  refine W.eq (g2 := F0 m 6 ls []) rfl ?_
  obtain rfl : F = F_9 := (funext (fun a => hR a List.not_mem_nil)).symm
  obtain ⟨hv1, hv2⟩ := id hv_10
  refine lv_iload hx hb dX2_onlyText_6 (lv_at hl 0 rfl) ?_
  refine lv_aload_n hx hb dX2_onlyText_8 rfl (lv_at hl 2 rfl) ?_
  refine pg_get (ci := 2) (v := .int (nI cn)) (C := RX2) (T := TX2) (N := 2) hx hb hts it_2 hown hK hP hL_h0 hFd rfl 1 (by decide) (hts _ kt_83) (fun _ h9 => h9) rfl dX2_onlyText_9 ?_
  refine lv_icmp_ge (tgt := 129) hx hb dX2_onlyText_12 (by decide) (fun c_12 => ?_) (fun c_12 => ?_)
  ·
    have hi_13 : cn ≤ j := leN (N := cn) c_12
    have hjc : j = cn := by have h9 : cn ≤ j := (nI_leI (by omega) (by omega)).mp c_12; omega
    refine lv_iload hx hb dX2_onlyText_129 (lv_at hl 1 rfl) ?_
    refine W.widen (k := 0) (n := 0) (by omega) (by omega) ?_
    exact W.iret (v := w4) hx hb hr (fun t ht hWm => ⟨⟨w4, (), rfl, (by rw [← hjc]; exact hv2), ⟨F, QT.mk ht hP hD hO hR⟩⟩, hS.F ht⟩) hS.2.2 dX2_onlyText_131
  ·
    have hi_14 : j < cn := ltN (N := cn) c_12
    have hjz : j < cn := Nat.not_le.mp (fun q => c_12 ((nI_leI (by omega) (by omega)).mpr q))
    refine lv_aload_n hx hb dX2_onlyText_15 rfl (lv_at hl 2 rfl) ?_
    refine pg_get (ci := 2) (v := .ref ea) (C := RX2) (T := TX2) (N := 2) hx hb hts it_2 hown hK hP hL_h0 hFd rfl 0 (by decide) (hts _ kt_84) (fun _ h9 => h9) rfl dX2_onlyText_16 ?_
    refine lv_iload hx hb dX2_onlyText_19 (lv_at hl 0 rfl) ?_
    obtain ⟨b_15, x_16, y_17, hbf_18, hi_19, ht_20⟩ := hq_5 j (by omega)
    refine pg_aald (r := b_15) hx hb hK hP hi_1 5 hF_4 rfl (vp_in_nI (by omega) (by omega)) (show f_3 ((nI j) : Int32).toNatClampNeg = _ from by rw [show ((nI j) : Int32) = nI j from rfl, nI_clamp (by omega)]; exact hbf_18) dX2_onlyText_21 ?_
    obtain ⟨hi_21, hi_22, ⟨r_23, ht_24⟩, ⟨r_25, ht_26⟩⟩ := hW.entry hi_19 ht_20
    have ht_24 : ty x_16 = (0, ρ + j + j + j + 101, [r_23, 60]) := ht_24
    have ht_26 : ty y_17 = (0, ρ + j + j + j + 102, [r_25, 700]) := ht_26
    obtain ⟨hen1, hen2, hen3, hen4, hen5⟩ := DIRC.get hDI hO hF_4 hjz hbf_18 hi_19 ht_20
    obtain ⟨hen6, hen7⟩ := hen2 _ _ hi_21 ht_24
    obtain ⟨hi_27, ht_28, hq_29⟩ := hW.bytes hi_21 ht_24
    obtain ⟨hen8, hen9⟩ := hen3 _ _ hi_22 ht_26
    obtain ⟨hi_30, ht_31, hq_32⟩ := hW.bytes hi_22 ht_26
    refine pg_getN (ci := 3) (v := .ref y_17) (C := RX3) (T := TX3) (N := 4) hx hb hts it_3 hown hK hP hi_19 hen1 rfl 1 (by decide) (hE.nest kn_4) (fun _ h9 => h9) rfl dX2_onlyText_22 ?_
    refine lv_astore (lv' := [(6, .ref y_17), (5, .int (nI j)), (4, .int w4), (0, .ref h0), (1, .ref g1), (2, .ref q), (3, .int 0)]) hx hb dX2_onlyText_25 hl (by decide) rfl (fun ls hl => ?_)
    refine lv_aload_n hx hb dX2_onlyText_27 rfl (lv_at hl 3 rfl) ?_
    refine pg_get (ci := 2) (v := .ref ea) (C := RX2) (T := TX2) (N := 2) hx hb hts it_2 hown hK hP hL_h0 hFd rfl 0 (by decide) (hts _ kt_84) (fun _ h9 => h9) rfl dX2_onlyText_28 ?_
    refine lv_iload hx hb dX2_onlyText_31 (lv_at hl 1 rfl) ?_
    refine pg_aald (r := b_15) hx hb hK hP hi_1 5 hF_4 rfl (vp_in_nI (by omega) (by omega)) (show f_3 ((nI j) : Int32).toNatClampNeg = _ from by rw [show ((nI j) : Int32) = nI j from rfl, nI_clamp (by omega)]; exact hbf_18) dX2_onlyText_33 ?_
    refine pg_getN (ci := 3) (v := .int ((D j).1)) (C := RX3) (T := TX3) (N := 4) hx hb hts it_3 hown hK hP hi_19 hen1 rfl 2 (by decide) (hE.nest kn_0) (fun _ h9 => h9) rfl dX2_onlyText_34 ?_
    refine lv_if_ne (tgt := 123) hx hb dX2_onlyText_37 (by decide) (fun c_33 => ?_) (fun c_33 => ?_)
    ·
      refine lv_iinc (v := (nI (j + 1))) (lv' := [(5, .int (nI (j + 1))), (6, .ref y_17), (4, .int w4), (0, .ref h0), (1, .ref g1), (2, .ref q), (3, .int 0)]) hx hb dX2_onlyText_123 hl (k := 1) rfl (nI_1 _) (by decide) rfl (fun ls hl => ?_)
      refine lv_goto (tgt := 6) hx hb dX2_onlyText_126 (by decide) ?_
      refine W.widen (k := 0) (n := 0) (by omega) (by omega) ?_
      exact ih_11 ((j + 1), w4) F (⟨by omega, otv_n hv2 (fun q => c_33 q.1)⟩) (by show cn - (j + 1) < cn - j; omega) hO hR _ _ hP hD hS ls (lv_sub hl [0, 2, 3, 4, 5, 6] rfl)
    ·
      refine lv_aload_n hx hb dX2_onlyText_40 rfl (lv_at hl 3 rfl) ?_
      refine pg_get (ci := 2) (v := .ref ea) (C := RX2) (T := TX2) (N := 2) hx hb hts it_2 hown hK hP hL_h0 hFd rfl 0 (by decide) (hts _ kt_84) (fun _ h9 => h9) rfl dX2_onlyText_41 ?_
      refine lv_iload hx hb dX2_onlyText_44 (lv_at hl 1 rfl) ?_
      refine pg_aald (r := b_15) hx hb hK hP hi_1 5 hF_4 rfl (vp_in_nI (by omega) (by omega)) (show f_3 ((nI j) : Int32).toNatClampNeg = _ from by rw [show ((nI j) : Int32) = nI j from rfl, nI_clamp (by omega)]; exact hbf_18) dX2_onlyText_46 ?_
      refine pg_getN (ci := 3) (v := .ref x_16) (C := RX3) (T := TX3) (N := 4) hx hb hts it_3 hown hK hP hi_19 hen1 rfl 0 (by decide) (hE.nest kn_1) (fun _ h9 => h9) rfl dX2_onlyText_47 ?_
      refine lv_aload_n hx hb dX2_onlyText_50 rfl (lv_at hl 4 rfl) ?_
      have hFc := pg_free hD hS hA
      refine va_calli (va_runV (As := [.ref g1]) (rest := []) ⟨hx, hb, hml, hown, hts⟩ (s_X0_same_e l dC dI cs ty L H.size F x_16 (ρ + j + j + j + 101) r_23 60 g1 σ r1 n1 ((D j).2.2.1) y ((D j).2.2.2.1) fa oo hW hi_21 ht_24 hL_g1 hT_g1 hen6 hen7 hFg hFr1 (by omega) (by omega) (by omega) (by omega)) ⟨callB_of 1 hts (gi kt_85) rfl rfl rfl (hts _ kt_1) (hts _ kt_86) (by decide +kernel) ⟨Nat.le_of_ble_eq_true rfl, Nat.le_of_ble_eq_true rfl⟩, (hts _ kt_87), (hts _ kt_88)⟩ ⟨fun a U g mk q => ⟨q.1, PT.calling q.2⟩, pg_recv hK hP hi_21 hen6 (q := (RX0, TX0, 3)) rfl, fun U hU hWm => ⟨rfl, PT.mk hU hWm hP hK hD hE hO⟩⟩ rfl rfl hl.1 rfl (lv_room (Nat.le_of_ble_eq_true rfl)) dX2_onlyText_51 ⟨by show _ + 0 ≤ 0; omega, by show _ + 0 ≤ 0; omega⟩) hS (fun q _ h => hFc q h) hFc (fun r_34 u t H1 locs ht hvm hw hB hz1 hk1 hS => ?_)
      obtain ⟨F_35, hB1⟩ := hB
      obtain rfl : F = F_35 := (funext (fun a => hB1.2.2.2 a List.not_mem_nil)).symm
      obtain ⟨hP, hD, hO, hR⟩ := QT.back hB1 ht hFc hR (fun q h => absurd h List.not_mem_nil)
      generalize H1 = H at hP hS ⊢
      have hw : (r_34 = 1 ∧ ((oo : Int32) = 0 ∧ (D j).2.2.1 = y ∧ ∀ j9, j9 < (D j).2.2.1 → (D j).2.2.2.1 j9 = fa j9)) ∨ (r_34 = 0 ∧ ¬ ((oo : Int32) = 0 ∧ (D j).2.2.1 = y ∧ ∀ j9, j9 < (D j).2.2.1 → (D j).2.2.2.1 j9 = fa j9)) := hw
      have hw_36 := hw
      refine lv_if_eq (tgt := 123) hx hb dX2_onlyText_54 (by decide) (fun c_37 => ?_) (fun c_37 => ?_)
      ·
        refine lv_iinc (v := (nI (j + 1))) (lv' := [(5, .int (nI (j + 1))), (6, .ref y_17), (4, .int w4), (0, .ref h0), (1, .ref g1), (2, .ref q), (3, .int 0)]) hx hb dX2_onlyText_123 hl (k := 1) rfl (nI_1 _) (by decide) rfl (fun ls hl => ?_)
        refine lv_goto (tgt := 6) hx hb dX2_onlyText_126 (by decide) ?_
        refine W.widen (k := 0) (n := 0) (by omega) (by omega) ?_
        exact ih_11 ((j + 1), w4) F (⟨by omega, otv_n hv2 (fun q => orp0 hw_36 c_37 q.2.1)⟩) (by show cn - (j + 1) < cn - j; omega) hO hR _ _ hP hD hS ls (lv_sub hl [0, 2, 3, 4, 5, 6] rfl)
      ·
        refine lv_aload hx hb dX2_onlyText_57 (lv_at hl 0 rfl) ?_
        refine lv_iconst (v := 0) hx hb dX2_onlyText_59 (by decide) ?_
        refine lv_aload hx hb dX2_onlyText_60 (lv_at hl 0 rfl) ?_
        refine pg_getN (ci := 0) (v := .int (nI (D j).2.2.2.2.1)) (C := RX0) (T := TX0) (N := 3) hx hb hts it_0 hown hK hP hi_22 hen8 rfl 1 (by decide) (hE.nest kn_3) (fun _ h9 => h9) rfl dX2_onlyText_62 ?_
        refine lv_aload_n hx hb dX2_onlyText_65 rfl (lv_at hl 5 rfl) ?_
        refine W.eq (g2 := F0 m 66 ls [.ref q, .int (nI (D j).2.2.2.2.1), .int (nI 0), .ref y_17]) rfl ?_
        have hFc := pg_free hD hS hA
        refine va_calli (va_runV (As := [.int (nI 0), .int (nI (D j).2.2.2.2.1), .ref q]) (rest := []) ⟨hx, hb, hml, hown, hts⟩ (s_X0_begins_e l dC dI cs ty L H.size F y_17 (ρ + j + j + j + 102) r_25 700 q v k0 C ((D j).2.2.2.2.1) 0 ((D j).2.2.2.2.1) ((D j).2.2.2.2.2) ll hW hi_22 ht_26 hen8 hen9 (by omega) (by omega) (Nat.zero_le _) (Nat.le_refl _) (hCL)) ⟨callB_of 3 hts (gi kt_112) rfl rfl rfl (hts _ kt_1) (hts _ kt_113) (by decide +kernel) ⟨Nat.le_of_ble_eq_true rfl, Nat.le_of_ble_eq_true rfl⟩, (hts _ kt_114), (hts _ kt_115)⟩ ⟨fun a U g mk q => ⟨q.1, PTC.calling q.2⟩, pg_recv hK hP hi_22 hen8 (q := (RX0, TX0, 3)) rfl, fun U hU hWm => ⟨rfl, PTC.mk hU hWm hP hK hD hE hO hG hX hS hFc⟩⟩ rfl rfl hl.1 rfl (lv_room (Nat.le_of_ble_eq_true rfl)) dX2_onlyText_66 ⟨by show _ + 0 ≤ 0; omega, by show _ + 0 ≤ 0; omega⟩) hS (fun q _ h => hFc q h) hFc (fun r_38 u t H1 locs ht hvm hw hB hz1 hk1 hS => ?_)
        obtain ⟨F_39, hB1⟩ := hB
        obtain rfl : F = F_39 := (funext (fun a => hB1.2.2.2 a List.not_mem_nil)).symm
        obtain ⟨hP, hD, hO, hR⟩ := QT.back hB1 ht hFc hR (fun q h => absurd h List.not_mem_nil)
        generalize H1 = H at hP hS ⊢
        have hw : (r_38 = 1 ∧ (0 + k0 ≤ (D j).2.2.2.2.1 ∧ LIT (TC (D j).2.2.2.2.2 (D j).2.2.2.2.1) 0 ll)) ∨ (r_38 = 0 ∧ ¬ (0 + k0 ≤ (D j).2.2.2.2.1 ∧ LIT (TC (D j).2.2.2.2.2 (D j).2.2.2.2.1) 0 ll)) := hw
        have hw_40 := hw
        refine lv_if_ne (tgt := 75) hx hb dX2_onlyText_69 (by decide) (fun c_41 => ?_) (fun c_41 => ?_)
        ·
          refine lv_iload_n hx hb dX2_onlyText_75 rfl (lv_at hl 6 rfl) ?_
          refine lv_if_eq (tgt := 108) hx hb dX2_onlyText_76 (by decide) (fun c_42 => ?_) (fun c_42 => absurd (by decide) c_42)
          refine lv_iload hx hb dX2_onlyText_108 (lv_at hl 2 rfl) ?_
          refine lv_iconst (v := (-1)) hx hb dX2_onlyText_110 (by decide) ?_
          refine lv_icmp_ne (tgt := 119) hx hb dX2_onlyText_111 (by decide) (fun c_43 => ?_) (fun c_43 => ?_)
          ·
            refine lv_bipush (v := (-2)) hx hb dX2_onlyText_119 (by decide) ?_
            refine lv_istore (lv' := [(4, .int (-2)), (6, .ref y_17), (5, .int (nI j)), (0, .ref h0), (1, .ref g1), (2, .ref q), (3, .int 0)]) hx hb dX2_onlyText_121 hl (by decide) rfl (fun ls hl => ?_)
            refine lv_iinc (v := (nI (j + 1))) (lv' := [(5, .int (nI (j + 1))), (4, .int (-2)), (6, .ref y_17), (0, .ref h0), (1, .ref g1), (2, .ref q), (3, .int 0)]) hx hb dX2_onlyText_123 hl (k := 2) rfl (nI_1 _) (by decide) rfl (fun ls hl => ?_)
            refine lv_goto (tgt := 6) hx hb dX2_onlyText_126 (by decide) ?_
            refine W.widen (k := 0) (n := 0) (by omega) (by omega) ?_
            exact ih_11 ((j + 1), (-2)) F (⟨by omega, otv_m hv2 ⟨c_33, orp1 hw_36 c_37, orp1 hw_40 c_41⟩ c_43⟩) (by show cn - (j + 1) < cn - j; omega) hO hR _ _ hP hD hS ls (lv_sub hl [0, 1, 3, 4, 5, 6] rfl)
          ·
            refine lv_iload hx hb dX2_onlyText_114 (lv_at hl 1 rfl) ?_
            refine lv_goto (tgt := 121) hx hb dX2_onlyText_116 (by decide) ?_
            refine lv_istore (lv' := [(4, .int (nI j)), (6, .ref y_17), (5, .int (nI j)), (0, .ref h0), (1, .ref g1), (2, .ref q), (3, .int 0)]) hx hb dX2_onlyText_121 hl (by decide) rfl (fun ls hl => ?_)
            refine lv_iinc (v := (nI (j + 1))) (lv' := [(5, .int (nI (j + 1))), (4, .int (nI j)), (6, .ref y_17), (0, .ref h0), (1, .ref g1), (2, .ref q), (3, .int 0)]) hx hb dX2_onlyText_123 hl (k := 2) rfl (nI_1 _) (by decide) rfl (fun ls hl => ?_)
            refine lv_goto (tgt := 6) hx hb dX2_onlyText_126 (by decide) ?_
            refine W.widen (k := 0) (n := 0) (by omega) (by omega) ?_
            exact ih_11 ((j + 1), (nI j)) F (⟨by omega, otv_f hv2 ⟨c_33, orp1 hw_36 c_37, orp1 hw_40 c_41⟩ c_43⟩) (by show cn - (j + 1) < cn - j; omega) hO hR _ _ hP hD hS ls (lv_sub hl [0, 1, 3, 4, 5, 6] rfl)
        ·
          refine lv_goto (tgt := 123) hx hb dX2_onlyText_72 (by decide) ?_
          refine lv_iinc (v := (nI (j + 1))) (lv' := [(5, .int (nI (j + 1))), (6, .ref y_17), (4, .int w4), (0, .ref h0), (1, .ref g1), (2, .ref q), (3, .int 0)]) hx hb dX2_onlyText_123 hl (k := 1) rfl (nI_1 _) (by decide) rfl (fun ls hl => ?_)
          refine lv_goto (tgt := 6) hx hb dX2_onlyText_126 (by decide) ?_
          refine W.widen (k := 0) (n := 0) (by omega) (by omega) ?_
          exact ih_11 ((j + 1), w4) F (⟨by omega, otv_n hv2 (fun q => orp0 hw_40 c_41 q.2.2)⟩) (by show cn - (j + 1) < cn - j; omega) hO hR _ _ hP hD hS ls (lv_sub hl [0, 2, 3, 4, 5, 6] rfl)
set_option maxHeartbeats 4000000 in
set_option maxRecDepth 100000 in
theorem s_X4_fieldOf_e (l : Launch) (dC : Nat → ClassId) (dI : Nat → Nat → Nat) (cs : Nat → ClassId) (ty : TyM) (L : List Nat) (sz : Nat) (F : Nat → va_E) (h0 : Nat) (ρ : Nat) (tx : Nat) (y0 : Nat) (y1 : Nat) (y2 : Nat) (q : Nat) (v : Nat) (k0 : Nat) (C : Nat → Int32) (z : Nat) (v0 : Int32) (hW : WT ty L) (hL_h0 : h0 ∈ L) (hT_h0 : ty h0 = (4, ρ, [tx, y0, y1, y2])) (hF0 : F h0 = .inr (4, [.ref tx, .ref y0, .ref y1, .ref y2, .int (nI z), .int v0])) (hz20 : z ≤ 20) (hex : (∃ i, i < z ∧ nmd F tx y0 y1 C k0 i)) : Met l yX4_fieldOf (.code yX4_fieldOf cX4_fieldOf 5 (some .int) :: tb) ({ frames := 5, cells := 0, slots := 0, locals := 108 }) (va_Pc [.ref h0, .ref q, .int 0] (PTC (dC, dI) cs ty L F sz q v k0 C)) (va_Qi (fun (r : Int32) (_ : Unit) => (∃ j : Nat, j < z ∧ r = nI j ∧ nmd F tx y0 y1 C k0 j ∧ ∀ i, i < j → ¬ nmd F tx y0 y1 C k0 i)) (fun _ T9 => ∃ F2 : Nat → va_E, QT (dC, dI) cs ty L [] F F2 (va_A (va_pl L F) sz) T9) (va_A (va_pl L F) sz)) 0 0 (va_A (va_pl L F) sz) := by
  refine Met.ofW (cc := cX4_fieldOf) (maxL := 5) (ret := (some .int)) (by decide) rfl ?_
  intro p e s m args below meth c s₁ B hml hv
  obtain ⟨rfl, ⟨hsz, hP, hK, hD0, hE, hO⟩, hG, hX⟩ := hv
  have hx := B.exec
  have hb := B.bytes
  have hr := B.returns
  have hts : ∀ w ∈ tb, w.before _ s = true := fun w h => atoms_spec (ws := .code yX4_fieldOf cX4_fieldOf 5 (some .int) :: tb) B.pre w (List.mem_cons_of_mem _ h)
  have hown : s.vm.findClass RX4 = some m.cls := findClass_of_methodNamed B.named
  have hlocks := B.notSynchronized
  subst hsz
  have hD := hD0.self (sz := s.heap.size)
  generalize hAe : va_A (va_pl L F) s.heap.size = A at hD hG hX ⊢
  have hX_q : SX q v k0 A s s.heap := hX.sx
  obtain ⟨xo_q, xc_q, xv_q, xt_q, xn_q⟩ := id hX
  have hA : ∀ q : Nat, s.heap.size ≤ q → A q := fun q h => by rw [← hAe]; exact Or.inr h
  have hS : va_S A s.heap s.heap [] := va_S.rf
  have hR : FR ty [] F F := FR.refl
  have hl := lv_entry ([.ref h0, .ref q, .int 0]) (n := 5) (Nat.le_of_ble_eq_true rfl)
  rw [lg_entry_eq]
  generalize (lg_sl ([.ref h0, .ref q, .int 0]) ++ List.replicate (5 - (lg_sl ([.ref h0, .ref q, .int 0])).length) Slot.unset).toArray = ls at hl ⊢
  have hl : lv_has ls 5 [(0, .ref h0), (1, .ref q), (2, .int 0)] := hl
  refine lv_iload_n hx hb dX4_fieldOf_0 rfl (lv_at hl 2 rfl) ?_
  refine lv_istore_n (lv' := [(3, .int 0), (0, .ref h0), (1, .ref q), (2, .int 0)]) hx hb dX4_fieldOf_1 rfl hl (by decide) rfl (fun ls hl => ?_)
  refine lv_iconst (v := 0) hx hb dX4_fieldOf_2 (by decide) ?_
  refine lv_istore (lv' := [(4, .int 0), (3, .int 0), (0, .ref h0), (1, .ref q), (2, .int 0)]) hx hb dX4_fieldOf_3 hl (by decide) rfl (fun ls hl => ?_)
  refine W.widen (k := 0) (n := 0) (by omega) (by omega) ?_
  refine pl_loop (σ := Nat) A (dC, dI) cs ty L [] F 5 5 (fun j => [(4, .int (nI j)), (3, .int 0), (0, .ref h0), (1, .ref q), (2, .int 0)]) (fun j => []) (fun j _ => j ≤ 20 ∧ ∀ i, i < j → ¬ nmd F tx y0 y1 C k0 i) (fun j => 20 - j) ?_ 0 F (⟨by omega, fun i hi => absurd hi (Nat.not_lt_zero _)⟩) hO hR _ _ hP hD hS ls (lv_sub hl [0, 1, 2, 3, 4] rfl)
  rintro j F_1 hv_2 hO hR ih_3 H locs hP hD hS ls hl
  have hl : lv_has ls 5 [(4, .int (nI j)), (3, .int 0), (0, .ref h0), (1, .ref q), (2, .int 0)] := hl
  have hv_2 : j ≤ 20 ∧ ∀ i, i < j → ¬ nmd F tx y0 y1 C k0 i := hv_2
  refine W.eq (g2 := F0 m 5 ls []) rfl ?_
  obtain rfl : F = F_1 := (funext (fun a => hR a List.not_mem_nil)).symm
  obtain ⟨hv1, hv2⟩ := id hv_2
  refine lv_iload hx hb dX4_fieldOf_5 (lv_at hl 0 rfl) ?_
  refine lv_aload_n hx hb dX4_fieldOf_7 rfl (lv_at hl 2 rfl) ?_
  obtain ⟨hi_4, hi_5, hi_6, hi_7, ⟨r_8, ht_9⟩, ht_10, ht_11, ht_12⟩ := hW.msg hL_h0 hT_h0
  refine pg_get (ci := 4) (v := .int (nI z)) (C := RX4) (T := TX4) (N := 6) hx hb hts it_4 hown hK hP hL_h0 hF0 rfl 4 (by decide) (hts _ kt_203) (fun _ h9 => h9) rfl dX4_fieldOf_8 ?_
  refine lv_icmp_ge (tgt := 43) hx hb dX4_fieldOf_11 (by decide) (fun c_13 => ?_) (fun c_13 => ?_)
  ·
    have hi_14 : z ≤ j := leN (N := z) c_13
    have hjc : z ≤ j := (nI_leI (by omega) (by omega)).mp c_13
    obtain ⟨i9, hi9, hn9⟩ := hex
    exact absurd hn9 (hv2 i9 (by omega))
  ·
    have hi_15 : j < z := ltN (N := z) c_13
    have hjz : j < z := Nat.not_le.mp (fun q => c_13 ((nI_leI (by omega) (by omega)).mpr q))
    refine lv_aload_n hx hb dX4_fieldOf_14 rfl (lv_at hl 2 rfl) ?_
    refine lv_iload hx hb dX4_fieldOf_15 (lv_at hl 0 rfl) ?_
    refine lv_aload_n hx hb dX4_fieldOf_17 rfl (lv_at hl 3 rfl) ?_
    have hFc := pg_free hD hS hA
    refine va_calli (va_runV (As := [.int (nI j), .ref q]) (rest := []) ⟨hx, hb, hml, hown, hts⟩ (s_X4_isNamed_x l dC dI cs ty L H.size F h0 ρ tx y0 y1 y2 q v k0 C z j v0 hW hL_h0 hT_h0 hF0 (by omega) (by omega)) ⟨callB_of 2 hts (gi kt_210) rfl rfl rfl (hts _ kt_211) (hts _ kt_212) (by decide +kernel) ⟨Nat.le_of_ble_eq_true rfl, Nat.le_of_ble_eq_true rfl⟩, (hts _ kt_213), (hts _ kt_214)⟩ ⟨fun a U g mk q => ⟨q.1, PTC.calling q.2⟩, pg_recv hK hP hL_h0 hF0 (q := (RX4, TX4, 6)) rfl, fun U hU hWm => ⟨rfl, PTC.mk hU hWm hP hK hD hE hO hG hX hS hFc⟩⟩ rfl rfl hl.1 rfl (lv_room (Nat.le_of_ble_eq_true rfl)) dX4_fieldOf_18 ⟨by show _ + 0 ≤ 0; omega, by show _ + 0 ≤ 0; omega⟩) hS (fun q _ h => hFc q h) hFc (fun r_16 u t H1 locs ht hvm hw hB hz1 hk1 hS => ?_)
    obtain ⟨F_17, hB1⟩ := hB
    obtain rfl : F = F_17 := (funext (fun a => hB1.2.2.2 a List.not_mem_nil)).symm
    obtain ⟨hP, hD, hO, hR⟩ := QT.back hB1 ht hFc hR (fun q h => absurd h List.not_mem_nil)
    generalize H1 = H at hP hS ⊢
    have hw : ((r_16 = 1 ∧ nmd F tx y0 y1 C k0 j) ∨ (r_16 = 0 ∧ ¬ nmd F tx y0 y1 C k0 j)) := hw
    have hw_18 := hw
    refine lv_if_ne (tgt := 27) hx hb dX4_fieldOf_21 (by decide) (fun c_19 => ?_) (fun c_19 => ?_)
    ·
      refine lv_iload_n hx hb dX4_fieldOf_27 rfl (lv_at hl 1 rfl) ?_
      refine lv_if_ne (tgt := 34) hx hb dX4_fieldOf_28 (by decide) (fun c_20 => absurd (by decide) c_20) (fun c_20 => ?_)
      refine lv_iload hx hb dX4_fieldOf_31 (lv_at hl 0 rfl) ?_
      refine W.widen (k := 0) (n := 0) (by omega) (by omega) ?_
      exact W.iret (v := (nI j)) hx hb hr (fun t ht hWm => ⟨⟨(nI j), (), rfl, ⟨j, hjz, rfl, nm1 hw_18 c_19, hv2⟩, ⟨F, QT.mk ht hP hD hO hR⟩⟩, hS.F ht⟩) hS.2.2 dX4_fieldOf_33
    ·
      refine lv_goto (tgt := 37) hx hb dX4_fieldOf_24 (by decide) ?_
      refine lv_iinc (v := (nI (j + 1))) (lv' := [(4, .int (nI (j + 1))), (3, .int 0), (0, .ref h0), (1, .ref q), (2, .int 0)]) hx hb dX4_fieldOf_37 hl (k := 0) rfl (nI_1 _) (by decide) rfl (fun ls hl => ?_)
      refine lv_goto (tgt := 5) hx hb dX4_fieldOf_40 (by decide) ?_
      refine W.widen (k := 0) (n := 0) (by omega) (by omega) ?_
      exact ih_3 (j + 1) F (⟨by omega, all_step hv2 (nm0 hw_18 c_19)⟩) (by show 20 - (j + 1) < 20 - j; omega) hO hR _ _ hP hD hS ls (lv_sub hl [0, 1, 2, 3, 4] rfl)
set_option maxHeartbeats 4000000 in
set_option maxRecDepth 100000 in
theorem s_X5_wantOf_e (l : Launch) (dC : Nat → ClassId) (dI : Nat → Nat → Nat) (cs : Nat → ClassId) (ty : TyM) (L : List Nat) (sz : Nat) (F : Nat → va_E) (h0 : Nat) (ρ : Nat) (d : Nat) (δ : Nat) (ea : Nat) (w0 : Nat) (w1 : Nat) (rc : Nat) (rx : Nat) (ry0 : Nat) (ry1 : Nat) (ry2 : Nat) (rr : Nat) (z : Nat) (nn : Nat) (f : Nat → Int32) (e0 : Nat → Int32) (e1 : Nat → Int32) (e2 : Nat → Int32) (gq : Nat → Nat → Nat) (q : Nat) (v : Nat) (k0 : Nat) (C : Nat → Int32) (ll : List Nat) (v0 : Int32) (v1 : Int32) (v2 : Int32) (hW : WT ty L) (hL_h0 : h0 ∈ L) (hT_h0 : ty h0 = (5, ρ, [d, δ, ea, w0, w1, rc, rx, ry0, ry1, ry2])) (hL_rc : rc ∈ L) (hT_rc : ty rc = (9, ρ + 2, [rx, 700, ry0, ry1, ry2])) (hL_rx : rx ∈ L) (hT_rx : ty rx = (0, ρ + 3, [rr, 700])) (hFp : F h0 = .inr (5, [.ref d, .ref w0, .ref w1, .ref rc, .int v0, .int v1, .int v2])) (hFcq : F rc = .inr (9, [.ref rx, .ref ry0, .ref ry1, .ref ry2, .int (nI nn)])) (hFx : F rx = .inr (0, [.ref rr, .int (nI z), .int 0])) (hFr : F rr = .inl (cs 16, 700, .inl f)) (hFy0 : F ry0 = .inl (cs 16, 40, .inl e0)) (hFy1 : F ry1 = .inl (cs 16, 40, .inl e1)) (hFy2 : F ry2 = .inl (cs 16, 40, .inl e2)) (hzn : z ≤ 700) (hcn : nn ≤ 40) (hhl : HLD e0 e1 e2 nn gq) (hTG : TGI z nn gq) (hCL : CLI C k0 ll) : Met l yX5_wantOf (.code yX5_wantOf cX5_wantOf 2 (some .int) :: tb) ({ frames := 7, cells := 0, slots := 0, locals := 154 }) (va_Pc [.ref h0, .ref q] (PTC (dC, dI) cs ty L F sz q v k0 C)) (va_Qi (fun (r : Int32) (_ : Unit) => r = nI (wnW (TC f z) gq nn ll)) (fun _ T9 => ∃ F2 : Nat → va_E, QT (dC, dI) cs ty L [] F F2 (va_A (va_pl L F) sz) T9) (va_A (va_pl L F) sz)) 0 0 (va_A (va_pl L F) sz) := by
  refine Met.ofW (cc := cX5_wantOf) (maxL := 2) (ret := (some .int)) (by decide) rfl ?_
  intro p e s m args below meth c s₁ B hml hv
  obtain ⟨rfl, ⟨hsz, hP, hK, hD0, hE, hO⟩, hG, hX⟩ := hv
  have hx := B.exec
  have hb := B.bytes
  have hr := B.returns
  have hts : ∀ w ∈ tb, w.before _ s = true := fun w h => atoms_spec (ws := .code yX5_wantOf cX5_wantOf 2 (some .int) :: tb) B.pre w (List.mem_cons_of_mem _ h)
  have hown : s.vm.findClass RX5 = some m.cls := findClass_of_methodNamed B.named
  have hlocks := B.notSynchronized
  subst hsz
  have hD := hD0.self (sz := s.heap.size)
  generalize hAe : va_A (va_pl L F) s.heap.size = A at hD hG hX ⊢
  have hX_q : SX q v k0 A s s.heap := hX.sx
  obtain ⟨xo_q, xc_q, xv_q, xt_q, xn_q⟩ := id hX
  have hA : ∀ q : Nat, s.heap.size ≤ q → A q := fun q h => by rw [← hAe]; exact Or.inr h
  have hS : va_S A s.heap s.heap [] := va_S.rf
  have hR : FR ty [] F F := FR.refl
  have hl := lv_entry ([.ref h0, .ref q]) (n := 2) (Nat.le_of_ble_eq_true rfl)
  rw [lg_entry_eq]
  generalize (lg_sl ([.ref h0, .ref q]) ++ List.replicate (2 - (lg_sl ([.ref h0, .ref q])).length) Slot.unset).toArray = ls at hl ⊢
  have hl : lv_has ls 2 [(0, .ref h0), (1, .ref q)] := hl
  obtain ⟨hi_1, ht_2, hi_3, ⟨r_4, ht_5⟩, hi_6, ⟨r_7, ht_8⟩, _, _⟩ := hW.pol hL_h0 hT_h0
  obtain ⟨_, hi_9, hi_10, hi_11, _, ht_12, ht_13, ht_14⟩ := hW.tags hL_rc hT_rc
  have ht_13 : ty ry1 = (24, ρ + 72, [40]) := ht_13
  have ht_14 : ty ry2 = (24, ρ + 73, [40]) := ht_14
  refine lv_aload_n hx hb dX5_wantOf_0 rfl (lv_at hl 0 rfl) ?_
  refine pg_get (ci := 5) (v := .ref rc) (C := RX5) (T := TX5) (N := 7) hx hb hts it_5 hown hK hP hL_h0 hFp rfl 3 (by decide) (hts _ kt_456) (fun _ h9 => h9) rfl dX5_wantOf_1 ?_
  refine lv_aload_n hx hb dX5_wantOf_4 rfl (lv_at hl 1 rfl) ?_
  obtain ⟨q_15, v_16, hr_q_15, hXc_q_15⟩ := hG.2.2.2.2 ("PostGate$Policy", 160, "none", [110, 111, 110, 101]) (by decide +kernel)
  have hXc_q_15 : SXc q_15 v_16 4 (cct [110, 111, 110, 101]) A s s.heap := hXc_q_15
  have hX_q_15 : SX q_15 v_16 4 A s s.heap := hXc_q_15.sx
  obtain ⟨xo_q_15, xc_q_15, xv_q_15, xt_q_15, xn_q_15⟩ := id hXc_q_15
  have hr_q_15 : vk_R "PostGate$Policy" 160 "none" q_15 s := hr_q_15
  refine va_ldcS hx hb hown hr_q_15 dX5_wantOf_5 ?_
  obtain ⟨hi_17, ht_18, hq_19⟩ := hW.bytes hL_rx hT_rx
  have hFc := pg_free hD hS hA
  refine va_calli (va_runV (As := [.ref q, .ref q_15]) (rest := []) ⟨hx, hb, hml, hown, hts⟩ (s_X9_is_e l dC dI cs ty L s.heap.size F rc (ρ + 2) rx 700 ry0 ry1 ry2 rr z nn f e0 e1 e2 gq q v k0 C q_15 v_16 4 (cct [110, 111, 110, 101]) ll LNO hW hL_rc hT_rc hL_rx hT_rx hFcq hFx hFr hFy0 hFy1 hFy2 (hzn) (by omega) (hcn) (hhl) (hTG) (hCL) (⟨rfl, by decide +kernel⟩)) ⟨callB_of 2 hts (gi kt_334) rfl rfl rfl (hts _ kt_164) (hts _ kt_457) (by decide +kernel) ⟨Nat.le_of_ble_eq_true rfl, Nat.le_of_ble_eq_true rfl⟩, (hts _ kt_336), (hts _ kt_337)⟩ ⟨fun a U g mk q => ⟨q.1, PTD.calling q.2⟩, pg_recv hK hP hL_rc hFcq (q := (RX9, TX9, 5)) rfl, fun U hU hWm => ⟨rfl, PTD.mk hU hWm hP hK hD hE hO hG hX hXc_q_15 hS hFc⟩⟩ rfl rfl hl.1 rfl (lv_room (Nat.le_of_ble_eq_true rfl)) dX5_wantOf_7 ⟨by show _ + 0 ≤ 0; omega, by show _ + 0 ≤ 0; omega⟩) hS (fun q _ h => hFc q h) hFc (fun r_20 u t H1 locs ht hvm hw hB hz1 hk1 hS => ?_)
  obtain ⟨F_21, hB1⟩ := hB
  obtain rfl : F = F_21 := (funext (fun a => hB1.2.2.2 a List.not_mem_nil)).symm
  obtain ⟨hP, hD, hO, hR⟩ := QT.back hB1 ht hFc hR (fun q h => absurd h List.not_mem_nil)
  generalize H1 = H at hP hS ⊢
  have hw : (r_20 = 1 ∧ TGV (TC f z) gq nn ll LNO) ∨ (r_20 = 0 ∧ ¬ TGV (TC f z) gq nn ll LNO) := hw
  have hw_22 := hw
  refine lv_if_eq (tgt := 16) hx hb dX5_wantOf_10 (by decide) (fun c_23 => ?_) (fun c_23 => ?_)
  ·
    refine lv_aload_n hx hb dX5_wantOf_16 rfl (lv_at hl 0 rfl) ?_
    refine pg_get (ci := 5) (v := .ref rc) (C := RX5) (T := TX5) (N := 7) hx hb hts it_5 hown hK hP hL_h0 hFp rfl 3 (by decide) (hts _ kt_456) (fun _ h9 => h9) rfl dX5_wantOf_17 ?_
    refine lv_aload_n hx hb dX5_wantOf_20 rfl (lv_at hl 1 rfl) ?_
    obtain ⟨q_24, v_25, hr_q_24, hXc_q_24⟩ := hG.2.2.2.2 ("PostGate$Policy", 162, "quarantine", [113, 117, 97, 114, 97, 110, 116, 105, 110, 101]) (by decide +kernel)
    have hXc_q_24 : SXc q_24 v_25 10 (cct [113, 117, 97, 114, 97, 110, 116, 105, 110, 101]) A s s.heap := hXc_q_24
    have hX_q_24 : SX q_24 v_25 10 A s s.heap := hXc_q_24.sx
    obtain ⟨xo_q_24, xc_q_24, xv_q_24, xt_q_24, xn_q_24⟩ := id hXc_q_24
    have hr_q_24 : vk_R "PostGate$Policy" 162 "quarantine" q_24 s := hr_q_24
    refine va_ldcS hx hb hown hr_q_24 dX5_wantOf_21 ?_
    have hFc := pg_free hD hS hA
    refine va_calli (va_runV (As := [.ref q, .ref q_24]) (rest := []) ⟨hx, hb, hml, hown, hts⟩ (s_X9_is_e l dC dI cs ty L H.size F rc (ρ + 2) rx 700 ry0 ry1 ry2 rr z nn f e0 e1 e2 gq q v k0 C q_24 v_25 10 (cct [113, 117, 97, 114, 97, 110, 116, 105, 110, 101]) ll LQU hW hL_rc hT_rc hL_rx hT_rx hFcq hFx hFr hFy0 hFy1 hFy2 (hzn) (by omega) (hcn) (hhl) (hTG) (hCL) (⟨rfl, by decide +kernel⟩)) ⟨callB_of 2 hts (gi kt_334) rfl rfl rfl (hts _ kt_164) (hts _ kt_457) (by decide +kernel) ⟨Nat.le_of_ble_eq_true rfl, Nat.le_of_ble_eq_true rfl⟩, (hts _ kt_336), (hts _ kt_337)⟩ ⟨fun a U g mk q => ⟨q.1, PTD.calling q.2⟩, pg_recv hK hP hL_rc hFcq (q := (RX9, TX9, 5)) rfl, fun U hU hWm => ⟨rfl, PTD.mk hU hWm hP hK hD hE hO hG hX hXc_q_24 hS hFc⟩⟩ rfl rfl hl.1 rfl (lv_room (Nat.le_of_ble_eq_true rfl)) dX5_wantOf_23 ⟨by show _ + 0 ≤ 0; omega, by show _ + 0 ≤ 0; omega⟩) hS (fun q _ h => hFc q h) hFc (fun r_26 u t H1 locs ht hvm hw hB hz1 hk1 hS => ?_)
    obtain ⟨F_27, hB1⟩ := hB
    obtain rfl : F = F_27 := (funext (fun a => hB1.2.2.2 a List.not_mem_nil)).symm
    obtain ⟨hP, hD, hO, hR⟩ := QT.back hB1 ht hFc hR (fun q h => absurd h List.not_mem_nil)
    generalize H1 = H at hP hS ⊢
    have hw : (r_26 = 1 ∧ TGV (TC f z) gq nn ll LQU) ∨ (r_26 = 0 ∧ ¬ TGV (TC f z) gq nn ll LQU) := hw
    have hw_28 := hw
    refine lv_if_eq (tgt := 32) hx hb dX5_wantOf_26 (by decide) (fun c_29 => ?_) (fun c_29 => ?_)
    ·
      refine lv_aload_n hx hb dX5_wantOf_32 rfl (lv_at hl 0 rfl) ?_
      refine pg_get (ci := 5) (v := .ref rc) (C := RX5) (T := TX5) (N := 7) hx hb hts it_5 hown hK hP hL_h0 hFp rfl 3 (by decide) (hts _ kt_456) (fun _ h9 => h9) rfl dX5_wantOf_33 ?_
      refine lv_aload_n hx hb dX5_wantOf_36 rfl (lv_at hl 1 rfl) ?_
      obtain ⟨q_30, v_31, hr_q_30, hXc_q_30⟩ := hG.2.2.2.2 ("PostGate$Policy", 164, "reject", [114, 101, 106, 101, 99, 116]) (by decide +kernel)
      have hXc_q_30 : SXc q_30 v_31 6 (cct [114, 101, 106, 101, 99, 116]) A s s.heap := hXc_q_30
      have hX_q_30 : SX q_30 v_31 6 A s s.heap := hXc_q_30.sx
      obtain ⟨xo_q_30, xc_q_30, xv_q_30, xt_q_30, xn_q_30⟩ := id hXc_q_30
      have hr_q_30 : vk_R "PostGate$Policy" 164 "reject" q_30 s := hr_q_30
      refine va_ldcS hx hb hown hr_q_30 dX5_wantOf_37 ?_
      have hFc := pg_free hD hS hA
      refine va_calli (va_runV (As := [.ref q, .ref q_30]) (rest := []) ⟨hx, hb, hml, hown, hts⟩ (s_X9_is_e l dC dI cs ty L H.size F rc (ρ + 2) rx 700 ry0 ry1 ry2 rr z nn f e0 e1 e2 gq q v k0 C q_30 v_31 6 (cct [114, 101, 106, 101, 99, 116]) ll LRJ hW hL_rc hT_rc hL_rx hT_rx hFcq hFx hFr hFy0 hFy1 hFy2 (hzn) (by omega) (hcn) (hhl) (hTG) (hCL) (⟨rfl, by decide +kernel⟩)) ⟨callB_of 2 hts (gi kt_334) rfl rfl rfl (hts _ kt_164) (hts _ kt_457) (by decide +kernel) ⟨Nat.le_of_ble_eq_true rfl, Nat.le_of_ble_eq_true rfl⟩, (hts _ kt_336), (hts _ kt_337)⟩ ⟨fun a U g mk q => ⟨q.1, PTD.calling q.2⟩, pg_recv hK hP hL_rc hFcq (q := (RX9, TX9, 5)) rfl, fun U hU hWm => ⟨rfl, PTD.mk hU hWm hP hK hD hE hO hG hX hXc_q_30 hS hFc⟩⟩ rfl rfl hl.1 rfl (lv_room (Nat.le_of_ble_eq_true rfl)) dX5_wantOf_39 ⟨by show _ + 0 ≤ 0; omega, by show _ + 0 ≤ 0; omega⟩) hS (fun q _ h => hFc q h) hFc (fun r_32 u t H1 locs ht hvm hw hB hz1 hk1 hS => ?_)
      obtain ⟨F_33, hB1⟩ := hB
      obtain rfl : F = F_33 := (funext (fun a => hB1.2.2.2 a List.not_mem_nil)).symm
      obtain ⟨hP, hD, hO, hR⟩ := QT.back hB1 ht hFc hR (fun q h => absurd h List.not_mem_nil)
      generalize H1 = H at hP hS ⊢
      have hw : (r_32 = 1 ∧ TGV (TC f z) gq nn ll LRJ) ∨ (r_32 = 0 ∧ ¬ TGV (TC f z) gq nn ll LRJ) := hw
      have hw_34 := hw
      refine lv_if_eq (tgt := 50) hx hb dX5_wantOf_42 (by decide) (fun c_35 => ?_) (fun c_35 => ?_)
      ·
        refine lv_bipush (v := 6) hx hb dX5_wantOf_50 (by decide) ?_
        refine W.widen (k := 0) (n := 0) (by omega) (by omega) ?_
        exact W.iret (v := 6) hx hb hr (fun t ht hWm => ⟨⟨6, (), rfl, (by unfold wnW; rw [if_neg (orp0 hw_22 c_23), if_neg (orp0 hw_28 c_29), if_neg (orp0 hw_34 c_35)]; rfl), ⟨F, QT.mk ht hP hD hO hR⟩⟩, hS.F ht⟩) hS.2.2 dX5_wantOf_52
      ·
        refine lv_bipush (v := 9) hx hb dX5_wantOf_45 (by decide) ?_
        refine lv_goto (tgt := 52) hx hb dX5_wantOf_47 (by decide) ?_
        refine W.widen (k := 0) (n := 0) (by omega) (by omega) ?_
        exact W.iret (v := 9) hx hb hr (fun t ht hWm => ⟨⟨9, (), rfl, (by unfold wnW; rw [if_neg (orp0 hw_22 c_23), if_neg (orp0 hw_28 c_29), if_pos (orp1 hw_34 c_35)]; rfl), ⟨F, QT.mk ht hP hD hO hR⟩⟩, hS.F ht⟩) hS.2.2 dX5_wantOf_52
    ·
      refine lv_bipush (v := 8) hx hb dX5_wantOf_29 (by decide) ?_
      refine W.widen (k := 0) (n := 0) (by omega) (by omega) ?_
      exact W.iret (v := 8) hx hb hr (fun t ht hWm => ⟨⟨8, (), rfl, (by unfold wnW; rw [if_neg (orp0 hw_22 c_23), if_pos (orp1 hw_28 c_29)]; rfl), ⟨F, QT.mk ht hP hD hO hR⟩⟩, hS.F ht⟩) hS.2.2 dX5_wantOf_31
  ·
    refine lv_bipush (v := 7) hx hb dX5_wantOf_13 (by decide) ?_
    refine W.widen (k := 0) (n := 0) (by omega) (by omega) ?_
    exact W.iret (v := 7) hx hb hr (fun t ht hWm => ⟨⟨7, (), rfl, (by unfold wnW; rw [if_pos (orp1 hw_22 c_23)]; rfl), ⟨F, QT.mk ht hP hD hO hR⟩⟩, hS.F ht⟩) hS.2.2 dX5_wantOf_15
set_option maxHeartbeats 4000000 in
set_option maxRecDepth 100000 in
theorem s_X5_readRecord_e (l : Launch) (dC : Nat → ClassId) (dI : Nat → Nat → Nat) (cs : Nat → ClassId) (ty : TyM) (L : List Nat) (sz : Nat) (F : Nat → va_E) (h0 : Nat) (ρ : Nat) (d : Nat) (δ : Nat) (ea : Nat) (w0 : Nat) (w1 : Nat) (rc : Nat) (rx : Nat) (ry0 : Nat) (ry1 : Nat) (ry2 : Nat) (g1 : Nat) (σ : Nat) (r1 : Nat) (n1 : Nat) (rr : Nat) (z : Nat) (f : Nat → Int32) (x2 : Int32) (hW : WT ty L) (hL_h0 : h0 ∈ L) (hT_h0 : ty h0 = (5, ρ, [d, δ, ea, w0, w1, rc, rx, ry0, ry1, ry2])) (hL_g1 : g1 ∈ L) (hT_g1 : ty g1 = (0, σ, [r1, n1])) (hL_rc : rc ∈ L) (hT_rc : ty rc = (9, ρ + 2, [rx, 700, ry0, ry1, ry2])) (hL_rx : rx ∈ L) (hT_rx : ty rx = (0, ρ + 3, [rr, 700])) (hFg : F g1 = .inr (0, [.ref r1, .int (nI z), .int 0])) (hFr : F r1 = .inl (cs 16, n1, .inl f)) (hzn : z ≤ n1) (hn9 : n1 ≤ 10000) (hz7 : z ≤ 700) (hsr : ρ + 80 ≤ σ) : Met l yX5_readRecord (.code yX5_readRecord cX5_readRecord 3 (some .int) :: tb) ({ frames := 8, cells := 0, slots := 0, locals := 175 }) (va_Pc [.ref h0, .ref g1, .int x2] (PTE (dC, dI) cs ty L F sz [])) (va_Qi (fun (r : Int32) (_ : Unit) => r = rrW (TC f z) z x2) (fun _ T9 => ∃ F2 : Nat → va_E, QT (dC, dI) cs ty L [ρ, ρ + 2, ρ + 3, ρ + 72, ρ + 73] F F2 (va_A (va_pl L F) sz) T9) (va_A (va_pl L F) sz)) 0 0 (va_A (va_pl L F) sz) := by
  refine Met.ofW (cc := cX5_readRecord) (maxL := 3) (ret := (some .int)) (by decide) rfl ?_
  intro p e s m args below meth c s₁ B hml hv
  obtain ⟨rfl, ⟨hsz, hP, hK, hD0, hE, hO⟩, hG, hX⟩ := hv
  have hx := B.exec
  have hb := B.bytes
  have hr := B.returns
  have hts : ∀ w ∈ tb, w.before _ s = true := fun w h => atoms_spec (ws := .code yX5_readRecord cX5_readRecord 3 (some .int) :: tb) B.pre w (List.mem_cons_of_mem _ h)
  have hown : s.vm.findClass RX5 = some m.cls := findClass_of_methodNamed B.named
  have hlocks := B.notSynchronized
  subst hsz
  have hD := hD0.self (sz := s.heap.size)
  generalize hAe : va_A (va_pl L F) s.heap.size = A at hD hG hX ⊢
  have hA : ∀ q : Nat, s.heap.size ≤ q → A q := fun q h => by rw [← hAe]; exact Or.inr h
  have hS : va_S A s.heap s.heap [] := va_S.rf
  have hR : FR ty [ρ, ρ + 2, ρ + 3, ρ + 72, ρ + 73] F F := FR.refl
  have hl := lv_entry ([.ref h0, .ref g1, .int x2]) (n := 3) (Nat.le_of_ble_eq_true rfl)
  rw [lg_entry_eq]
  generalize (lg_sl ([.ref h0, .ref g1, .int x2]) ++ List.replicate (3 - (lg_sl ([.ref h0, .ref g1, .int x2])).length) Slot.unset).toArray = ls at hl ⊢
  have hl : lv_has ls 3 [(0, .ref h0), (1, .ref g1), (2, .int x2)] := hl
  obtain ⟨hi_1, ht_2, hi_3, ⟨r_4, ht_5⟩, hi_6, ⟨r_7, ht_8⟩, _, _⟩ := hW.pol hL_h0 hT_h0
  obtain ⟨v0_9, v1_10, v2_11, hF_12⟩ := hO.pol hL_h0 hT_h0
  obtain ⟨_, hi_13, hi_14, hi_15, _, ht_16, ht_17, ht_18⟩ := hW.tags hL_rc hT_rc
  have ht_17 : ty ry1 = (24, ρ + 72, [40]) := ht_17
  have ht_18 : ty ry2 = (24, ρ + 73, [40]) := ht_18
  obtain ⟨hi_19, ht_20, hq_21⟩ := hW.bytes hL_rx hT_rx
  obtain ⟨hi_22, ht_23, hq_24⟩ := hW.bytes hL_g1 hT_g1
  refine lv_aload_n hx hb dX5_readRecord_0 rfl (lv_at hl 0 rfl) ?_
  refine pg_get (ci := 5) (v := .ref rc) (C := RX5) (T := TX5) (N := 7) hx hb hts it_5 hown hK hP hL_h0 hF_12 rfl 3 (by decide) (hts _ kt_456) (fun _ h9 => h9) rfl dX5_readRecord_1 ?_
  refine lv_aload_n hx hb dX5_readRecord_4 rfl (lv_at hl 1 rfl) ?_
  refine lv_iconst (v := 0) hx hb dX5_readRecord_5 (by decide) ?_
  refine lv_aload_n hx hb dX5_readRecord_6 rfl (lv_at hl 1 rfl) ?_
  refine pg_getN (ci := 0) (v := .int (nI z)) (C := RX0) (T := TX0) (N := 3) hx hb hts it_0 hown hK hP hL_g1 hFg rfl 1 (by decide) (hE.nest kn_13) (fun _ h9 => h9) rfl dX5_readRecord_7 ?_
  refine W.eq (g2 := F0 m 10 ls [.int (nI z), .int (nI 0), .ref g1, .ref rc]) rfl ?_
  have hFc := pg_free hD hS hA
  obtain ⟨z_25, hF_26, hq_27⟩ := hO.tags hL_rc hT_rc
  refine va_calli (va_runV (As := [.ref g1, .int (nI 0), .int (nI z)]) (rest := []) ⟨hx, hb, hml, hown, hts⟩ (s_X9_read_e l dC dI cs ty L s.heap.size F rc (ρ + 2) rx 700 ry0 ry1 ry2 g1 σ r1 n1 rr z 0 z f hW hL_rc hT_rc hL_rx hT_rx hL_g1 hT_g1 hFg hFr (by omega) (by omega) (Nat.zero_le _) (Nat.le_refl _) (by omega) (by omega) (by omega) (by omega) (by omega) (by omega)) ⟨callB_of 3 hts (gi kt_330) rfl rfl rfl (hts _ kt_164) (hts _ kt_469) (by decide +kernel) ⟨Nat.le_of_ble_eq_true rfl, Nat.le_of_ble_eq_true rfl⟩, (hts _ kt_332), (hts _ kt_333)⟩ ⟨fun a U g mk q => ⟨q.1, PT.calling q.2⟩, pg_recv hK hP hL_rc hF_26 (q := (RX9, TX9, 5)) rfl, fun U hU hWm => ⟨rfl, PT.mk hU hWm hP hK hD hE hO⟩⟩ rfl rfl hl.1 rfl (lv_room (Nat.le_of_ble_eq_true rfl)) dX5_readRecord_10 ⟨by show _ + 0 ≤ 0; omega, by show _ + 0 ≤ 0; omega⟩) hS (fun q _ h => hFc q h) hFc (fun r_29 gg_28 t H1 locs ht hvm hw hB hz1 hk1 hS => ?_)
  obtain ⟨F_30, p0_31, p1_32, p2_33, fc_34, hB1, hq_35, hq_36, hq_37, hq_38, hq_39, hq_40, hq_41, hq_42, hq_43⟩ := hB
  obtain ⟨hP, hD, hO, hR⟩ := QT.back hB1 ht hFc hR (fun q h => by simp only [List.mem_cons, List.not_mem_nil, or_false] at h ⊢; omega)
  have hF_44 : F_30 g1 = .inr (0, [.ref r1, .int (nI z), .int 0]) := (hB1.2.2.2 g1 (by rw [hT_g1]; simp only [List.mem_cons, List.not_mem_nil, or_false]; omega)).trans hFg
  have hF_45 : F_30 r1 = .inl (cs 16, n1, .inl f) := (hB1.2.2.2 r1 (by rw [ht_23]; simp only [List.mem_cons, List.not_mem_nil, or_false]; omega)).trans hFr
  have hF_46 : F_30 h0 = .inr (5, [.ref d, .ref w0, .ref w1, .ref rc, .int v0_9, .int v1_10, .int v2_11]) := (hB1.2.2.2 h0 (by rw [hT_h0]; simp <;> omega)).trans hF_12
  generalize H1 = H at hP hS ⊢
  have hw : TGX (flT (TC f z) 0 (z - 0)) (flI (TC f z) 0 (z - 0)).length r_29 gg_28 := hw
  have hw_47 := hw
  obtain ⟨hti1, hti2, hti3⟩ := hq_43
  refine lv_if_ne (tgt := 19) hx hb dX5_readRecord_13 (by decide) (fun c_48 => ?_) (fun c_48 => ?_)
  ·
    refine lv_aload_n hx hb dX5_readRecord_19 rfl (lv_at hl 0 rfl) ?_
    refine lv_aload_n hx hb dX5_readRecord_20 rfl (lv_at hl 0 rfl) ?_
    obtain ⟨q_49, v_50, hr_q_49, hXc_q_49⟩ := hG.2.2.2.2 ("PostGate$Policy", 140, "p", [112]) (by decide +kernel)
    have hXc_q_49 : SXc q_49 v_50 1 (cct [112]) A s s.heap := hXc_q_49
    have hX_q_49 : SX q_49 v_50 1 A s s.heap := hXc_q_49.sx
    obtain ⟨xo_q_49, xc_q_49, xv_q_49, xt_q_49, xn_q_49⟩ := id hXc_q_49
    have hr_q_49 : vk_R "PostGate$Policy" 140 "p" q_49 s := hr_q_49
    refine va_ldcS hx hb hown hr_q_49 dX5_readRecord_21 ?_
    have hFc := pg_free hD hS hA
    refine va_calli (va_runV (As := [.ref q_49]) (rest := [.ref h0]) ⟨hx, hb, hml, hown, hts⟩ (s_X5_wantOf_e l dC dI cs ty L H.size F_30 h0 ρ d δ ea w0 w1 rc rx ry0 ry1 ry2 rr ((flI (TC f z) 0 (z - 0)).length) gg_28.1 fc_34 p0_31 p1_32 p2_33 gg_28.2 q_49 v_50 1 (cct [112]) ([112]) v0_9 v1_10 v2_11 hW hL_h0 hT_h0 hL_rc hT_rc hL_rx hT_rx hF_46 hq_35 hq_36 hq_37 hq_38 hq_39 hq_40 (hti3) (hti2) (hq_42) (hti1) (⟨rfl, by decide +kernel⟩)) ⟨callB_of 1 hts (gi kt_470) rfl rfl rfl (hts _ kt_471) (hts _ kt_472) (by decide +kernel) ⟨Nat.le_of_ble_eq_true rfl, Nat.le_of_ble_eq_true rfl⟩, (hts _ kt_473), (hts _ kt_474)⟩ ⟨fun a U g mk q => ⟨q.1, PTC.calling q.2⟩, pg_recv hK hP hL_h0 hF_46 (q := (RX5, TX5, 7)) rfl, fun U hU hWm => ⟨rfl, PTC.mk hU hWm hP hK hD hE hO hG hXc_q_49 hS hFc⟩⟩ rfl rfl hl.1 rfl (lv_room (Nat.le_of_ble_eq_true rfl)) dX5_readRecord_23 ⟨by show _ + 0 ≤ 0; omega, by show _ + 0 ≤ 0; omega⟩) hS (fun q _ h => hFc q h) hFc (fun r_51 u t H1 locs ht hvm hw hB hz1 hk1 hS => ?_)
    obtain ⟨F_52, hB1⟩ := hB
    obtain rfl : F_30 = F_52 := (funext (fun a => hB1.2.2.2 a List.not_mem_nil)).symm
    obtain ⟨hP, hD, hO, hR⟩ := QT.back hB1 ht hFc hR (fun q h => absurd h List.not_mem_nil)
    generalize H1 = H at hP hS ⊢
    have hw : r_51 = nI (wnW (TC fc_34 (flI (TC f z) 0 (z - 0)).length) gg_28.2 gg_28.1 [112]) := hw
    have hw_53 := hw
    have hw_54 : r_51 = (nI (wnW (flT (TC f z) 0 (z - 0)) gg_28.2 gg_28.1 [112])) := by have h9 := hw_53; rw [hq_41] at h9; exact h9
    subst hw_54
    refine pg_put (ci := 5) (v := .int (nI (wnW (flT (TC f z) 0 (z - 0)) gg_28.2 gg_28.1 [112]))) (ty := .int) (C := RX5) (T := TX5) (N := 7) hx hb hts it_5 tyX5 tyX5_ok nmX5 hown hK hP hD hS hL_h0 hF_46 rfl 4 (by decide) (hts _ kt_475) (fun _ h9 => h9) rfl (by decide +kernel) (rfl) (rfl) (Nat.le_of_ble_eq_true rfl) dX5_readRecord_26 (fun H locs hP hD hS => ?_)
    obtain ⟨F_55, he_56, hP, hD, hO, hR⟩ : ∃ G, G = va_up F_30 h0 (.inr (5, [.ref d, .ref w0, .ref w1, .ref rc, .int (nI (wnW (flT (TC f z) 0 (z - 0)) gg_28.2 gg_28.1 [112])), .int v1_10, .int v2_11])) ∧ va_P (dC, dI) vwCl (va_pl L G) H ∧ va_D A (va_pl L G) ∧ OK cs ty L G ∧ FR ty [ρ, ρ + 2, ρ + 3, ρ + 72, ρ + 73] F G := ⟨_, rfl, hP, hD, hO.up (sh.pol hT_h0 ⟨(nI (wnW (flT (TC f z) 0 (z - 0)) gg_28.2 gg_28.1 [112])), v1_10, v2_11, rfl⟩), hR.up hT_h0 (by simp)⟩
    have hF_57 : F_55 h0 = .inr (5, [.ref d, .ref w0, .ref w1, .ref rc, .int (nI (wnW (flT (TC f z) 0 (z - 0)) gg_28.2 gg_28.1 [112])), .int v1_10, .int v2_11]) := by rw [he_56]; exact up_self
    have hF_58 : F_55 g1 = .inr (0, [.ref r1, .int (nI z), .int 0]) := by rw [he_56, up_ne (ne_ty hT_g1 hT_h0 (by simp))]; exact hF_44
    have hF_59 : F_55 r1 = .inl (cs 16, n1, .inl f) := by rw [he_56, up_ne (ne_ty ht_23 hT_h0 (by simp))]; exact hF_45
    have hF_60 : F_55 rc = .inr (9, [.ref rx, .ref ry0, .ref ry1, .ref ry2, .int (nI gg_28.1)]) := by rw [he_56, up_ne (ne_ty hT_rc hT_h0 (by simp))]; exact hq_35
    have hF_61 : F_55 rx = .inr (0, [.ref rr, .int (nI (flI (TC f z) 0 (z - 0)).length), .int 0]) := by rw [he_56, up_ne (ne_ty hT_rx hT_h0 (by simp))]; exact hq_36
    have hF_62 : F_55 rr = .inl (cs 16, 700, .inl fc_34) := by rw [he_56, up_ne (ne_ty ht_20 hT_h0 (by simp))]; exact hq_37
    have hF_63 : F_55 ry0 = .inl (cs 16, 40, .inl p0_31) := by rw [he_56, up_ne (ne_ty ht_16 hT_h0 (by simp))]; exact hq_38
    have hF_64 : F_55 ry1 = .inl (cs 16, 40, .inl p1_32) := by rw [he_56, up_ne (ne_ty ht_17 hT_h0 (by simp))]; exact hq_39
    have hF_65 : F_55 ry2 = .inl (cs 16, 40, .inl p2_33) := by rw [he_56, up_ne (ne_ty ht_18 hT_h0 (by simp))]; exact hq_40
    refine lv_aload_n hx hb dX5_readRecord_29 rfl (lv_at hl 0 rfl) ?_
    refine pg_get (ci := 5) (v := .int (nI (wnW (flT (TC f z) 0 (z - 0)) gg_28.2 gg_28.1 [112]))) (C := RX5) (T := TX5) (N := 7) hx hb hts it_5 hown hK hP hL_h0 hF_57 rfl 4 (by decide) (hts _ kt_475) (fun _ h9 => h9) rfl dX5_readRecord_30 ?_
    refine lv_bipush (v := 6) hx hb dX5_readRecord_33 (by decide) ?_
    refine lv_icmp_eq (tgt := 64) hx hb dX5_readRecord_35 (by decide) (fun c_66 => ?_) (fun c_66 => ?_)
    ·
      refine lv_aload_n hx hb dX5_readRecord_64 rfl (lv_at hl 0 rfl) ?_
      refine lv_aload_n hx hb dX5_readRecord_65 rfl (lv_at hl 0 rfl) ?_
      refine pg_get (ci := 5) (v := .ref rc) (C := RX5) (T := TX5) (N := 7) hx hb hts it_5 hown hK hP hL_h0 hF_57 rfl 3 (by decide) (hts _ kt_456) (fun _ h9 => h9) rfl dX5_readRecord_66 ?_
      obtain ⟨q_68, v_69, hr_q_68, hXc_q_68⟩ := hG.2.2.2.2 ("PostGate$Policy", 150, "aspf", [97, 115, 112, 102]) (by decide +kernel)
      have hXc_q_68 : SXc q_68 v_69 4 (cct [97, 115, 112, 102]) A s s.heap := hXc_q_68
      have hX_q_68 : SX q_68 v_69 4 A s s.heap := hXc_q_68.sx
      obtain ⟨xo_q_68, xc_q_68, xv_q_68, xt_q_68, xn_q_68⟩ := id hXc_q_68
      have hr_q_68 : vk_R "PostGate$Policy" 150 "aspf" q_68 s := hr_q_68
      refine va_ldcS hx hb hown hr_q_68 dX5_readRecord_69 ?_
      obtain ⟨q_70, v_71, hr_q_70, hXc_q_70⟩ := hG.2.2.2.2 ("PostGate$Policy", 152, "s", [115]) (by decide +kernel)
      have hXc_q_70 : SXc q_70 v_71 1 (cct [115]) A s s.heap := hXc_q_70
      have hX_q_70 : SX q_70 v_71 1 A s s.heap := hXc_q_70.sx
      obtain ⟨xo_q_70, xc_q_70, xv_q_70, xt_q_70, xn_q_70⟩ := id hXc_q_70
      have hr_q_70 : vk_R "PostGate$Policy" 152 "s" q_70 s := hr_q_70
      refine va_ldcS hx hb hown hr_q_70 dX5_readRecord_71 ?_
      have hFc := pg_free hD hS hA
      refine va_calli (va_runV (As := [.ref q_68, .ref q_70]) (rest := [.ref h0]) ⟨hx, hb, hml, hown, hts⟩ (s_X9_is_e l dC dI cs ty L H.size F_55 rc (ρ + 2) rx 700 ry0 ry1 ry2 rr ((flI (TC f z) 0 (z - 0)).length) gg_28.1 fc_34 p0_31 p1_32 p2_33 gg_28.2 q_68 v_69 4 (cct [97, 115, 112, 102]) q_70 v_71 1 (cct [115]) ([97, 115, 112, 102]) ([115]) hW hL_rc hT_rc hL_rx hT_rx hF_60 hF_61 hF_62 hF_63 hF_64 hF_65 (hti3) (by omega) (hti2) (hq_42) (hti1) (⟨rfl, by decide +kernel⟩) (⟨rfl, by decide +kernel⟩)) ⟨callB_of 2 hts (gi kt_334) rfl rfl rfl (hts _ kt_164) (hts _ kt_457) (by decide +kernel) ⟨Nat.le_of_ble_eq_true rfl, Nat.le_of_ble_eq_true rfl⟩, (hts _ kt_336), (hts _ kt_337)⟩ ⟨fun a U g mk q => ⟨q.1, PTD.calling q.2⟩, pg_recv hK hP hL_rc hF_60 (q := (RX9, TX9, 5)) rfl, fun U hU hWm => ⟨rfl, PTD.mk hU hWm hP hK hD hE hO hG hXc_q_68 hXc_q_70 hS hFc⟩⟩ rfl rfl hl.1 rfl (lv_room (Nat.le_of_ble_eq_true rfl)) dX5_readRecord_73 ⟨by show _ + 0 ≤ 0; omega, by show _ + 0 ≤ 0; omega⟩) hS (fun q _ h => hFc q h) hFc (fun r_72 u t H1 locs ht hvm hw hB hz1 hk1 hS => ?_)
      obtain ⟨F_73, hB1⟩ := hB
      obtain rfl : F_55 = F_73 := (funext (fun a => hB1.2.2.2 a List.not_mem_nil)).symm
      obtain ⟨hP, hD, hO, hR⟩ := QT.back hB1 ht hFc hR (fun q h => absurd h List.not_mem_nil)
      generalize H1 = H at hP hS ⊢
      have hw : (r_72 = 1 ∧ TGV (TC fc_34 (flI (TC f z) 0 (z - 0)).length) gg_28.2 gg_28.1 [97, 115, 112, 102] [115]) ∨ (r_72 = 0 ∧ ¬ TGV (TC fc_34 (flI (TC f z) 0 (z - 0)).length) gg_28.2 gg_28.1 [97, 115, 112, 102] [115]) := hw
      have hw_74 := hw
      refine pg_put (ci := 5) (v := .int r_72) (ty := .boolean) (C := RX5) (T := TX5) (N := 7) hx hb hts it_5 tyX5 tyX5_ok nmX5 hown hK hP hD hS hL_h0 hF_57 rfl 5 (by decide) (hts _ kt_476) (fun _ h9 => h9) rfl (by decide +kernel) (bitN (bit2 hw_74)) (bitF (bit2 hw_74)) (Nat.le_of_ble_eq_true rfl) dX5_readRecord_76 (fun H locs hP hD hS => ?_)
      obtain ⟨F_75, he_76, hP, hD, hO, hR⟩ : ∃ G, G = va_up F_55 h0 (.inr (5, [.ref d, .ref w0, .ref w1, .ref rc, .int (nI (wnW (flT (TC f z) 0 (z - 0)) gg_28.2 gg_28.1 [112])), .int r_72, .int v2_11])) ∧ va_P (dC, dI) vwCl (va_pl L G) H ∧ va_D A (va_pl L G) ∧ OK cs ty L G ∧ FR ty [ρ, ρ + 2, ρ + 3, ρ + 72, ρ + 73] F G := ⟨_, rfl, hP, hD, hO.up (sh.pol hT_h0 ⟨(nI (wnW (flT (TC f z) 0 (z - 0)) gg_28.2 gg_28.1 [112])), r_72, v2_11, rfl⟩), hR.up hT_h0 (by simp)⟩
      have hF_77 : F_75 h0 = .inr (5, [.ref d, .ref w0, .ref w1, .ref rc, .int (nI (wnW (flT (TC f z) 0 (z - 0)) gg_28.2 gg_28.1 [112])), .int r_72, .int v2_11]) := by rw [he_76]; exact up_self
      have hF_78 : F_75 g1 = .inr (0, [.ref r1, .int (nI z), .int 0]) := by rw [he_76, up_ne (ne_ty hT_g1 hT_h0 (by simp))]; exact hF_58
      have hF_79 : F_75 r1 = .inl (cs 16, n1, .inl f) := by rw [he_76, up_ne (ne_ty ht_23 hT_h0 (by simp))]; exact hF_59
      have hF_80 : F_75 rc = .inr (9, [.ref rx, .ref ry0, .ref ry1, .ref ry2, .int (nI gg_28.1)]) := by rw [he_76, up_ne (ne_ty hT_rc hT_h0 (by simp))]; exact hF_60
      have hF_81 : F_75 rx = .inr (0, [.ref rr, .int (nI (flI (TC f z) 0 (z - 0)).length), .int 0]) := by rw [he_76, up_ne (ne_ty hT_rx hT_h0 (by simp))]; exact hF_61
      have hF_82 : F_75 rr = .inl (cs 16, 700, .inl fc_34) := by rw [he_76, up_ne (ne_ty ht_20 hT_h0 (by simp))]; exact hF_62
      have hF_83 : F_75 ry0 = .inl (cs 16, 40, .inl p0_31) := by rw [he_76, up_ne (ne_ty ht_16 hT_h0 (by simp))]; exact hF_63
      have hF_84 : F_75 ry1 = .inl (cs 16, 40, .inl p1_32) := by rw [he_76, up_ne (ne_ty ht_17 hT_h0 (by simp))]; exact hF_64
      have hF_85 : F_75 ry2 = .inl (cs 16, 40, .inl p2_33) := by rw [he_76, up_ne (ne_ty ht_18 hT_h0 (by simp))]; exact hF_65
      refine lv_aload_n hx hb dX5_readRecord_79 rfl (lv_at hl 0 rfl) ?_
      refine lv_aload_n hx hb dX5_readRecord_80 rfl (lv_at hl 0 rfl) ?_
      refine pg_get (ci := 5) (v := .ref rc) (C := RX5) (T := TX5) (N := 7) hx hb hts it_5 hown hK hP hL_h0 hF_77 rfl 3 (by decide) (hts _ kt_456) (fun _ h9 => h9) rfl dX5_readRecord_81 ?_
      obtain ⟨q_86, v_87, hr_q_86, hXc_q_86⟩ := hG.2.2.2.2 ("PostGate$Policy", 158, "adkim", [97, 100, 107, 105, 109]) (by decide +kernel)
      have hXc_q_86 : SXc q_86 v_87 5 (cct [97, 100, 107, 105, 109]) A s s.heap := hXc_q_86
      have hX_q_86 : SX q_86 v_87 5 A s s.heap := hXc_q_86.sx
      obtain ⟨xo_q_86, xc_q_86, xv_q_86, xt_q_86, xn_q_86⟩ := id hXc_q_86
      have hr_q_86 : vk_R "PostGate$Policy" 158 "adkim" q_86 s := hr_q_86
      refine va_ldcS hx hb hown hr_q_86 dX5_readRecord_84 ?_
      refine va_ldcS hx hb hown hr_q_70 dX5_readRecord_86 ?_
      have hFc := pg_free hD hS hA
      refine va_calli (va_runV (As := [.ref q_86, .ref q_70]) (rest := [.ref h0]) ⟨hx, hb, hml, hown, hts⟩ (s_X9_is_e l dC dI cs ty L H.size F_75 rc (ρ + 2) rx 700 ry0 ry1 ry2 rr ((flI (TC f z) 0 (z - 0)).length) gg_28.1 fc_34 p0_31 p1_32 p2_33 gg_28.2 q_86 v_87 5 (cct [97, 100, 107, 105, 109]) q_70 v_71 1 (cct [115]) ([97, 100, 107, 105, 109]) ([115]) hW hL_rc hT_rc hL_rx hT_rx hF_80 hF_81 hF_82 hF_83 hF_84 hF_85 (hti3) (by omega) (hti2) (hq_42) (hti1) (⟨rfl, by decide +kernel⟩) (⟨rfl, by decide +kernel⟩)) ⟨callB_of 2 hts (gi kt_334) rfl rfl rfl (hts _ kt_164) (hts _ kt_457) (by decide +kernel) ⟨Nat.le_of_ble_eq_true rfl, Nat.le_of_ble_eq_true rfl⟩, (hts _ kt_336), (hts _ kt_337)⟩ ⟨fun a U g mk q => ⟨q.1, PTD.calling q.2⟩, pg_recv hK hP hL_rc hF_80 (q := (RX9, TX9, 5)) rfl, fun U hU hWm => ⟨rfl, PTD.mk hU hWm hP hK hD hE hO hG hXc_q_86 hXc_q_70 hS hFc⟩⟩ rfl rfl hl.1 rfl (lv_room (Nat.le_of_ble_eq_true rfl)) dX5_readRecord_88 ⟨by show _ + 0 ≤ 0; omega, by show _ + 0 ≤ 0; omega⟩) hS (fun q _ h => hFc q h) hFc (fun r_88 u t H1 locs ht hvm hw hB hz1 hk1 hS => ?_)
      obtain ⟨F_89, hB1⟩ := hB
      obtain rfl : F_75 = F_89 := (funext (fun a => hB1.2.2.2 a List.not_mem_nil)).symm
      obtain ⟨hP, hD, hO, hR⟩ := QT.back hB1 ht hFc hR (fun q h => absurd h List.not_mem_nil)
      generalize H1 = H at hP hS ⊢
      have hw : (r_88 = 1 ∧ TGV (TC fc_34 (flI (TC f z) 0 (z - 0)).length) gg_28.2 gg_28.1 [97, 100, 107, 105, 109] [115]) ∨ (r_88 = 0 ∧ ¬ TGV (TC fc_34 (flI (TC f z) 0 (z - 0)).length) gg_28.2 gg_28.1 [97, 100, 107, 105, 109] [115]) := hw
      have hw_90 := hw
      refine pg_put (ci := 5) (v := .int r_88) (ty := .boolean) (C := RX5) (T := TX5) (N := 7) hx hb hts it_5 tyX5 tyX5_ok nmX5 hown hK hP hD hS hL_h0 hF_77 rfl 6 (by decide) (hts _ kt_477) (fun _ h9 => h9) rfl (by decide +kernel) (bitN (bit2 hw_90)) (bitF (bit2 hw_90)) (Nat.le_of_ble_eq_true rfl) dX5_readRecord_91 (fun H locs hP hD hS => ?_)
      obtain ⟨F_91, he_92, hP, hD, hO, hR⟩ : ∃ G, G = va_up F_75 h0 (.inr (5, [.ref d, .ref w0, .ref w1, .ref rc, .int (nI (wnW (flT (TC f z) 0 (z - 0)) gg_28.2 gg_28.1 [112])), .int r_72, .int r_88])) ∧ va_P (dC, dI) vwCl (va_pl L G) H ∧ va_D A (va_pl L G) ∧ OK cs ty L G ∧ FR ty [ρ, ρ + 2, ρ + 3, ρ + 72, ρ + 73] F G := ⟨_, rfl, hP, hD, hO.up (sh.pol hT_h0 ⟨(nI (wnW (flT (TC f z) 0 (z - 0)) gg_28.2 gg_28.1 [112])), r_72, r_88, rfl⟩), hR.up hT_h0 (by simp)⟩
      have hF_93 : F_91 h0 = .inr (5, [.ref d, .ref w0, .ref w1, .ref rc, .int (nI (wnW (flT (TC f z) 0 (z - 0)) gg_28.2 gg_28.1 [112])), .int r_72, .int r_88]) := by rw [he_92]; exact up_self
      have hF_94 : F_91 g1 = .inr (0, [.ref r1, .int (nI z), .int 0]) := by rw [he_92, up_ne (ne_ty hT_g1 hT_h0 (by simp))]; exact hF_78
      have hF_95 : F_91 r1 = .inl (cs 16, n1, .inl f) := by rw [he_92, up_ne (ne_ty ht_23 hT_h0 (by simp))]; exact hF_79
      have hF_96 : F_91 rc = .inr (9, [.ref rx, .ref ry0, .ref ry1, .ref ry2, .int (nI gg_28.1)]) := by rw [he_92, up_ne (ne_ty hT_rc hT_h0 (by simp))]; exact hF_80
      have hF_97 : F_91 rx = .inr (0, [.ref rr, .int (nI (flI (TC f z) 0 (z - 0)).length), .int 0]) := by rw [he_92, up_ne (ne_ty hT_rx hT_h0 (by simp))]; exact hF_81
      have hF_98 : F_91 rr = .inl (cs 16, 700, .inl fc_34) := by rw [he_92, up_ne (ne_ty ht_20 hT_h0 (by simp))]; exact hF_82
      have hF_99 : F_91 ry0 = .inl (cs 16, 40, .inl p0_31) := by rw [he_92, up_ne (ne_ty ht_16 hT_h0 (by simp))]; exact hF_83
      have hF_100 : F_91 ry1 = .inl (cs 16, 40, .inl p1_32) := by rw [he_92, up_ne (ne_ty ht_17 hT_h0 (by simp))]; exact hF_84
      have hF_101 : F_91 ry2 = .inl (cs 16, 40, .inl p2_33) := by rw [he_92, up_ne (ne_ty ht_18 hT_h0 (by simp))]; exact hF_85
      refine lv_aload_n hx hb dX5_readRecord_94 rfl (lv_at hl 0 rfl) ?_
      refine pg_get (ci := 5) (v := .int (nI (wnW (flT (TC f z) 0 (z - 0)) gg_28.2 gg_28.1 [112]))) (C := RX5) (T := TX5) (N := 7) hx hb hts it_5 hown hK hP hL_h0 hF_93 rfl 4 (by decide) (hts _ kt_475) (fun _ h9 => h9) rfl dX5_readRecord_95 ?_
      refine lv_bipush (v := 6) hx hb dX5_readRecord_98 (by decide) ?_
      refine lv_icmp_ne (tgt := 108) hx hb dX5_readRecord_100 (by decide) (fun c_102 => absurd (c_66) c_102) (fun c_102 => ?_)
      refine lv_bipush (v := 6) hx hb dX5_readRecord_103 (by decide) ?_
      refine lv_goto (tgt := 109) hx hb dX5_readRecord_105 (by decide) ?_
      refine W.widen (k := 0) (n := 0) (by omega) (by omega) ?_
      exact W.iret (v := 6) hx hb hr (fun t ht hWm => ⟨⟨6, (), rfl, (by unfold rrW; rw [show tgT (flT (TC f z) 0 (z - 0)) (flI (TC f z) 0 (z - 0)).length = some gg_28 from by rcases hw_47 with h9 | h9; exact h9.2; exact absurd h9.1 c_48]; show (_ : Int32) = (if (wnW (flT (TC f z) 0 (z - 0)) gg_28.2 gg_28.1 [112]) = 6 then 6 else _); rw [if_pos (show (wnW (flT (TC f z) 0 (z - 0)) gg_28.2 gg_28.1 [112]) = 6 from (nI_eq (b := 6) (by have h8 := wnW_le (T := (flT (TC f z) 0 (z - 0))) (g := gg_28.2) (n := gg_28.1) (l := [112]); omega) (by omega)).mp c_66)]), ⟨F_91, QT.mk ht hP hD hO hR⟩⟩, hS.F ht⟩) hS.2.2 dX5_readRecord_109
    ·
      refine lv_iload_n hx hb dX5_readRecord_38 rfl (lv_at hl 2 rfl) ?_
      refine lv_if_ne (tgt := 64) hx hb dX5_readRecord_39 (by decide) (fun c_104 => ?_) (fun c_104 => ?_)
      ·
        refine lv_aload_n hx hb dX5_readRecord_64 rfl (lv_at hl 0 rfl) ?_
        refine lv_aload_n hx hb dX5_readRecord_65 rfl (lv_at hl 0 rfl) ?_
        refine pg_get (ci := 5) (v := .ref rc) (C := RX5) (T := TX5) (N := 7) hx hb hts it_5 hown hK hP hL_h0 hF_57 rfl 3 (by decide) (hts _ kt_456) (fun _ h9 => h9) rfl dX5_readRecord_66 ?_
        obtain ⟨q_105, v_106, hr_q_105, hXc_q_105⟩ := hG.2.2.2.2 ("PostGate$Policy", 150, "aspf", [97, 115, 112, 102]) (by decide +kernel)
        have hXc_q_105 : SXc q_105 v_106 4 (cct [97, 115, 112, 102]) A s s.heap := hXc_q_105
        have hX_q_105 : SX q_105 v_106 4 A s s.heap := hXc_q_105.sx
        obtain ⟨xo_q_105, xc_q_105, xv_q_105, xt_q_105, xn_q_105⟩ := id hXc_q_105
        have hr_q_105 : vk_R "PostGate$Policy" 150 "aspf" q_105 s := hr_q_105
        refine va_ldcS hx hb hown hr_q_105 dX5_readRecord_69 ?_
        obtain ⟨q_107, v_108, hr_q_107, hXc_q_107⟩ := hG.2.2.2.2 ("PostGate$Policy", 152, "s", [115]) (by decide +kernel)
        have hXc_q_107 : SXc q_107 v_108 1 (cct [115]) A s s.heap := hXc_q_107
        have hX_q_107 : SX q_107 v_108 1 A s s.heap := hXc_q_107.sx
        obtain ⟨xo_q_107, xc_q_107, xv_q_107, xt_q_107, xn_q_107⟩ := id hXc_q_107
        have hr_q_107 : vk_R "PostGate$Policy" 152 "s" q_107 s := hr_q_107
        refine va_ldcS hx hb hown hr_q_107 dX5_readRecord_71 ?_
        have hFc := pg_free hD hS hA
        refine va_calli (va_runV (As := [.ref q_105, .ref q_107]) (rest := [.ref h0]) ⟨hx, hb, hml, hown, hts⟩ (s_X9_is_e l dC dI cs ty L H.size F_55 rc (ρ + 2) rx 700 ry0 ry1 ry2 rr ((flI (TC f z) 0 (z - 0)).length) gg_28.1 fc_34 p0_31 p1_32 p2_33 gg_28.2 q_105 v_106 4 (cct [97, 115, 112, 102]) q_107 v_108 1 (cct [115]) ([97, 115, 112, 102]) ([115]) hW hL_rc hT_rc hL_rx hT_rx hF_60 hF_61 hF_62 hF_63 hF_64 hF_65 (hti3) (by omega) (hti2) (hq_42) (hti1) (⟨rfl, by decide +kernel⟩) (⟨rfl, by decide +kernel⟩)) ⟨callB_of 2 hts (gi kt_334) rfl rfl rfl (hts _ kt_164) (hts _ kt_457) (by decide +kernel) ⟨Nat.le_of_ble_eq_true rfl, Nat.le_of_ble_eq_true rfl⟩, (hts _ kt_336), (hts _ kt_337)⟩ ⟨fun a U g mk q => ⟨q.1, PTD.calling q.2⟩, pg_recv hK hP hL_rc hF_60 (q := (RX9, TX9, 5)) rfl, fun U hU hWm => ⟨rfl, PTD.mk hU hWm hP hK hD hE hO hG hXc_q_105 hXc_q_107 hS hFc⟩⟩ rfl rfl hl.1 rfl (lv_room (Nat.le_of_ble_eq_true rfl)) dX5_readRecord_73 ⟨by show _ + 0 ≤ 0; omega, by show _ + 0 ≤ 0; omega⟩) hS (fun q _ h => hFc q h) hFc (fun r_109 u t H1 locs ht hvm hw hB hz1 hk1 hS => ?_)
        obtain ⟨F_110, hB1⟩ := hB
        obtain rfl : F_55 = F_110 := (funext (fun a => hB1.2.2.2 a List.not_mem_nil)).symm
        obtain ⟨hP, hD, hO, hR⟩ := QT.back hB1 ht hFc hR (fun q h => absurd h List.not_mem_nil)
        generalize H1 = H at hP hS ⊢
        have hw : (r_109 = 1 ∧ TGV (TC fc_34 (flI (TC f z) 0 (z - 0)).length) gg_28.2 gg_28.1 [97, 115, 112, 102] [115]) ∨ (r_109 = 0 ∧ ¬ TGV (TC fc_34 (flI (TC f z) 0 (z - 0)).length) gg_28.2 gg_28.1 [97, 115, 112, 102] [115]) := hw
        have hw_111 := hw
        refine pg_put (ci := 5) (v := .int r_109) (ty := .boolean) (C := RX5) (T := TX5) (N := 7) hx hb hts it_5 tyX5 tyX5_ok nmX5 hown hK hP hD hS hL_h0 hF_57 rfl 5 (by decide) (hts _ kt_476) (fun _ h9 => h9) rfl (by decide +kernel) (bitN (bit2 hw_111)) (bitF (bit2 hw_111)) (Nat.le_of_ble_eq_true rfl) dX5_readRecord_76 (fun H locs hP hD hS => ?_)
        obtain ⟨F_112, he_113, hP, hD, hO, hR⟩ : ∃ G, G = va_up F_55 h0 (.inr (5, [.ref d, .ref w0, .ref w1, .ref rc, .int (nI (wnW (flT (TC f z) 0 (z - 0)) gg_28.2 gg_28.1 [112])), .int r_109, .int v2_11])) ∧ va_P (dC, dI) vwCl (va_pl L G) H ∧ va_D A (va_pl L G) ∧ OK cs ty L G ∧ FR ty [ρ, ρ + 2, ρ + 3, ρ + 72, ρ + 73] F G := ⟨_, rfl, hP, hD, hO.up (sh.pol hT_h0 ⟨(nI (wnW (flT (TC f z) 0 (z - 0)) gg_28.2 gg_28.1 [112])), r_109, v2_11, rfl⟩), hR.up hT_h0 (by simp)⟩
        have hF_114 : F_112 h0 = .inr (5, [.ref d, .ref w0, .ref w1, .ref rc, .int (nI (wnW (flT (TC f z) 0 (z - 0)) gg_28.2 gg_28.1 [112])), .int r_109, .int v2_11]) := by rw [he_113]; exact up_self
        have hF_115 : F_112 g1 = .inr (0, [.ref r1, .int (nI z), .int 0]) := by rw [he_113, up_ne (ne_ty hT_g1 hT_h0 (by simp))]; exact hF_58
        have hF_116 : F_112 r1 = .inl (cs 16, n1, .inl f) := by rw [he_113, up_ne (ne_ty ht_23 hT_h0 (by simp))]; exact hF_59
        have hF_117 : F_112 rc = .inr (9, [.ref rx, .ref ry0, .ref ry1, .ref ry2, .int (nI gg_28.1)]) := by rw [he_113, up_ne (ne_ty hT_rc hT_h0 (by simp))]; exact hF_60
        have hF_118 : F_112 rx = .inr (0, [.ref rr, .int (nI (flI (TC f z) 0 (z - 0)).length), .int 0]) := by rw [he_113, up_ne (ne_ty hT_rx hT_h0 (by simp))]; exact hF_61
        have hF_119 : F_112 rr = .inl (cs 16, 700, .inl fc_34) := by rw [he_113, up_ne (ne_ty ht_20 hT_h0 (by simp))]; exact hF_62
        have hF_120 : F_112 ry0 = .inl (cs 16, 40, .inl p0_31) := by rw [he_113, up_ne (ne_ty ht_16 hT_h0 (by simp))]; exact hF_63
        have hF_121 : F_112 ry1 = .inl (cs 16, 40, .inl p1_32) := by rw [he_113, up_ne (ne_ty ht_17 hT_h0 (by simp))]; exact hF_64
        have hF_122 : F_112 ry2 = .inl (cs 16, 40, .inl p2_33) := by rw [he_113, up_ne (ne_ty ht_18 hT_h0 (by simp))]; exact hF_65
        refine lv_aload_n hx hb dX5_readRecord_79 rfl (lv_at hl 0 rfl) ?_
        refine lv_aload_n hx hb dX5_readRecord_80 rfl (lv_at hl 0 rfl) ?_
        refine pg_get (ci := 5) (v := .ref rc) (C := RX5) (T := TX5) (N := 7) hx hb hts it_5 hown hK hP hL_h0 hF_114 rfl 3 (by decide) (hts _ kt_456) (fun _ h9 => h9) rfl dX5_readRecord_81 ?_
        obtain ⟨q_123, v_124, hr_q_123, hXc_q_123⟩ := hG.2.2.2.2 ("PostGate$Policy", 158, "adkim", [97, 100, 107, 105, 109]) (by decide +kernel)
        have hXc_q_123 : SXc q_123 v_124 5 (cct [97, 100, 107, 105, 109]) A s s.heap := hXc_q_123
        have hX_q_123 : SX q_123 v_124 5 A s s.heap := hXc_q_123.sx
        obtain ⟨xo_q_123, xc_q_123, xv_q_123, xt_q_123, xn_q_123⟩ := id hXc_q_123
        have hr_q_123 : vk_R "PostGate$Policy" 158 "adkim" q_123 s := hr_q_123
        refine va_ldcS hx hb hown hr_q_123 dX5_readRecord_84 ?_
        refine va_ldcS hx hb hown hr_q_107 dX5_readRecord_86 ?_
        have hFc := pg_free hD hS hA
        refine va_calli (va_runV (As := [.ref q_123, .ref q_107]) (rest := [.ref h0]) ⟨hx, hb, hml, hown, hts⟩ (s_X9_is_e l dC dI cs ty L H.size F_112 rc (ρ + 2) rx 700 ry0 ry1 ry2 rr ((flI (TC f z) 0 (z - 0)).length) gg_28.1 fc_34 p0_31 p1_32 p2_33 gg_28.2 q_123 v_124 5 (cct [97, 100, 107, 105, 109]) q_107 v_108 1 (cct [115]) ([97, 100, 107, 105, 109]) ([115]) hW hL_rc hT_rc hL_rx hT_rx hF_117 hF_118 hF_119 hF_120 hF_121 hF_122 (hti3) (by omega) (hti2) (hq_42) (hti1) (⟨rfl, by decide +kernel⟩) (⟨rfl, by decide +kernel⟩)) ⟨callB_of 2 hts (gi kt_334) rfl rfl rfl (hts _ kt_164) (hts _ kt_457) (by decide +kernel) ⟨Nat.le_of_ble_eq_true rfl, Nat.le_of_ble_eq_true rfl⟩, (hts _ kt_336), (hts _ kt_337)⟩ ⟨fun a U g mk q => ⟨q.1, PTD.calling q.2⟩, pg_recv hK hP hL_rc hF_117 (q := (RX9, TX9, 5)) rfl, fun U hU hWm => ⟨rfl, PTD.mk hU hWm hP hK hD hE hO hG hXc_q_123 hXc_q_107 hS hFc⟩⟩ rfl rfl hl.1 rfl (lv_room (Nat.le_of_ble_eq_true rfl)) dX5_readRecord_88 ⟨by show _ + 0 ≤ 0; omega, by show _ + 0 ≤ 0; omega⟩) hS (fun q _ h => hFc q h) hFc (fun r_125 u t H1 locs ht hvm hw hB hz1 hk1 hS => ?_)
        obtain ⟨F_126, hB1⟩ := hB
        obtain rfl : F_112 = F_126 := (funext (fun a => hB1.2.2.2 a List.not_mem_nil)).symm
        obtain ⟨hP, hD, hO, hR⟩ := QT.back hB1 ht hFc hR (fun q h => absurd h List.not_mem_nil)
        generalize H1 = H at hP hS ⊢
        have hw : (r_125 = 1 ∧ TGV (TC fc_34 (flI (TC f z) 0 (z - 0)).length) gg_28.2 gg_28.1 [97, 100, 107, 105, 109] [115]) ∨ (r_125 = 0 ∧ ¬ TGV (TC fc_34 (flI (TC f z) 0 (z - 0)).length) gg_28.2 gg_28.1 [97, 100, 107, 105, 109] [115]) := hw
        have hw_127 := hw
        refine pg_put (ci := 5) (v := .int r_125) (ty := .boolean) (C := RX5) (T := TX5) (N := 7) hx hb hts it_5 tyX5 tyX5_ok nmX5 hown hK hP hD hS hL_h0 hF_114 rfl 6 (by decide) (hts _ kt_477) (fun _ h9 => h9) rfl (by decide +kernel) (bitN (bit2 hw_127)) (bitF (bit2 hw_127)) (Nat.le_of_ble_eq_true rfl) dX5_readRecord_91 (fun H locs hP hD hS => ?_)
        obtain ⟨F_128, he_129, hP, hD, hO, hR⟩ : ∃ G, G = va_up F_112 h0 (.inr (5, [.ref d, .ref w0, .ref w1, .ref rc, .int (nI (wnW (flT (TC f z) 0 (z - 0)) gg_28.2 gg_28.1 [112])), .int r_109, .int r_125])) ∧ va_P (dC, dI) vwCl (va_pl L G) H ∧ va_D A (va_pl L G) ∧ OK cs ty L G ∧ FR ty [ρ, ρ + 2, ρ + 3, ρ + 72, ρ + 73] F G := ⟨_, rfl, hP, hD, hO.up (sh.pol hT_h0 ⟨(nI (wnW (flT (TC f z) 0 (z - 0)) gg_28.2 gg_28.1 [112])), r_109, r_125, rfl⟩), hR.up hT_h0 (by simp)⟩
        have hF_130 : F_128 h0 = .inr (5, [.ref d, .ref w0, .ref w1, .ref rc, .int (nI (wnW (flT (TC f z) 0 (z - 0)) gg_28.2 gg_28.1 [112])), .int r_109, .int r_125]) := by rw [he_129]; exact up_self
        have hF_131 : F_128 g1 = .inr (0, [.ref r1, .int (nI z), .int 0]) := by rw [he_129, up_ne (ne_ty hT_g1 hT_h0 (by simp))]; exact hF_115
        have hF_132 : F_128 r1 = .inl (cs 16, n1, .inl f) := by rw [he_129, up_ne (ne_ty ht_23 hT_h0 (by simp))]; exact hF_116
        have hF_133 : F_128 rc = .inr (9, [.ref rx, .ref ry0, .ref ry1, .ref ry2, .int (nI gg_28.1)]) := by rw [he_129, up_ne (ne_ty hT_rc hT_h0 (by simp))]; exact hF_117
        have hF_134 : F_128 rx = .inr (0, [.ref rr, .int (nI (flI (TC f z) 0 (z - 0)).length), .int 0]) := by rw [he_129, up_ne (ne_ty hT_rx hT_h0 (by simp))]; exact hF_118
        have hF_135 : F_128 rr = .inl (cs 16, 700, .inl fc_34) := by rw [he_129, up_ne (ne_ty ht_20 hT_h0 (by simp))]; exact hF_119
        have hF_136 : F_128 ry0 = .inl (cs 16, 40, .inl p0_31) := by rw [he_129, up_ne (ne_ty ht_16 hT_h0 (by simp))]; exact hF_120
        have hF_137 : F_128 ry1 = .inl (cs 16, 40, .inl p1_32) := by rw [he_129, up_ne (ne_ty ht_17 hT_h0 (by simp))]; exact hF_121
        have hF_138 : F_128 ry2 = .inl (cs 16, 40, .inl p2_33) := by rw [he_129, up_ne (ne_ty ht_18 hT_h0 (by simp))]; exact hF_122
        refine lv_aload_n hx hb dX5_readRecord_94 rfl (lv_at hl 0 rfl) ?_
        refine pg_get (ci := 5) (v := .int (nI (wnW (flT (TC f z) 0 (z - 0)) gg_28.2 gg_28.1 [112]))) (C := RX5) (T := TX5) (N := 7) hx hb hts it_5 hown hK hP hL_h0 hF_130 rfl 4 (by decide) (hts _ kt_475) (fun _ h9 => h9) rfl dX5_readRecord_95 ?_
        refine lv_bipush (v := 6) hx hb dX5_readRecord_98 (by decide) ?_
        refine lv_icmp_ne (tgt := 108) hx hb dX5_readRecord_100 (by decide) (fun c_139 => ?_) (fun c_139 => absurd c_139 (c_66))
        refine lv_iconst (v := (-1)) hx hb dX5_readRecord_108 (by decide) ?_
        refine W.widen (k := 0) (n := 0) (by omega) (by omega) ?_
        exact W.iret (v := (-1)) hx hb hr (fun t ht hWm => ⟨⟨(-1), (), rfl, (by unfold rrW; rw [show tgT (flT (TC f z) 0 (z - 0)) (flI (TC f z) 0 (z - 0)).length = some gg_28 from by rcases hw_47 with h9 | h9; exact h9.2; exact absurd h9.1 c_48]; show (_ : Int32) = (if (wnW (flT (TC f z) 0 (z - 0)) gg_28.2 gg_28.1 [112]) = 6 then 6 else _); rw [if_neg (show ¬ (wnW (flT (TC f z) 0 (z - 0)) gg_28.2 gg_28.1 [112]) = 6 from fun q => c_66 (by rw [q]; rfl)), if_neg (show ¬ (x2 = 0 ∧ (TGE (flT (TC f z) 0 (z - 0)) gg_28.2 gg_28.1 [115, 112])) from fun q => c_104 q.1)]), ⟨F_128, QT.mk ht hP hD hO hR⟩⟩, hS.F ht⟩) hS.2.2 dX5_readRecord_109
      ·
        refine lv_aload_n hx hb dX5_readRecord_42 rfl (lv_at hl 0 rfl) ?_
        refine pg_get (ci := 5) (v := .ref rc) (C := RX5) (T := TX5) (N := 7) hx hb hts it_5 hown hK hP hL_h0 hF_57 rfl 3 (by decide) (hts _ kt_456) (fun _ h9 => h9) rfl dX5_readRecord_43 ?_
        obtain ⟨q_140, v_141, hr_q_140, hXc_q_140⟩ := hG.2.2.2.2 ("PostGate$Policy", 145, "sp", [115, 112]) (by decide +kernel)
        have hXc_q_140 : SXc q_140 v_141 2 (cct [115, 112]) A s s.heap := hXc_q_140
        have hX_q_140 : SX q_140 v_141 2 A s s.heap := hXc_q_140.sx
        obtain ⟨xo_q_140, xc_q_140, xv_q_140, xt_q_140, xn_q_140⟩ := id hXc_q_140
        have hr_q_140 : vk_R "PostGate$Policy" 145 "sp" q_140 s := hr_q_140
        refine va_ldcS hx hb hown hr_q_140 dX5_readRecord_46 ?_
        have hFc := pg_free hD hS hA
        refine va_calli (va_runV (As := [.ref q_140]) (rest := []) ⟨hx, hb, hml, hown, hts⟩ (s_X9_has_e l dC dI cs ty L H.size F_55 rc (ρ + 2) rx 700 ry0 ry1 ry2 rr ((flI (TC f z) 0 (z - 0)).length) gg_28.1 fc_34 p0_31 p1_32 p2_33 gg_28.2 q_140 v_141 2 (cct [115, 112]) ([115, 112]) hW hL_rc hT_rc hL_rx hT_rx hF_60 hF_61 hF_62 hF_63 hF_64 hF_65 (hti3) (by omega) (hti2) (hq_42) (hti1) (⟨rfl, by decide +kernel⟩)) ⟨callB_of 1 hts (gi kt_308) rfl rfl rfl (hts _ kt_164) (hts _ kt_478) (by decide +kernel) ⟨Nat.le_of_ble_eq_true rfl, Nat.le_of_ble_eq_true rfl⟩, (hts _ kt_310), (hts _ kt_311)⟩ ⟨fun a U g mk q => ⟨q.1, PTC.calling q.2⟩, pg_recv hK hP hL_rc hF_60 (q := (RX9, TX9, 5)) rfl, fun U hU hWm => ⟨rfl, PTC.mk hU hWm hP hK hD hE hO hG hXc_q_140 hS hFc⟩⟩ rfl rfl hl.1 rfl (lv_room (Nat.le_of_ble_eq_true rfl)) dX5_readRecord_48 ⟨by show _ + 0 ≤ 0; omega, by show _ + 0 ≤ 0; omega⟩) hS (fun q _ h => hFc q h) hFc (fun r_142 u t H1 locs ht hvm hw hB hz1 hk1 hS => ?_)
        obtain ⟨F_143, hB1⟩ := hB
        obtain rfl : F_55 = F_143 := (funext (fun a => hB1.2.2.2 a List.not_mem_nil)).symm
        obtain ⟨hP, hD, hO, hR⟩ := QT.back hB1 ht hFc hR (fun q h => absurd h List.not_mem_nil)
        generalize H1 = H at hP hS ⊢
        have hw : (r_142 = 1 ∧ TGE (TC fc_34 (flI (TC f z) 0 (z - 0)).length) gg_28.2 gg_28.1 [115, 112]) ∨ (r_142 = 0 ∧ ¬ TGE (TC fc_34 (flI (TC f z) 0 (z - 0)).length) gg_28.2 gg_28.1 [115, 112]) := hw
        have hw_144 := hw
        refine lv_if_eq (tgt := 64) hx hb dX5_readRecord_51 (by decide) (fun c_145 => ?_) (fun c_145 => ?_)
        ·
          refine lv_aload_n hx hb dX5_readRecord_64 rfl (lv_at hl 0 rfl) ?_
          refine lv_aload_n hx hb dX5_readRecord_65 rfl (lv_at hl 0 rfl) ?_
          refine pg_get (ci := 5) (v := .ref rc) (C := RX5) (T := TX5) (N := 7) hx hb hts it_5 hown hK hP hL_h0 hF_57 rfl 3 (by decide) (hts _ kt_456) (fun _ h9 => h9) rfl dX5_readRecord_66 ?_
          obtain ⟨q_146, v_147, hr_q_146, hXc_q_146⟩ := hG.2.2.2.2 ("PostGate$Policy", 150, "aspf", [97, 115, 112, 102]) (by decide +kernel)
          have hXc_q_146 : SXc q_146 v_147 4 (cct [97, 115, 112, 102]) A s s.heap := hXc_q_146
          have hX_q_146 : SX q_146 v_147 4 A s s.heap := hXc_q_146.sx
          obtain ⟨xo_q_146, xc_q_146, xv_q_146, xt_q_146, xn_q_146⟩ := id hXc_q_146
          have hr_q_146 : vk_R "PostGate$Policy" 150 "aspf" q_146 s := hr_q_146
          refine va_ldcS hx hb hown hr_q_146 dX5_readRecord_69 ?_
          obtain ⟨q_148, v_149, hr_q_148, hXc_q_148⟩ := hG.2.2.2.2 ("PostGate$Policy", 152, "s", [115]) (by decide +kernel)
          have hXc_q_148 : SXc q_148 v_149 1 (cct [115]) A s s.heap := hXc_q_148
          have hX_q_148 : SX q_148 v_149 1 A s s.heap := hXc_q_148.sx
          obtain ⟨xo_q_148, xc_q_148, xv_q_148, xt_q_148, xn_q_148⟩ := id hXc_q_148
          have hr_q_148 : vk_R "PostGate$Policy" 152 "s" q_148 s := hr_q_148
          refine va_ldcS hx hb hown hr_q_148 dX5_readRecord_71 ?_
          have hFc := pg_free hD hS hA
          refine va_calli (va_runV (As := [.ref q_146, .ref q_148]) (rest := [.ref h0]) ⟨hx, hb, hml, hown, hts⟩ (s_X9_is_e l dC dI cs ty L H.size F_55 rc (ρ + 2) rx 700 ry0 ry1 ry2 rr ((flI (TC f z) 0 (z - 0)).length) gg_28.1 fc_34 p0_31 p1_32 p2_33 gg_28.2 q_146 v_147 4 (cct [97, 115, 112, 102]) q_148 v_149 1 (cct [115]) ([97, 115, 112, 102]) ([115]) hW hL_rc hT_rc hL_rx hT_rx hF_60 hF_61 hF_62 hF_63 hF_64 hF_65 (hti3) (by omega) (hti2) (hq_42) (hti1) (⟨rfl, by decide +kernel⟩) (⟨rfl, by decide +kernel⟩)) ⟨callB_of 2 hts (gi kt_334) rfl rfl rfl (hts _ kt_164) (hts _ kt_457) (by decide +kernel) ⟨Nat.le_of_ble_eq_true rfl, Nat.le_of_ble_eq_true rfl⟩, (hts _ kt_336), (hts _ kt_337)⟩ ⟨fun a U g mk q => ⟨q.1, PTD.calling q.2⟩, pg_recv hK hP hL_rc hF_60 (q := (RX9, TX9, 5)) rfl, fun U hU hWm => ⟨rfl, PTD.mk hU hWm hP hK hD hE hO hG hXc_q_146 hXc_q_148 hS hFc⟩⟩ rfl rfl hl.1 rfl (lv_room (Nat.le_of_ble_eq_true rfl)) dX5_readRecord_73 ⟨by show _ + 0 ≤ 0; omega, by show _ + 0 ≤ 0; omega⟩) hS (fun q _ h => hFc q h) hFc (fun r_150 u t H1 locs ht hvm hw hB hz1 hk1 hS => ?_)
          obtain ⟨F_151, hB1⟩ := hB
          obtain rfl : F_55 = F_151 := (funext (fun a => hB1.2.2.2 a List.not_mem_nil)).symm
          obtain ⟨hP, hD, hO, hR⟩ := QT.back hB1 ht hFc hR (fun q h => absurd h List.not_mem_nil)
          generalize H1 = H at hP hS ⊢
          have hw : (r_150 = 1 ∧ TGV (TC fc_34 (flI (TC f z) 0 (z - 0)).length) gg_28.2 gg_28.1 [97, 115, 112, 102] [115]) ∨ (r_150 = 0 ∧ ¬ TGV (TC fc_34 (flI (TC f z) 0 (z - 0)).length) gg_28.2 gg_28.1 [97, 115, 112, 102] [115]) := hw
          have hw_152 := hw
          refine pg_put (ci := 5) (v := .int r_150) (ty := .boolean) (C := RX5) (T := TX5) (N := 7) hx hb hts it_5 tyX5 tyX5_ok nmX5 hown hK hP hD hS hL_h0 hF_57 rfl 5 (by decide) (hts _ kt_476) (fun _ h9 => h9) rfl (by decide +kernel) (bitN (bit2 hw_152)) (bitF (bit2 hw_152)) (Nat.le_of_ble_eq_true rfl) dX5_readRecord_76 (fun H locs hP hD hS => ?_)
          obtain ⟨F_153, he_154, hP, hD, hO, hR⟩ : ∃ G, G = va_up F_55 h0 (.inr (5, [.ref d, .ref w0, .ref w1, .ref rc, .int (nI (wnW (flT (TC f z) 0 (z - 0)) gg_28.2 gg_28.1 [112])), .int r_150, .int v2_11])) ∧ va_P (dC, dI) vwCl (va_pl L G) H ∧ va_D A (va_pl L G) ∧ OK cs ty L G ∧ FR ty [ρ, ρ + 2, ρ + 3, ρ + 72, ρ + 73] F G := ⟨_, rfl, hP, hD, hO.up (sh.pol hT_h0 ⟨(nI (wnW (flT (TC f z) 0 (z - 0)) gg_28.2 gg_28.1 [112])), r_150, v2_11, rfl⟩), hR.up hT_h0 (by simp)⟩
          have hF_155 : F_153 h0 = .inr (5, [.ref d, .ref w0, .ref w1, .ref rc, .int (nI (wnW (flT (TC f z) 0 (z - 0)) gg_28.2 gg_28.1 [112])), .int r_150, .int v2_11]) := by rw [he_154]; exact up_self
          have hF_156 : F_153 g1 = .inr (0, [.ref r1, .int (nI z), .int 0]) := by rw [he_154, up_ne (ne_ty hT_g1 hT_h0 (by simp))]; exact hF_58
          have hF_157 : F_153 r1 = .inl (cs 16, n1, .inl f) := by rw [he_154, up_ne (ne_ty ht_23 hT_h0 (by simp))]; exact hF_59
          have hF_158 : F_153 rc = .inr (9, [.ref rx, .ref ry0, .ref ry1, .ref ry2, .int (nI gg_28.1)]) := by rw [he_154, up_ne (ne_ty hT_rc hT_h0 (by simp))]; exact hF_60
          have hF_159 : F_153 rx = .inr (0, [.ref rr, .int (nI (flI (TC f z) 0 (z - 0)).length), .int 0]) := by rw [he_154, up_ne (ne_ty hT_rx hT_h0 (by simp))]; exact hF_61
          have hF_160 : F_153 rr = .inl (cs 16, 700, .inl fc_34) := by rw [he_154, up_ne (ne_ty ht_20 hT_h0 (by simp))]; exact hF_62
          have hF_161 : F_153 ry0 = .inl (cs 16, 40, .inl p0_31) := by rw [he_154, up_ne (ne_ty ht_16 hT_h0 (by simp))]; exact hF_63
          have hF_162 : F_153 ry1 = .inl (cs 16, 40, .inl p1_32) := by rw [he_154, up_ne (ne_ty ht_17 hT_h0 (by simp))]; exact hF_64
          have hF_163 : F_153 ry2 = .inl (cs 16, 40, .inl p2_33) := by rw [he_154, up_ne (ne_ty ht_18 hT_h0 (by simp))]; exact hF_65
          refine lv_aload_n hx hb dX5_readRecord_79 rfl (lv_at hl 0 rfl) ?_
          refine lv_aload_n hx hb dX5_readRecord_80 rfl (lv_at hl 0 rfl) ?_
          refine pg_get (ci := 5) (v := .ref rc) (C := RX5) (T := TX5) (N := 7) hx hb hts it_5 hown hK hP hL_h0 hF_155 rfl 3 (by decide) (hts _ kt_456) (fun _ h9 => h9) rfl dX5_readRecord_81 ?_
          obtain ⟨q_164, v_165, hr_q_164, hXc_q_164⟩ := hG.2.2.2.2 ("PostGate$Policy", 158, "adkim", [97, 100, 107, 105, 109]) (by decide +kernel)
          have hXc_q_164 : SXc q_164 v_165 5 (cct [97, 100, 107, 105, 109]) A s s.heap := hXc_q_164
          have hX_q_164 : SX q_164 v_165 5 A s s.heap := hXc_q_164.sx
          obtain ⟨xo_q_164, xc_q_164, xv_q_164, xt_q_164, xn_q_164⟩ := id hXc_q_164
          have hr_q_164 : vk_R "PostGate$Policy" 158 "adkim" q_164 s := hr_q_164
          refine va_ldcS hx hb hown hr_q_164 dX5_readRecord_84 ?_
          refine va_ldcS hx hb hown hr_q_148 dX5_readRecord_86 ?_
          have hFc := pg_free hD hS hA
          refine va_calli (va_runV (As := [.ref q_164, .ref q_148]) (rest := [.ref h0]) ⟨hx, hb, hml, hown, hts⟩ (s_X9_is_e l dC dI cs ty L H.size F_153 rc (ρ + 2) rx 700 ry0 ry1 ry2 rr ((flI (TC f z) 0 (z - 0)).length) gg_28.1 fc_34 p0_31 p1_32 p2_33 gg_28.2 q_164 v_165 5 (cct [97, 100, 107, 105, 109]) q_148 v_149 1 (cct [115]) ([97, 100, 107, 105, 109]) ([115]) hW hL_rc hT_rc hL_rx hT_rx hF_158 hF_159 hF_160 hF_161 hF_162 hF_163 (hti3) (by omega) (hti2) (hq_42) (hti1) (⟨rfl, by decide +kernel⟩) (⟨rfl, by decide +kernel⟩)) ⟨callB_of 2 hts (gi kt_334) rfl rfl rfl (hts _ kt_164) (hts _ kt_457) (by decide +kernel) ⟨Nat.le_of_ble_eq_true rfl, Nat.le_of_ble_eq_true rfl⟩, (hts _ kt_336), (hts _ kt_337)⟩ ⟨fun a U g mk q => ⟨q.1, PTD.calling q.2⟩, pg_recv hK hP hL_rc hF_158 (q := (RX9, TX9, 5)) rfl, fun U hU hWm => ⟨rfl, PTD.mk hU hWm hP hK hD hE hO hG hXc_q_164 hXc_q_148 hS hFc⟩⟩ rfl rfl hl.1 rfl (lv_room (Nat.le_of_ble_eq_true rfl)) dX5_readRecord_88 ⟨by show _ + 0 ≤ 0; omega, by show _ + 0 ≤ 0; omega⟩) hS (fun q _ h => hFc q h) hFc (fun r_166 u t H1 locs ht hvm hw hB hz1 hk1 hS => ?_)
          obtain ⟨F_167, hB1⟩ := hB
          obtain rfl : F_153 = F_167 := (funext (fun a => hB1.2.2.2 a List.not_mem_nil)).symm
          obtain ⟨hP, hD, hO, hR⟩ := QT.back hB1 ht hFc hR (fun q h => absurd h List.not_mem_nil)
          generalize H1 = H at hP hS ⊢
          have hw : (r_166 = 1 ∧ TGV (TC fc_34 (flI (TC f z) 0 (z - 0)).length) gg_28.2 gg_28.1 [97, 100, 107, 105, 109] [115]) ∨ (r_166 = 0 ∧ ¬ TGV (TC fc_34 (flI (TC f z) 0 (z - 0)).length) gg_28.2 gg_28.1 [97, 100, 107, 105, 109] [115]) := hw
          have hw_168 := hw
          refine pg_put (ci := 5) (v := .int r_166) (ty := .boolean) (C := RX5) (T := TX5) (N := 7) hx hb hts it_5 tyX5 tyX5_ok nmX5 hown hK hP hD hS hL_h0 hF_155 rfl 6 (by decide) (hts _ kt_477) (fun _ h9 => h9) rfl (by decide +kernel) (bitN (bit2 hw_168)) (bitF (bit2 hw_168)) (Nat.le_of_ble_eq_true rfl) dX5_readRecord_91 (fun H locs hP hD hS => ?_)
          obtain ⟨F_169, he_170, hP, hD, hO, hR⟩ : ∃ G, G = va_up F_153 h0 (.inr (5, [.ref d, .ref w0, .ref w1, .ref rc, .int (nI (wnW (flT (TC f z) 0 (z - 0)) gg_28.2 gg_28.1 [112])), .int r_150, .int r_166])) ∧ va_P (dC, dI) vwCl (va_pl L G) H ∧ va_D A (va_pl L G) ∧ OK cs ty L G ∧ FR ty [ρ, ρ + 2, ρ + 3, ρ + 72, ρ + 73] F G := ⟨_, rfl, hP, hD, hO.up (sh.pol hT_h0 ⟨(nI (wnW (flT (TC f z) 0 (z - 0)) gg_28.2 gg_28.1 [112])), r_150, r_166, rfl⟩), hR.up hT_h0 (by simp)⟩
          have hF_171 : F_169 h0 = .inr (5, [.ref d, .ref w0, .ref w1, .ref rc, .int (nI (wnW (flT (TC f z) 0 (z - 0)) gg_28.2 gg_28.1 [112])), .int r_150, .int r_166]) := by rw [he_170]; exact up_self
          have hF_172 : F_169 g1 = .inr (0, [.ref r1, .int (nI z), .int 0]) := by rw [he_170, up_ne (ne_ty hT_g1 hT_h0 (by simp))]; exact hF_156
          have hF_173 : F_169 r1 = .inl (cs 16, n1, .inl f) := by rw [he_170, up_ne (ne_ty ht_23 hT_h0 (by simp))]; exact hF_157
          have hF_174 : F_169 rc = .inr (9, [.ref rx, .ref ry0, .ref ry1, .ref ry2, .int (nI gg_28.1)]) := by rw [he_170, up_ne (ne_ty hT_rc hT_h0 (by simp))]; exact hF_158
          have hF_175 : F_169 rx = .inr (0, [.ref rr, .int (nI (flI (TC f z) 0 (z - 0)).length), .int 0]) := by rw [he_170, up_ne (ne_ty hT_rx hT_h0 (by simp))]; exact hF_159
          have hF_176 : F_169 rr = .inl (cs 16, 700, .inl fc_34) := by rw [he_170, up_ne (ne_ty ht_20 hT_h0 (by simp))]; exact hF_160
          have hF_177 : F_169 ry0 = .inl (cs 16, 40, .inl p0_31) := by rw [he_170, up_ne (ne_ty ht_16 hT_h0 (by simp))]; exact hF_161
          have hF_178 : F_169 ry1 = .inl (cs 16, 40, .inl p1_32) := by rw [he_170, up_ne (ne_ty ht_17 hT_h0 (by simp))]; exact hF_162
          have hF_179 : F_169 ry2 = .inl (cs 16, 40, .inl p2_33) := by rw [he_170, up_ne (ne_ty ht_18 hT_h0 (by simp))]; exact hF_163
          refine lv_aload_n hx hb dX5_readRecord_94 rfl (lv_at hl 0 rfl) ?_
          refine pg_get (ci := 5) (v := .int (nI (wnW (flT (TC f z) 0 (z - 0)) gg_28.2 gg_28.1 [112]))) (C := RX5) (T := TX5) (N := 7) hx hb hts it_5 hown hK hP hL_h0 hF_171 rfl 4 (by decide) (hts _ kt_475) (fun _ h9 => h9) rfl dX5_readRecord_95 ?_
          refine lv_bipush (v := 6) hx hb dX5_readRecord_98 (by decide) ?_
          refine lv_icmp_ne (tgt := 108) hx hb dX5_readRecord_100 (by decide) (fun c_180 => ?_) (fun c_180 => absurd c_180 (c_66))
          refine lv_iconst (v := (-1)) hx hb dX5_readRecord_108 (by decide) ?_
          refine W.widen (k := 0) (n := 0) (by omega) (by omega) ?_
          exact W.iret (v := (-1)) hx hb hr (fun t ht hWm => ⟨⟨(-1), (), rfl, (by unfold rrW; rw [show tgT (flT (TC f z) 0 (z - 0)) (flI (TC f z) 0 (z - 0)).length = some gg_28 from by rcases hw_47 with h9 | h9; exact h9.2; exact absurd h9.1 c_48]; show (_ : Int32) = (if (wnW (flT (TC f z) 0 (z - 0)) gg_28.2 gg_28.1 [112]) = 6 then 6 else _); rw [if_neg (show ¬ (wnW (flT (TC f z) 0 (z - 0)) gg_28.2 gg_28.1 [112]) = 6 from fun q => c_66 (by rw [q]; rfl)), if_neg (show ¬ (x2 = 0 ∧ (TGE (flT (TC f z) 0 (z - 0)) gg_28.2 gg_28.1 [115, 112])) from fun q => orp0 (by have h9 := hw_144; rw [hq_41] at h9; exact h9) c_145 q.2)]), ⟨F_169, QT.mk ht hP hD hO hR⟩⟩, hS.F ht⟩) hS.2.2 dX5_readRecord_109
        ·
          refine lv_aload_n hx hb dX5_readRecord_54 rfl (lv_at hl 0 rfl) ?_
          refine lv_aload_n hx hb dX5_readRecord_55 rfl (lv_at hl 0 rfl) ?_
          refine va_ldcS hx hb hown hr_q_140 dX5_readRecord_56 ?_
          have hFc := pg_free hD hS hA
          refine va_calli (va_runV (As := [.ref q_140]) (rest := [.ref h0]) ⟨hx, hb, hml, hown, hts⟩ (s_X5_wantOf_e l dC dI cs ty L H.size F_55 h0 ρ d δ ea w0 w1 rc rx ry0 ry1 ry2 rr ((flI (TC f z) 0 (z - 0)).length) gg_28.1 fc_34 p0_31 p1_32 p2_33 gg_28.2 q_140 v_141 2 (cct [115, 112]) ([115, 112]) (nI (wnW (flT (TC f z) 0 (z - 0)) gg_28.2 gg_28.1 [112])) v1_10 v2_11 hW hL_h0 hT_h0 hL_rc hT_rc hL_rx hT_rx hF_57 hF_60 hF_61 hF_62 hF_63 hF_64 hF_65 (hti3) (hti2) (hq_42) (hti1) (⟨rfl, by decide +kernel⟩)) ⟨callB_of 1 hts (gi kt_470) rfl rfl rfl (hts _ kt_471) (hts _ kt_472) (by decide +kernel) ⟨Nat.le_of_ble_eq_true rfl, Nat.le_of_ble_eq_true rfl⟩, (hts _ kt_473), (hts _ kt_474)⟩ ⟨fun a U g mk q => ⟨q.1, PTC.calling q.2⟩, pg_recv hK hP hL_h0 hF_57 (q := (RX5, TX5, 7)) rfl, fun U hU hWm => ⟨rfl, PTC.mk hU hWm hP hK hD hE hO hG hXc_q_140 hS hFc⟩⟩ rfl rfl hl.1 rfl (lv_room (Nat.le_of_ble_eq_true rfl)) dX5_readRecord_58 ⟨by show _ + 0 ≤ 0; omega, by show _ + 0 ≤ 0; omega⟩) hS (fun q _ h => hFc q h) hFc (fun r_181 u t H1 locs ht hvm hw hB hz1 hk1 hS => ?_)
          obtain ⟨F_182, hB1⟩ := hB
          obtain rfl : F_55 = F_182 := (funext (fun a => hB1.2.2.2 a List.not_mem_nil)).symm
          obtain ⟨hP, hD, hO, hR⟩ := QT.back hB1 ht hFc hR (fun q h => absurd h List.not_mem_nil)
          generalize H1 = H at hP hS ⊢
          have hw : r_181 = nI (wnW (TC fc_34 (flI (TC f z) 0 (z - 0)).length) gg_28.2 gg_28.1 [115, 112]) := hw
          have hw_183 := hw
          have hw_184 : r_181 = (nI (wnW (flT (TC f z) 0 (z - 0)) gg_28.2 gg_28.1 [115, 112])) := by have h9 := hw_183; rw [hq_41] at h9; exact h9
          subst hw_184
          refine pg_put (ci := 5) (v := .int (nI (wnW (flT (TC f z) 0 (z - 0)) gg_28.2 gg_28.1 [115, 112]))) (ty := .int) (C := RX5) (T := TX5) (N := 7) hx hb hts it_5 tyX5 tyX5_ok nmX5 hown hK hP hD hS hL_h0 hF_57 rfl 4 (by decide) (hts _ kt_475) (fun _ h9 => h9) rfl (by decide +kernel) (rfl) (rfl) (Nat.le_of_ble_eq_true rfl) dX5_readRecord_61 (fun H locs hP hD hS => ?_)
          obtain ⟨F_185, he_186, hP, hD, hO, hR⟩ : ∃ G, G = va_up F_55 h0 (.inr (5, [.ref d, .ref w0, .ref w1, .ref rc, .int (nI (wnW (flT (TC f z) 0 (z - 0)) gg_28.2 gg_28.1 [115, 112])), .int v1_10, .int v2_11])) ∧ va_P (dC, dI) vwCl (va_pl L G) H ∧ va_D A (va_pl L G) ∧ OK cs ty L G ∧ FR ty [ρ, ρ + 2, ρ + 3, ρ + 72, ρ + 73] F G := ⟨_, rfl, hP, hD, hO.up (sh.pol hT_h0 ⟨(nI (wnW (flT (TC f z) 0 (z - 0)) gg_28.2 gg_28.1 [115, 112])), v1_10, v2_11, rfl⟩), hR.up hT_h0 (by simp)⟩
          have hF_187 : F_185 h0 = .inr (5, [.ref d, .ref w0, .ref w1, .ref rc, .int (nI (wnW (flT (TC f z) 0 (z - 0)) gg_28.2 gg_28.1 [115, 112])), .int v1_10, .int v2_11]) := by rw [he_186]; exact up_self
          have hF_188 : F_185 g1 = .inr (0, [.ref r1, .int (nI z), .int 0]) := by rw [he_186, up_ne (ne_ty hT_g1 hT_h0 (by simp))]; exact hF_58
          have hF_189 : F_185 r1 = .inl (cs 16, n1, .inl f) := by rw [he_186, up_ne (ne_ty ht_23 hT_h0 (by simp))]; exact hF_59
          have hF_190 : F_185 rc = .inr (9, [.ref rx, .ref ry0, .ref ry1, .ref ry2, .int (nI gg_28.1)]) := by rw [he_186, up_ne (ne_ty hT_rc hT_h0 (by simp))]; exact hF_60
          have hF_191 : F_185 rx = .inr (0, [.ref rr, .int (nI (flI (TC f z) 0 (z - 0)).length), .int 0]) := by rw [he_186, up_ne (ne_ty hT_rx hT_h0 (by simp))]; exact hF_61
          have hF_192 : F_185 rr = .inl (cs 16, 700, .inl fc_34) := by rw [he_186, up_ne (ne_ty ht_20 hT_h0 (by simp))]; exact hF_62
          have hF_193 : F_185 ry0 = .inl (cs 16, 40, .inl p0_31) := by rw [he_186, up_ne (ne_ty ht_16 hT_h0 (by simp))]; exact hF_63
          have hF_194 : F_185 ry1 = .inl (cs 16, 40, .inl p1_32) := by rw [he_186, up_ne (ne_ty ht_17 hT_h0 (by simp))]; exact hF_64
          have hF_195 : F_185 ry2 = .inl (cs 16, 40, .inl p2_33) := by rw [he_186, up_ne (ne_ty ht_18 hT_h0 (by simp))]; exact hF_65
          refine lv_aload_n hx hb dX5_readRecord_64 rfl (lv_at hl 0 rfl) ?_
          refine lv_aload_n hx hb dX5_readRecord_65 rfl (lv_at hl 0 rfl) ?_
          refine pg_get (ci := 5) (v := .ref rc) (C := RX5) (T := TX5) (N := 7) hx hb hts it_5 hown hK hP hL_h0 hF_187 rfl 3 (by decide) (hts _ kt_456) (fun _ h9 => h9) rfl dX5_readRecord_66 ?_
          obtain ⟨q_196, v_197, hr_q_196, hXc_q_196⟩ := hG.2.2.2.2 ("PostGate$Policy", 150, "aspf", [97, 115, 112, 102]) (by decide +kernel)
          have hXc_q_196 : SXc q_196 v_197 4 (cct [97, 115, 112, 102]) A s s.heap := hXc_q_196
          have hX_q_196 : SX q_196 v_197 4 A s s.heap := hXc_q_196.sx
          obtain ⟨xo_q_196, xc_q_196, xv_q_196, xt_q_196, xn_q_196⟩ := id hXc_q_196
          have hr_q_196 : vk_R "PostGate$Policy" 150 "aspf" q_196 s := hr_q_196
          refine va_ldcS hx hb hown hr_q_196 dX5_readRecord_69 ?_
          obtain ⟨q_198, v_199, hr_q_198, hXc_q_198⟩ := hG.2.2.2.2 ("PostGate$Policy", 152, "s", [115]) (by decide +kernel)
          have hXc_q_198 : SXc q_198 v_199 1 (cct [115]) A s s.heap := hXc_q_198
          have hX_q_198 : SX q_198 v_199 1 A s s.heap := hXc_q_198.sx
          obtain ⟨xo_q_198, xc_q_198, xv_q_198, xt_q_198, xn_q_198⟩ := id hXc_q_198
          have hr_q_198 : vk_R "PostGate$Policy" 152 "s" q_198 s := hr_q_198
          refine va_ldcS hx hb hown hr_q_198 dX5_readRecord_71 ?_
          have hFc := pg_free hD hS hA
          refine va_calli (va_runV (As := [.ref q_196, .ref q_198]) (rest := [.ref h0]) ⟨hx, hb, hml, hown, hts⟩ (s_X9_is_e l dC dI cs ty L H.size F_185 rc (ρ + 2) rx 700 ry0 ry1 ry2 rr ((flI (TC f z) 0 (z - 0)).length) gg_28.1 fc_34 p0_31 p1_32 p2_33 gg_28.2 q_196 v_197 4 (cct [97, 115, 112, 102]) q_198 v_199 1 (cct [115]) ([97, 115, 112, 102]) ([115]) hW hL_rc hT_rc hL_rx hT_rx hF_190 hF_191 hF_192 hF_193 hF_194 hF_195 (hti3) (by omega) (hti2) (hq_42) (hti1) (⟨rfl, by decide +kernel⟩) (⟨rfl, by decide +kernel⟩)) ⟨callB_of 2 hts (gi kt_334) rfl rfl rfl (hts _ kt_164) (hts _ kt_457) (by decide +kernel) ⟨Nat.le_of_ble_eq_true rfl, Nat.le_of_ble_eq_true rfl⟩, (hts _ kt_336), (hts _ kt_337)⟩ ⟨fun a U g mk q => ⟨q.1, PTD.calling q.2⟩, pg_recv hK hP hL_rc hF_190 (q := (RX9, TX9, 5)) rfl, fun U hU hWm => ⟨rfl, PTD.mk hU hWm hP hK hD hE hO hG hXc_q_196 hXc_q_198 hS hFc⟩⟩ rfl rfl hl.1 rfl (lv_room (Nat.le_of_ble_eq_true rfl)) dX5_readRecord_73 ⟨by show _ + 0 ≤ 0; omega, by show _ + 0 ≤ 0; omega⟩) hS (fun q _ h => hFc q h) hFc (fun r_200 u t H1 locs ht hvm hw hB hz1 hk1 hS => ?_)
          obtain ⟨F_201, hB1⟩ := hB
          obtain rfl : F_185 = F_201 := (funext (fun a => hB1.2.2.2 a List.not_mem_nil)).symm
          obtain ⟨hP, hD, hO, hR⟩ := QT.back hB1 ht hFc hR (fun q h => absurd h List.not_mem_nil)
          generalize H1 = H at hP hS ⊢
          have hw : (r_200 = 1 ∧ TGV (TC fc_34 (flI (TC f z) 0 (z - 0)).length) gg_28.2 gg_28.1 [97, 115, 112, 102] [115]) ∨ (r_200 = 0 ∧ ¬ TGV (TC fc_34 (flI (TC f z) 0 (z - 0)).length) gg_28.2 gg_28.1 [97, 115, 112, 102] [115]) := hw
          have hw_202 := hw
          refine pg_put (ci := 5) (v := .int r_200) (ty := .boolean) (C := RX5) (T := TX5) (N := 7) hx hb hts it_5 tyX5 tyX5_ok nmX5 hown hK hP hD hS hL_h0 hF_187 rfl 5 (by decide) (hts _ kt_476) (fun _ h9 => h9) rfl (by decide +kernel) (bitN (bit2 hw_202)) (bitF (bit2 hw_202)) (Nat.le_of_ble_eq_true rfl) dX5_readRecord_76 (fun H locs hP hD hS => ?_)
          obtain ⟨F_203, he_204, hP, hD, hO, hR⟩ : ∃ G, G = va_up F_185 h0 (.inr (5, [.ref d, .ref w0, .ref w1, .ref rc, .int (nI (wnW (flT (TC f z) 0 (z - 0)) gg_28.2 gg_28.1 [115, 112])), .int r_200, .int v2_11])) ∧ va_P (dC, dI) vwCl (va_pl L G) H ∧ va_D A (va_pl L G) ∧ OK cs ty L G ∧ FR ty [ρ, ρ + 2, ρ + 3, ρ + 72, ρ + 73] F G := ⟨_, rfl, hP, hD, hO.up (sh.pol hT_h0 ⟨(nI (wnW (flT (TC f z) 0 (z - 0)) gg_28.2 gg_28.1 [115, 112])), r_200, v2_11, rfl⟩), hR.up hT_h0 (by simp)⟩
          have hF_205 : F_203 h0 = .inr (5, [.ref d, .ref w0, .ref w1, .ref rc, .int (nI (wnW (flT (TC f z) 0 (z - 0)) gg_28.2 gg_28.1 [115, 112])), .int r_200, .int v2_11]) := by rw [he_204]; exact up_self
          have hF_206 : F_203 g1 = .inr (0, [.ref r1, .int (nI z), .int 0]) := by rw [he_204, up_ne (ne_ty hT_g1 hT_h0 (by simp))]; exact hF_188
          have hF_207 : F_203 r1 = .inl (cs 16, n1, .inl f) := by rw [he_204, up_ne (ne_ty ht_23 hT_h0 (by simp))]; exact hF_189
          have hF_208 : F_203 rc = .inr (9, [.ref rx, .ref ry0, .ref ry1, .ref ry2, .int (nI gg_28.1)]) := by rw [he_204, up_ne (ne_ty hT_rc hT_h0 (by simp))]; exact hF_190
          have hF_209 : F_203 rx = .inr (0, [.ref rr, .int (nI (flI (TC f z) 0 (z - 0)).length), .int 0]) := by rw [he_204, up_ne (ne_ty hT_rx hT_h0 (by simp))]; exact hF_191
          have hF_210 : F_203 rr = .inl (cs 16, 700, .inl fc_34) := by rw [he_204, up_ne (ne_ty ht_20 hT_h0 (by simp))]; exact hF_192
          have hF_211 : F_203 ry0 = .inl (cs 16, 40, .inl p0_31) := by rw [he_204, up_ne (ne_ty ht_16 hT_h0 (by simp))]; exact hF_193
          have hF_212 : F_203 ry1 = .inl (cs 16, 40, .inl p1_32) := by rw [he_204, up_ne (ne_ty ht_17 hT_h0 (by simp))]; exact hF_194
          have hF_213 : F_203 ry2 = .inl (cs 16, 40, .inl p2_33) := by rw [he_204, up_ne (ne_ty ht_18 hT_h0 (by simp))]; exact hF_195
          refine lv_aload_n hx hb dX5_readRecord_79 rfl (lv_at hl 0 rfl) ?_
          refine lv_aload_n hx hb dX5_readRecord_80 rfl (lv_at hl 0 rfl) ?_
          refine pg_get (ci := 5) (v := .ref rc) (C := RX5) (T := TX5) (N := 7) hx hb hts it_5 hown hK hP hL_h0 hF_205 rfl 3 (by decide) (hts _ kt_456) (fun _ h9 => h9) rfl dX5_readRecord_81 ?_
          obtain ⟨q_214, v_215, hr_q_214, hXc_q_214⟩ := hG.2.2.2.2 ("PostGate$Policy", 158, "adkim", [97, 100, 107, 105, 109]) (by decide +kernel)
          have hXc_q_214 : SXc q_214 v_215 5 (cct [97, 100, 107, 105, 109]) A s s.heap := hXc_q_214
          have hX_q_214 : SX q_214 v_215 5 A s s.heap := hXc_q_214.sx
          obtain ⟨xo_q_214, xc_q_214, xv_q_214, xt_q_214, xn_q_214⟩ := id hXc_q_214
          have hr_q_214 : vk_R "PostGate$Policy" 158 "adkim" q_214 s := hr_q_214
          refine va_ldcS hx hb hown hr_q_214 dX5_readRecord_84 ?_
          refine va_ldcS hx hb hown hr_q_198 dX5_readRecord_86 ?_
          have hFc := pg_free hD hS hA
          refine va_calli (va_runV (As := [.ref q_214, .ref q_198]) (rest := [.ref h0]) ⟨hx, hb, hml, hown, hts⟩ (s_X9_is_e l dC dI cs ty L H.size F_203 rc (ρ + 2) rx 700 ry0 ry1 ry2 rr ((flI (TC f z) 0 (z - 0)).length) gg_28.1 fc_34 p0_31 p1_32 p2_33 gg_28.2 q_214 v_215 5 (cct [97, 100, 107, 105, 109]) q_198 v_199 1 (cct [115]) ([97, 100, 107, 105, 109]) ([115]) hW hL_rc hT_rc hL_rx hT_rx hF_208 hF_209 hF_210 hF_211 hF_212 hF_213 (hti3) (by omega) (hti2) (hq_42) (hti1) (⟨rfl, by decide +kernel⟩) (⟨rfl, by decide +kernel⟩)) ⟨callB_of 2 hts (gi kt_334) rfl rfl rfl (hts _ kt_164) (hts _ kt_457) (by decide +kernel) ⟨Nat.le_of_ble_eq_true rfl, Nat.le_of_ble_eq_true rfl⟩, (hts _ kt_336), (hts _ kt_337)⟩ ⟨fun a U g mk q => ⟨q.1, PTD.calling q.2⟩, pg_recv hK hP hL_rc hF_208 (q := (RX9, TX9, 5)) rfl, fun U hU hWm => ⟨rfl, PTD.mk hU hWm hP hK hD hE hO hG hXc_q_214 hXc_q_198 hS hFc⟩⟩ rfl rfl hl.1 rfl (lv_room (Nat.le_of_ble_eq_true rfl)) dX5_readRecord_88 ⟨by show _ + 0 ≤ 0; omega, by show _ + 0 ≤ 0; omega⟩) hS (fun q _ h => hFc q h) hFc (fun r_216 u t H1 locs ht hvm hw hB hz1 hk1 hS => ?_)
          obtain ⟨F_217, hB1⟩ := hB
          obtain rfl : F_203 = F_217 := (funext (fun a => hB1.2.2.2 a List.not_mem_nil)).symm
          obtain ⟨hP, hD, hO, hR⟩ := QT.back hB1 ht hFc hR (fun q h => absurd h List.not_mem_nil)
          generalize H1 = H at hP hS ⊢
          have hw : (r_216 = 1 ∧ TGV (TC fc_34 (flI (TC f z) 0 (z - 0)).length) gg_28.2 gg_28.1 [97, 100, 107, 105, 109] [115]) ∨ (r_216 = 0 ∧ ¬ TGV (TC fc_34 (flI (TC f z) 0 (z - 0)).length) gg_28.2 gg_28.1 [97, 100, 107, 105, 109] [115]) := hw
          have hw_218 := hw
          refine pg_put (ci := 5) (v := .int r_216) (ty := .boolean) (C := RX5) (T := TX5) (N := 7) hx hb hts it_5 tyX5 tyX5_ok nmX5 hown hK hP hD hS hL_h0 hF_205 rfl 6 (by decide) (hts _ kt_477) (fun _ h9 => h9) rfl (by decide +kernel) (bitN (bit2 hw_218)) (bitF (bit2 hw_218)) (Nat.le_of_ble_eq_true rfl) dX5_readRecord_91 (fun H locs hP hD hS => ?_)
          obtain ⟨F_219, he_220, hP, hD, hO, hR⟩ : ∃ G, G = va_up F_203 h0 (.inr (5, [.ref d, .ref w0, .ref w1, .ref rc, .int (nI (wnW (flT (TC f z) 0 (z - 0)) gg_28.2 gg_28.1 [115, 112])), .int r_200, .int r_216])) ∧ va_P (dC, dI) vwCl (va_pl L G) H ∧ va_D A (va_pl L G) ∧ OK cs ty L G ∧ FR ty [ρ, ρ + 2, ρ + 3, ρ + 72, ρ + 73] F G := ⟨_, rfl, hP, hD, hO.up (sh.pol hT_h0 ⟨(nI (wnW (flT (TC f z) 0 (z - 0)) gg_28.2 gg_28.1 [115, 112])), r_200, r_216, rfl⟩), hR.up hT_h0 (by simp)⟩
          have hF_221 : F_219 h0 = .inr (5, [.ref d, .ref w0, .ref w1, .ref rc, .int (nI (wnW (flT (TC f z) 0 (z - 0)) gg_28.2 gg_28.1 [115, 112])), .int r_200, .int r_216]) := by rw [he_220]; exact up_self
          have hF_222 : F_219 g1 = .inr (0, [.ref r1, .int (nI z), .int 0]) := by rw [he_220, up_ne (ne_ty hT_g1 hT_h0 (by simp))]; exact hF_206
          have hF_223 : F_219 r1 = .inl (cs 16, n1, .inl f) := by rw [he_220, up_ne (ne_ty ht_23 hT_h0 (by simp))]; exact hF_207
          have hF_224 : F_219 rc = .inr (9, [.ref rx, .ref ry0, .ref ry1, .ref ry2, .int (nI gg_28.1)]) := by rw [he_220, up_ne (ne_ty hT_rc hT_h0 (by simp))]; exact hF_208
          have hF_225 : F_219 rx = .inr (0, [.ref rr, .int (nI (flI (TC f z) 0 (z - 0)).length), .int 0]) := by rw [he_220, up_ne (ne_ty hT_rx hT_h0 (by simp))]; exact hF_209
          have hF_226 : F_219 rr = .inl (cs 16, 700, .inl fc_34) := by rw [he_220, up_ne (ne_ty ht_20 hT_h0 (by simp))]; exact hF_210
          have hF_227 : F_219 ry0 = .inl (cs 16, 40, .inl p0_31) := by rw [he_220, up_ne (ne_ty ht_16 hT_h0 (by simp))]; exact hF_211
          have hF_228 : F_219 ry1 = .inl (cs 16, 40, .inl p1_32) := by rw [he_220, up_ne (ne_ty ht_17 hT_h0 (by simp))]; exact hF_212
          have hF_229 : F_219 ry2 = .inl (cs 16, 40, .inl p2_33) := by rw [he_220, up_ne (ne_ty ht_18 hT_h0 (by simp))]; exact hF_213
          refine lv_aload_n hx hb dX5_readRecord_94 rfl (lv_at hl 0 rfl) ?_
          refine pg_get (ci := 5) (v := .int (nI (wnW (flT (TC f z) 0 (z - 0)) gg_28.2 gg_28.1 [115, 112]))) (C := RX5) (T := TX5) (N := 7) hx hb hts it_5 hown hK hP hL_h0 hF_221 rfl 4 (by decide) (hts _ kt_475) (fun _ h9 => h9) rfl dX5_readRecord_95 ?_
          refine lv_bipush (v := 6) hx hb dX5_readRecord_98 (by decide) ?_
          refine lv_icmp_ne (tgt := 108) hx hb dX5_readRecord_100 (by decide) (fun c_230 => ?_) (fun c_230 => ?_)
          ·
            refine lv_iconst (v := (-1)) hx hb dX5_readRecord_108 (by decide) ?_
            refine W.widen (k := 0) (n := 0) (by omega) (by omega) ?_
            exact W.iret (v := (-1)) hx hb hr (fun t ht hWm => ⟨⟨(-1), (), rfl, (by unfold rrW; rw [show tgT (flT (TC f z) 0 (z - 0)) (flI (TC f z) 0 (z - 0)).length = some gg_28 from by rcases hw_47 with h9 | h9; exact h9.2; exact absurd h9.1 c_48]; show (_ : Int32) = (if (wnW (flT (TC f z) 0 (z - 0)) gg_28.2 gg_28.1 [112]) = 6 then 6 else _); rw [if_neg (show ¬ (wnW (flT (TC f z) 0 (z - 0)) gg_28.2 gg_28.1 [112]) = 6 from fun q => c_66 (by rw [q]; rfl)), if_pos (show x2 = 0 ∧ (TGE (flT (TC f z) 0 (z - 0)) gg_28.2 gg_28.1 [115, 112]) from ⟨c_104, orp1 (by have h9 := hw_144; rw [hq_41] at h9; exact h9) c_145⟩), if_neg (show ¬ (wnW (flT (TC f z) 0 (z - 0)) gg_28.2 gg_28.1 [115, 112]) = 6 from fun q => c_230 (by rw [q]; rfl))]), ⟨F_219, QT.mk ht hP hD hO hR⟩⟩, hS.F ht⟩) hS.2.2 dX5_readRecord_109
          ·
            refine lv_bipush (v := 6) hx hb dX5_readRecord_103 (by decide) ?_
            refine lv_goto (tgt := 109) hx hb dX5_readRecord_105 (by decide) ?_
            refine W.widen (k := 0) (n := 0) (by omega) (by omega) ?_
            exact W.iret (v := 6) hx hb hr (fun t ht hWm => ⟨⟨6, (), rfl, (by unfold rrW; rw [show tgT (flT (TC f z) 0 (z - 0)) (flI (TC f z) 0 (z - 0)).length = some gg_28 from by rcases hw_47 with h9 | h9; exact h9.2; exact absurd h9.1 c_48]; show (_ : Int32) = (if (wnW (flT (TC f z) 0 (z - 0)) gg_28.2 gg_28.1 [112]) = 6 then 6 else _); rw [if_neg (show ¬ (wnW (flT (TC f z) 0 (z - 0)) gg_28.2 gg_28.1 [112]) = 6 from fun q => c_66 (by rw [q]; rfl)), if_pos (show x2 = 0 ∧ (TGE (flT (TC f z) 0 (z - 0)) gg_28.2 gg_28.1 [115, 112]) from ⟨c_104, orp1 (by have h9 := hw_144; rw [hq_41] at h9; exact h9) c_145⟩), if_pos (show (wnW (flT (TC f z) 0 (z - 0)) gg_28.2 gg_28.1 [115, 112]) = 6 from (nI_eq (b := 6) (by have h8 := wnW_le (T := (flT (TC f z) 0 (z - 0))) (g := gg_28.2) (n := gg_28.1) (l := [115, 112]); omega) (by omega)).mp c_230)]), ⟨F_219, QT.mk ht hP hD hO hR⟩⟩, hS.F ht⟩) hS.2.2 dX5_readRecord_109
  ·
    refine lv_bipush (v := 6) hx hb dX5_readRecord_16 (by decide) ?_
    refine W.widen (k := 0) (n := 0) (by omega) (by omega) ?_
    exact W.iret (v := 6) hx hb hr (fun t ht hWm => ⟨⟨6, (), rfl, (by unfold rrW; rcases hw_47 with h9 | h9; exact absurd (h9.1.symm.trans c_48) (by decide); rw [h9.2]; rfl), ⟨F_30, QT.mk ht hP hD hO hR⟩⟩, hS.F ht⟩) hS.2.2 dX5_readRecord_18
