noncomputable def hoL (D : Nat → ETY) (cn : Nat) (V : List Nat) : List Nat := rgL V (hsU D cn V) (V.length - hsU D cn V)
def SHW (D : Nat → ETY) (cn : Nat) (U V : List Nat) : Prop := hoL D cn U = hoL D cn V
def ALG (D : Nat → ETY) (cn : Nat) (x : Int32) (U V : List Nat) : Prop := (¬ x = 0 ∧ U = V) ∨ (x = 0 ∧ SHW D cn U V)
theorem getD_ext {U V : List Nat} (hl : U.length = V.length) (h : ∀ j, j < U.length → U.getD j 0 = V.getD j 0) : U = V := by
  induction U generalizing V with
  | nil => cases V with
    | nil => rfl
    | cons y V => exact absurd hl (by show ¬ 0 = V.length + 1; omega)
  | cons x U ih => cases V with
    | nil => exact absurd hl (by show ¬ U.length + 1 = 0; omega)
    | cons y V =>
      have h0 : x = y := h 0 (Nat.succ_pos _)
      have h1 : U = V := ih (by have h9 : U.length + 1 = V.length + 1 := hl; omega) (fun j hj => h (j + 1) (Nat.succ_lt_succ hj))
      rw [h0, h1]
theorem src_eq {U V : List Nat} {z y : Nat} {f g : Nat → Int32} (hu : SRC U z f) (hv : SRC V y g) : (z = y ∧ ∀ j, j < z → f j = g j) ↔ U = V := by
  constructor
  · rintro ⟨h1, h2⟩
    refine getD_ext (by rw [hu.1, hv.1, h1]) (fun j hj => ?_)
    have hj2 : j < z := by rw [← hu.1]; exact hj
    have h3 := h2 j hj2
    rw [hu.2.1 j hj2, hv.2.1 j (by omega)] at h3
    exact (nI_eq (by have h9 := hu.2.2 j hj2; omega) (by have h9 := hv.2.2 j (by omega); omega)).mp h3
  · intro h
    subst h
    have e : z = y := by rw [← hu.1, ← hv.1]
    exact ⟨e, fun j hj => by rw [hu.2.1 j hj, hv.2.1 j (by omega)]⟩
theorem shw_of {D : Nat → ETY} {cn : Nat} {U V : List Nat} {z y : Nat} {f g : Nat → Int32} (hu : SRC U z f) (hv : SRC V y g) (h1 : hsU D cn U ≤ z) (h2 : hsU D cn V ≤ y) : (z - hsU D cn U = y - hsU D cn V ∧ ENDL f z g y (z - hsU D cn U)) ↔ SHW D cn U V := by
  unfold SHW hoL
  rw [hu.1, hv.1]
  generalize hsU D cn U = a at h1 ⊢
  generalize hsU D cn V = b at h2 ⊢
  constructor
  · rintro ⟨e1, e2⟩
    refine getD_ext (by rw [rgL_len, rgL_len, e1]) (fun j hj => ?_)
    rw [rgL_len] at hj
    rw [rgL_get _ _ _ hj, rgL_get _ _ _ (by omega)]
    have e3 := e2 (z - a - j) (by omega) (by omega)
    rw [show z - (z - a - j) = a + j by omega, show y - (z - a - j) = b + j by omega, hu.2.1 _ (by omega), hv.2.1 _ (by omega)] at e3
    exact (nI_eq (by have h9 := hu.2.2 (a + j) (by omega); omega) (by have h9 := hv.2.2 (b + j) (by omega); omega)).mp e3
  · intro e
    have e1 : z - a = y - b := by
      have h9 := congrArg List.length e
      rw [rgL_len, rgL_len] at h9
      exact h9
    refine ⟨e1, fun i i1 i2 => ?_⟩
    have e2 := congrArg (fun l : List Nat => l.getD (z - a - i) 0) e
    have e3 : (rgL U a (z - a)).getD (z - a - i) 0 = (rgL V b (y - b)).getD (z - a - i) 0 := e2
    rw [rgL_get _ _ _ (by omega), rgL_get _ _ _ (by omega)] at e3
    rw [show z - i = a + (z - a - i) by omega, show y - i = b + (z - a - i) by omega, hu.2.1 _ (by omega), hv.2.1 _ (by omega), e3]
noncomputable def wn3 (T : Nat → Nat) (g : Nat → Nat → Nat) (n : Nat) (own : Int32) : Nat := @ite Nat (¬ wnW T g n [112] = 6 ∧ own = 0 ∧ TGE T g n [115, 112]) (Classical.propDecidable _) (wnW T g n [115, 112]) (wnW T g n [112])
noncomputable def sfl (T : Nat → Nat) (g : Nat → Nat → Nat) (n : Nat) (l : List Nat) : Int32 := @ite Int32 (TGV T g n l [115]) (Classical.propDecidable _) 1 0
theorem sfl_r {T : Nat → Nat} {g : Nat → Nat → Nat} {n : Nat} {l : List Nat} {r : Int32} (h : (r = 1 ∧ TGV T g n l [115]) ∨ (r = 0 ∧ ¬ TGV T g n l [115])) : r = sfl T g n l := by
  rcases h with ⟨h1, h2⟩ | ⟨h1, h2⟩
  · exact h1.trans (if_pos h2).symm
  · exact h1.trans (if_neg h2).symm
def ASF : List Nat := [97, 115, 112, 102]
def ADK : List Nat := [97, 100, 107, 105, 109]
noncomputable def rcW (d : ETY) (own : Int32) : Nat := match tgT (kyT d) (kyY d) with
  | none => 0
  | some gg => wn3 (kyT d) gg.2 gg.1 own
noncomputable def rcF (d : ETY) (l : List Nat) : Int32 := match tgT (kyT d) (kyY d) with
  | none => 0
  | some gg => sfl (kyT d) gg.2 gg.1 l
noncomputable def rwV (D : Nat → ETY) (cn : Nat) (V : List Nat) : Nat × Int32 := if ¬ otU D cn (DMU V 0) < 0 then ((otU D cn (DMU V 0)).toNatClampNeg, 1) else ((otU D cn (DMU V (hsU D cn V))).toNatClampNeg, 0)
noncomputable def wnV (D : Nat → ETY) (cn : Nat) (V : List Nat) : Nat := rcW (D (rwV D cn V).1) (rwV D cn V).2
noncomputable def saV (D : Nat → ETY) (cn : Nat) (V : List Nat) : Int32 := rcF (D (rwV D cn V).1) ASF
noncomputable def skV (D : Nat → ETY) (cn : Nat) (V : List Nat) : Int32 := rcF (D (rwV D cn V).1) ADK
theorem rr_some {T : Nat → Nat} {z : Nat} {own : Int32} (h : rrW T z own = (-1)) : ∃ gg, tgT (flT T 0 (z - 0)) (flI T 0 (z - 0)).length = some gg := by
  unfold rrW at h
  cases e : tgT (flT T 0 (z - 0)) (flI T 0 (z - 0)).length with
  | none =>
    rw [e] at h
    exact absurd (show (6 : Int32) = (-1) from h) (by decide)
  | some gg => exact ⟨gg, rfl⟩
theorem rc_of {d : ETY} {own : Int32} {gg : TGG} (h : tgT (kyT d) (kyY d) = some gg) : rcW d own = wn3 (kyT d) gg.2 gg.1 own ∧ ∀ l, rcF d l = sfl (kyT d) gg.2 gg.1 l := by
  refine ⟨?_, fun l => ?_⟩
  · unfold rcW
    rw [h]
  · unfold rcF
    rw [h]
def HSR (SJ : Nat → Int32 → Prop) (A : Nat → Prop) (P : Nat → Prop) (n : Nat) (r : Int32) : Prop := (r = 1 ∧ ∃ k, k < n ∧ P k ∧ SJ k 2 ∧ A k ∧ ∀ j, j < k → P j → ∃ x, SJ j x ∧ ¬ (x = 2 ∧ A j)) ∨ (r = 0 ∧ ∀ j, j < n → P j → ∃ x, SJ j x ∧ ¬ (x = 2 ∧ A j))
noncomputable def dmO (T : Nat → Nat) (Y : Nat) : List Nat := match tgT T Y with
  | none => []
  | some gg => dmL T gg.2 gg.1
theorem dmO_e {T : Nat → Nat} {Y : Nat} {gg : TGG} (h : tgT T Y = some gg) : dmO T Y = dmL T gg.2 gg.1 := by
  unfold dmO
  rw [h]
def NAL (T : Nat → Nat) (a b : Nat) (l : List Nat) : Prop := a + l.length = b ∧ ∀ i, i < l.length → smc (T (a + i)) = l.getD i 0
def DKL : List Nat := [100, 107, 105, 109, 45, 115, 105, 103, 110, 97, 116, 117, 114, 101]
theorem nmd_nal {F : Nat → va_E} {x y0 y1 rx zm i kb kc k : Nat} {o : Int32} {c0 c1 c2 : ClassId} {m0 m1 m2 : Nat} {fL sA sB C : Nat → Int32} {l : List Nat} (hC : CLI C k l) (hk : k ≤ 100) (hx : F x = .inr (0, [.ref rx, .int (nI zm), .int o])) (hr : F rx = .inl (c0, m0, .inl fL)) (h0 : F y0 = .inl (c1, m1, .inl sA)) (h1 : F y1 = .inl (c2, m2, .inl sB)) (a0 : sA i = nI kb) (a1 : sB i = nI kc) (hi : i < 20) (hb : kb < kc) (hc : kc ≤ zm) (hz : zm ≤ 3000) : nmd F x y0 y1 C k i ↔ NAL (TC fL zm) kb kc l := by
  have g0 : gA (F y0) i = nI kb := gA_of h0 (by rw [nI_clamp (by omega)]; exact a0) (by omega)
  have g1 : gA (F y1) i = nI kc := gA_of h1 (by rw [nI_clamp (by omega)]; exact a1) (by omega)
  obtain ⟨hl0, hl⟩ := hC
  have e1 : (nI kc - nI kb = nI k) ↔ kb + l.length = kc := by
    rw [show nI kc - nI kb = nI (kc - kb) from pk_sub (by omega), hl0]
    exact ⟨fun q => by have h9 := (nI_eq (by omega) (by omega)).mp q; omega, fun q => by rw [show kc - kb = k by omega]⟩
  have e2 : kb + l.length = kc → ∀ j, j < k → (smv (atv F x (nI kb + nI j)) = chv (C j) ↔ smc (TC fL zm (kb + j)) = l.getD j 0) := fun q j hj => by
    rw [nI_add, at_in hx hr (nI_pos (by omega)) ((nI_ltI (by omega) (by omega)).mpr (show kb + j < zm by omega)), nI_clamp (by omega), (hl j hj).1, tcn_in (show kb + j < zm by omega)]
    exact smx_cd (hl j hj).2
  unfold nmd NAL
  rw [g0, g1]
  constructor
  · rintro ⟨q1, q2⟩
    have q3 := e1.mp q1
    exact ⟨q3, fun j hj => (e2 q3 j (by omega)).mp (q2 j (by omega))⟩
  · rintro ⟨q1, q2⟩
    exact ⟨e1.mpr q1, fun j hj => (e2 q1 j hj).mpr (q2 j (by omega))⟩
set_option maxHeartbeats 4000000 in
set_option maxRecDepth 100000 in
theorem s_X2_isSameHouse_e (l : Launch) (dC : Nat → ClassId) (dI : Nat → Nat → Nat) (cs : Nat → ClassId) (ty : TyM) (L : List Nat) (sz : Nat) (F : Nat → va_E) (h0 : Nat) (ρ : Nat) (ea : Nat) (g1 : Nat) (σ : Nat) (r1 : Nat) (n1 : Nat) (g2 : Nat) (τ : Nat) (r2 : Nat) (n2 : Nat) (z : Nat) (y : Nat) (cn : Nat) (f : Nat → Int32) (fa : Nat → Int32) (U : List Nat) (V : List Nat) (D : Nat → ETY) (hW : WT ty L) (hL_h0 : h0 ∈ L) (hT_h0 : ty h0 = (2, ρ, [ea])) (hL_g1 : g1 ∈ L) (hT_g1 : ty g1 = (0, σ, [r1, n1])) (hL_g2 : g2 ∈ L) (hT_g2 : ty g2 = (0, τ, [r2, n2])) (hFd : F h0 = .inr (2, [.ref ea, .int (nI cn)])) (hcn : cn ≤ 40) (hFg : F g1 = .inr (0, [.ref r1, .int (nI z), .int 0])) (hFr1 : F r1 = .inl (cs 16, n1, .inl f)) (hU : SRC U z f) (hzn : z ≤ n1) (hn9 : n1 ≤ 10000) (hFg2 : F g2 = .inr (0, [.ref r2, .int (nI y), .int 0])) (hFr2 : F r2 = .inl (cs 16, n2, .inl fa)) (hV : SRC V y fa) (hyn : y ≤ n2) (hm9 : n2 ≤ 10000) (hDI : DIRC cs F ea cn D) : Met l yX2_isSameHouse (.code yX2_isSameHouse cX2_isSameHouse 4 (some .boolean) :: tb) ({ frames := 3, cells := 0, slots := 0, locals := 68 }) (va_Pc [.ref h0, .ref g1, .ref g2] (PT (dC, dI) cs ty L F sz)) (va_Qi (fun (r : Int32) (_ : Unit) => (r = 1 ∧ SHW D cn U V) ∨ (r = 0 ∧ ¬ SHW D cn U V)) (fun _ T9 => ∃ F2 : Nat → va_E, QT (dC, dI) cs ty L [] F F2 (va_A (va_pl L F) sz) T9) (va_A (va_pl L F) sz)) 0 0 (va_A (va_pl L F) sz) := by
  refine Met.ofW (cc := cX2_isSameHouse) (maxL := 4) (ret := (some .boolean)) (by decide) rfl ?_
  intro p e s m args below meth c s₁ B hml hv
  obtain ⟨rfl, hsz, hP, hK, hD0, hE, hO⟩ := hv
  have hx := B.exec
  have hb := B.bytes
  have hr := B.returns
  have hts : ∀ w ∈ tb, w.before _ s = true := fun w h => atoms_spec (ws := .code yX2_isSameHouse cX2_isSameHouse 4 (some .boolean) :: tb) B.pre w (List.mem_cons_of_mem _ h)
  have hown : s.vm.findClass RX2 = some m.cls := findClass_of_methodNamed B.named
  have hlocks := B.notSynchronized
  subst hsz
  have hD := hD0.self (sz := s.heap.size)
  generalize hAe : va_A (va_pl L F) s.heap.size = A at hD ⊢
  have hA : ∀ q : Nat, s.heap.size ≤ q → A q := fun q h => by rw [← hAe]; exact Or.inr h
  have hS : va_S A s.heap s.heap [] := va_S.rf
  have hR : FR ty [] F F := FR.refl
  have hl := lv_entry ([.ref h0, .ref g1, .ref g2]) (n := 4) (Nat.le_of_ble_eq_true rfl)
  rw [lg_entry_eq]
  generalize (lg_sl ([.ref h0, .ref g1, .ref g2]) ++ List.replicate (4 - (lg_sl ([.ref h0, .ref g1, .ref g2])).length) Slot.unset).toArray = ls at hl ⊢
  have hl : lv_has ls 4 [(0, .ref h0), (1, .ref g1), (2, .ref g2)] := hl
  obtain ⟨hi_1, ht_2⟩ := hW.dir hL_h0 hT_h0
  obtain ⟨hi_3, ht_4, hq_5⟩ := hW.bytes hL_g1 hT_g1
  obtain ⟨hi_6, ht_7, hq_8⟩ := hW.bytes hL_g2 hT_g2
  refine lv_aload_n hx hb dX2_isSameHouse_0 rfl (lv_at hl 1 rfl) ?_
  refine pg_getN (ci := 0) (v := .int (nI z)) (C := RX0) (T := TX0) (N := 3) hx hb hts it_0 hown hK hP hL_g1 hFg rfl 1 (by decide) (hE.nest kn_3) (fun _ h9 => h9) rfl dX2_isSameHouse_1 ?_
  refine lv_aload_n hx hb dX2_isSameHouse_4 rfl (lv_at hl 0 rfl) ?_
  refine lv_aload_n hx hb dX2_isSameHouse_5 rfl (lv_at hl 1 rfl) ?_
  have hFc := pg_free hD hS hA
  refine va_calli (va_runV (As := [.ref g1]) (rest := [.int (nI z)]) ⟨hx, hb, hml, hown, hts⟩ (s_X2_houseStart_e l dC dI cs ty L s.heap.size F h0 ρ ea g1 σ r1 n1 z cn f D hW hL_h0 hT_h0 hL_g1 hT_g1 hFd (by omega) hFg hFr1 (by omega) (by omega) (hDI)) ⟨callB_of 1 hts (gi kt_102) rfl rfl rfl (hts _ kt_103) (hts _ kt_104) (by decide +kernel) ⟨Nat.le_of_ble_eq_true rfl, Nat.le_of_ble_eq_true rfl⟩, (hts _ kt_105), (hts _ kt_106)⟩ ⟨fun a U g mk q => ⟨q.1, PT.calling q.2⟩, pg_recv hK hP hL_h0 hFd (q := (RX2, TX2, 2)) rfl, fun U hU hWm => ⟨rfl, PT.mk hU hWm hP hK hD hE hO⟩⟩ rfl rfl hl.1 rfl (lv_room (Nat.le_of_ble_eq_true rfl)) dX2_isSameHouse_6 ⟨by show _ + 0 ≤ 0; omega, by show _ + 0 ≤ 0; omega⟩) hS (fun q _ h => hFc q h) hFc (fun r_9 u t H1 locs ht hvm hw hB hz1 hk1 hS => ?_)
  obtain ⟨F_10, hB1⟩ := hB
  obtain rfl : F = F_10 := (funext (fun a => hB1.2.2.2 a List.not_mem_nil)).symm
  obtain ⟨hP, hD, hO, hR⟩ := QT.back hB1 ht hFc hR (fun q h => absurd h List.not_mem_nil)
  generalize H1 = H at hP hS ⊢
  have hw : r_9 = nI (HST (UND f z) f z D cn) := hw
  have hw_11 := hw
  have hhu : r_9 = nI (hsU D cn U) := hw_11.trans (by rw [hst_eq hU.2.1]; unfold hsU; rw [hU.1]; rfl)
  subst hhu
  have hhul : hsU D cn U ≤ z := by have h9 : hsU D cn U ≤ U.length := hst_le; rw [hU.1] at h9; exact h9
  refine lv_isub hx hb dX2_isSameHouse_9 ?_
  refine lv_topi (fun x_12 ex_12 => ?_)
  obtain rfl : x_12 = (nI (z - hsU D cn U)) := ex_12.trans (pk_sub hhul)
  refine lv_istore_n (lv' := [(3, .int (nI (z - hsU D cn U))), (0, .ref h0), (1, .ref g1), (2, .ref g2)]) hx hb dX2_isSameHouse_10 rfl hl (by decide) rfl (fun ls hl => ?_)
  refine lv_iload_n hx hb dX2_isSameHouse_11 rfl (lv_at hl 0 rfl) ?_
  refine lv_aload_n hx hb dX2_isSameHouse_12 rfl (lv_at hl 3 rfl) ?_
  refine pg_getN (ci := 0) (v := .int (nI y)) (C := RX0) (T := TX0) (N := 3) hx hb hts it_0 hown hK hP hL_g2 hFg2 rfl 1 (by decide) (hE.nest kn_3) (fun _ h9 => h9) rfl dX2_isSameHouse_13 ?_
  refine lv_aload_n hx hb dX2_isSameHouse_16 rfl (lv_at hl 1 rfl) ?_
  refine lv_aload_n hx hb dX2_isSameHouse_17 rfl (lv_at hl 3 rfl) ?_
  have hFc := pg_free hD hS hA
  refine va_calli (va_runV (As := [.ref g2]) (rest := [.int (nI y), .int (nI (z - hsU D cn U))]) ⟨hx, hb, hml, hown, hts⟩ (s_X2_houseStart_e l dC dI cs ty L H.size F h0 ρ ea g2 τ r2 n2 y cn fa D hW hL_h0 hT_h0 hL_g2 hT_g2 hFd (by omega) hFg2 hFr2 (by omega) (by omega) (hDI)) ⟨callB_of 1 hts (gi kt_102) rfl rfl rfl (hts _ kt_103) (hts _ kt_104) (by decide +kernel) ⟨Nat.le_of_ble_eq_true rfl, Nat.le_of_ble_eq_true rfl⟩, (hts _ kt_105), (hts _ kt_106)⟩ ⟨fun a U g mk q => ⟨q.1, PT.calling q.2⟩, pg_recv hK hP hL_h0 hFd (q := (RX2, TX2, 2)) rfl, fun U hU hWm => ⟨rfl, PT.mk hU hWm hP hK hD hE hO⟩⟩ rfl rfl hl.1 rfl (lv_room (Nat.le_of_ble_eq_true rfl)) dX2_isSameHouse_18 ⟨by show _ + 0 ≤ 0; omega, by show _ + 0 ≤ 0; omega⟩) hS (fun q _ h => hFc q h) hFc (fun r_13 u t H1 locs ht hvm hw hB hz1 hk1 hS => ?_)
  obtain ⟨F_14, hB1⟩ := hB
  obtain rfl : F = F_14 := (funext (fun a => hB1.2.2.2 a List.not_mem_nil)).symm
  obtain ⟨hP, hD, hO, hR⟩ := QT.back hB1 ht hFc hR (fun q h => absurd h List.not_mem_nil)
  generalize H1 = H at hP hS ⊢
  have hw : r_13 = nI (HST (UND fa y) fa y D cn) := hw
  have hw_15 := hw
  have hhv : r_13 = nI (hsU D cn V) := hw_15.trans (by rw [hst_eq hV.2.1]; unfold hsU; rw [hV.1]; rfl)
  subst hhv
  have hhvl : hsU D cn V ≤ y := by have h9 : hsU D cn V ≤ V.length := hst_le; rw [hV.1] at h9; exact h9
  refine lv_isub hx hb dX2_isSameHouse_21 ?_
  refine lv_topi (fun x_16 ex_16 => ?_)
  obtain rfl : x_16 = (nI (y - hsU D cn V)) := ex_16.trans (pk_sub hhvl)
  refine lv_icmp_ne (tgt := 38) hx hb dX2_isSameHouse_22 (by decide) (fun c_17 => ?_) (fun c_17 => ?_)
  ·
    have hln : ¬ z - hsU D cn U = y - hsU D cn V := fun q => c_17 (by rw [q])
    refine lv_iconst (v := 0) hx hb dX2_isSameHouse_38 (by decide) ?_
    refine W.widen (k := 0) (n := 0) (by omega) (by omega) ?_
    exact W.zret (v := 0) (ty := .boolean) hx hb hr (by decide) (fun t ht hWm => ⟨⟨0, (), rfl, (Or.inr ⟨rfl, fun q => hln ((shw_of hU hV hhul hhvl).mpr q).1⟩), ⟨F, QT.mk ht hP hD hO hR⟩⟩, hS.F ht⟩) hS.2.2 dX2_isSameHouse_39
  ·
    have hln : z - hsU D cn U = y - hsU D cn V := (nI_eq (by omega) (by omega)).mp c_17
    refine lv_aload_n hx hb dX2_isSameHouse_25 rfl (lv_at hl 2 rfl) ?_
    refine lv_aload_n hx hb dX2_isSameHouse_26 rfl (lv_at hl 3 rfl) ?_
    refine lv_iload_n hx hb dX2_isSameHouse_27 rfl (lv_at hl 0 rfl) ?_
    have hFc := pg_free hD hS hA
    refine va_calli (va_runV (As := [.ref g2, .int (nI (z - hsU D cn U))]) (rest := []) ⟨hx, hb, hml, hown, hts⟩ (s_X0_endsLike_e l dC dI cs ty L H.size F g1 σ r1 n1 g2 τ r2 n2 z y (z - hsU D cn U) f fa hW hL_g1 hT_g1 hL_g2 hT_g2 hFg hFr1 hFg2 hFr2 (by omega) (by omega) (by omega) (by omega) (by omega) (by omega)) ⟨callB_of 2 hts (gi kt_40) rfl rfl rfl (hts _ kt_1) (hts _ kt_107) (by decide +kernel) ⟨Nat.le_of_ble_eq_true rfl, Nat.le_of_ble_eq_true rfl⟩, (hts _ kt_42), (hts _ kt_43)⟩ ⟨fun a U g mk q => ⟨q.1, PT.calling q.2⟩, pg_recv hK hP hL_g1 hFg (q := (RX0, TX0, 3)) rfl, fun U hU hWm => ⟨rfl, PT.mk hU hWm hP hK hD hE hO⟩⟩ rfl rfl hl.1 rfl (lv_room (Nat.le_of_ble_eq_true rfl)) dX2_isSameHouse_28 ⟨by show _ + 0 ≤ 0; omega, by show _ + 0 ≤ 0; omega⟩) hS (fun q _ h => hFc q h) hFc (fun r_20 u t H1 locs ht hvm hw hB hz1 hk1 hS => ?_)
    obtain ⟨F_21, hB1⟩ := hB
    obtain rfl : F = F_21 := (funext (fun a => hB1.2.2.2 a List.not_mem_nil)).symm
    obtain ⟨hP, hD, hO, hR⟩ := QT.back hB1 ht hFc hR (fun q h => absurd h List.not_mem_nil)
    generalize H1 = H at hP hS ⊢
    have hw : (r_20 = 1 ∧ ENDL f z fa y (z - hsU D cn U)) ∨ (r_20 = 0 ∧ ¬ ENDL f z fa y (z - hsU D cn U)) := hw
    have hw_22 := hw
    refine lv_if_eq (tgt := 38) hx hb dX2_isSameHouse_31 (by decide) (fun c_23 => ?_) (fun c_23 => ?_)
    ·
      refine lv_iconst (v := 0) hx hb dX2_isSameHouse_38 (by decide) ?_
      refine W.widen (k := 0) (n := 0) (by omega) (by omega) ?_
      exact W.zret (v := 0) (ty := .boolean) hx hb hr (by decide) (fun t ht hWm => ⟨⟨0, (), rfl, (Or.inr ⟨rfl, fun q => orp0 hw_22 c_23 ((shw_of hU hV hhul hhvl).mpr q).2⟩), ⟨F, QT.mk ht hP hD hO hR⟩⟩, hS.F ht⟩) hS.2.2 dX2_isSameHouse_39
    ·
      refine lv_iconst (v := 1) hx hb dX2_isSameHouse_34 (by decide) ?_
      refine lv_goto (tgt := 39) hx hb dX2_isSameHouse_35 (by decide) ?_
      refine W.widen (k := 0) (n := 0) (by omega) (by omega) ?_
      exact W.zret (v := 1) (ty := .boolean) hx hb hr (by decide) (fun t ht hWm => ⟨⟨1, (), rfl, (Or.inl ⟨rfl, (shw_of hU hV hhul hhvl).mp ⟨hln, orp1 hw_22 c_23⟩⟩), ⟨F, QT.mk ht hP hD hO hR⟩⟩, hS.F ht⟩) hS.2.2 dX2_isSameHouse_39
set_option maxHeartbeats 4000000 in
set_option maxRecDepth 100000 in
theorem s_X5_isAligned_e (l : Launch) (dC : Nat → ClassId) (dI : Nat → Nat → Nat) (cs : Nat → ClassId) (ty : TyM) (L : List Nat) (sz : Nat) (F : Nat → va_E) (h0 : Nat) (ρ : Nat) (d : Nat) (δ : Nat) (ea : Nat) (w0 : Nat) (w1 : Nat) (rc : Nat) (rx : Nat) (ry0 : Nat) (ry1 : Nat) (ry2 : Nat) (g1 : Nat) (σ : Nat) (r1 : Nat) (n1 : Nat) (rw0 : Nat) (z : Nat) (y : Nat) (cn : Nat) (f : Nat → Int32) (fa : Nat → Int32) (U : List Nat) (V : List Nat) (D : Nat → ETY) (x2 : Int32) (hW : WT ty L) (hL_h0 : h0 ∈ L) (hT_h0 : ty h0 = (5, ρ, [d, δ, ea, w0, w1, rc, rx, ry0, ry1, ry2])) (hL_w0 : w0 ∈ L) (hT_w0 : ty w0 = (0, ρ + 1, [rw0, 60])) (hL_g1 : g1 ∈ L) (hT_g1 : ty g1 = (0, σ, [r1, n1])) (hFg : F g1 = .inr (0, [.ref r1, .int (nI z), .int 0])) (hFr1 : F r1 = .inl (cs 16, n1, .inl f)) (hU : SRC U z f) (hzn : z ≤ n1) (hn9 : n1 ≤ 10000) (hFw0 : F w0 = .inr (0, [.ref rw0, .int (nI y), .int 0])) (hFr2 : F rw0 = .inl (cs 16, 60, .inl fa)) (hV : SRC V y fa) (hyn : y ≤ 60) (hFd : F d = .inr (2, [.ref ea, .int (nI cn)])) (hcn : cn ≤ 40) (hDI : DIRC cs F ea cn D) : Met l yX5_isAligned (.code yX5_isAligned cX5_isAligned 3 (some .boolean) :: tb) ({ frames := 4, cells := 0, slots := 0, locals := 91 }) (va_Pc [.ref h0, .ref g1, .int x2] (PT (dC, dI) cs ty L F sz)) (va_Qi (fun (r : Int32) (_ : Unit) => (r = 1 ∧ ALG D cn x2 U V) ∨ (r = 0 ∧ ¬ ALG D cn x2 U V)) (fun _ T9 => ∃ F2 : Nat → va_E, QT (dC, dI) cs ty L [] F F2 (va_A (va_pl L F) sz) T9) (va_A (va_pl L F) sz)) 0 0 (va_A (va_pl L F) sz) := by
  refine Met.ofW (cc := cX5_isAligned) (maxL := 3) (ret := (some .boolean)) (by decide) rfl ?_
  intro p e s m args below meth c s₁ B hml hv
  obtain ⟨rfl, hsz, hP, hK, hD0, hE, hO⟩ := hv
  have hx := B.exec
  have hb := B.bytes
  have hr := B.returns
  have hts : ∀ w ∈ tb, w.before _ s = true := fun w h => atoms_spec (ws := .code yX5_isAligned cX5_isAligned 3 (some .boolean) :: tb) B.pre w (List.mem_cons_of_mem _ h)
  have hown : s.vm.findClass RX5 = some m.cls := findClass_of_methodNamed B.named
  have hlocks := B.notSynchronized
  subst hsz
  have hD := hD0.self (sz := s.heap.size)
  generalize hAe : va_A (va_pl L F) s.heap.size = A at hD ⊢
  have hA : ∀ q : Nat, s.heap.size ≤ q → A q := fun q h => by rw [← hAe]; exact Or.inr h
  have hS : va_S A s.heap s.heap [] := va_S.rf
  have hR : FR ty [] F F := FR.refl
  have hl := lv_entry ([.ref h0, .ref g1, .int x2]) (n := 3) (Nat.le_of_ble_eq_true rfl)
  rw [lg_entry_eq]
  generalize (lg_sl ([.ref h0, .ref g1, .int x2]) ++ List.replicate (3 - (lg_sl ([.ref h0, .ref g1, .int x2])).length) Slot.unset).toArray = ls at hl ⊢
  have hl : lv_has ls 3 [(0, .ref h0), (1, .ref g1), (2, .int x2)] := hl
  obtain ⟨hi_1, ht_2, _, _, hi_3, ⟨r_4, ht_5⟩, hi_6, ht_7⟩ := hW.pol hL_h0 hT_h0
  obtain ⟨hi_8, ht_9, hq_10⟩ := hW.bytes hL_w0 hT_w0
  obtain ⟨hi_11, ht_12, hq_13⟩ := hW.bytes hL_g1 hT_g1
  obtain ⟨hi_14, ht_15⟩ := hW.dir hi_1 ht_2
  refine lv_iload_n hx hb dX5_isAligned_0 rfl (lv_at hl 2 rfl) ?_
  refine lv_if_eq (tgt := 15) hx hb dX5_isAligned_1 (by decide) (fun c_16 => ?_) (fun c_16 => ?_)
  ·
    refine lv_aload_n hx hb dX5_isAligned_15 rfl (lv_at hl 0 rfl) ?_
    obtain ⟨v0_17, v1_18, v2_19, hF_20⟩ := hO.pol hL_h0 hT_h0
    refine pg_get (ci := 5) (v := .ref d) (C := RX5) (T := TX5) (N := 7) hx hb hts it_5 hown hK hP hL_h0 hF_20 rfl 0 (by decide) (hts _ kt_463) (fun _ h9 => h9) rfl dX5_isAligned_16 ?_
    refine lv_aload_n hx hb dX5_isAligned_19 rfl (lv_at hl 1 rfl) ?_
    refine lv_aload_n hx hb dX5_isAligned_20 rfl (lv_at hl 0 rfl) ?_
    refine pg_get (ci := 5) (v := .ref w0) (C := RX5) (T := TX5) (N := 7) hx hb hts it_5 hown hK hP hL_h0 hF_20 rfl 1 (by decide) (hts _ kt_461) (fun _ h9 => h9) rfl dX5_isAligned_21 ?_
    have hFc := pg_free hD hS hA
    refine va_calli (va_runV (As := [.ref g1, .ref w0]) (rest := []) ⟨hx, hb, hml, hown, hts⟩ (s_X2_isSameHouse_e l dC dI cs ty L s.heap.size F d δ ea g1 σ r1 n1 w0 (ρ + 1) rw0 60 z y cn f fa U V D hW hi_1 ht_2 hL_g1 hT_g1 hL_w0 hT_w0 hFd (by omega) hFg hFr1 (hU) (by omega) (by omega) hFw0 hFr2 (hV) (by omega) (by omega) (hDI)) ⟨callB_of 2 hts (gi kt_464) rfl rfl rfl (hts _ kt_103) (hts _ kt_465) (by decide +kernel) ⟨Nat.le_of_ble_eq_true rfl, Nat.le_of_ble_eq_true rfl⟩, (hts _ kt_466), (hts _ kt_467)⟩ ⟨fun a U g mk q => ⟨q.1, PT.calling q.2⟩, pg_recv hK hP hi_1 hFd (q := (RX2, TX2, 2)) rfl, fun U hU hWm => ⟨rfl, PT.mk hU hWm hP hK hD hE hO⟩⟩ rfl rfl hl.1 rfl (lv_room (Nat.le_of_ble_eq_true rfl)) dX5_isAligned_24 ⟨by show _ + 0 ≤ 0; omega, by show _ + 0 ≤ 0; omega⟩) hS (fun q _ h => hFc q h) hFc (fun r_21 u t H1 locs ht hvm hw hB hz1 hk1 hS => ?_)
    obtain ⟨F_22, hB1⟩ := hB
    obtain rfl : F = F_22 := (funext (fun a => hB1.2.2.2 a List.not_mem_nil)).symm
    obtain ⟨hP, hD, hO, hR⟩ := QT.back hB1 ht hFc hR (fun q h => absurd h List.not_mem_nil)
    generalize H1 = H at hP hS ⊢
    have hw : (r_21 = 1 ∧ SHW D cn U V) ∨ (r_21 = 0 ∧ ¬ SHW D cn U V) := hw
    have hw_23 := hw
    refine W.widen (k := 0) (n := 0) (by omega) (by omega) ?_
    exact W.zret (v := r_21) (ty := .boolean) hx hb hr (by rcases hw_23 with q | q <;> rw [q.1] <;> decide) (fun t ht hWm => ⟨⟨r_21, (), rfl, (by rcases hw_23 with q | q; exact Or.inl ⟨q.1, Or.inr ⟨c_16, q.2⟩⟩; exact Or.inr ⟨q.1, fun w => w.elim (fun w => w.1 c_16) (fun w => q.2 w.2)⟩), ⟨F, QT.mk ht hP hD hO hR⟩⟩, hS.F ht⟩) hS.2.2 dX5_isAligned_27
  ·
    refine lv_aload_n hx hb dX5_isAligned_4 rfl (lv_at hl 1 rfl) ?_
    refine lv_aload_n hx hb dX5_isAligned_5 rfl (lv_at hl 0 rfl) ?_
    obtain ⟨v0_24, v1_25, v2_26, hF_27⟩ := hO.pol hL_h0 hT_h0
    refine pg_get (ci := 5) (v := .ref w0) (C := RX5) (T := TX5) (N := 7) hx hb hts it_5 hown hK hP hL_h0 hF_27 rfl 1 (by decide) (hts _ kt_461) (fun _ h9 => h9) rfl dX5_isAligned_6 ?_
    have hFc := pg_free hD hS hA
    refine va_calli (va_runV (As := [.ref w0]) (rest := []) ⟨hx, hb, hml, hown, hts⟩ (s_X0_same_e l dC dI cs ty L s.heap.size F g1 σ r1 n1 w0 (ρ + 1) rw0 60 z y f fa 0 hW hL_g1 hT_g1 hL_w0 hT_w0 hFg hFr1 hFw0 hFr2 (by omega) (by omega) (by omega) (by omega)) ⟨callB_of 1 hts (gi kt_85) rfl rfl rfl (hts _ kt_1) (hts _ kt_468) (by decide +kernel) ⟨Nat.le_of_ble_eq_true rfl, Nat.le_of_ble_eq_true rfl⟩, (hts _ kt_87), (hts _ kt_88)⟩ ⟨fun a U g mk q => ⟨q.1, PT.calling q.2⟩, pg_recv hK hP hL_g1 hFg (q := (RX0, TX0, 3)) rfl, fun U hU hWm => ⟨rfl, PT.mk hU hWm hP hK hD hE hO⟩⟩ rfl rfl hl.1 rfl (lv_room (Nat.le_of_ble_eq_true rfl)) dX5_isAligned_9 ⟨by show _ + 0 ≤ 0; omega, by show _ + 0 ≤ 0; omega⟩) hS (fun q _ h => hFc q h) hFc (fun r_28 u t H1 locs ht hvm hw hB hz1 hk1 hS => ?_)
    obtain ⟨F_29, hB1⟩ := hB
    obtain rfl : F = F_29 := (funext (fun a => hB1.2.2.2 a List.not_mem_nil)).symm
    obtain ⟨hP, hD, hO, hR⟩ := QT.back hB1 ht hFc hR (fun q h => absurd h List.not_mem_nil)
    generalize H1 = H at hP hS ⊢
    have hw : (r_28 = 1 ∧ ((0 : Int32) = 0 ∧ z = y ∧ ∀ j9, j9 < z → f j9 = fa j9)) ∨ (r_28 = 0 ∧ ¬ ((0 : Int32) = 0 ∧ z = y ∧ ∀ j9, j9 < z → f j9 = fa j9)) := hw
    have hw_30 := hw
    refine lv_goto (tgt := 27) hx hb dX5_isAligned_12 (by decide) ?_
    refine W.widen (k := 0) (n := 0) (by omega) (by omega) ?_
    exact W.zret (v := r_28) (ty := .boolean) hx hb hr (by rcases hw_30 with q | q <;> rw [q.1] <;> decide) (fun t ht hWm => ⟨⟨r_28, (), rfl, (by rcases hw_30 with q | q; exact Or.inl ⟨q.1, Or.inl ⟨c_16, (src_eq hU hV).mp q.2.2⟩⟩; exact Or.inr ⟨q.1, fun w => w.elim (fun w => q.2 ⟨rfl, (src_eq hU hV).mpr w.2⟩) (fun w => c_16 w.1)⟩), ⟨F, QT.mk ht hP hD hO hR⟩⟩, hS.F ht⟩) hS.2.2 dX5_isAligned_27
set_option maxHeartbeats 4000000 in
set_option maxRecDepth 100000 in
theorem s_X5_readRecord_w (l : Launch) (dC : Nat → ClassId) (dI : Nat → Nat → Nat) (cs : Nat → ClassId) (ty : TyM) (L : List Nat) (sz : Nat) (F : Nat → va_E) (h0 : Nat) (ρ : Nat) (d : Nat) (δ : Nat) (ea : Nat) (w0 : Nat) (w1 : Nat) (rc : Nat) (rx : Nat) (ry0 : Nat) (ry1 : Nat) (ry2 : Nat) (g1 : Nat) (σ : Nat) (r1 : Nat) (n1 : Nat) (rr : Nat) (z : Nat) (f : Nat → Int32) (x2 : Int32) (hW : WT ty L) (hL_h0 : h0 ∈ L) (hT_h0 : ty h0 = (5, ρ, [d, δ, ea, w0, w1, rc, rx, ry0, ry1, ry2])) (hL_g1 : g1 ∈ L) (hT_g1 : ty g1 = (0, σ, [r1, n1])) (hL_rc : rc ∈ L) (hT_rc : ty rc = (9, ρ + 2, [rx, 700, ry0, ry1, ry2])) (hL_rx : rx ∈ L) (hT_rx : ty rx = (0, ρ + 3, [rr, 700])) (hFg : F g1 = .inr (0, [.ref r1, .int (nI z), .int 0])) (hFr : F r1 = .inl (cs 16, n1, .inl f)) (hzn : z ≤ n1) (hn9 : n1 ≤ 10000) (hz7 : z ≤ 700) (hsr : ρ + 80 ≤ σ) : Met l yX5_readRecord (.code yX5_readRecord cX5_readRecord 3 (some .int) :: tb) ({ frames := 8, cells := 0, slots := 0, locals := 175 }) (va_Pc [.ref h0, .ref g1, .int x2] (PTE (dC, dI) cs ty L F sz [])) (va_Qi (fun (r : Int32) (_ : Unit) => r = rrW (TC f z) z x2) (fun _ T9 => ∃ F2 : Nat → va_E, ∃ u0 : Int32, ∃ u1 : Int32, ∃ u2 : Int32, QT (dC, dI) cs ty L [ρ, ρ + 2, ρ + 3, ρ + 72, ρ + 73] F F2 (va_A (va_pl L F) sz) T9 ∧ F2 h0 = .inr (5, [.ref d, .ref w0, .ref w1, .ref rc, .int u0, .int u1, .int u2]) ∧ (∀ g9, tgT (flT (TC f z) 0 (z - 0)) (flI (TC f z) 0 (z - 0)).length = some g9 → u0 = nI (wn3 (flT (TC f z) 0 (z - 0)) g9.2 g9.1 x2) ∧ u1 = sfl (flT (TC f z) 0 (z - 0)) g9.2 g9.1 ASF ∧ u2 = sfl (flT (TC f z) 0 (z - 0)) g9.2 g9.1 ADK)) (va_A (va_pl L F) sz)) 0 0 (va_A (va_pl L F) sz) := by
  refine Met.ofW (cc := cX5_readRecord) (maxL := 3) (ret := (some .int)) (by decide) rfl ?_
  intro p e s m args below meth c s₁ B hml hv
  obtain ⟨rfl, ⟨hsz, hP, hK, hD0, hE, hO⟩, hG, hX⟩ := hv
  have hx := B.exec
  have hb := B.bytes
  have hr := B.returns
  have hts : ∀ w ∈ tb, w.before _ s = true := fun w h => atoms_spec (ws := .code yX5_readRecord cX5_readRecord 3 (some .int) :: tb) B.pre w (List.mem_cons_of_mem _ h)
  have hown : s.vm.findClass RX5 = some m.cls := findClass_of_methodNamed B.named
  have hlocks := B.notSynchronized
  subst hsz
  have hD := hD0.self (sz := s.heap.size)
  generalize hAe : va_A (va_pl L F) s.heap.size = A at hD hG hX ⊢
  have hA : ∀ q : Nat, s.heap.size ≤ q → A q := fun q h => by rw [← hAe]; exact Or.inr h
  have hS : va_S A s.heap s.heap [] := va_S.rf
  have hR : FR ty [ρ, ρ + 2, ρ + 3, ρ + 72, ρ + 73] F F := FR.refl
  have hl := lv_entry ([.ref h0, .ref g1, .int x2]) (n := 3) (Nat.le_of_ble_eq_true rfl)
  rw [lg_entry_eq]
  generalize (lg_sl ([.ref h0, .ref g1, .int x2]) ++ List.replicate (3 - (lg_sl ([.ref h0, .ref g1, .int x2])).length) Slot.unset).toArray = ls at hl ⊢
  have hl : lv_has ls 3 [(0, .ref h0), (1, .ref g1), (2, .int x2)] := hl
  obtain ⟨hi_1, ht_2, hi_3, ⟨r_4, ht_5⟩, hi_6, ⟨r_7, ht_8⟩, _, _⟩ := hW.pol hL_h0 hT_h0
  obtain ⟨v0_9, v1_10, v2_11, hF_12⟩ := hO.pol hL_h0 hT_h0
  obtain ⟨_, hi_13, hi_14, hi_15, _, ht_16, ht_17, ht_18⟩ := hW.tags hL_rc hT_rc
  have ht_17 : ty ry1 = (24, ρ + 72, [40]) := ht_17
  have ht_18 : ty ry2 = (24, ρ + 73, [40]) := ht_18
  obtain ⟨hi_19, ht_20, hq_21⟩ := hW.bytes hL_rx hT_rx
  obtain ⟨hi_22, ht_23, hq_24⟩ := hW.bytes hL_g1 hT_g1
  refine lv_aload_n hx hb dX5_readRecord_0 rfl (lv_at hl 0 rfl) ?_
  refine pg_get (ci := 5) (v := .ref rc) (C := RX5) (T := TX5) (N := 7) hx hb hts it_5 hown hK hP hL_h0 hF_12 rfl 3 (by decide) (hts _ kt_456) (fun _ h9 => h9) rfl dX5_readRecord_1 ?_
  refine lv_aload_n hx hb dX5_readRecord_4 rfl (lv_at hl 1 rfl) ?_
  refine lv_iconst (v := 0) hx hb dX5_readRecord_5 (by decide) ?_
  refine lv_aload_n hx hb dX5_readRecord_6 rfl (lv_at hl 1 rfl) ?_
  refine pg_getN (ci := 0) (v := .int (nI z)) (C := RX0) (T := TX0) (N := 3) hx hb hts it_0 hown hK hP hL_g1 hFg rfl 1 (by decide) (hE.nest kn_13) (fun _ h9 => h9) rfl dX5_readRecord_7 ?_
  refine W.eq (g2 := F0 m 10 ls [.int (nI z), .int (nI 0), .ref g1, .ref rc]) rfl ?_
  have hFc := pg_free hD hS hA
  obtain ⟨z_25, hF_26, hq_27⟩ := hO.tags hL_rc hT_rc
  refine va_calli (va_runV (As := [.ref g1, .int (nI 0), .int (nI z)]) (rest := []) ⟨hx, hb, hml, hown, hts⟩ (s_X9_read_e l dC dI cs ty L s.heap.size F rc (ρ + 2) rx 700 ry0 ry1 ry2 g1 σ r1 n1 rr z 0 z f hW hL_rc hT_rc hL_rx hT_rx hL_g1 hT_g1 hFg hFr (by omega) (by omega) (Nat.zero_le _) (Nat.le_refl _) (by omega) (by omega) (by omega) (by omega) (by omega) (by omega)) ⟨callB_of 3 hts (gi kt_330) rfl rfl rfl (hts _ kt_164) (hts _ kt_469) (by decide +kernel) ⟨Nat.le_of_ble_eq_true rfl, Nat.le_of_ble_eq_true rfl⟩, (hts _ kt_332), (hts _ kt_333)⟩ ⟨fun a U g mk q => ⟨q.1, PT.calling q.2⟩, pg_recv hK hP hL_rc hF_26 (q := (RX9, TX9, 5)) rfl, fun U hU hWm => ⟨rfl, PT.mk hU hWm hP hK hD hE hO⟩⟩ rfl rfl hl.1 rfl (lv_room (Nat.le_of_ble_eq_true rfl)) dX5_readRecord_10 ⟨by show _ + 0 ≤ 0; omega, by show _ + 0 ≤ 0; omega⟩) hS (fun q _ h => hFc q h) hFc (fun r_29 gg_28 t H1 locs ht hvm hw hB hz1 hk1 hS => ?_)
  obtain ⟨F_30, p0_31, p1_32, p2_33, fc_34, hB1, hq_35, hq_36, hq_37, hq_38, hq_39, hq_40, hq_41, hq_42, hq_43⟩ := hB
  obtain ⟨hP, hD, hO, hR⟩ := QT.back hB1 ht hFc hR (fun q h => by simp only [List.mem_cons, List.not_mem_nil, or_false] at h ⊢; omega)
  have hF_44 : F_30 g1 = .inr (0, [.ref r1, .int (nI z), .int 0]) := (hB1.2.2.2 g1 (by rw [hT_g1]; simp only [List.mem_cons, List.not_mem_nil, or_false]; omega)).trans hFg
  have hF_45 : F_30 r1 = .inl (cs 16, n1, .inl f) := (hB1.2.2.2 r1 (by rw [ht_23]; simp only [List.mem_cons, List.not_mem_nil, or_false]; omega)).trans hFr
  have hF_46 : F_30 h0 = .inr (5, [.ref d, .ref w0, .ref w1, .ref rc, .int v0_9, .int v1_10, .int v2_11]) := (hB1.2.2.2 h0 (by rw [hT_h0]; simp <;> omega)).trans hF_12
  generalize H1 = H at hP hS ⊢
  have hw : TGX (flT (TC f z) 0 (z - 0)) (flI (TC f z) 0 (z - 0)).length r_29 gg_28 := hw
  have hw_47 := hw
  obtain ⟨hti1, hti2, hti3⟩ := hq_43
  refine lv_if_ne (tgt := 19) hx hb dX5_readRecord_13 (by decide) (fun c_48 => ?_) (fun c_48 => ?_)
  ·
    refine lv_aload_n hx hb dX5_readRecord_19 rfl (lv_at hl 0 rfl) ?_
    refine lv_aload_n hx hb dX5_readRecord_20 rfl (lv_at hl 0 rfl) ?_
    obtain ⟨q_49, v_50, hr_q_49, hXc_q_49⟩ := hG.2.2.2.2 ("PostGate$Policy", 140, "p", [112]) (by decide +kernel)
    have hXc_q_49 : SXc q_49 v_50 1 (cct [112]) A s s.heap := hXc_q_49
    have hX_q_49 : SX q_49 v_50 1 A s s.heap := hXc_q_49.sx
    obtain ⟨xo_q_49, xc_q_49, xv_q_49, xt_q_49, xn_q_49⟩ := id hXc_q_49
    have hr_q_49 : vk_R "PostGate$Policy" 140 "p" q_49 s := hr_q_49
    refine va_ldcS hx hb hown hr_q_49 dX5_readRecord_21 ?_
    have hFc := pg_free hD hS hA
    refine va_calli (va_runV (As := [.ref q_49]) (rest := [.ref h0]) ⟨hx, hb, hml, hown, hts⟩ (s_X5_wantOf_e l dC dI cs ty L H.size F_30 h0 ρ d δ ea w0 w1 rc rx ry0 ry1 ry2 rr ((flI (TC f z) 0 (z - 0)).length) gg_28.1 fc_34 p0_31 p1_32 p2_33 gg_28.2 q_49 v_50 1 (cct [112]) ([112]) v0_9 v1_10 v2_11 hW hL_h0 hT_h0 hL_rc hT_rc hL_rx hT_rx hF_46 hq_35 hq_36 hq_37 hq_38 hq_39 hq_40 (hti3) (hti2) (hq_42) (hti1) (⟨rfl, by decide +kernel⟩)) ⟨callB_of 1 hts (gi kt_470) rfl rfl rfl (hts _ kt_471) (hts _ kt_472) (by decide +kernel) ⟨Nat.le_of_ble_eq_true rfl, Nat.le_of_ble_eq_true rfl⟩, (hts _ kt_473), (hts _ kt_474)⟩ ⟨fun a U g mk q => ⟨q.1, PTC.calling q.2⟩, pg_recv hK hP hL_h0 hF_46 (q := (RX5, TX5, 7)) rfl, fun U hU hWm => ⟨rfl, PTC.mk hU hWm hP hK hD hE hO hG hXc_q_49 hS hFc⟩⟩ rfl rfl hl.1 rfl (lv_room (Nat.le_of_ble_eq_true rfl)) dX5_readRecord_23 ⟨by show _ + 0 ≤ 0; omega, by show _ + 0 ≤ 0; omega⟩) hS (fun q _ h => hFc q h) hFc (fun r_51 u t H1 locs ht hvm hw hB hz1 hk1 hS => ?_)
    obtain ⟨F_52, hB1⟩ := hB
    obtain rfl : F_30 = F_52 := (funext (fun a => hB1.2.2.2 a List.not_mem_nil)).symm
    obtain ⟨hP, hD, hO, hR⟩ := QT.back hB1 ht hFc hR (fun q h => absurd h List.not_mem_nil)
    generalize H1 = H at hP hS ⊢
    have hw : r_51 = nI (wnW (TC fc_34 (flI (TC f z) 0 (z - 0)).length) gg_28.2 gg_28.1 [112]) := hw
    have hw_53 := hw
    have hw_54 : r_51 = (nI (wnW (flT (TC f z) 0 (z - 0)) gg_28.2 gg_28.1 [112])) := by have h9 := hw_53; rw [hq_41] at h9; exact h9
    subst hw_54
    refine pg_put (ci := 5) (v := .int (nI (wnW (flT (TC f z) 0 (z - 0)) gg_28.2 gg_28.1 [112]))) (ty := .int) (C := RX5) (T := TX5) (N := 7) hx hb hts it_5 tyX5 tyX5_ok nmX5 hown hK hP hD hS hL_h0 hF_46 rfl 4 (by decide) (hts _ kt_475) (fun _ h9 => h9) rfl (by decide +kernel) (rfl) (rfl) (Nat.le_of_ble_eq_true rfl) dX5_readRecord_26 (fun H locs hP hD hS => ?_)
    obtain ⟨F_55, he_56, hP, hD, hO, hR⟩ : ∃ G, G = va_up F_30 h0 (.inr (5, [.ref d, .ref w0, .ref w1, .ref rc, .int (nI (wnW (flT (TC f z) 0 (z - 0)) gg_28.2 gg_28.1 [112])), .int v1_10, .int v2_11])) ∧ va_P (dC, dI) vwCl (va_pl L G) H ∧ va_D A (va_pl L G) ∧ OK cs ty L G ∧ FR ty [ρ, ρ + 2, ρ + 3, ρ + 72, ρ + 73] F G := ⟨_, rfl, hP, hD, hO.up (sh.pol hT_h0 ⟨(nI (wnW (flT (TC f z) 0 (z - 0)) gg_28.2 gg_28.1 [112])), v1_10, v2_11, rfl⟩), hR.up hT_h0 (by simp)⟩
    have hF_57 : F_55 h0 = .inr (5, [.ref d, .ref w0, .ref w1, .ref rc, .int (nI (wnW (flT (TC f z) 0 (z - 0)) gg_28.2 gg_28.1 [112])), .int v1_10, .int v2_11]) := by rw [he_56]; exact up_self
    have hF_58 : F_55 g1 = .inr (0, [.ref r1, .int (nI z), .int 0]) := by rw [he_56, up_ne (ne_ty hT_g1 hT_h0 (by simp))]; exact hF_44
    have hF_59 : F_55 r1 = .inl (cs 16, n1, .inl f) := by rw [he_56, up_ne (ne_ty ht_23 hT_h0 (by simp))]; exact hF_45
    have hF_60 : F_55 rc = .inr (9, [.ref rx, .ref ry0, .ref ry1, .ref ry2, .int (nI gg_28.1)]) := by rw [he_56, up_ne (ne_ty hT_rc hT_h0 (by simp))]; exact hq_35
    have hF_61 : F_55 rx = .inr (0, [.ref rr, .int (nI (flI (TC f z) 0 (z - 0)).length), .int 0]) := by rw [he_56, up_ne (ne_ty hT_rx hT_h0 (by simp))]; exact hq_36
    have hF_62 : F_55 rr = .inl (cs 16, 700, .inl fc_34) := by rw [he_56, up_ne (ne_ty ht_20 hT_h0 (by simp))]; exact hq_37
    have hF_63 : F_55 ry0 = .inl (cs 16, 40, .inl p0_31) := by rw [he_56, up_ne (ne_ty ht_16 hT_h0 (by simp))]; exact hq_38
    have hF_64 : F_55 ry1 = .inl (cs 16, 40, .inl p1_32) := by rw [he_56, up_ne (ne_ty ht_17 hT_h0 (by simp))]; exact hq_39
    have hF_65 : F_55 ry2 = .inl (cs 16, 40, .inl p2_33) := by rw [he_56, up_ne (ne_ty ht_18 hT_h0 (by simp))]; exact hq_40
    refine lv_aload_n hx hb dX5_readRecord_29 rfl (lv_at hl 0 rfl) ?_
    refine pg_get (ci := 5) (v := .int (nI (wnW (flT (TC f z) 0 (z - 0)) gg_28.2 gg_28.1 [112]))) (C := RX5) (T := TX5) (N := 7) hx hb hts it_5 hown hK hP hL_h0 hF_57 rfl 4 (by decide) (hts _ kt_475) (fun _ h9 => h9) rfl dX5_readRecord_30 ?_
    refine lv_bipush (v := 6) hx hb dX5_readRecord_33 (by decide) ?_
    refine lv_icmp_eq (tgt := 64) hx hb dX5_readRecord_35 (by decide) (fun c_66 => ?_) (fun c_66 => ?_)
    ·
      refine lv_aload_n hx hb dX5_readRecord_64 rfl (lv_at hl 0 rfl) ?_
      refine lv_aload_n hx hb dX5_readRecord_65 rfl (lv_at hl 0 rfl) ?_
      refine pg_get (ci := 5) (v := .ref rc) (C := RX5) (T := TX5) (N := 7) hx hb hts it_5 hown hK hP hL_h0 hF_57 rfl 3 (by decide) (hts _ kt_456) (fun _ h9 => h9) rfl dX5_readRecord_66 ?_
      obtain ⟨q_68, v_69, hr_q_68, hXc_q_68⟩ := hG.2.2.2.2 ("PostGate$Policy", 150, "aspf", [97, 115, 112, 102]) (by decide +kernel)
      have hXc_q_68 : SXc q_68 v_69 4 (cct [97, 115, 112, 102]) A s s.heap := hXc_q_68
      have hX_q_68 : SX q_68 v_69 4 A s s.heap := hXc_q_68.sx
      obtain ⟨xo_q_68, xc_q_68, xv_q_68, xt_q_68, xn_q_68⟩ := id hXc_q_68
      have hr_q_68 : vk_R "PostGate$Policy" 150 "aspf" q_68 s := hr_q_68
      refine va_ldcS hx hb hown hr_q_68 dX5_readRecord_69 ?_
      obtain ⟨q_70, v_71, hr_q_70, hXc_q_70⟩ := hG.2.2.2.2 ("PostGate$Policy", 152, "s", [115]) (by decide +kernel)
      have hXc_q_70 : SXc q_70 v_71 1 (cct [115]) A s s.heap := hXc_q_70
      have hX_q_70 : SX q_70 v_71 1 A s s.heap := hXc_q_70.sx
      obtain ⟨xo_q_70, xc_q_70, xv_q_70, xt_q_70, xn_q_70⟩ := id hXc_q_70
      have hr_q_70 : vk_R "PostGate$Policy" 152 "s" q_70 s := hr_q_70
      refine va_ldcS hx hb hown hr_q_70 dX5_readRecord_71 ?_
      have hFc := pg_free hD hS hA
      refine va_calli (va_runV (As := [.ref q_68, .ref q_70]) (rest := [.ref h0]) ⟨hx, hb, hml, hown, hts⟩ (s_X9_is_e l dC dI cs ty L H.size F_55 rc (ρ + 2) rx 700 ry0 ry1 ry2 rr ((flI (TC f z) 0 (z - 0)).length) gg_28.1 fc_34 p0_31 p1_32 p2_33 gg_28.2 q_68 v_69 4 (cct [97, 115, 112, 102]) q_70 v_71 1 (cct [115]) ([97, 115, 112, 102]) ([115]) hW hL_rc hT_rc hL_rx hT_rx hF_60 hF_61 hF_62 hF_63 hF_64 hF_65 (hti3) (by omega) (hti2) (hq_42) (hti1) (⟨rfl, by decide +kernel⟩) (⟨rfl, by decide +kernel⟩)) ⟨callB_of 2 hts (gi kt_334) rfl rfl rfl (hts _ kt_164) (hts _ kt_457) (by decide +kernel) ⟨Nat.le_of_ble_eq_true rfl, Nat.le_of_ble_eq_true rfl⟩, (hts _ kt_336), (hts _ kt_337)⟩ ⟨fun a U g mk q => ⟨q.1, PTD.calling q.2⟩, pg_recv hK hP hL_rc hF_60 (q := (RX9, TX9, 5)) rfl, fun U hU hWm => ⟨rfl, PTD.mk hU hWm hP hK hD hE hO hG hXc_q_68 hXc_q_70 hS hFc⟩⟩ rfl rfl hl.1 rfl (lv_room (Nat.le_of_ble_eq_true rfl)) dX5_readRecord_73 ⟨by show _ + 0 ≤ 0; omega, by show _ + 0 ≤ 0; omega⟩) hS (fun q _ h => hFc q h) hFc (fun r_72 u t H1 locs ht hvm hw hB hz1 hk1 hS => ?_)
      obtain ⟨F_73, hB1⟩ := hB
      obtain rfl : F_55 = F_73 := (funext (fun a => hB1.2.2.2 a List.not_mem_nil)).symm
      obtain ⟨hP, hD, hO, hR⟩ := QT.back hB1 ht hFc hR (fun q h => absurd h List.not_mem_nil)
      generalize H1 = H at hP hS ⊢
      have hw : (r_72 = 1 ∧ TGV (TC fc_34 (flI (TC f z) 0 (z - 0)).length) gg_28.2 gg_28.1 [97, 115, 112, 102] [115]) ∨ (r_72 = 0 ∧ ¬ TGV (TC fc_34 (flI (TC f z) 0 (z - 0)).length) gg_28.2 gg_28.1 [97, 115, 112, 102] [115]) := hw
      have hw_74 := hw
      refine pg_put (ci := 5) (v := .int r_72) (ty := .boolean) (C := RX5) (T := TX5) (N := 7) hx hb hts it_5 tyX5 tyX5_ok nmX5 hown hK hP hD hS hL_h0 hF_57 rfl 5 (by decide) (hts _ kt_476) (fun _ h9 => h9) rfl (by decide +kernel) (bitN (bit2 hw_74)) (bitF (bit2 hw_74)) (Nat.le_of_ble_eq_true rfl) dX5_readRecord_76 (fun H locs hP hD hS => ?_)
      obtain ⟨F_75, he_76, hP, hD, hO, hR⟩ : ∃ G, G = va_up F_55 h0 (.inr (5, [.ref d, .ref w0, .ref w1, .ref rc, .int (nI (wnW (flT (TC f z) 0 (z - 0)) gg_28.2 gg_28.1 [112])), .int r_72, .int v2_11])) ∧ va_P (dC, dI) vwCl (va_pl L G) H ∧ va_D A (va_pl L G) ∧ OK cs ty L G ∧ FR ty [ρ, ρ + 2, ρ + 3, ρ + 72, ρ + 73] F G := ⟨_, rfl, hP, hD, hO.up (sh.pol hT_h0 ⟨(nI (wnW (flT (TC f z) 0 (z - 0)) gg_28.2 gg_28.1 [112])), r_72, v2_11, rfl⟩), hR.up hT_h0 (by simp)⟩
      have hF_77 : F_75 h0 = .inr (5, [.ref d, .ref w0, .ref w1, .ref rc, .int (nI (wnW (flT (TC f z) 0 (z - 0)) gg_28.2 gg_28.1 [112])), .int r_72, .int v2_11]) := by rw [he_76]; exact up_self
      have hF_78 : F_75 g1 = .inr (0, [.ref r1, .int (nI z), .int 0]) := by rw [he_76, up_ne (ne_ty hT_g1 hT_h0 (by simp))]; exact hF_58
      have hF_79 : F_75 r1 = .inl (cs 16, n1, .inl f) := by rw [he_76, up_ne (ne_ty ht_23 hT_h0 (by simp))]; exact hF_59
      have hF_80 : F_75 rc = .inr (9, [.ref rx, .ref ry0, .ref ry1, .ref ry2, .int (nI gg_28.1)]) := by rw [he_76, up_ne (ne_ty hT_rc hT_h0 (by simp))]; exact hF_60
      have hF_81 : F_75 rx = .inr (0, [.ref rr, .int (nI (flI (TC f z) 0 (z - 0)).length), .int 0]) := by rw [he_76, up_ne (ne_ty hT_rx hT_h0 (by simp))]; exact hF_61
      have hF_82 : F_75 rr = .inl (cs 16, 700, .inl fc_34) := by rw [he_76, up_ne (ne_ty ht_20 hT_h0 (by simp))]; exact hF_62
      have hF_83 : F_75 ry0 = .inl (cs 16, 40, .inl p0_31) := by rw [he_76, up_ne (ne_ty ht_16 hT_h0 (by simp))]; exact hF_63
      have hF_84 : F_75 ry1 = .inl (cs 16, 40, .inl p1_32) := by rw [he_76, up_ne (ne_ty ht_17 hT_h0 (by simp))]; exact hF_64
      have hF_85 : F_75 ry2 = .inl (cs 16, 40, .inl p2_33) := by rw [he_76, up_ne (ne_ty ht_18 hT_h0 (by simp))]; exact hF_65
      refine lv_aload_n hx hb dX5_readRecord_79 rfl (lv_at hl 0 rfl) ?_
      refine lv_aload_n hx hb dX5_readRecord_80 rfl (lv_at hl 0 rfl) ?_
      refine pg_get (ci := 5) (v := .ref rc) (C := RX5) (T := TX5) (N := 7) hx hb hts it_5 hown hK hP hL_h0 hF_77 rfl 3 (by decide) (hts _ kt_456) (fun _ h9 => h9) rfl dX5_readRecord_81 ?_
      obtain ⟨q_86, v_87, hr_q_86, hXc_q_86⟩ := hG.2.2.2.2 ("PostGate$Policy", 158, "adkim", [97, 100, 107, 105, 109]) (by decide +kernel)
      have hXc_q_86 : SXc q_86 v_87 5 (cct [97, 100, 107, 105, 109]) A s s.heap := hXc_q_86
      have hX_q_86 : SX q_86 v_87 5 A s s.heap := hXc_q_86.sx
      obtain ⟨xo_q_86, xc_q_86, xv_q_86, xt_q_86, xn_q_86⟩ := id hXc_q_86
      have hr_q_86 : vk_R "PostGate$Policy" 158 "adkim" q_86 s := hr_q_86
      refine va_ldcS hx hb hown hr_q_86 dX5_readRecord_84 ?_
      refine va_ldcS hx hb hown hr_q_70 dX5_readRecord_86 ?_
      have hFc := pg_free hD hS hA
      refine va_calli (va_runV (As := [.ref q_86, .ref q_70]) (rest := [.ref h0]) ⟨hx, hb, hml, hown, hts⟩ (s_X9_is_e l dC dI cs ty L H.size F_75 rc (ρ + 2) rx 700 ry0 ry1 ry2 rr ((flI (TC f z) 0 (z - 0)).length) gg_28.1 fc_34 p0_31 p1_32 p2_33 gg_28.2 q_86 v_87 5 (cct [97, 100, 107, 105, 109]) q_70 v_71 1 (cct [115]) ([97, 100, 107, 105, 109]) ([115]) hW hL_rc hT_rc hL_rx hT_rx hF_80 hF_81 hF_82 hF_83 hF_84 hF_85 (hti3) (by omega) (hti2) (hq_42) (hti1) (⟨rfl, by decide +kernel⟩) (⟨rfl, by decide +kernel⟩)) ⟨callB_of 2 hts (gi kt_334) rfl rfl rfl (hts _ kt_164) (hts _ kt_457) (by decide +kernel) ⟨Nat.le_of_ble_eq_true rfl, Nat.le_of_ble_eq_true rfl⟩, (hts _ kt_336), (hts _ kt_337)⟩ ⟨fun a U g mk q => ⟨q.1, PTD.calling q.2⟩, pg_recv hK hP hL_rc hF_80 (q := (RX9, TX9, 5)) rfl, fun U hU hWm => ⟨rfl, PTD.mk hU hWm hP hK hD hE hO hG hXc_q_86 hXc_q_70 hS hFc⟩⟩ rfl rfl hl.1 rfl (lv_room (Nat.le_of_ble_eq_true rfl)) dX5_readRecord_88 ⟨by show _ + 0 ≤ 0; omega, by show _ + 0 ≤ 0; omega⟩) hS (fun q _ h => hFc q h) hFc (fun r_88 u t H1 locs ht hvm hw hB hz1 hk1 hS => ?_)
      obtain ⟨F_89, hB1⟩ := hB
      obtain rfl : F_75 = F_89 := (funext (fun a => hB1.2.2.2 a List.not_mem_nil)).symm
      obtain ⟨hP, hD, hO, hR⟩ := QT.back hB1 ht hFc hR (fun q h => absurd h List.not_mem_nil)
      generalize H1 = H at hP hS ⊢
      have hw : (r_88 = 1 ∧ TGV (TC fc_34 (flI (TC f z) 0 (z - 0)).length) gg_28.2 gg_28.1 [97, 100, 107, 105, 109] [115]) ∨ (r_88 = 0 ∧ ¬ TGV (TC fc_34 (flI (TC f z) 0 (z - 0)).length) gg_28.2 gg_28.1 [97, 100, 107, 105, 109] [115]) := hw
      have hw_90 := hw
      refine pg_put (ci := 5) (v := .int r_88) (ty := .boolean) (C := RX5) (T := TX5) (N := 7) hx hb hts it_5 tyX5 tyX5_ok nmX5 hown hK hP hD hS hL_h0 hF_77 rfl 6 (by decide) (hts _ kt_477) (fun _ h9 => h9) rfl (by decide +kernel) (bitN (bit2 hw_90)) (bitF (bit2 hw_90)) (Nat.le_of_ble_eq_true rfl) dX5_readRecord_91 (fun H locs hP hD hS => ?_)
      obtain ⟨F_91, he_92, hP, hD, hO, hR⟩ : ∃ G, G = va_up F_75 h0 (.inr (5, [.ref d, .ref w0, .ref w1, .ref rc, .int (nI (wnW (flT (TC f z) 0 (z - 0)) gg_28.2 gg_28.1 [112])), .int r_72, .int r_88])) ∧ va_P (dC, dI) vwCl (va_pl L G) H ∧ va_D A (va_pl L G) ∧ OK cs ty L G ∧ FR ty [ρ, ρ + 2, ρ + 3, ρ + 72, ρ + 73] F G := ⟨_, rfl, hP, hD, hO.up (sh.pol hT_h0 ⟨(nI (wnW (flT (TC f z) 0 (z - 0)) gg_28.2 gg_28.1 [112])), r_72, r_88, rfl⟩), hR.up hT_h0 (by simp)⟩
      have hF_93 : F_91 h0 = .inr (5, [.ref d, .ref w0, .ref w1, .ref rc, .int (nI (wnW (flT (TC f z) 0 (z - 0)) gg_28.2 gg_28.1 [112])), .int r_72, .int r_88]) := by rw [he_92]; exact up_self
      have hF_94 : F_91 g1 = .inr (0, [.ref r1, .int (nI z), .int 0]) := by rw [he_92, up_ne (ne_ty hT_g1 hT_h0 (by simp))]; exact hF_78
      have hF_95 : F_91 r1 = .inl (cs 16, n1, .inl f) := by rw [he_92, up_ne (ne_ty ht_23 hT_h0 (by simp))]; exact hF_79
      have hF_96 : F_91 rc = .inr (9, [.ref rx, .ref ry0, .ref ry1, .ref ry2, .int (nI gg_28.1)]) := by rw [he_92, up_ne (ne_ty hT_rc hT_h0 (by simp))]; exact hF_80
      have hF_97 : F_91 rx = .inr (0, [.ref rr, .int (nI (flI (TC f z) 0 (z - 0)).length), .int 0]) := by rw [he_92, up_ne (ne_ty hT_rx hT_h0 (by simp))]; exact hF_81
      have hF_98 : F_91 rr = .inl (cs 16, 700, .inl fc_34) := by rw [he_92, up_ne (ne_ty ht_20 hT_h0 (by simp))]; exact hF_82
      have hF_99 : F_91 ry0 = .inl (cs 16, 40, .inl p0_31) := by rw [he_92, up_ne (ne_ty ht_16 hT_h0 (by simp))]; exact hF_83
      have hF_100 : F_91 ry1 = .inl (cs 16, 40, .inl p1_32) := by rw [he_92, up_ne (ne_ty ht_17 hT_h0 (by simp))]; exact hF_84
      have hF_101 : F_91 ry2 = .inl (cs 16, 40, .inl p2_33) := by rw [he_92, up_ne (ne_ty ht_18 hT_h0 (by simp))]; exact hF_85
      refine lv_aload_n hx hb dX5_readRecord_94 rfl (lv_at hl 0 rfl) ?_
      refine pg_get (ci := 5) (v := .int (nI (wnW (flT (TC f z) 0 (z - 0)) gg_28.2 gg_28.1 [112]))) (C := RX5) (T := TX5) (N := 7) hx hb hts it_5 hown hK hP hL_h0 hF_93 rfl 4 (by decide) (hts _ kt_475) (fun _ h9 => h9) rfl dX5_readRecord_95 ?_
      refine lv_bipush (v := 6) hx hb dX5_readRecord_98 (by decide) ?_
      refine lv_icmp_ne (tgt := 108) hx hb dX5_readRecord_100 (by decide) (fun c_102 => absurd (c_66) c_102) (fun c_102 => ?_)
      refine lv_bipush (v := 6) hx hb dX5_readRecord_103 (by decide) ?_
      refine lv_goto (tgt := 109) hx hb dX5_readRecord_105 (by decide) ?_
      refine W.widen (k := 0) (n := 0) (by omega) (by omega) ?_
      exact W.iret (v := 6) hx hb hr (fun t ht hWm => ⟨⟨6, (), rfl, (by unfold rrW; rw [show tgT (flT (TC f z) 0 (z - 0)) (flI (TC f z) 0 (z - 0)).length = some gg_28 from by rcases hw_47 with h9 | h9; exact h9.2; exact absurd h9.1 c_48]; show (_ : Int32) = (if (wnW (flT (TC f z) 0 (z - 0)) gg_28.2 gg_28.1 [112]) = 6 then 6 else _); rw [if_pos (show (wnW (flT (TC f z) 0 (z - 0)) gg_28.2 gg_28.1 [112]) = 6 from (nI_eq (b := 6) (by have h8 := wnW_le (T := (flT (TC f z) 0 (z - 0))) (g := gg_28.2) (n := gg_28.1) (l := [112]); omega) (by omega)).mp c_66)]), ⟨F_91, (nI (wnW (flT (TC f z) 0 (z - 0)) gg_28.2 gg_28.1 [112])), r_72, r_88, QT.mk ht hP hD hO hR, hF_93, (fun g9 q => by obtain rfl := Option.some.inj ((show tgT (flT (TC f z) 0 (z - 0)) (flI (TC f z) 0 (z - 0)).length = some gg_28 from by rcases hw_47 with h9 | h9; exact h9.2; exact absurd h9.1 c_48).symm.trans q); exact ⟨congrArg nI ((if_neg (show ¬ (¬ (wnW (flT (TC f z) 0 (z - 0)) gg_28.2 gg_28.1 [112]) = 6 ∧ x2 = 0 ∧ (TGE (flT (TC f z) 0 (z - 0)) gg_28.2 gg_28.1 [115, 112])) from fun q => q.1 (show (wnW (flT (TC f z) 0 (z - 0)) gg_28.2 gg_28.1 [112]) = 6 from (nI_eq (b := 6) (by have h8 := wnW_le (T := (flT (TC f z) 0 (z - 0))) (g := gg_28.2) (n := gg_28.1) (l := [112]); omega) (by omega)).mp c_66))).symm), (sfl_r (by have h9 := hw_74; rw [hq_41] at h9; exact h9)), (sfl_r (by have h9 := hw_90; rw [hq_41] at h9; exact h9))⟩)⟩⟩, hS.F ht⟩) hS.2.2 dX5_readRecord_109
    ·
      refine lv_iload_n hx hb dX5_readRecord_38 rfl (lv_at hl 2 rfl) ?_
      refine lv_if_ne (tgt := 64) hx hb dX5_readRecord_39 (by decide) (fun c_104 => ?_) (fun c_104 => ?_)
      ·
        refine lv_aload_n hx hb dX5_readRecord_64 rfl (lv_at hl 0 rfl) ?_
        refine lv_aload_n hx hb dX5_readRecord_65 rfl (lv_at hl 0 rfl) ?_
        refine pg_get (ci := 5) (v := .ref rc) (C := RX5) (T := TX5) (N := 7) hx hb hts it_5 hown hK hP hL_h0 hF_57 rfl 3 (by decide) (hts _ kt_456) (fun _ h9 => h9) rfl dX5_readRecord_66 ?_
        obtain ⟨q_105, v_106, hr_q_105, hXc_q_105⟩ := hG.2.2.2.2 ("PostGate$Policy", 150, "aspf", [97, 115, 112, 102]) (by decide +kernel)
        have hXc_q_105 : SXc q_105 v_106 4 (cct [97, 115, 112, 102]) A s s.heap := hXc_q_105
        have hX_q_105 : SX q_105 v_106 4 A s s.heap := hXc_q_105.sx
        obtain ⟨xo_q_105, xc_q_105, xv_q_105, xt_q_105, xn_q_105⟩ := id hXc_q_105
        have hr_q_105 : vk_R "PostGate$Policy" 150 "aspf" q_105 s := hr_q_105
        refine va_ldcS hx hb hown hr_q_105 dX5_readRecord_69 ?_
        obtain ⟨q_107, v_108, hr_q_107, hXc_q_107⟩ := hG.2.2.2.2 ("PostGate$Policy", 152, "s", [115]) (by decide +kernel)
        have hXc_q_107 : SXc q_107 v_108 1 (cct [115]) A s s.heap := hXc_q_107
        have hX_q_107 : SX q_107 v_108 1 A s s.heap := hXc_q_107.sx
        obtain ⟨xo_q_107, xc_q_107, xv_q_107, xt_q_107, xn_q_107⟩ := id hXc_q_107
        have hr_q_107 : vk_R "PostGate$Policy" 152 "s" q_107 s := hr_q_107
        refine va_ldcS hx hb hown hr_q_107 dX5_readRecord_71 ?_
        have hFc := pg_free hD hS hA
        refine va_calli (va_runV (As := [.ref q_105, .ref q_107]) (rest := [.ref h0]) ⟨hx, hb, hml, hown, hts⟩ (s_X9_is_e l dC dI cs ty L H.size F_55 rc (ρ + 2) rx 700 ry0 ry1 ry2 rr ((flI (TC f z) 0 (z - 0)).length) gg_28.1 fc_34 p0_31 p1_32 p2_33 gg_28.2 q_105 v_106 4 (cct [97, 115, 112, 102]) q_107 v_108 1 (cct [115]) ([97, 115, 112, 102]) ([115]) hW hL_rc hT_rc hL_rx hT_rx hF_60 hF_61 hF_62 hF_63 hF_64 hF_65 (hti3) (by omega) (hti2) (hq_42) (hti1) (⟨rfl, by decide +kernel⟩) (⟨rfl, by decide +kernel⟩)) ⟨callB_of 2 hts (gi kt_334) rfl rfl rfl (hts _ kt_164) (hts _ kt_457) (by decide +kernel) ⟨Nat.le_of_ble_eq_true rfl, Nat.le_of_ble_eq_true rfl⟩, (hts _ kt_336), (hts _ kt_337)⟩ ⟨fun a U g mk q => ⟨q.1, PTD.calling q.2⟩, pg_recv hK hP hL_rc hF_60 (q := (RX9, TX9, 5)) rfl, fun U hU hWm => ⟨rfl, PTD.mk hU hWm hP hK hD hE hO hG hXc_q_105 hXc_q_107 hS hFc⟩⟩ rfl rfl hl.1 rfl (lv_room (Nat.le_of_ble_eq_true rfl)) dX5_readRecord_73 ⟨by show _ + 0 ≤ 0; omega, by show _ + 0 ≤ 0; omega⟩) hS (fun q _ h => hFc q h) hFc (fun r_109 u t H1 locs ht hvm hw hB hz1 hk1 hS => ?_)
        obtain ⟨F_110, hB1⟩ := hB
        obtain rfl : F_55 = F_110 := (funext (fun a => hB1.2.2.2 a List.not_mem_nil)).symm
        obtain ⟨hP, hD, hO, hR⟩ := QT.back hB1 ht hFc hR (fun q h => absurd h List.not_mem_nil)
        generalize H1 = H at hP hS ⊢
        have hw : (r_109 = 1 ∧ TGV (TC fc_34 (flI (TC f z) 0 (z - 0)).length) gg_28.2 gg_28.1 [97, 115, 112, 102] [115]) ∨ (r_109 = 0 ∧ ¬ TGV (TC fc_34 (flI (TC f z) 0 (z - 0)).length) gg_28.2 gg_28.1 [97, 115, 112, 102] [115]) := hw
        have hw_111 := hw
        refine pg_put (ci := 5) (v := .int r_109) (ty := .boolean) (C := RX5) (T := TX5) (N := 7) hx hb hts it_5 tyX5 tyX5_ok nmX5 hown hK hP hD hS hL_h0 hF_57 rfl 5 (by decide) (hts _ kt_476) (fun _ h9 => h9) rfl (by decide +kernel) (bitN (bit2 hw_111)) (bitF (bit2 hw_111)) (Nat.le_of_ble_eq_true rfl) dX5_readRecord_76 (fun H locs hP hD hS => ?_)
        obtain ⟨F_112, he_113, hP, hD, hO, hR⟩ : ∃ G, G = va_up F_55 h0 (.inr (5, [.ref d, .ref w0, .ref w1, .ref rc, .int (nI (wnW (flT (TC f z) 0 (z - 0)) gg_28.2 gg_28.1 [112])), .int r_109, .int v2_11])) ∧ va_P (dC, dI) vwCl (va_pl L G) H ∧ va_D A (va_pl L G) ∧ OK cs ty L G ∧ FR ty [ρ, ρ + 2, ρ + 3, ρ + 72, ρ + 73] F G := ⟨_, rfl, hP, hD, hO.up (sh.pol hT_h0 ⟨(nI (wnW (flT (TC f z) 0 (z - 0)) gg_28.2 gg_28.1 [112])), r_109, v2_11, rfl⟩), hR.up hT_h0 (by simp)⟩
        have hF_114 : F_112 h0 = .inr (5, [.ref d, .ref w0, .ref w1, .ref rc, .int (nI (wnW (flT (TC f z) 0 (z - 0)) gg_28.2 gg_28.1 [112])), .int r_109, .int v2_11]) := by rw [he_113]; exact up_self
        have hF_115 : F_112 g1 = .inr (0, [.ref r1, .int (nI z), .int 0]) := by rw [he_113, up_ne (ne_ty hT_g1 hT_h0 (by simp))]; exact hF_58
        have hF_116 : F_112 r1 = .inl (cs 16, n1, .inl f) := by rw [he_113, up_ne (ne_ty ht_23 hT_h0 (by simp))]; exact hF_59
        have hF_117 : F_112 rc = .inr (9, [.ref rx, .ref ry0, .ref ry1, .ref ry2, .int (nI gg_28.1)]) := by rw [he_113, up_ne (ne_ty hT_rc hT_h0 (by simp))]; exact hF_60
        have hF_118 : F_112 rx = .inr (0, [.ref rr, .int (nI (flI (TC f z) 0 (z - 0)).length), .int 0]) := by rw [he_113, up_ne (ne_ty hT_rx hT_h0 (by simp))]; exact hF_61
        have hF_119 : F_112 rr = .inl (cs 16, 700, .inl fc_34) := by rw [he_113, up_ne (ne_ty ht_20 hT_h0 (by simp))]; exact hF_62
        have hF_120 : F_112 ry0 = .inl (cs 16, 40, .inl p0_31) := by rw [he_113, up_ne (ne_ty ht_16 hT_h0 (by simp))]; exact hF_63
        have hF_121 : F_112 ry1 = .inl (cs 16, 40, .inl p1_32) := by rw [he_113, up_ne (ne_ty ht_17 hT_h0 (by simp))]; exact hF_64
        have hF_122 : F_112 ry2 = .inl (cs 16, 40, .inl p2_33) := by rw [he_113, up_ne (ne_ty ht_18 hT_h0 (by simp))]; exact hF_65
        refine lv_aload_n hx hb dX5_readRecord_79 rfl (lv_at hl 0 rfl) ?_
        refine lv_aload_n hx hb dX5_readRecord_80 rfl (lv_at hl 0 rfl) ?_
        refine pg_get (ci := 5) (v := .ref rc) (C := RX5) (T := TX5) (N := 7) hx hb hts it_5 hown hK hP hL_h0 hF_114 rfl 3 (by decide) (hts _ kt_456) (fun _ h9 => h9) rfl dX5_readRecord_81 ?_
        obtain ⟨q_123, v_124, hr_q_123, hXc_q_123⟩ := hG.2.2.2.2 ("PostGate$Policy", 158, "adkim", [97, 100, 107, 105, 109]) (by decide +kernel)
        have hXc_q_123 : SXc q_123 v_124 5 (cct [97, 100, 107, 105, 109]) A s s.heap := hXc_q_123
        have hX_q_123 : SX q_123 v_124 5 A s s.heap := hXc_q_123.sx
        obtain ⟨xo_q_123, xc_q_123, xv_q_123, xt_q_123, xn_q_123⟩ := id hXc_q_123
        have hr_q_123 : vk_R "PostGate$Policy" 158 "adkim" q_123 s := hr_q_123
        refine va_ldcS hx hb hown hr_q_123 dX5_readRecord_84 ?_
        refine va_ldcS hx hb hown hr_q_107 dX5_readRecord_86 ?_
        have hFc := pg_free hD hS hA
        refine va_calli (va_runV (As := [.ref q_123, .ref q_107]) (rest := [.ref h0]) ⟨hx, hb, hml, hown, hts⟩ (s_X9_is_e l dC dI cs ty L H.size F_112 rc (ρ + 2) rx 700 ry0 ry1 ry2 rr ((flI (TC f z) 0 (z - 0)).length) gg_28.1 fc_34 p0_31 p1_32 p2_33 gg_28.2 q_123 v_124 5 (cct [97, 100, 107, 105, 109]) q_107 v_108 1 (cct [115]) ([97, 100, 107, 105, 109]) ([115]) hW hL_rc hT_rc hL_rx hT_rx hF_117 hF_118 hF_119 hF_120 hF_121 hF_122 (hti3) (by omega) (hti2) (hq_42) (hti1) (⟨rfl, by decide +kernel⟩) (⟨rfl, by decide +kernel⟩)) ⟨callB_of 2 hts (gi kt_334) rfl rfl rfl (hts _ kt_164) (hts _ kt_457) (by decide +kernel) ⟨Nat.le_of_ble_eq_true rfl, Nat.le_of_ble_eq_true rfl⟩, (hts _ kt_336), (hts _ kt_337)⟩ ⟨fun a U g mk q => ⟨q.1, PTD.calling q.2⟩, pg_recv hK hP hL_rc hF_117 (q := (RX9, TX9, 5)) rfl, fun U hU hWm => ⟨rfl, PTD.mk hU hWm hP hK hD hE hO hG hXc_q_123 hXc_q_107 hS hFc⟩⟩ rfl rfl hl.1 rfl (lv_room (Nat.le_of_ble_eq_true rfl)) dX5_readRecord_88 ⟨by show _ + 0 ≤ 0; omega, by show _ + 0 ≤ 0; omega⟩) hS (fun q _ h => hFc q h) hFc (fun r_125 u t H1 locs ht hvm hw hB hz1 hk1 hS => ?_)
        obtain ⟨F_126, hB1⟩ := hB
        obtain rfl : F_112 = F_126 := (funext (fun a => hB1.2.2.2 a List.not_mem_nil)).symm
        obtain ⟨hP, hD, hO, hR⟩ := QT.back hB1 ht hFc hR (fun q h => absurd h List.not_mem_nil)
        generalize H1 = H at hP hS ⊢
        have hw : (r_125 = 1 ∧ TGV (TC fc_34 (flI (TC f z) 0 (z - 0)).length) gg_28.2 gg_28.1 [97, 100, 107, 105, 109] [115]) ∨ (r_125 = 0 ∧ ¬ TGV (TC fc_34 (flI (TC f z) 0 (z - 0)).length) gg_28.2 gg_28.1 [97, 100, 107, 105, 109] [115]) := hw
        have hw_127 := hw
        refine pg_put (ci := 5) (v := .int r_125) (ty := .boolean) (C := RX5) (T := TX5) (N := 7) hx hb hts it_5 tyX5 tyX5_ok nmX5 hown hK hP hD hS hL_h0 hF_114 rfl 6 (by decide) (hts _ kt_477) (fun _ h9 => h9) rfl (by decide +kernel) (bitN (bit2 hw_127)) (bitF (bit2 hw_127)) (Nat.le_of_ble_eq_true rfl) dX5_readRecord_91 (fun H locs hP hD hS => ?_)
        obtain ⟨F_128, he_129, hP, hD, hO, hR⟩ : ∃ G, G = va_up F_112 h0 (.inr (5, [.ref d, .ref w0, .ref w1, .ref rc, .int (nI (wnW (flT (TC f z) 0 (z - 0)) gg_28.2 gg_28.1 [112])), .int r_109, .int r_125])) ∧ va_P (dC, dI) vwCl (va_pl L G) H ∧ va_D A (va_pl L G) ∧ OK cs ty L G ∧ FR ty [ρ, ρ + 2, ρ + 3, ρ + 72, ρ + 73] F G := ⟨_, rfl, hP, hD, hO.up (sh.pol hT_h0 ⟨(nI (wnW (flT (TC f z) 0 (z - 0)) gg_28.2 gg_28.1 [112])), r_109, r_125, rfl⟩), hR.up hT_h0 (by simp)⟩
        have hF_130 : F_128 h0 = .inr (5, [.ref d, .ref w0, .ref w1, .ref rc, .int (nI (wnW (flT (TC f z) 0 (z - 0)) gg_28.2 gg_28.1 [112])), .int r_109, .int r_125]) := by rw [he_129]; exact up_self
        have hF_131 : F_128 g1 = .inr (0, [.ref r1, .int (nI z), .int 0]) := by rw [he_129, up_ne (ne_ty hT_g1 hT_h0 (by simp))]; exact hF_115
        have hF_132 : F_128 r1 = .inl (cs 16, n1, .inl f) := by rw [he_129, up_ne (ne_ty ht_23 hT_h0 (by simp))]; exact hF_116
        have hF_133 : F_128 rc = .inr (9, [.ref rx, .ref ry0, .ref ry1, .ref ry2, .int (nI gg_28.1)]) := by rw [he_129, up_ne (ne_ty hT_rc hT_h0 (by simp))]; exact hF_117
        have hF_134 : F_128 rx = .inr (0, [.ref rr, .int (nI (flI (TC f z) 0 (z - 0)).length), .int 0]) := by rw [he_129, up_ne (ne_ty hT_rx hT_h0 (by simp))]; exact hF_118
        have hF_135 : F_128 rr = .inl (cs 16, 700, .inl fc_34) := by rw [he_129, up_ne (ne_ty ht_20 hT_h0 (by simp))]; exact hF_119
        have hF_136 : F_128 ry0 = .inl (cs 16, 40, .inl p0_31) := by rw [he_129, up_ne (ne_ty ht_16 hT_h0 (by simp))]; exact hF_120
        have hF_137 : F_128 ry1 = .inl (cs 16, 40, .inl p1_32) := by rw [he_129, up_ne (ne_ty ht_17 hT_h0 (by simp))]; exact hF_121
        have hF_138 : F_128 ry2 = .inl (cs 16, 40, .inl p2_33) := by rw [he_129, up_ne (ne_ty ht_18 hT_h0 (by simp))]; exact hF_122
        refine lv_aload_n hx hb dX5_readRecord_94 rfl (lv_at hl 0 rfl) ?_
        refine pg_get (ci := 5) (v := .int (nI (wnW (flT (TC f z) 0 (z - 0)) gg_28.2 gg_28.1 [112]))) (C := RX5) (T := TX5) (N := 7) hx hb hts it_5 hown hK hP hL_h0 hF_130 rfl 4 (by decide) (hts _ kt_475) (fun _ h9 => h9) rfl dX5_readRecord_95 ?_
        refine lv_bipush (v := 6) hx hb dX5_readRecord_98 (by decide) ?_
        refine lv_icmp_ne (tgt := 108) hx hb dX5_readRecord_100 (by decide) (fun c_139 => ?_) (fun c_139 => absurd c_139 (c_66))
        refine lv_iconst (v := (-1)) hx hb dX5_readRecord_108 (by decide) ?_
        refine W.widen (k := 0) (n := 0) (by omega) (by omega) ?_
        exact W.iret (v := (-1)) hx hb hr (fun t ht hWm => ⟨⟨(-1), (), rfl, (by unfold rrW; rw [show tgT (flT (TC f z) 0 (z - 0)) (flI (TC f z) 0 (z - 0)).length = some gg_28 from by rcases hw_47 with h9 | h9; exact h9.2; exact absurd h9.1 c_48]; show (_ : Int32) = (if (wnW (flT (TC f z) 0 (z - 0)) gg_28.2 gg_28.1 [112]) = 6 then 6 else _); rw [if_neg (show ¬ (wnW (flT (TC f z) 0 (z - 0)) gg_28.2 gg_28.1 [112]) = 6 from fun q => c_66 (by rw [q]; rfl)), if_neg (show ¬ (x2 = 0 ∧ (TGE (flT (TC f z) 0 (z - 0)) gg_28.2 gg_28.1 [115, 112])) from fun q => c_104 q.1)]), ⟨F_128, (nI (wnW (flT (TC f z) 0 (z - 0)) gg_28.2 gg_28.1 [112])), r_109, r_125, QT.mk ht hP hD hO hR, hF_130, (fun g9 q => by obtain rfl := Option.some.inj ((show tgT (flT (TC f z) 0 (z - 0)) (flI (TC f z) 0 (z - 0)).length = some gg_28 from by rcases hw_47 with h9 | h9; exact h9.2; exact absurd h9.1 c_48).symm.trans q); exact ⟨congrArg nI ((if_neg (show ¬ (¬ (wnW (flT (TC f z) 0 (z - 0)) gg_28.2 gg_28.1 [112]) = 6 ∧ x2 = 0 ∧ (TGE (flT (TC f z) 0 (z - 0)) gg_28.2 gg_28.1 [115, 112])) from fun q => c_104 q.2.1)).symm), (sfl_r (by have h9 := hw_111; rw [hq_41] at h9; exact h9)), (sfl_r (by have h9 := hw_127; rw [hq_41] at h9; exact h9))⟩)⟩⟩, hS.F ht⟩) hS.2.2 dX5_readRecord_109
      ·
        refine lv_aload_n hx hb dX5_readRecord_42 rfl (lv_at hl 0 rfl) ?_
        refine pg_get (ci := 5) (v := .ref rc) (C := RX5) (T := TX5) (N := 7) hx hb hts it_5 hown hK hP hL_h0 hF_57 rfl 3 (by decide) (hts _ kt_456) (fun _ h9 => h9) rfl dX5_readRecord_43 ?_
        obtain ⟨q_140, v_141, hr_q_140, hXc_q_140⟩ := hG.2.2.2.2 ("PostGate$Policy", 145, "sp", [115, 112]) (by decide +kernel)
        have hXc_q_140 : SXc q_140 v_141 2 (cct [115, 112]) A s s.heap := hXc_q_140
        have hX_q_140 : SX q_140 v_141 2 A s s.heap := hXc_q_140.sx
        obtain ⟨xo_q_140, xc_q_140, xv_q_140, xt_q_140, xn_q_140⟩ := id hXc_q_140
        have hr_q_140 : vk_R "PostGate$Policy" 145 "sp" q_140 s := hr_q_140
        refine va_ldcS hx hb hown hr_q_140 dX5_readRecord_46 ?_
        have hFc := pg_free hD hS hA
        refine va_calli (va_runV (As := [.ref q_140]) (rest := []) ⟨hx, hb, hml, hown, hts⟩ (s_X9_has_e l dC dI cs ty L H.size F_55 rc (ρ + 2) rx 700 ry0 ry1 ry2 rr ((flI (TC f z) 0 (z - 0)).length) gg_28.1 fc_34 p0_31 p1_32 p2_33 gg_28.2 q_140 v_141 2 (cct [115, 112]) ([115, 112]) hW hL_rc hT_rc hL_rx hT_rx hF_60 hF_61 hF_62 hF_63 hF_64 hF_65 (hti3) (by omega) (hti2) (hq_42) (hti1) (⟨rfl, by decide +kernel⟩)) ⟨callB_of 1 hts (gi kt_308) rfl rfl rfl (hts _ kt_164) (hts _ kt_478) (by decide +kernel) ⟨Nat.le_of_ble_eq_true rfl, Nat.le_of_ble_eq_true rfl⟩, (hts _ kt_310), (hts _ kt_311)⟩ ⟨fun a U g mk q => ⟨q.1, PTC.calling q.2⟩, pg_recv hK hP hL_rc hF_60 (q := (RX9, TX9, 5)) rfl, fun U hU hWm => ⟨rfl, PTC.mk hU hWm hP hK hD hE hO hG hXc_q_140 hS hFc⟩⟩ rfl rfl hl.1 rfl (lv_room (Nat.le_of_ble_eq_true rfl)) dX5_readRecord_48 ⟨by show _ + 0 ≤ 0; omega, by show _ + 0 ≤ 0; omega⟩) hS (fun q _ h => hFc q h) hFc (fun r_142 u t H1 locs ht hvm hw hB hz1 hk1 hS => ?_)
        obtain ⟨F_143, hB1⟩ := hB
        obtain rfl : F_55 = F_143 := (funext (fun a => hB1.2.2.2 a List.not_mem_nil)).symm
        obtain ⟨hP, hD, hO, hR⟩ := QT.back hB1 ht hFc hR (fun q h => absurd h List.not_mem_nil)
        generalize H1 = H at hP hS ⊢
        have hw : (r_142 = 1 ∧ TGE (TC fc_34 (flI (TC f z) 0 (z - 0)).length) gg_28.2 gg_28.1 [115, 112]) ∨ (r_142 = 0 ∧ ¬ TGE (TC fc_34 (flI (TC f z) 0 (z - 0)).length) gg_28.2 gg_28.1 [115, 112]) := hw
        have hw_144 := hw
        refine lv_if_eq (tgt := 64) hx hb dX5_readRecord_51 (by decide) (fun c_145 => ?_) (fun c_145 => ?_)
        ·
          refine lv_aload_n hx hb dX5_readRecord_64 rfl (lv_at hl 0 rfl) ?_
          refine lv_aload_n hx hb dX5_readRecord_65 rfl (lv_at hl 0 rfl) ?_
          refine pg_get (ci := 5) (v := .ref rc) (C := RX5) (T := TX5) (N := 7) hx hb hts it_5 hown hK hP hL_h0 hF_57 rfl 3 (by decide) (hts _ kt_456) (fun _ h9 => h9) rfl dX5_readRecord_66 ?_
          obtain ⟨q_146, v_147, hr_q_146, hXc_q_146⟩ := hG.2.2.2.2 ("PostGate$Policy", 150, "aspf", [97, 115, 112, 102]) (by decide +kernel)
          have hXc_q_146 : SXc q_146 v_147 4 (cct [97, 115, 112, 102]) A s s.heap := hXc_q_146
          have hX_q_146 : SX q_146 v_147 4 A s s.heap := hXc_q_146.sx
          obtain ⟨xo_q_146, xc_q_146, xv_q_146, xt_q_146, xn_q_146⟩ := id hXc_q_146
          have hr_q_146 : vk_R "PostGate$Policy" 150 "aspf" q_146 s := hr_q_146
          refine va_ldcS hx hb hown hr_q_146 dX5_readRecord_69 ?_
          obtain ⟨q_148, v_149, hr_q_148, hXc_q_148⟩ := hG.2.2.2.2 ("PostGate$Policy", 152, "s", [115]) (by decide +kernel)
          have hXc_q_148 : SXc q_148 v_149 1 (cct [115]) A s s.heap := hXc_q_148
          have hX_q_148 : SX q_148 v_149 1 A s s.heap := hXc_q_148.sx
          obtain ⟨xo_q_148, xc_q_148, xv_q_148, xt_q_148, xn_q_148⟩ := id hXc_q_148
          have hr_q_148 : vk_R "PostGate$Policy" 152 "s" q_148 s := hr_q_148
          refine va_ldcS hx hb hown hr_q_148 dX5_readRecord_71 ?_
          have hFc := pg_free hD hS hA
          refine va_calli (va_runV (As := [.ref q_146, .ref q_148]) (rest := [.ref h0]) ⟨hx, hb, hml, hown, hts⟩ (s_X9_is_e l dC dI cs ty L H.size F_55 rc (ρ + 2) rx 700 ry0 ry1 ry2 rr ((flI (TC f z) 0 (z - 0)).length) gg_28.1 fc_34 p0_31 p1_32 p2_33 gg_28.2 q_146 v_147 4 (cct [97, 115, 112, 102]) q_148 v_149 1 (cct [115]) ([97, 115, 112, 102]) ([115]) hW hL_rc hT_rc hL_rx hT_rx hF_60 hF_61 hF_62 hF_63 hF_64 hF_65 (hti3) (by omega) (hti2) (hq_42) (hti1) (⟨rfl, by decide +kernel⟩) (⟨rfl, by decide +kernel⟩)) ⟨callB_of 2 hts (gi kt_334) rfl rfl rfl (hts _ kt_164) (hts _ kt_457) (by decide +kernel) ⟨Nat.le_of_ble_eq_true rfl, Nat.le_of_ble_eq_true rfl⟩, (hts _ kt_336), (hts _ kt_337)⟩ ⟨fun a U g mk q => ⟨q.1, PTD.calling q.2⟩, pg_recv hK hP hL_rc hF_60 (q := (RX9, TX9, 5)) rfl, fun U hU hWm => ⟨rfl, PTD.mk hU hWm hP hK hD hE hO hG hXc_q_146 hXc_q_148 hS hFc⟩⟩ rfl rfl hl.1 rfl (lv_room (Nat.le_of_ble_eq_true rfl)) dX5_readRecord_73 ⟨by show _ + 0 ≤ 0; omega, by show _ + 0 ≤ 0; omega⟩) hS (fun q _ h => hFc q h) hFc (fun r_150 u t H1 locs ht hvm hw hB hz1 hk1 hS => ?_)
          obtain ⟨F_151, hB1⟩ := hB
          obtain rfl : F_55 = F_151 := (funext (fun a => hB1.2.2.2 a List.not_mem_nil)).symm
          obtain ⟨hP, hD, hO, hR⟩ := QT.back hB1 ht hFc hR (fun q h => absurd h List.not_mem_nil)
          generalize H1 = H at hP hS ⊢
          have hw : (r_150 = 1 ∧ TGV (TC fc_34 (flI (TC f z) 0 (z - 0)).length) gg_28.2 gg_28.1 [97, 115, 112, 102] [115]) ∨ (r_150 = 0 ∧ ¬ TGV (TC fc_34 (flI (TC f z) 0 (z - 0)).length) gg_28.2 gg_28.1 [97, 115, 112, 102] [115]) := hw
          have hw_152 := hw
          refine pg_put (ci := 5) (v := .int r_150) (ty := .boolean) (C := RX5) (T := TX5) (N := 7) hx hb hts it_5 tyX5 tyX5_ok nmX5 hown hK hP hD hS hL_h0 hF_57 rfl 5 (by decide) (hts _ kt_476) (fun _ h9 => h9) rfl (by decide +kernel) (bitN (bit2 hw_152)) (bitF (bit2 hw_152)) (Nat.le_of_ble_eq_true rfl) dX5_readRecord_76 (fun H locs hP hD hS => ?_)
          obtain ⟨F_153, he_154, hP, hD, hO, hR⟩ : ∃ G, G = va_up F_55 h0 (.inr (5, [.ref d, .ref w0, .ref w1, .ref rc, .int (nI (wnW (flT (TC f z) 0 (z - 0)) gg_28.2 gg_28.1 [112])), .int r_150, .int v2_11])) ∧ va_P (dC, dI) vwCl (va_pl L G) H ∧ va_D A (va_pl L G) ∧ OK cs ty L G ∧ FR ty [ρ, ρ + 2, ρ + 3, ρ + 72, ρ + 73] F G := ⟨_, rfl, hP, hD, hO.up (sh.pol hT_h0 ⟨(nI (wnW (flT (TC f z) 0 (z - 0)) gg_28.2 gg_28.1 [112])), r_150, v2_11, rfl⟩), hR.up hT_h0 (by simp)⟩
          have hF_155 : F_153 h0 = .inr (5, [.ref d, .ref w0, .ref w1, .ref rc, .int (nI (wnW (flT (TC f z) 0 (z - 0)) gg_28.2 gg_28.1 [112])), .int r_150, .int v2_11]) := by rw [he_154]; exact up_self
          have hF_156 : F_153 g1 = .inr (0, [.ref r1, .int (nI z), .int 0]) := by rw [he_154, up_ne (ne_ty hT_g1 hT_h0 (by simp))]; exact hF_58
          have hF_157 : F_153 r1 = .inl (cs 16, n1, .inl f) := by rw [he_154, up_ne (ne_ty ht_23 hT_h0 (by simp))]; exact hF_59
          have hF_158 : F_153 rc = .inr (9, [.ref rx, .ref ry0, .ref ry1, .ref ry2, .int (nI gg_28.1)]) := by rw [he_154, up_ne (ne_ty hT_rc hT_h0 (by simp))]; exact hF_60
          have hF_159 : F_153 rx = .inr (0, [.ref rr, .int (nI (flI (TC f z) 0 (z - 0)).length), .int 0]) := by rw [he_154, up_ne (ne_ty hT_rx hT_h0 (by simp))]; exact hF_61
          have hF_160 : F_153 rr = .inl (cs 16, 700, .inl fc_34) := by rw [he_154, up_ne (ne_ty ht_20 hT_h0 (by simp))]; exact hF_62
          have hF_161 : F_153 ry0 = .inl (cs 16, 40, .inl p0_31) := by rw [he_154, up_ne (ne_ty ht_16 hT_h0 (by simp))]; exact hF_63
          have hF_162 : F_153 ry1 = .inl (cs 16, 40, .inl p1_32) := by rw [he_154, up_ne (ne_ty ht_17 hT_h0 (by simp))]; exact hF_64
          have hF_163 : F_153 ry2 = .inl (cs 16, 40, .inl p2_33) := by rw [he_154, up_ne (ne_ty ht_18 hT_h0 (by simp))]; exact hF_65
          refine lv_aload_n hx hb dX5_readRecord_79 rfl (lv_at hl 0 rfl) ?_
          refine lv_aload_n hx hb dX5_readRecord_80 rfl (lv_at hl 0 rfl) ?_
          refine pg_get (ci := 5) (v := .ref rc) (C := RX5) (T := TX5) (N := 7) hx hb hts it_5 hown hK hP hL_h0 hF_155 rfl 3 (by decide) (hts _ kt_456) (fun _ h9 => h9) rfl dX5_readRecord_81 ?_
          obtain ⟨q_164, v_165, hr_q_164, hXc_q_164⟩ := hG.2.2.2.2 ("PostGate$Policy", 158, "adkim", [97, 100, 107, 105, 109]) (by decide +kernel)
          have hXc_q_164 : SXc q_164 v_165 5 (cct [97, 100, 107, 105, 109]) A s s.heap := hXc_q_164
          have hX_q_164 : SX q_164 v_165 5 A s s.heap := hXc_q_164.sx
          obtain ⟨xo_q_164, xc_q_164, xv_q_164, xt_q_164, xn_q_164⟩ := id hXc_q_164
          have hr_q_164 : vk_R "PostGate$Policy" 158 "adkim" q_164 s := hr_q_164
          refine va_ldcS hx hb hown hr_q_164 dX5_readRecord_84 ?_
          refine va_ldcS hx hb hown hr_q_148 dX5_readRecord_86 ?_
          have hFc := pg_free hD hS hA
          refine va_calli (va_runV (As := [.ref q_164, .ref q_148]) (rest := [.ref h0]) ⟨hx, hb, hml, hown, hts⟩ (s_X9_is_e l dC dI cs ty L H.size F_153 rc (ρ + 2) rx 700 ry0 ry1 ry2 rr ((flI (TC f z) 0 (z - 0)).length) gg_28.1 fc_34 p0_31 p1_32 p2_33 gg_28.2 q_164 v_165 5 (cct [97, 100, 107, 105, 109]) q_148 v_149 1 (cct [115]) ([97, 100, 107, 105, 109]) ([115]) hW hL_rc hT_rc hL_rx hT_rx hF_158 hF_159 hF_160 hF_161 hF_162 hF_163 (hti3) (by omega) (hti2) (hq_42) (hti1) (⟨rfl, by decide +kernel⟩) (⟨rfl, by decide +kernel⟩)) ⟨callB_of 2 hts (gi kt_334) rfl rfl rfl (hts _ kt_164) (hts _ kt_457) (by decide +kernel) ⟨Nat.le_of_ble_eq_true rfl, Nat.le_of_ble_eq_true rfl⟩, (hts _ kt_336), (hts _ kt_337)⟩ ⟨fun a U g mk q => ⟨q.1, PTD.calling q.2⟩, pg_recv hK hP hL_rc hF_158 (q := (RX9, TX9, 5)) rfl, fun U hU hWm => ⟨rfl, PTD.mk hU hWm hP hK hD hE hO hG hXc_q_164 hXc_q_148 hS hFc⟩⟩ rfl rfl hl.1 rfl (lv_room (Nat.le_of_ble_eq_true rfl)) dX5_readRecord_88 ⟨by show _ + 0 ≤ 0; omega, by show _ + 0 ≤ 0; omega⟩) hS (fun q _ h => hFc q h) hFc (fun r_166 u t H1 locs ht hvm hw hB hz1 hk1 hS => ?_)
          obtain ⟨F_167, hB1⟩ := hB
          obtain rfl : F_153 = F_167 := (funext (fun a => hB1.2.2.2 a List.not_mem_nil)).symm
          obtain ⟨hP, hD, hO, hR⟩ := QT.back hB1 ht hFc hR (fun q h => absurd h List.not_mem_nil)
          generalize H1 = H at hP hS ⊢
          have hw : (r_166 = 1 ∧ TGV (TC fc_34 (flI (TC f z) 0 (z - 0)).length) gg_28.2 gg_28.1 [97, 100, 107, 105, 109] [115]) ∨ (r_166 = 0 ∧ ¬ TGV (TC fc_34 (flI (TC f z) 0 (z - 0)).length) gg_28.2 gg_28.1 [97, 100, 107, 105, 109] [115]) := hw
          have hw_168 := hw
          refine pg_put (ci := 5) (v := .int r_166) (ty := .boolean) (C := RX5) (T := TX5) (N := 7) hx hb hts it_5 tyX5 tyX5_ok nmX5 hown hK hP hD hS hL_h0 hF_155 rfl 6 (by decide) (hts _ kt_477) (fun _ h9 => h9) rfl (by decide +kernel) (bitN (bit2 hw_168)) (bitF (bit2 hw_168)) (Nat.le_of_ble_eq_true rfl) dX5_readRecord_91 (fun H locs hP hD hS => ?_)
          obtain ⟨F_169, he_170, hP, hD, hO, hR⟩ : ∃ G, G = va_up F_153 h0 (.inr (5, [.ref d, .ref w0, .ref w1, .ref rc, .int (nI (wnW (flT (TC f z) 0 (z - 0)) gg_28.2 gg_28.1 [112])), .int r_150, .int r_166])) ∧ va_P (dC, dI) vwCl (va_pl L G) H ∧ va_D A (va_pl L G) ∧ OK cs ty L G ∧ FR ty [ρ, ρ + 2, ρ + 3, ρ + 72, ρ + 73] F G := ⟨_, rfl, hP, hD, hO.up (sh.pol hT_h0 ⟨(nI (wnW (flT (TC f z) 0 (z - 0)) gg_28.2 gg_28.1 [112])), r_150, r_166, rfl⟩), hR.up hT_h0 (by simp)⟩
          have hF_171 : F_169 h0 = .inr (5, [.ref d, .ref w0, .ref w1, .ref rc, .int (nI (wnW (flT (TC f z) 0 (z - 0)) gg_28.2 gg_28.1 [112])), .int r_150, .int r_166]) := by rw [he_170]; exact up_self
          have hF_172 : F_169 g1 = .inr (0, [.ref r1, .int (nI z), .int 0]) := by rw [he_170, up_ne (ne_ty hT_g1 hT_h0 (by simp))]; exact hF_156
          have hF_173 : F_169 r1 = .inl (cs 16, n1, .inl f) := by rw [he_170, up_ne (ne_ty ht_23 hT_h0 (by simp))]; exact hF_157
          have hF_174 : F_169 rc = .inr (9, [.ref rx, .ref ry0, .ref ry1, .ref ry2, .int (nI gg_28.1)]) := by rw [he_170, up_ne (ne_ty hT_rc hT_h0 (by simp))]; exact hF_158
          have hF_175 : F_169 rx = .inr (0, [.ref rr, .int (nI (flI (TC f z) 0 (z - 0)).length), .int 0]) := by rw [he_170, up_ne (ne_ty hT_rx hT_h0 (by simp))]; exact hF_159
          have hF_176 : F_169 rr = .inl (cs 16, 700, .inl fc_34) := by rw [he_170, up_ne (ne_ty ht_20 hT_h0 (by simp))]; exact hF_160
          have hF_177 : F_169 ry0 = .inl (cs 16, 40, .inl p0_31) := by rw [he_170, up_ne (ne_ty ht_16 hT_h0 (by simp))]; exact hF_161
          have hF_178 : F_169 ry1 = .inl (cs 16, 40, .inl p1_32) := by rw [he_170, up_ne (ne_ty ht_17 hT_h0 (by simp))]; exact hF_162
          have hF_179 : F_169 ry2 = .inl (cs 16, 40, .inl p2_33) := by rw [he_170, up_ne (ne_ty ht_18 hT_h0 (by simp))]; exact hF_163
          refine lv_aload_n hx hb dX5_readRecord_94 rfl (lv_at hl 0 rfl) ?_
          refine pg_get (ci := 5) (v := .int (nI (wnW (flT (TC f z) 0 (z - 0)) gg_28.2 gg_28.1 [112]))) (C := RX5) (T := TX5) (N := 7) hx hb hts it_5 hown hK hP hL_h0 hF_171 rfl 4 (by decide) (hts _ kt_475) (fun _ h9 => h9) rfl dX5_readRecord_95 ?_
          refine lv_bipush (v := 6) hx hb dX5_readRecord_98 (by decide) ?_
          refine lv_icmp_ne (tgt := 108) hx hb dX5_readRecord_100 (by decide) (fun c_180 => ?_) (fun c_180 => absurd c_180 (c_66))
          refine lv_iconst (v := (-1)) hx hb dX5_readRecord_108 (by decide) ?_
          refine W.widen (k := 0) (n := 0) (by omega) (by omega) ?_
          exact W.iret (v := (-1)) hx hb hr (fun t ht hWm => ⟨⟨(-1), (), rfl, (by unfold rrW; rw [show tgT (flT (TC f z) 0 (z - 0)) (flI (TC f z) 0 (z - 0)).length = some gg_28 from by rcases hw_47 with h9 | h9; exact h9.2; exact absurd h9.1 c_48]; show (_ : Int32) = (if (wnW (flT (TC f z) 0 (z - 0)) gg_28.2 gg_28.1 [112]) = 6 then 6 else _); rw [if_neg (show ¬ (wnW (flT (TC f z) 0 (z - 0)) gg_28.2 gg_28.1 [112]) = 6 from fun q => c_66 (by rw [q]; rfl)), if_neg (show ¬ (x2 = 0 ∧ (TGE (flT (TC f z) 0 (z - 0)) gg_28.2 gg_28.1 [115, 112])) from fun q => orp0 (by have h9 := hw_144; rw [hq_41] at h9; exact h9) c_145 q.2)]), ⟨F_169, (nI (wnW (flT (TC f z) 0 (z - 0)) gg_28.2 gg_28.1 [112])), r_150, r_166, QT.mk ht hP hD hO hR, hF_171, (fun g9 q => by obtain rfl := Option.some.inj ((show tgT (flT (TC f z) 0 (z - 0)) (flI (TC f z) 0 (z - 0)).length = some gg_28 from by rcases hw_47 with h9 | h9; exact h9.2; exact absurd h9.1 c_48).symm.trans q); exact ⟨congrArg nI ((if_neg (show ¬ (¬ (wnW (flT (TC f z) 0 (z - 0)) gg_28.2 gg_28.1 [112]) = 6 ∧ x2 = 0 ∧ (TGE (flT (TC f z) 0 (z - 0)) gg_28.2 gg_28.1 [115, 112])) from fun q => orp0 (by have h9 := hw_144; rw [hq_41] at h9; exact h9) c_145 q.2.2)).symm), (sfl_r (by have h9 := hw_152; rw [hq_41] at h9; exact h9)), (sfl_r (by have h9 := hw_168; rw [hq_41] at h9; exact h9))⟩)⟩⟩, hS.F ht⟩) hS.2.2 dX5_readRecord_109
        ·
          refine lv_aload_n hx hb dX5_readRecord_54 rfl (lv_at hl 0 rfl) ?_
          refine lv_aload_n hx hb dX5_readRecord_55 rfl (lv_at hl 0 rfl) ?_
          refine va_ldcS hx hb hown hr_q_140 dX5_readRecord_56 ?_
          have hFc := pg_free hD hS hA
          refine va_calli (va_runV (As := [.ref q_140]) (rest := [.ref h0]) ⟨hx, hb, hml, hown, hts⟩ (s_X5_wantOf_e l dC dI cs ty L H.size F_55 h0 ρ d δ ea w0 w1 rc rx ry0 ry1 ry2 rr ((flI (TC f z) 0 (z - 0)).length) gg_28.1 fc_34 p0_31 p1_32 p2_33 gg_28.2 q_140 v_141 2 (cct [115, 112]) ([115, 112]) (nI (wnW (flT (TC f z) 0 (z - 0)) gg_28.2 gg_28.1 [112])) v1_10 v2_11 hW hL_h0 hT_h0 hL_rc hT_rc hL_rx hT_rx hF_57 hF_60 hF_61 hF_62 hF_63 hF_64 hF_65 (hti3) (hti2) (hq_42) (hti1) (⟨rfl, by decide +kernel⟩)) ⟨callB_of 1 hts (gi kt_470) rfl rfl rfl (hts _ kt_471) (hts _ kt_472) (by decide +kernel) ⟨Nat.le_of_ble_eq_true rfl, Nat.le_of_ble_eq_true rfl⟩, (hts _ kt_473), (hts _ kt_474)⟩ ⟨fun a U g mk q => ⟨q.1, PTC.calling q.2⟩, pg_recv hK hP hL_h0 hF_57 (q := (RX5, TX5, 7)) rfl, fun U hU hWm => ⟨rfl, PTC.mk hU hWm hP hK hD hE hO hG hXc_q_140 hS hFc⟩⟩ rfl rfl hl.1 rfl (lv_room (Nat.le_of_ble_eq_true rfl)) dX5_readRecord_58 ⟨by show _ + 0 ≤ 0; omega, by show _ + 0 ≤ 0; omega⟩) hS (fun q _ h => hFc q h) hFc (fun r_181 u t H1 locs ht hvm hw hB hz1 hk1 hS => ?_)
          obtain ⟨F_182, hB1⟩ := hB
          obtain rfl : F_55 = F_182 := (funext (fun a => hB1.2.2.2 a List.not_mem_nil)).symm
          obtain ⟨hP, hD, hO, hR⟩ := QT.back hB1 ht hFc hR (fun q h => absurd h List.not_mem_nil)
          generalize H1 = H at hP hS ⊢
          have hw : r_181 = nI (wnW (TC fc_34 (flI (TC f z) 0 (z - 0)).length) gg_28.2 gg_28.1 [115, 112]) := hw
          have hw_183 := hw
          have hw_184 : r_181 = (nI (wnW (flT (TC f z) 0 (z - 0)) gg_28.2 gg_28.1 [115, 112])) := by have h9 := hw_183; rw [hq_41] at h9; exact h9
          subst hw_184
          refine pg_put (ci := 5) (v := .int (nI (wnW (flT (TC f z) 0 (z - 0)) gg_28.2 gg_28.1 [115, 112]))) (ty := .int) (C := RX5) (T := TX5) (N := 7) hx hb hts it_5 tyX5 tyX5_ok nmX5 hown hK hP hD hS hL_h0 hF_57 rfl 4 (by decide) (hts _ kt_475) (fun _ h9 => h9) rfl (by decide +kernel) (rfl) (rfl) (Nat.le_of_ble_eq_true rfl) dX5_readRecord_61 (fun H locs hP hD hS => ?_)
          obtain ⟨F_185, he_186, hP, hD, hO, hR⟩ : ∃ G, G = va_up F_55 h0 (.inr (5, [.ref d, .ref w0, .ref w1, .ref rc, .int (nI (wnW (flT (TC f z) 0 (z - 0)) gg_28.2 gg_28.1 [115, 112])), .int v1_10, .int v2_11])) ∧ va_P (dC, dI) vwCl (va_pl L G) H ∧ va_D A (va_pl L G) ∧ OK cs ty L G ∧ FR ty [ρ, ρ + 2, ρ + 3, ρ + 72, ρ + 73] F G := ⟨_, rfl, hP, hD, hO.up (sh.pol hT_h0 ⟨(nI (wnW (flT (TC f z) 0 (z - 0)) gg_28.2 gg_28.1 [115, 112])), v1_10, v2_11, rfl⟩), hR.up hT_h0 (by simp)⟩
          have hF_187 : F_185 h0 = .inr (5, [.ref d, .ref w0, .ref w1, .ref rc, .int (nI (wnW (flT (TC f z) 0 (z - 0)) gg_28.2 gg_28.1 [115, 112])), .int v1_10, .int v2_11]) := by rw [he_186]; exact up_self
          have hF_188 : F_185 g1 = .inr (0, [.ref r1, .int (nI z), .int 0]) := by rw [he_186, up_ne (ne_ty hT_g1 hT_h0 (by simp))]; exact hF_58
          have hF_189 : F_185 r1 = .inl (cs 16, n1, .inl f) := by rw [he_186, up_ne (ne_ty ht_23 hT_h0 (by simp))]; exact hF_59
          have hF_190 : F_185 rc = .inr (9, [.ref rx, .ref ry0, .ref ry1, .ref ry2, .int (nI gg_28.1)]) := by rw [he_186, up_ne (ne_ty hT_rc hT_h0 (by simp))]; exact hF_60
          have hF_191 : F_185 rx = .inr (0, [.ref rr, .int (nI (flI (TC f z) 0 (z - 0)).length), .int 0]) := by rw [he_186, up_ne (ne_ty hT_rx hT_h0 (by simp))]; exact hF_61
          have hF_192 : F_185 rr = .inl (cs 16, 700, .inl fc_34) := by rw [he_186, up_ne (ne_ty ht_20 hT_h0 (by simp))]; exact hF_62
          have hF_193 : F_185 ry0 = .inl (cs 16, 40, .inl p0_31) := by rw [he_186, up_ne (ne_ty ht_16 hT_h0 (by simp))]; exact hF_63
          have hF_194 : F_185 ry1 = .inl (cs 16, 40, .inl p1_32) := by rw [he_186, up_ne (ne_ty ht_17 hT_h0 (by simp))]; exact hF_64
          have hF_195 : F_185 ry2 = .inl (cs 16, 40, .inl p2_33) := by rw [he_186, up_ne (ne_ty ht_18 hT_h0 (by simp))]; exact hF_65
          refine lv_aload_n hx hb dX5_readRecord_64 rfl (lv_at hl 0 rfl) ?_
          refine lv_aload_n hx hb dX5_readRecord_65 rfl (lv_at hl 0 rfl) ?_
          refine pg_get (ci := 5) (v := .ref rc) (C := RX5) (T := TX5) (N := 7) hx hb hts it_5 hown hK hP hL_h0 hF_187 rfl 3 (by decide) (hts _ kt_456) (fun _ h9 => h9) rfl dX5_readRecord_66 ?_
          obtain ⟨q_196, v_197, hr_q_196, hXc_q_196⟩ := hG.2.2.2.2 ("PostGate$Policy", 150, "aspf", [97, 115, 112, 102]) (by decide +kernel)
          have hXc_q_196 : SXc q_196 v_197 4 (cct [97, 115, 112, 102]) A s s.heap := hXc_q_196
          have hX_q_196 : SX q_196 v_197 4 A s s.heap := hXc_q_196.sx
          obtain ⟨xo_q_196, xc_q_196, xv_q_196, xt_q_196, xn_q_196⟩ := id hXc_q_196
          have hr_q_196 : vk_R "PostGate$Policy" 150 "aspf" q_196 s := hr_q_196
          refine va_ldcS hx hb hown hr_q_196 dX5_readRecord_69 ?_
          obtain ⟨q_198, v_199, hr_q_198, hXc_q_198⟩ := hG.2.2.2.2 ("PostGate$Policy", 152, "s", [115]) (by decide +kernel)
          have hXc_q_198 : SXc q_198 v_199 1 (cct [115]) A s s.heap := hXc_q_198
          have hX_q_198 : SX q_198 v_199 1 A s s.heap := hXc_q_198.sx
          obtain ⟨xo_q_198, xc_q_198, xv_q_198, xt_q_198, xn_q_198⟩ := id hXc_q_198
          have hr_q_198 : vk_R "PostGate$Policy" 152 "s" q_198 s := hr_q_198
          refine va_ldcS hx hb hown hr_q_198 dX5_readRecord_71 ?_
          have hFc := pg_free hD hS hA
          refine va_calli (va_runV (As := [.ref q_196, .ref q_198]) (rest := [.ref h0]) ⟨hx, hb, hml, hown, hts⟩ (s_X9_is_e l dC dI cs ty L H.size F_185 rc (ρ + 2) rx 700 ry0 ry1 ry2 rr ((flI (TC f z) 0 (z - 0)).length) gg_28.1 fc_34 p0_31 p1_32 p2_33 gg_28.2 q_196 v_197 4 (cct [97, 115, 112, 102]) q_198 v_199 1 (cct [115]) ([97, 115, 112, 102]) ([115]) hW hL_rc hT_rc hL_rx hT_rx hF_190 hF_191 hF_192 hF_193 hF_194 hF_195 (hti3) (by omega) (hti2) (hq_42) (hti1) (⟨rfl, by decide +kernel⟩) (⟨rfl, by decide +kernel⟩)) ⟨callB_of 2 hts (gi kt_334) rfl rfl rfl (hts _ kt_164) (hts _ kt_457) (by decide +kernel) ⟨Nat.le_of_ble_eq_true rfl, Nat.le_of_ble_eq_true rfl⟩, (hts _ kt_336), (hts _ kt_337)⟩ ⟨fun a U g mk q => ⟨q.1, PTD.calling q.2⟩, pg_recv hK hP hL_rc hF_190 (q := (RX9, TX9, 5)) rfl, fun U hU hWm => ⟨rfl, PTD.mk hU hWm hP hK hD hE hO hG hXc_q_196 hXc_q_198 hS hFc⟩⟩ rfl rfl hl.1 rfl (lv_room (Nat.le_of_ble_eq_true rfl)) dX5_readRecord_73 ⟨by show _ + 0 ≤ 0; omega, by show _ + 0 ≤ 0; omega⟩) hS (fun q _ h => hFc q h) hFc (fun r_200 u t H1 locs ht hvm hw hB hz1 hk1 hS => ?_)
          obtain ⟨F_201, hB1⟩ := hB
          obtain rfl : F_185 = F_201 := (funext (fun a => hB1.2.2.2 a List.not_mem_nil)).symm
          obtain ⟨hP, hD, hO, hR⟩ := QT.back hB1 ht hFc hR (fun q h => absurd h List.not_mem_nil)
          generalize H1 = H at hP hS ⊢
          have hw : (r_200 = 1 ∧ TGV (TC fc_34 (flI (TC f z) 0 (z - 0)).length) gg_28.2 gg_28.1 [97, 115, 112, 102] [115]) ∨ (r_200 = 0 ∧ ¬ TGV (TC fc_34 (flI (TC f z) 0 (z - 0)).length) gg_28.2 gg_28.1 [97, 115, 112, 102] [115]) := hw
          have hw_202 := hw
          refine pg_put (ci := 5) (v := .int r_200) (ty := .boolean) (C := RX5) (T := TX5) (N := 7) hx hb hts it_5 tyX5 tyX5_ok nmX5 hown hK hP hD hS hL_h0 hF_187 rfl 5 (by decide) (hts _ kt_476) (fun _ h9 => h9) rfl (by decide +kernel) (bitN (bit2 hw_202)) (bitF (bit2 hw_202)) (Nat.le_of_ble_eq_true rfl) dX5_readRecord_76 (fun H locs hP hD hS => ?_)
          obtain ⟨F_203, he_204, hP, hD, hO, hR⟩ : ∃ G, G = va_up F_185 h0 (.inr (5, [.ref d, .ref w0, .ref w1, .ref rc, .int (nI (wnW (flT (TC f z) 0 (z - 0)) gg_28.2 gg_28.1 [115, 112])), .int r_200, .int v2_11])) ∧ va_P (dC, dI) vwCl (va_pl L G) H ∧ va_D A (va_pl L G) ∧ OK cs ty L G ∧ FR ty [ρ, ρ + 2, ρ + 3, ρ + 72, ρ + 73] F G := ⟨_, rfl, hP, hD, hO.up (sh.pol hT_h0 ⟨(nI (wnW (flT (TC f z) 0 (z - 0)) gg_28.2 gg_28.1 [115, 112])), r_200, v2_11, rfl⟩), hR.up hT_h0 (by simp)⟩
          have hF_205 : F_203 h0 = .inr (5, [.ref d, .ref w0, .ref w1, .ref rc, .int (nI (wnW (flT (TC f z) 0 (z - 0)) gg_28.2 gg_28.1 [115, 112])), .int r_200, .int v2_11]) := by rw [he_204]; exact up_self
          have hF_206 : F_203 g1 = .inr (0, [.ref r1, .int (nI z), .int 0]) := by rw [he_204, up_ne (ne_ty hT_g1 hT_h0 (by simp))]; exact hF_188
          have hF_207 : F_203 r1 = .inl (cs 16, n1, .inl f) := by rw [he_204, up_ne (ne_ty ht_23 hT_h0 (by simp))]; exact hF_189
          have hF_208 : F_203 rc = .inr (9, [.ref rx, .ref ry0, .ref ry1, .ref ry2, .int (nI gg_28.1)]) := by rw [he_204, up_ne (ne_ty hT_rc hT_h0 (by simp))]; exact hF_190
          have hF_209 : F_203 rx = .inr (0, [.ref rr, .int (nI (flI (TC f z) 0 (z - 0)).length), .int 0]) := by rw [he_204, up_ne (ne_ty hT_rx hT_h0 (by simp))]; exact hF_191
          have hF_210 : F_203 rr = .inl (cs 16, 700, .inl fc_34) := by rw [he_204, up_ne (ne_ty ht_20 hT_h0 (by simp))]; exact hF_192
          have hF_211 : F_203 ry0 = .inl (cs 16, 40, .inl p0_31) := by rw [he_204, up_ne (ne_ty ht_16 hT_h0 (by simp))]; exact hF_193
          have hF_212 : F_203 ry1 = .inl (cs 16, 40, .inl p1_32) := by rw [he_204, up_ne (ne_ty ht_17 hT_h0 (by simp))]; exact hF_194
          have hF_213 : F_203 ry2 = .inl (cs 16, 40, .inl p2_33) := by rw [he_204, up_ne (ne_ty ht_18 hT_h0 (by simp))]; exact hF_195
          refine lv_aload_n hx hb dX5_readRecord_79 rfl (lv_at hl 0 rfl) ?_
          refine lv_aload_n hx hb dX5_readRecord_80 rfl (lv_at hl 0 rfl) ?_
          refine pg_get (ci := 5) (v := .ref rc) (C := RX5) (T := TX5) (N := 7) hx hb hts it_5 hown hK hP hL_h0 hF_205 rfl 3 (by decide) (hts _ kt_456) (fun _ h9 => h9) rfl dX5_readRecord_81 ?_
          obtain ⟨q_214, v_215, hr_q_214, hXc_q_214⟩ := hG.2.2.2.2 ("PostGate$Policy", 158, "adkim", [97, 100, 107, 105, 109]) (by decide +kernel)
          have hXc_q_214 : SXc q_214 v_215 5 (cct [97, 100, 107, 105, 109]) A s s.heap := hXc_q_214
          have hX_q_214 : SX q_214 v_215 5 A s s.heap := hXc_q_214.sx
          obtain ⟨xo_q_214, xc_q_214, xv_q_214, xt_q_214, xn_q_214⟩ := id hXc_q_214
          have hr_q_214 : vk_R "PostGate$Policy" 158 "adkim" q_214 s := hr_q_214
          refine va_ldcS hx hb hown hr_q_214 dX5_readRecord_84 ?_
          refine va_ldcS hx hb hown hr_q_198 dX5_readRecord_86 ?_
          have hFc := pg_free hD hS hA
          refine va_calli (va_runV (As := [.ref q_214, .ref q_198]) (rest := [.ref h0]) ⟨hx, hb, hml, hown, hts⟩ (s_X9_is_e l dC dI cs ty L H.size F_203 rc (ρ + 2) rx 700 ry0 ry1 ry2 rr ((flI (TC f z) 0 (z - 0)).length) gg_28.1 fc_34 p0_31 p1_32 p2_33 gg_28.2 q_214 v_215 5 (cct [97, 100, 107, 105, 109]) q_198 v_199 1 (cct [115]) ([97, 100, 107, 105, 109]) ([115]) hW hL_rc hT_rc hL_rx hT_rx hF_208 hF_209 hF_210 hF_211 hF_212 hF_213 (hti3) (by omega) (hti2) (hq_42) (hti1) (⟨rfl, by decide +kernel⟩) (⟨rfl, by decide +kernel⟩)) ⟨callB_of 2 hts (gi kt_334) rfl rfl rfl (hts _ kt_164) (hts _ kt_457) (by decide +kernel) ⟨Nat.le_of_ble_eq_true rfl, Nat.le_of_ble_eq_true rfl⟩, (hts _ kt_336), (hts _ kt_337)⟩ ⟨fun a U g mk q => ⟨q.1, PTD.calling q.2⟩, pg_recv hK hP hL_rc hF_208 (q := (RX9, TX9, 5)) rfl, fun U hU hWm => ⟨rfl, PTD.mk hU hWm hP hK hD hE hO hG hXc_q_214 hXc_q_198 hS hFc⟩⟩ rfl rfl hl.1 rfl (lv_room (Nat.le_of_ble_eq_true rfl)) dX5_readRecord_88 ⟨by show _ + 0 ≤ 0; omega, by show _ + 0 ≤ 0; omega⟩) hS (fun q _ h => hFc q h) hFc (fun r_216 u t H1 locs ht hvm hw hB hz1 hk1 hS => ?_)
          obtain ⟨F_217, hB1⟩ := hB
          obtain rfl : F_203 = F_217 := (funext (fun a => hB1.2.2.2 a List.not_mem_nil)).symm
          obtain ⟨hP, hD, hO, hR⟩ := QT.back hB1 ht hFc hR (fun q h => absurd h List.not_mem_nil)
          generalize H1 = H at hP hS ⊢
          have hw : (r_216 = 1 ∧ TGV (TC fc_34 (flI (TC f z) 0 (z - 0)).length) gg_28.2 gg_28.1 [97, 100, 107, 105, 109] [115]) ∨ (r_216 = 0 ∧ ¬ TGV (TC fc_34 (flI (TC f z) 0 (z - 0)).length) gg_28.2 gg_28.1 [97, 100, 107, 105, 109] [115]) := hw
          have hw_218 := hw
          refine pg_put (ci := 5) (v := .int r_216) (ty := .boolean) (C := RX5) (T := TX5) (N := 7) hx hb hts it_5 tyX5 tyX5_ok nmX5 hown hK hP hD hS hL_h0 hF_205 rfl 6 (by decide) (hts _ kt_477) (fun _ h9 => h9) rfl (by decide +kernel) (bitN (bit2 hw_218)) (bitF (bit2 hw_218)) (Nat.le_of_ble_eq_true rfl) dX5_readRecord_91 (fun H locs hP hD hS => ?_)
          obtain ⟨F_219, he_220, hP, hD, hO, hR⟩ : ∃ G, G = va_up F_203 h0 (.inr (5, [.ref d, .ref w0, .ref w1, .ref rc, .int (nI (wnW (flT (TC f z) 0 (z - 0)) gg_28.2 gg_28.1 [115, 112])), .int r_200, .int r_216])) ∧ va_P (dC, dI) vwCl (va_pl L G) H ∧ va_D A (va_pl L G) ∧ OK cs ty L G ∧ FR ty [ρ, ρ + 2, ρ + 3, ρ + 72, ρ + 73] F G := ⟨_, rfl, hP, hD, hO.up (sh.pol hT_h0 ⟨(nI (wnW (flT (TC f z) 0 (z - 0)) gg_28.2 gg_28.1 [115, 112])), r_200, r_216, rfl⟩), hR.up hT_h0 (by simp)⟩
          have hF_221 : F_219 h0 = .inr (5, [.ref d, .ref w0, .ref w1, .ref rc, .int (nI (wnW (flT (TC f z) 0 (z - 0)) gg_28.2 gg_28.1 [115, 112])), .int r_200, .int r_216]) := by rw [he_220]; exact up_self
          have hF_222 : F_219 g1 = .inr (0, [.ref r1, .int (nI z), .int 0]) := by rw [he_220, up_ne (ne_ty hT_g1 hT_h0 (by simp))]; exact hF_206
          have hF_223 : F_219 r1 = .inl (cs 16, n1, .inl f) := by rw [he_220, up_ne (ne_ty ht_23 hT_h0 (by simp))]; exact hF_207
          have hF_224 : F_219 rc = .inr (9, [.ref rx, .ref ry0, .ref ry1, .ref ry2, .int (nI gg_28.1)]) := by rw [he_220, up_ne (ne_ty hT_rc hT_h0 (by simp))]; exact hF_208
          have hF_225 : F_219 rx = .inr (0, [.ref rr, .int (nI (flI (TC f z) 0 (z - 0)).length), .int 0]) := by rw [he_220, up_ne (ne_ty hT_rx hT_h0 (by simp))]; exact hF_209
          have hF_226 : F_219 rr = .inl (cs 16, 700, .inl fc_34) := by rw [he_220, up_ne (ne_ty ht_20 hT_h0 (by simp))]; exact hF_210
          have hF_227 : F_219 ry0 = .inl (cs 16, 40, .inl p0_31) := by rw [he_220, up_ne (ne_ty ht_16 hT_h0 (by simp))]; exact hF_211
          have hF_228 : F_219 ry1 = .inl (cs 16, 40, .inl p1_32) := by rw [he_220, up_ne (ne_ty ht_17 hT_h0 (by simp))]; exact hF_212
          have hF_229 : F_219 ry2 = .inl (cs 16, 40, .inl p2_33) := by rw [he_220, up_ne (ne_ty ht_18 hT_h0 (by simp))]; exact hF_213
          refine lv_aload_n hx hb dX5_readRecord_94 rfl (lv_at hl 0 rfl) ?_
          refine pg_get (ci := 5) (v := .int (nI (wnW (flT (TC f z) 0 (z - 0)) gg_28.2 gg_28.1 [115, 112]))) (C := RX5) (T := TX5) (N := 7) hx hb hts it_5 hown hK hP hL_h0 hF_221 rfl 4 (by decide) (hts _ kt_475) (fun _ h9 => h9) rfl dX5_readRecord_95 ?_
          refine lv_bipush (v := 6) hx hb dX5_readRecord_98 (by decide) ?_
          refine lv_icmp_ne (tgt := 108) hx hb dX5_readRecord_100 (by decide) (fun c_230 => ?_) (fun c_230 => ?_)
          ·
            refine lv_iconst (v := (-1)) hx hb dX5_readRecord_108 (by decide) ?_
            refine W.widen (k := 0) (n := 0) (by omega) (by omega) ?_
            exact W.iret (v := (-1)) hx hb hr (fun t ht hWm => ⟨⟨(-1), (), rfl, (by unfold rrW; rw [show tgT (flT (TC f z) 0 (z - 0)) (flI (TC f z) 0 (z - 0)).length = some gg_28 from by rcases hw_47 with h9 | h9; exact h9.2; exact absurd h9.1 c_48]; show (_ : Int32) = (if (wnW (flT (TC f z) 0 (z - 0)) gg_28.2 gg_28.1 [112]) = 6 then 6 else _); rw [if_neg (show ¬ (wnW (flT (TC f z) 0 (z - 0)) gg_28.2 gg_28.1 [112]) = 6 from fun q => c_66 (by rw [q]; rfl)), if_pos (show x2 = 0 ∧ (TGE (flT (TC f z) 0 (z - 0)) gg_28.2 gg_28.1 [115, 112]) from ⟨c_104, orp1 (by have h9 := hw_144; rw [hq_41] at h9; exact h9) c_145⟩), if_neg (show ¬ (wnW (flT (TC f z) 0 (z - 0)) gg_28.2 gg_28.1 [115, 112]) = 6 from fun q => c_230 (by rw [q]; rfl))]), ⟨F_219, (nI (wnW (flT (TC f z) 0 (z - 0)) gg_28.2 gg_28.1 [115, 112])), r_200, r_216, QT.mk ht hP hD hO hR, hF_221, (fun g9 q => by obtain rfl := Option.some.inj ((show tgT (flT (TC f z) 0 (z - 0)) (flI (TC f z) 0 (z - 0)).length = some gg_28 from by rcases hw_47 with h9 | h9; exact h9.2; exact absurd h9.1 c_48).symm.trans q); exact ⟨congrArg nI ((if_pos (show (¬ (wnW (flT (TC f z) 0 (z - 0)) gg_28.2 gg_28.1 [112]) = 6 ∧ x2 = 0 ∧ (TGE (flT (TC f z) 0 (z - 0)) gg_28.2 gg_28.1 [115, 112])) from ⟨(show ¬ (wnW (flT (TC f z) 0 (z - 0)) gg_28.2 gg_28.1 [112]) = 6 from fun q => c_66 (by rw [q]; rfl)), c_104, orp1 (by have h9 := hw_144; rw [hq_41] at h9; exact h9) c_145⟩)).symm), (sfl_r (by have h9 := hw_202; rw [hq_41] at h9; exact h9)), (sfl_r (by have h9 := hw_218; rw [hq_41] at h9; exact h9))⟩)⟩⟩, hS.F ht⟩) hS.2.2 dX5_readRecord_109
          ·
            refine lv_bipush (v := 6) hx hb dX5_readRecord_103 (by decide) ?_
            refine lv_goto (tgt := 109) hx hb dX5_readRecord_105 (by decide) ?_
            refine W.widen (k := 0) (n := 0) (by omega) (by omega) ?_
            exact W.iret (v := 6) hx hb hr (fun t ht hWm => ⟨⟨6, (), rfl, (by unfold rrW; rw [show tgT (flT (TC f z) 0 (z - 0)) (flI (TC f z) 0 (z - 0)).length = some gg_28 from by rcases hw_47 with h9 | h9; exact h9.2; exact absurd h9.1 c_48]; show (_ : Int32) = (if (wnW (flT (TC f z) 0 (z - 0)) gg_28.2 gg_28.1 [112]) = 6 then 6 else _); rw [if_neg (show ¬ (wnW (flT (TC f z) 0 (z - 0)) gg_28.2 gg_28.1 [112]) = 6 from fun q => c_66 (by rw [q]; rfl)), if_pos (show x2 = 0 ∧ (TGE (flT (TC f z) 0 (z - 0)) gg_28.2 gg_28.1 [115, 112]) from ⟨c_104, orp1 (by have h9 := hw_144; rw [hq_41] at h9; exact h9) c_145⟩), if_pos (show (wnW (flT (TC f z) 0 (z - 0)) gg_28.2 gg_28.1 [115, 112]) = 6 from (nI_eq (b := 6) (by have h8 := wnW_le (T := (flT (TC f z) 0 (z - 0))) (g := gg_28.2) (n := gg_28.1) (l := [115, 112]); omega) (by omega)).mp c_230)]), ⟨F_219, (nI (wnW (flT (TC f z) 0 (z - 0)) gg_28.2 gg_28.1 [115, 112])), r_200, r_216, QT.mk ht hP hD hO hR, hF_221, (fun g9 q => by obtain rfl := Option.some.inj ((show tgT (flT (TC f z) 0 (z - 0)) (flI (TC f z) 0 (z - 0)).length = some gg_28 from by rcases hw_47 with h9 | h9; exact h9.2; exact absurd h9.1 c_48).symm.trans q); exact ⟨congrArg nI ((if_pos (show (¬ (wnW (flT (TC f z) 0 (z - 0)) gg_28.2 gg_28.1 [112]) = 6 ∧ x2 = 0 ∧ (TGE (flT (TC f z) 0 (z - 0)) gg_28.2 gg_28.1 [115, 112])) from ⟨(show ¬ (wnW (flT (TC f z) 0 (z - 0)) gg_28.2 gg_28.1 [112]) = 6 from fun q => c_66 (by rw [q]; rfl)), c_104, orp1 (by have h9 := hw_144; rw [hq_41] at h9; exact h9) c_145⟩)).symm), (sfl_r (by have h9 := hw_202; rw [hq_41] at h9; exact h9)), (sfl_r (by have h9 := hw_218; rw [hq_41] at h9; exact h9))⟩)⟩⟩, hS.F ht⟩) hS.2.2 dX5_readRecord_109
  ·
    refine lv_bipush (v := 6) hx hb dX5_readRecord_16 (by decide) ?_
    refine W.widen (k := 0) (n := 0) (by omega) (by omega) ?_
    exact W.iret (v := 6) hx hb hr (fun t ht hWm => ⟨⟨6, (), rfl, (by unfold rrW; rcases hw_47 with h9 | h9; exact absurd (h9.1.symm.trans c_48) (by decide); rw [h9.2]; rfl), ⟨F_30, v0_9, v1_10, v2_11, QT.mk ht hP hD hO hR, hF_46, (fun g9 q => by rcases hw_47 with h9 | h9; exact absurd (h9.1.symm.trans c_48) (by decide); exact nomatch h9.2.symm.trans q)⟩⟩, hS.F ht⟩) hS.2.2 dX5_readRecord_18
set_option maxHeartbeats 4000000 in
set_option maxRecDepth 100000 in
theorem s_X5_read_w (l : Launch) (dC : Nat → ClassId) (dI : Nat → Nat → Nat) (cs : Nat → ClassId) (ty : TyM) (L : List Nat) (sz : Nat) (F : Nat → va_E) (h0 : Nat) (ρ : Nat) (d : Nat) (δ : Nat) (ea : Nat) (w0 : Nat) (w1 : Nat) (rc : Nat) (rx : Nat) (ry0 : Nat) (ry1 : Nat) (ry2 : Nat) (rw0 : Nat) (rw1 : Nat) (rr : Nat) (cn : Nat) (mg : Nat) (μ : Nat) (mx : Nat) (m0 : Nat) (m1 : Nat) (m2 : Nat) (rm : Nat) (zm : Nat) (nn : Nat) (fm : Nat → Int32) (e0 : Nat → Int32) (e1 : Nat → Int32) (e2 : Nat → Int32) (bb : Int32) (gb : Nat → Nat) (gc : Nat → Nat) (gd : Nat → Nat) (D : Nat → ETY) (hW : WT ty L) (hL_h0 : h0 ∈ L) (hT_h0 : ty h0 = (5, ρ, [d, δ, ea, w0, w1, rc, rx, ry0, ry1, ry2])) (hL_w0 : w0 ∈ L) (hT_w0 : ty w0 = (0, ρ + 1, [rw0, 60])) (hL_w1 : w1 ∈ L) (hT_w1 : ty w1 = (0, ρ + 9, [rw1, 60])) (hL_rc : rc ∈ L) (hT_rc : ty rc = (9, ρ + 2, [rx, 700, ry0, ry1, ry2])) (hL_rx : rx ∈ L) (hT_rx : ty rx = (0, ρ + 3, [rr, 700])) (hL_mg : mg ∈ L) (hT_mg : ty mg = (4, μ, [mx, m0, m1, m2])) (hL_mx : mx ∈ L) (hT_mx : ty mx = (0, μ + 1, [rm, 3000])) (hFe : F mg = .inr (4, [.ref mx, .ref m0, .ref m1, .ref m2, .int (nI nn), .int bb])) (hFx : F mx = .inr (0, [.ref rm, .int (nI zm), .int 0])) (hFrm : F rm = .inl (cs 16, 3000, .inl fm)) (hFm0 : F m0 = .inl (cs 16, 20, .inl e0)) (hFm1 : F m1 = .inl (cs 16, 20, .inl e1)) (hFm2 : F m2 = .inl (cs 16, 20, .inl e2)) (hz3 : zm ≤ 3000) (hn20 : nn ≤ 20) (hpos : ∀ j, j < nn → e0 j = nI (gb j) ∧ e1 j = nI (gc j) ∧ e2 j = nI (gd j) ∧ gb j < gc j ∧ gc j < gd j ∧ gd j ≤ zm) (hcl : ∀ j, j < nn → fm (gc j) = 58) (hFd : F d = .inr (2, [.ref ea, .int (nI cn)])) (hcn : cn ≤ 40) (hDI : DIRC cs F ea cn D) (hmu : μ = ρ + 5 ∨ μ = ρ + 15) (hdl : δ + 12 = ρ) : Met l yX5_read (.code yX5_read cX5_read 4 (some .int) :: tb) ({ frames := 9, cells := 0, slots := 0, locals := 197 }) (va_Pc [.ref h0, .ref mg] (PTE (dC, dI) cs ty L F sz [])) (va_Qi (fun (r : Int32) (gq : Int32 × List Nat) => (PLR (fun i => nmd F mx m0 m1 (cct [102, 114, 111, 109]) 4 i) nn (fun j9 => psW D cn (dmW (TC fm zm) (gc j9) (gd j9))) r ∧ gq.1 = r)) (fun (gq : Int32 × List Nat) T9 => ∃ F2 : Nat → va_E, ∃ u0 : Int32, ∃ u1 : Int32, ∃ u2 : Int32, QT (dC, dI) cs ty L [ρ, ρ + 1, ρ + 2, ρ + 3, ρ + 9, ρ + 72, ρ + 73] F F2 (va_A (va_pl L F) sz) T9 ∧ F2 h0 = .inr (5, [.ref d, .ref w0, .ref w1, .ref rc, .int u0, .int u1, .int u2]) ∧ (gq.1 = (-1) → TXE cs F2 w0 60 gq.2 ∧ (∃ j, j < nn ∧ nmd F mx m0 m1 (cct [102, 114, 111, 109]) 4 j ∧ dmW (TC fm zm) (gc j) (gd j) = some gq.2) ∧ u0 = nI (wnV D cn gq.2) ∧ u1 = saV D cn gq.2 ∧ u2 = skV D cn gq.2)) (va_A (va_pl L F) sz)) 0 0 (va_A (va_pl L F) sz) := by
  refine Met.ofW (cc := cX5_read) (maxL := 4) (ret := (some .int)) (by decide) rfl ?_
  intro p e s m args below meth c s₁ B hml hv
  obtain ⟨rfl, ⟨hsz, hP, hK, hD0, hE, hO⟩, hG, hX⟩ := hv
  have hx := B.exec
  have hb := B.bytes
  have hr := B.returns
  have hts : ∀ w ∈ tb, w.before _ s = true := fun w h => atoms_spec (ws := .code yX5_read cX5_read 4 (some .int) :: tb) B.pre w (List.mem_cons_of_mem _ h)
  have hown : s.vm.findClass RX5 = some m.cls := findClass_of_methodNamed B.named
  have hlocks := B.notSynchronized
  subst hsz
  have hD := hD0.self (sz := s.heap.size)
  generalize hAe : va_A (va_pl L F) s.heap.size = A at hD hG hX ⊢
  have hA : ∀ q : Nat, s.heap.size ≤ q → A q := fun q h => by rw [← hAe]; exact Or.inr h
  have hS : va_S A s.heap s.heap [] := va_S.rf
  have hR : FR ty [ρ, ρ + 1, ρ + 2, ρ + 3, ρ + 9, ρ + 72, ρ + 73] F F := FR.refl
  have hl := lv_entry ([.ref h0, .ref mg]) (n := 4) (Nat.le_of_ble_eq_true rfl)
  rw [lg_entry_eq]
  generalize (lg_sl ([.ref h0, .ref mg]) ++ List.replicate (4 - (lg_sl ([.ref h0, .ref mg])).length) Slot.unset).toArray = ls at hl ⊢
  have hl : lv_has ls 4 [(0, .ref h0), (1, .ref mg)] := hl
  obtain ⟨hi_1, ht_2, _, _, _, _, _, _⟩ := hW.pol hL_h0 hT_h0
  obtain ⟨hi_3, ht_4, hq_5⟩ := hW.bytes hL_w0 hT_w0
  obtain ⟨hi_6, ht_7, hq_8⟩ := hW.bytes hL_w1 hT_w1
  obtain ⟨_, hi_9, hi_10, hi_11, _, ht_12, ht_13, ht_14⟩ := hW.tags hL_rc hT_rc
  have ht_13 : ty ry1 = (24, ρ + 72, [40]) := ht_13
  have ht_14 : ty ry2 = (24, ρ + 73, [40]) := ht_14
  obtain ⟨hi_15, ht_16, hq_17⟩ := hW.bytes hL_rx hT_rx
  obtain ⟨_, hi_18, hi_19, hi_20, _, ht_21, ht_22, ht_23⟩ := hW.msg hL_mg hT_mg
  obtain ⟨hi_24, ht_25, hq_26⟩ := hW.bytes hL_mx hT_mx
  obtain ⟨v0_27, v1_28, v2_29, hF_30⟩ := hO.pol hL_h0 hT_h0
  obtain ⟨hi_31, ht_32⟩ := hW.dir hi_1 ht_2
  obtain ⟨f_33, hF_34, hq_35⟩ := hO.rentry hi_31 ht_32
  have hO0 := hO
  have he0 := hF_34
  refine lv_aload_n hx hb dX5_read_0 rfl (lv_at hl 1 rfl) ?_
  obtain ⟨q_36, v_37, hr_q_36, hXc_q_36⟩ := hG.2.2.2.2 ("PostGate$Policy", 45, "from", [102, 114, 111, 109]) (by decide +kernel)
  have hXc_q_36 : SXc q_36 v_37 4 (cct [102, 114, 111, 109]) A s s.heap := hXc_q_36
  have hX_q_36 : SX q_36 v_37 4 A s s.heap := hXc_q_36.sx
  obtain ⟨xo_q_36, xc_q_36, xv_q_36, xt_q_36, xn_q_36⟩ := id hXc_q_36
  have hr_q_36 : vk_R "PostGate$Policy" 45 "from" q_36 s := hr_q_36
  refine va_ldcS hx hb hown hr_q_36 dX5_read_1 ?_
  have hFc := pg_free hD hS hA
  refine va_calli (va_runV (As := [.ref q_36]) (rest := []) ⟨hx, hb, hml, hown, hts⟩ (s_X4_countOf_e l dC dI cs ty L s.heap.size F mg μ mx m0 m1 m2 q_36 v_37 4 (cct [102, 114, 111, 109]) nn bb hW hL_mg hT_mg hFe (by omega)) ⟨callB_of 1 hts (gi kt_432) rfl rfl rfl (hts _ kt_211) (hts _ kt_485) (by decide +kernel) ⟨Nat.le_of_ble_eq_true rfl, Nat.le_of_ble_eq_true rfl⟩, (hts _ kt_434), (hts _ kt_435)⟩ ⟨fun a U g mk q => ⟨q.1, PTC.calling q.2⟩, pg_recv hK hP hL_mg hFe (q := (RX4, TX4, 6)) rfl, fun U hU hWm => ⟨rfl, PTC.mk hU hWm hP hK hD hE hO hG hXc_q_36 hS hFc⟩⟩ rfl rfl hl.1 rfl (lv_room (Nat.le_of_ble_eq_true rfl)) dX5_read_3 ⟨by show _ + 0 ≤ 0; omega, by show _ + 0 ≤ 0; omega⟩) hS (fun q _ h => hFc q h) hFc (fun r_38 u t H1 locs ht hvm hw hB hz1 hk1 hS => ?_)
  obtain ⟨F_39, hB1⟩ := hB
  obtain rfl : F = F_39 := (funext (fun a => hB1.2.2.2 a List.not_mem_nil)).symm
  obtain ⟨hP, hD, hO, hR⟩ := QT.back hB1 ht hFc hR (fun q h => absurd h List.not_mem_nil)
  generalize H1 = H at hP hS ⊢
  have hw : (∃ w : Nat, r_38 = nI w ∧ CNT (fun i => nmd F mx m0 m1 (cct [102, 114, 111, 109]) 4 i) nn w) := hw
  have hw_40 := hw
  obtain ⟨wc, hwc, hcnt⟩ := hw_40
  have hwn := cntp_le nn wc hcnt
  subst hwc
  refine lv_iconst (v := 1) hx hb dX5_read_6 (by decide) ?_
  refine lv_icmp_ne (tgt := 25) hx hb dX5_read_7 (by decide) (fun c_41 => ?_) (fun c_41 => ?_)
  ·
    have hw1 : ¬ wc = 1 := fun q => c_41 (by rw [q]; rfl)
    refine lv_iconst (v := 1) hx hb dX5_read_25 (by decide) ?_
    refine W.widen (k := 0) (n := 0) (by omega) (by omega) ?_
    exact W.iret (v := 1) hx hb hr (fun t ht hWm => ⟨⟨1, ((1 : Int32), []), rfl, ⟨⟨wc, hcnt, Or.inl ⟨hw1, rfl⟩⟩, rfl⟩, ⟨F, v0_27, v1_28, v2_29, QT.mk ht hP hD hO hR, hF_30, (fun q => absurd (show (1 : Int32) = (-1) from q) (by decide))⟩⟩, hS.F ht⟩) hS.2.2 dX5_read_26
  ·
    have hw1 : wc = 1 := (nI_eq (b := 1) (by omega) (by omega)).mp c_41
    refine lv_aload_n hx hb dX5_read_10 rfl (lv_at hl 0 rfl) ?_
    refine lv_aload_n hx hb dX5_read_11 rfl (lv_at hl 1 rfl) ?_
    refine lv_aload_n hx hb dX5_read_12 rfl (lv_at hl 1 rfl) ?_
    refine va_ldcS hx hb hown hr_q_36 dX5_read_13 ?_
    refine lv_iconst (v := 0) hx hb dX5_read_15 (by decide) ?_
    have hFc := pg_free hD hS hA
    refine va_calli (va_runV (As := [.ref q_36, .int 0]) (rest := [.ref mg, .ref h0]) ⟨hx, hb, hml, hown, hts⟩ (s_X4_fieldOf_e l dC dI cs ty L H.size F mg μ mx m0 m1 m2 q_36 v_37 4 (cct [102, 114, 111, 109]) nn bb hW hL_mg hT_mg hFe (by omega) (cnt_ex nn wc hcnt (by omega))) ⟨callB_of 2 hts (gi kt_486) rfl rfl rfl (hts _ kt_211) (hts _ kt_487) (by decide +kernel) ⟨Nat.le_of_ble_eq_true rfl, Nat.le_of_ble_eq_true rfl⟩, (hts _ kt_488), (hts _ kt_489)⟩ ⟨fun a U g mk q => ⟨q.1, PTC.calling q.2⟩, pg_recv hK hP hL_mg hFe (q := (RX4, TX4, 6)) rfl, fun U hU hWm => ⟨rfl, PTC.mk hU hWm hP hK hD hE hO hG hXc_q_36 hS hFc⟩⟩ rfl rfl hl.1 rfl (lv_room (Nat.le_of_ble_eq_true rfl)) dX5_read_16 ⟨by show _ + 0 ≤ 0; omega, by show _ + 0 ≤ 0; omega⟩) hS (fun q _ h => hFc q h) hFc (fun r_44 u t H1 locs ht hvm hw hB hz1 hk1 hS => ?_)
    obtain ⟨F_45, hB1⟩ := hB
    obtain rfl : F = F_45 := (funext (fun a => hB1.2.2.2 a List.not_mem_nil)).symm
    obtain ⟨hP, hD, hO, hR⟩ := QT.back hB1 ht hFc hR (fun q h => absurd h List.not_mem_nil)
    generalize H1 = H at hP hS ⊢
    have hw : (∃ j : Nat, j < nn ∧ r_44 = nI j ∧ nmd F mx m0 m1 (cct [102, 114, 111, 109]) 4 j ∧ ∀ i, i < j → ¬ nmd F mx m0 m1 (cct [102, 114, 111, 109]) 4 i) := hw
    have hw_46 := hw
    obtain ⟨jf, hjf, hjr, hjn, hjm⟩ := hw_46
    subst hjr
    obtain ⟨q0, q1, q2, q3, q4, q5⟩ := hpos jf hjf
    have hFc := pg_free hD hS hA
    refine va_calli (va_runV (As := [.ref mg, .int (nI jf)]) (rest := []) ⟨hx, hb, hml, hown, hts⟩ (s_X5_readDomain_e l dC dI cs ty L H.size F h0 ρ d δ ea w0 w1 rc rx ry0 ry1 ry2 rw0 jf (gc jf) (gd jf) mg μ mx m0 m1 m2 rm zm nn fm e0 e1 e2 bb hW hL_h0 hT_h0 hL_w0 hT_w0 hL_mg hT_mg hL_mx hT_mx hFe hFx hFrm hFm0 hFm1 hFm2 (by omega) (by omega) (hjf) (q1) (q2) (q4) (q5) (hcl jf hjf) (⟨by omega, by omega, by omega, by omega⟩)) ⟨callB_of 2 hts (gi kt_490) rfl rfl rfl (hts _ kt_471) (hts _ kt_491) (by decide +kernel) ⟨Nat.le_of_ble_eq_true rfl, Nat.le_of_ble_eq_true rfl⟩, (hts _ kt_492), (hts _ kt_493)⟩ ⟨fun a U g mk q => ⟨q.1, PT.calling q.2⟩, pg_recv hK hP hL_h0 hF_30 (q := (RX5, TX5, 7)) rfl, fun U hU hWm => ⟨rfl, PT.mk hU hWm hP hK hD hE hO⟩⟩ rfl rfl hl.1 rfl (lv_room (Nat.le_of_ble_eq_true rfl)) dX5_read_19 ⟨by show _ + 0 ≤ 0; omega, by show _ + 0 ≤ 0; omega⟩) hS (fun q _ h => hFc q h) hFc (fun r_48 gU_47 t H1 locs ht hvm hw hB hz1 hk1 hS => ?_)
    obtain ⟨F_49, hB1, hq_50⟩ := hB
    obtain ⟨hP, hD, hO, hR⟩ := QT.back hB1 ht hFc hR (fun q h => by simp only [List.mem_cons, List.not_mem_nil, or_false] at h ⊢; omega)
    have hF_51 : F_49 mg = .inr (4, [.ref mx, .ref m0, .ref m1, .ref m2, .int (nI nn), .int bb]) := (hB1.2.2.2 mg (by rw [hT_mg]; simp only [List.mem_cons, List.not_mem_nil, or_false]; omega)).trans hFe
    have hF_52 : F_49 mx = .inr (0, [.ref rm, .int (nI zm), .int 0]) := (hB1.2.2.2 mx (by rw [hT_mx]; simp only [List.mem_cons, List.not_mem_nil, or_false]; omega)).trans hFx
    have hF_53 : F_49 rm = .inl (cs 16, 3000, .inl fm) := (hB1.2.2.2 rm (by rw [ht_25]; simp only [List.mem_cons, List.not_mem_nil, or_false]; omega)).trans hFrm
    have hF_54 : F_49 m0 = .inl (cs 16, 20, .inl e0) := (hB1.2.2.2 m0 (by rw [ht_21]; simp only [List.mem_cons, List.not_mem_nil, or_false]; omega)).trans hFm0
    have hF_55 : F_49 m1 = .inl (cs 16, 20, .inl e1) := (hB1.2.2.2 m1 (by rw [ht_22]; simp only [List.mem_cons, List.not_mem_nil, or_false]; omega)).trans hFm1
    have hF_56 : F_49 m2 = .inl (cs 16, 20, .inl e2) := (hB1.2.2.2 m2 (by rw [ht_23]; simp only [List.mem_cons, List.not_mem_nil, or_false]; omega)).trans hFm2
    have hF_57 : F_49 d = .inr (2, [.ref ea, .int (nI cn)]) := (hB1.2.2.2 d (by rw [ht_2]; simp only [List.mem_cons, List.not_mem_nil, or_false]; omega)).trans hFd
    have hF_58 : F_49 h0 = .inr (5, [.ref d, .ref w0, .ref w1, .ref rc, .int v0_27, .int v1_28, .int v2_29]) := (hB1.2.2.2 h0 (by rw [hT_h0]; simp)).trans hF_30
    have hF_59 : F_49 ea = .inl (cs 21, 40, .inr (.inr (.inr (.inr f_33)))) := (hB1.2.2.2 ea (by rw [ht_32]; simp only [List.mem_cons, List.not_mem_nil, or_false]; omega)).trans hF_34
    generalize H1 = H at hP hS ⊢
    have hw : DMP (TC fm zm) (gc jf) (gd jf) r_48 gU_47 := hw
    have hw_60 := hw
    refine lv_if_ne (tgt := 27) hx hb dX5_read_22 (by decide) (fun c_61 => ?_) (fun c_61 => ?_)
    ·
      obtain ⟨V, hVe⟩ := dmp_s hw_60 c_61
      obtain ⟨hVT, hVN⟩ := hq_50 V hVe
      obtain ⟨zv, fv, hz1, hz2, hz3v, hz4⟩ := hVT.get hO hL_w0 hT_w0
      obtain rfl := hz3v.1
      have hz1v := hz1
      refine lv_aload_n hx hb dX5_read_27 rfl (lv_at hl 0 rfl) ?_
      refine lv_iconst (v := 0) hx hb dX5_read_28 (by decide) ?_
      refine W.eq (g2 := F0 m 29 ls [.int (nI 0), .ref h0]) rfl ?_
      have hFc := pg_free hD hS hA
      refine va_callv (va_runV (As := [.int (nI 0)]) (rest := []) ⟨hx, hb, hml, hown, hts⟩ (s_X5_setPlace_e l dC dI cs ty L H.size F_49 h0 ρ d δ ea w0 w1 rc rx ry0 ry1 ry2 rw0 rw1 0 V hW hL_h0 hT_h0 hL_w0 hT_w0 hL_w1 hT_w1 (⟨_, _, _, hz1v, hz2, hz3v, hz4⟩) (Nat.zero_le _)) ⟨callB_of 1 hts (gi kt_494) rfl rfl rfl (hts _ kt_471) (hts _ kt_495) (by decide +kernel) ⟨Nat.le_of_ble_eq_true rfl, Nat.le_of_ble_eq_true rfl⟩, (hts _ kt_496), (hts _ kt_497)⟩ ⟨fun a U g mk q => ⟨q.1, PTE.calling q.2⟩, pg_recv hK hP hL_h0 hF_58 (q := (RX5, TX5, 7)) rfl, fun U hU hWm => ⟨rfl, PTE.mk hU hWm hP hK hD hE hO hG (fun x hx => absurd hx List.not_mem_nil) hS hFc⟩⟩ rfl rfl hl.1 rfl (lv_room (Nat.le_of_ble_eq_true rfl)) dX5_read_29 ⟨by show _ + 0 ≤ 0; omega, by show _ + 0 ≤ 0; omega⟩) hS (fun q _ h => hFc q h) hFc (fun u t H1 locs ht hvm hw hB hz1 hk1 hS => ?_)
      obtain ⟨F_63, hB1, hq_64⟩ := hB
      obtain ⟨hP, hD, hO, hR⟩ := QT.back hB1 ht hFc hR (fun q h => by simp only [List.mem_cons, List.not_mem_nil, or_false] at h ⊢; omega)
      have hF_65 : F_63 mg = .inr (4, [.ref mx, .ref m0, .ref m1, .ref m2, .int (nI nn), .int bb]) := (hB1.2.2.2 mg (by rw [hT_mg]; simp only [List.mem_cons, List.not_mem_nil, or_false]; omega)).trans hF_51
      have hF_66 : F_63 mx = .inr (0, [.ref rm, .int (nI zm), .int 0]) := (hB1.2.2.2 mx (by rw [hT_mx]; simp only [List.mem_cons, List.not_mem_nil, or_false]; omega)).trans hF_52
      have hF_67 : F_63 rm = .inl (cs 16, 3000, .inl fm) := (hB1.2.2.2 rm (by rw [ht_25]; simp only [List.mem_cons, List.not_mem_nil, or_false]; omega)).trans hF_53
      have hF_68 : F_63 m0 = .inl (cs 16, 20, .inl e0) := (hB1.2.2.2 m0 (by rw [ht_21]; simp only [List.mem_cons, List.not_mem_nil, or_false]; omega)).trans hF_54
      have hF_69 : F_63 m1 = .inl (cs 16, 20, .inl e1) := (hB1.2.2.2 m1 (by rw [ht_22]; simp only [List.mem_cons, List.not_mem_nil, or_false]; omega)).trans hF_55
      have hF_70 : F_63 m2 = .inl (cs 16, 20, .inl e2) := (hB1.2.2.2 m2 (by rw [ht_23]; simp only [List.mem_cons, List.not_mem_nil, or_false]; omega)).trans hF_56
      have hF_71 : F_63 d = .inr (2, [.ref ea, .int (nI cn)]) := (hB1.2.2.2 d (by rw [ht_2]; simp only [List.mem_cons, List.not_mem_nil, or_false]; omega)).trans hF_57
      have hF_72 : F_63 h0 = .inr (5, [.ref d, .ref w0, .ref w1, .ref rc, .int v0_27, .int v1_28, .int v2_29]) := (hB1.2.2.2 h0 (by rw [hT_h0]; simp)).trans hF_58
      have hF_73 : F_63 ea = .inl (cs 21, 40, .inr (.inr (.inr (.inr f_33)))) := (hB1.2.2.2 ea (by rw [ht_32]; simp only [List.mem_cons, List.not_mem_nil, or_false]; omega)).trans hF_59
      have hF_74 : F_63 w0 = .inr (0, [.ref rw0, .int (nI V.length), .int 0]) := (hB1.2.2.2 w0 (by rw [hT_w0]; simp)).trans hz1v
      have hF_75 : F_63 rw0 = .inl (cs 16, 60, .inl fv) := (hB1.2.2.2 rw0 (by rw [ht_4]; simp)).trans hz2
      generalize H1 = H at hP hS ⊢
      have hG0 : TXG cs F_63 w1 60 (DMU V 0) := hq_64
      obtain ⟨yy0, ov0, fq0, hy0a, hy0b, hy0c⟩ := hG0.get hO hL_w1 hT_w1
      have hyy0 : yy0 ≤ 60 := by have h9 := hy0c.1; omega
      have hDI2 := DIRC.fr hDI hO0 hW hi_31 ht_32 hcn hR (hF_73.trans he0.symm) (fun k hk => by simp only [List.mem_cons, List.not_mem_nil, or_false]; omega)
      refine lv_aload_n hx hb dX5_read_32 rfl (lv_at hl 0 rfl) ?_
      refine pg_get (ci := 5) (v := .ref d) (C := RX5) (T := TX5) (N := 7) hx hb hts it_5 hown hK hP hL_h0 hF_72 rfl 0 (by decide) (hts _ kt_463) (fun _ h9 => h9) rfl dX5_read_33 ?_
      refine lv_iconst (v := 3) hx hb dX5_read_36 (by decide) ?_
      refine lv_aload_n hx hb dX5_read_37 rfl (lv_at hl 0 rfl) ?_
      refine pg_get (ci := 5) (v := .ref w1) (C := RX5) (T := TX5) (N := 7) hx hb hts it_5 hown hK hP hL_h0 hF_72 rfl 2 (by decide) (hts _ kt_458) (fun _ h9 => h9) rfl dX5_read_38 ?_
      have hFc := pg_free hD hS hA
      refine va_calli (va_runV (As := [.int 3, .ref w1]) (rest := []) ⟨hx, hb, hml, hown, hts⟩ (s_X2_has_e l dC dI cs ty L H.size F_63 d δ ea w1 (ρ + 9) rw1 60 yy0 cn fq0 D 3 ov0 hW hi_1 ht_2 hL_w1 hT_w1 hF_71 (by omega) hy0a hy0b (by omega) (by omega) (hDI2)) ⟨callB_of 2 hts (gi kt_373) rfl rfl rfl (hts _ kt_103) (hts _ kt_498) (by decide +kernel) ⟨Nat.le_of_ble_eq_true rfl, Nat.le_of_ble_eq_true rfl⟩, (hts _ kt_375), (hts _ kt_376)⟩ ⟨fun a U g mk q => ⟨q.1, PT.calling q.2⟩, pg_recv hK hP hi_1 hF_71 (q := (RX2, TX2, 2)) rfl, fun U hU hWm => ⟨rfl, PT.mk hU hWm hP hK hD hE hO⟩⟩ rfl rfl hl.1 rfl (lv_room (Nat.le_of_ble_eq_true rfl)) dX5_read_41 ⟨by show _ + 0 ≤ 0; omega, by show _ + 0 ≤ 0; omega⟩) hS (fun q _ h => hFc q h) hFc (fun r_76 u t H1 locs ht hvm hw hB hz1 hk1 hS => ?_)
      obtain ⟨F_77, hB1⟩ := hB
      obtain rfl : F_63 = F_77 := (funext (fun a => hB1.2.2.2 a List.not_mem_nil)).symm
      obtain ⟨hP, hD, hO, hR⟩ := QT.back hB1 ht hFc hR (fun q h => absurd h List.not_mem_nil)
      generalize H1 = H at hP hS ⊢
      have hw : (r_76 = 1 ∧ HAS D cn 3 ov0 yy0 fq0) ∨ (r_76 = 0 ∧ ¬ HAS D cn 3 ov0 yy0 fq0) := hw
      have hw_78 := hw
      refine lv_if_eq (tgt := 49) hx hb dX5_read_44 (by decide) (fun c_79 => ?_) (fun c_79 => ?_)
      ·
        have hHS0 : ¬ HAS D cn 3 (ooU (DMU V 0)) (yU (DMU V 0)) (faU (DMU V 0)) := fun q => orp0 hw_78 c_79 ((has_u hy0c).mpr q)
        refine lv_aload_n hx hb dX5_read_49 rfl (lv_at hl 0 rfl) ?_
        refine pg_get (ci := 5) (v := .ref d) (C := RX5) (T := TX5) (N := 7) hx hb hts it_5 hown hK hP hL_h0 hF_72 rfl 0 (by decide) (hts _ kt_463) (fun _ h9 => h9) rfl dX5_read_50 ?_
        refine lv_aload_n hx hb dX5_read_53 rfl (lv_at hl 0 rfl) ?_
        refine pg_get (ci := 5) (v := .ref w1) (C := RX5) (T := TX5) (N := 7) hx hb hts it_5 hown hK hP hL_h0 hF_72 rfl 2 (by decide) (hts _ kt_458) (fun _ h9 => h9) rfl dX5_read_54 ?_
        obtain ⟨q_80, v_81, hr_q_80, hXc_q_80⟩ := hG.2.2.2.2 ("PostGate$Policy", 70, "v=DMARC1", [118, 61, 68, 77, 65, 82, 67, 49]) (by decide +kernel)
        have hXc_q_80 : SXc q_80 v_81 8 (cct [118, 61, 68, 77, 65, 82, 67, 49]) A s s.heap := hXc_q_80
        have hX_q_80 : SX q_80 v_81 8 A s s.heap := hXc_q_80.sx
        obtain ⟨xo_q_80, xc_q_80, xv_q_80, xt_q_80, xn_q_80⟩ := id hXc_q_80
        have hr_q_80 : vk_R "PostGate$Policy" 70 "v=DMARC1" q_80 s := hr_q_80
        refine va_ldcS hx hb hown hr_q_80 dX5_read_57 ?_
        refine lv_iconst (v := 0) hx hb dX5_read_59 (by decide) ?_
        have hFc := pg_free hD hS hA
        refine va_calli (va_runV (As := [.ref w1, .ref q_80, .int 0]) (rest := []) ⟨hx, hb, hml, hown, hts⟩ (s_X2_onlyText_f l dC dI cs ty L H.size F_63 d δ ea w1 (ρ + 9) rw1 60 q_80 v_81 8 (cct [118, 61, 68, 77, 65, 82, 67, 49]) yy0 cn fq0 D ov0 DMS hW hi_1 ht_2 hL_w1 hT_w1 hF_71 (by omega) hy0a hy0b (by omega) (by omega) (hDI2) (⟨rfl, by decide +kernel⟩)) ⟨callB_of 3 hts (gi kt_499) rfl rfl rfl (hts _ kt_103) (hts _ kt_500) (by decide +kernel) ⟨Nat.le_of_ble_eq_true rfl, Nat.le_of_ble_eq_true rfl⟩, (hts _ kt_501), (hts _ kt_502)⟩ ⟨fun a U g mk q => ⟨q.1, PTC.calling q.2⟩, pg_recv hK hP hi_1 hF_71 (q := (RX2, TX2, 2)) rfl, fun U hU hWm => ⟨rfl, PTC.mk hU hWm hP hK hD hE hO hG hXc_q_80 hS hFc⟩⟩ rfl rfl hl.1 rfl (lv_room (Nat.le_of_ble_eq_true rfl)) dX5_read_60 ⟨by show _ + 0 ≤ 0; omega, by show _ + 0 ≤ 0; omega⟩) hS (fun q _ h => hFc q h) hFc (fun r_82 u t H1 locs ht hvm hw hB hz1 hk1 hS => ?_)
        obtain ⟨F_83, hB1⟩ := hB
        obtain rfl : F_63 = F_83 := (funext (fun a => hB1.2.2.2 a List.not_mem_nil)).symm
        obtain ⟨hP, hD, hO, hR⟩ := QT.back hB1 ht hFc hR (fun q h => absurd h List.not_mem_nil)
        generalize H1 = H at hP hS ⊢
        have hw : r_82 = otv (OTR ov0 yy0 fq0 8 DMS) D cn := hw
        have hw_84 := hw
        have hot0 : r_82 = otU D cn (DMU V 0) := hw_84.trans (otv_cg (otr_u hy0c) cn)
        refine lv_istore_n (lv' := [(2, .int r_82), (0, .ref h0), (1, .ref mg)]) hx hb dX5_read_63 rfl hl (by decide) rfl (fun ls hl => ?_)
        refine lv_iload_n hx hb dX5_read_64 rfl (lv_at hl 0 rfl) ?_
        refine lv_if_lt (tgt := 72) hx hb dX5_read_65 (by decide) (fun c_85 => ?_) (fun c_85 => ?_)
        ·
          have hlt0 : otU D cn (DMU V 0) < 0 := by rw [← hot0]; exact c_85
          refine lv_iconst (v := 0) hx hb dX5_read_72 (by decide) ?_
          refine lv_istore_n (lv' := [(3, .int 0), (2, .int r_82), (0, .ref h0), (1, .ref mg)]) hx hb dX5_read_73 rfl hl (by decide) rfl (fun ls hl => ?_)
          refine lv_iload_n hx hb dX5_read_74 rfl (lv_at hl 0 rfl) ?_
          refine lv_if_ne (tgt := 125) hx hb dX5_read_75 (by decide) (fun c_86 => absurd (by decide) c_86) (fun c_86 => ?_)
          refine lv_aload_n hx hb dX5_read_78 rfl (lv_at hl 2 rfl) ?_
          refine lv_aload_n hx hb dX5_read_79 rfl (lv_at hl 2 rfl) ?_
          refine pg_get (ci := 5) (v := .ref d) (C := RX5) (T := TX5) (N := 7) hx hb hts it_5 hown hK hP hL_h0 hF_72 rfl 0 (by decide) (hts _ kt_463) (fun _ h9 => h9) rfl dX5_read_80 ?_
          refine lv_aload_n hx hb dX5_read_83 rfl (lv_at hl 2 rfl) ?_
          refine pg_get (ci := 5) (v := .ref w0) (C := RX5) (T := TX5) (N := 7) hx hb hts it_5 hown hK hP hL_h0 hF_72 rfl 1 (by decide) (hts _ kt_461) (fun _ h9 => h9) rfl dX5_read_84 ?_
          have hFc := pg_free hD hS hA
          refine va_calli (va_runV (As := [.ref w0]) (rest := [.ref h0]) ⟨hx, hb, hml, hown, hts⟩ (s_X2_houseStart_e l dC dI cs ty L H.size F_63 d δ ea w0 (ρ + 1) rw0 60 V.length cn fv D hW hi_1 ht_2 hL_w0 hT_w0 hF_71 (by omega) hF_74 hF_75 (by omega) (by omega) (hDI2)) ⟨callB_of 1 hts (gi kt_102) rfl rfl rfl (hts _ kt_103) (hts _ kt_508) (by decide +kernel) ⟨Nat.le_of_ble_eq_true rfl, Nat.le_of_ble_eq_true rfl⟩, (hts _ kt_105), (hts _ kt_106)⟩ ⟨fun a U g mk q => ⟨q.1, PT.calling q.2⟩, pg_recv hK hP hi_1 hF_71 (q := (RX2, TX2, 2)) rfl, fun U hU hWm => ⟨rfl, PT.mk hU hWm hP hK hD hE hO⟩⟩ rfl rfl hl.1 rfl (lv_room (Nat.le_of_ble_eq_true rfl)) dX5_read_87 ⟨by show _ + 0 ≤ 0; omega, by show _ + 0 ≤ 0; omega⟩) hS (fun q _ h => hFc q h) hFc (fun r_87 u t H1 locs ht hvm hw hB hz1 hk1 hS => ?_)
          obtain ⟨F_88, hB1⟩ := hB
          obtain rfl : F_63 = F_88 := (funext (fun a => hB1.2.2.2 a List.not_mem_nil)).symm
          obtain ⟨hP, hD, hO, hR⟩ := QT.back hB1 ht hFc hR (fun q h => absurd h List.not_mem_nil)
          generalize H1 = H at hP hS ⊢
          have hw : r_87 = nI (HST (UND fv V.length) fv V.length D cn) := hw
          have hw_89 := hw
          have hHT : r_87 = nI (hsU D cn V) := hw_89.trans (congrArg nI (hst_eq hz3v.2.1))
          subst hHT
          have hFc := pg_free hD hS hA
          refine va_callv (va_runV (As := [.int (nI (hsU D cn V))]) (rest := []) ⟨hx, hb, hml, hown, hts⟩ (s_X5_setPlace_e l dC dI cs ty L H.size F_63 h0 ρ d δ ea w0 w1 rc rx ry0 ry1 ry2 rw0 rw1 (hsU D cn V) V hW hL_h0 hT_h0 hL_w0 hT_w0 hL_w1 hT_w1 (⟨_, _, _, hF_74, hF_75, hz3v, hz4⟩) (hst_le)) ⟨callB_of 1 hts (gi kt_494) rfl rfl rfl (hts _ kt_471) (hts _ kt_495) (by decide +kernel) ⟨Nat.le_of_ble_eq_true rfl, Nat.le_of_ble_eq_true rfl⟩, (hts _ kt_496), (hts _ kt_497)⟩ ⟨fun a U g mk q => ⟨q.1, PTE.calling q.2⟩, pg_recv hK hP hL_h0 hF_72 (q := (RX5, TX5, 7)) rfl, fun U hU hWm => ⟨rfl, PTE.mk hU hWm hP hK hD hE hO hG (fun x hx => absurd hx List.not_mem_nil) hS hFc⟩⟩ rfl rfl hl.1 rfl (lv_room (Nat.le_of_ble_eq_true rfl)) dX5_read_90 ⟨by show _ + 0 ≤ 0; omega, by show _ + 0 ≤ 0; omega⟩) hS (fun q _ h => hFc q h) hFc (fun u t H1 locs ht hvm hw hB hz1 hk1 hS => ?_)
          obtain ⟨F_91, hB1, hq_92⟩ := hB
          obtain ⟨hP, hD, hO, hR⟩ := QT.back hB1 ht hFc hR (fun q h => by simp only [List.mem_cons, List.not_mem_nil, or_false] at h ⊢; omega)
          have hF_93 : F_91 mg = .inr (4, [.ref mx, .ref m0, .ref m1, .ref m2, .int (nI nn), .int bb]) := (hB1.2.2.2 mg (by rw [hT_mg]; simp only [List.mem_cons, List.not_mem_nil, or_false]; omega)).trans hF_65
          have hF_94 : F_91 mx = .inr (0, [.ref rm, .int (nI zm), .int 0]) := (hB1.2.2.2 mx (by rw [hT_mx]; simp only [List.mem_cons, List.not_mem_nil, or_false]; omega)).trans hF_66
          have hF_95 : F_91 rm = .inl (cs 16, 3000, .inl fm) := (hB1.2.2.2 rm (by rw [ht_25]; simp only [List.mem_cons, List.not_mem_nil, or_false]; omega)).trans hF_67
          have hF_96 : F_91 m0 = .inl (cs 16, 20, .inl e0) := (hB1.2.2.2 m0 (by rw [ht_21]; simp only [List.mem_cons, List.not_mem_nil, or_false]; omega)).trans hF_68
          have hF_97 : F_91 m1 = .inl (cs 16, 20, .inl e1) := (hB1.2.2.2 m1 (by rw [ht_22]; simp only [List.mem_cons, List.not_mem_nil, or_false]; omega)).trans hF_69
          have hF_98 : F_91 m2 = .inl (cs 16, 20, .inl e2) := (hB1.2.2.2 m2 (by rw [ht_23]; simp only [List.mem_cons, List.not_mem_nil, or_false]; omega)).trans hF_70
          have hF_99 : F_91 d = .inr (2, [.ref ea, .int (nI cn)]) := (hB1.2.2.2 d (by rw [ht_2]; simp only [List.mem_cons, List.not_mem_nil, or_false]; omega)).trans hF_71
          have hF_100 : F_91 h0 = .inr (5, [.ref d, .ref w0, .ref w1, .ref rc, .int v0_27, .int v1_28, .int v2_29]) := (hB1.2.2.2 h0 (by rw [hT_h0]; simp)).trans hF_72
          have hF_101 : F_91 ea = .inl (cs 21, 40, .inr (.inr (.inr (.inr f_33)))) := (hB1.2.2.2 ea (by rw [ht_32]; simp only [List.mem_cons, List.not_mem_nil, or_false]; omega)).trans hF_73
          have hF_102 : F_91 w0 = .inr (0, [.ref rw0, .int (nI V.length), .int 0]) := (hB1.2.2.2 w0 (by rw [hT_w0]; simp)).trans hF_74
          have hF_103 : F_91 rw0 = .inl (cs 16, 60, .inl fv) := (hB1.2.2.2 rw0 (by rw [ht_4]; simp)).trans hF_75
          generalize H1 = H at hP hS ⊢
          have hG1 : TXG cs F_91 w1 60 (DMU V (hsU D cn V)) := hq_92
          obtain ⟨yy1, ov1, fq1, hy1a, hy1b, hy1c⟩ := hG1.get hO hL_w1 hT_w1
          have hyy1 : yy1 ≤ 60 := by have h9 := hy1c.1; omega
          have hDI3 := DIRC.fr hDI hO0 hW hi_31 ht_32 hcn hR (hF_101.trans he0.symm) (fun k hk => by simp only [List.mem_cons, List.not_mem_nil, or_false]; omega)
          refine lv_aload_n hx hb dX5_read_93 rfl (lv_at hl 2 rfl) ?_
          refine pg_get (ci := 5) (v := .ref d) (C := RX5) (T := TX5) (N := 7) hx hb hts it_5 hown hK hP hL_h0 hF_100 rfl 0 (by decide) (hts _ kt_463) (fun _ h9 => h9) rfl dX5_read_94 ?_
          refine lv_iconst (v := 3) hx hb dX5_read_97 (by decide) ?_
          refine lv_aload_n hx hb dX5_read_98 rfl (lv_at hl 2 rfl) ?_
          refine pg_get (ci := 5) (v := .ref w1) (C := RX5) (T := TX5) (N := 7) hx hb hts it_5 hown hK hP hL_h0 hF_100 rfl 2 (by decide) (hts _ kt_458) (fun _ h9 => h9) rfl dX5_read_99 ?_
          have hFc := pg_free hD hS hA
          refine va_calli (va_runV (As := [.int 3, .ref w1]) (rest := []) ⟨hx, hb, hml, hown, hts⟩ (s_X2_has_e l dC dI cs ty L H.size F_91 d δ ea w1 (ρ + 9) rw1 60 yy1 cn fq1 D 3 ov1 hW hi_1 ht_2 hL_w1 hT_w1 hF_99 (by omega) hy1a hy1b (by omega) (by omega) (hDI3)) ⟨callB_of 2 hts (gi kt_373) rfl rfl rfl (hts _ kt_103) (hts _ kt_498) (by decide +kernel) ⟨Nat.le_of_ble_eq_true rfl, Nat.le_of_ble_eq_true rfl⟩, (hts _ kt_375), (hts _ kt_376)⟩ ⟨fun a U g mk q => ⟨q.1, PT.calling q.2⟩, pg_recv hK hP hi_1 hF_99 (q := (RX2, TX2, 2)) rfl, fun U hU hWm => ⟨rfl, PT.mk hU hWm hP hK hD hE hO⟩⟩ rfl rfl hl.1 rfl (lv_room (Nat.le_of_ble_eq_true rfl)) dX5_read_102 ⟨by show _ + 0 ≤ 0; omega, by show _ + 0 ≤ 0; omega⟩) hS (fun q _ h => hFc q h) hFc (fun r_104 u t H1 locs ht hvm hw hB hz1 hk1 hS => ?_)
          obtain ⟨F_105, hB1⟩ := hB
          obtain rfl : F_91 = F_105 := (funext (fun a => hB1.2.2.2 a List.not_mem_nil)).symm
          obtain ⟨hP, hD, hO, hR⟩ := QT.back hB1 ht hFc hR (fun q h => absurd h List.not_mem_nil)
          generalize H1 = H at hP hS ⊢
          have hw : (r_104 = 1 ∧ HAS D cn 3 ov1 yy1 fq1) ∨ (r_104 = 0 ∧ ¬ HAS D cn 3 ov1 yy1 fq1) := hw
          have hw_106 := hw
          refine lv_if_eq (tgt := 110) hx hb dX5_read_105 (by decide) (fun c_107 => ?_) (fun c_107 => ?_)
          ·
            have hHS1 : ¬ HAS D cn 3 (ooU (DMU V (hsU D cn V))) (yU (DMU V (hsU D cn V))) (faU (DMU V (hsU D cn V))) := fun q => orp0 hw_106 c_107 ((has_u hy1c).mpr q)
            refine lv_aload_n hx hb dX5_read_110 rfl (lv_at hl 2 rfl) ?_
            refine pg_get (ci := 5) (v := .ref d) (C := RX5) (T := TX5) (N := 7) hx hb hts it_5 hown hK hP hL_h0 hF_100 rfl 0 (by decide) (hts _ kt_463) (fun _ h9 => h9) rfl dX5_read_111 ?_
            refine lv_aload_n hx hb dX5_read_114 rfl (lv_at hl 2 rfl) ?_
            refine pg_get (ci := 5) (v := .ref w1) (C := RX5) (T := TX5) (N := 7) hx hb hts it_5 hown hK hP hL_h0 hF_100 rfl 2 (by decide) (hts _ kt_458) (fun _ h9 => h9) rfl dX5_read_115 ?_
            refine va_ldcS hx hb hown hr_q_80 dX5_read_118 ?_
            refine lv_iconst (v := 0) hx hb dX5_read_120 (by decide) ?_
            have hFc := pg_free hD hS hA
            refine va_calli (va_runV (As := [.ref w1, .ref q_80, .int 0]) (rest := []) ⟨hx, hb, hml, hown, hts⟩ (s_X2_onlyText_f l dC dI cs ty L H.size F_91 d δ ea w1 (ρ + 9) rw1 60 q_80 v_81 8 (cct [118, 61, 68, 77, 65, 82, 67, 49]) yy1 cn fq1 D ov1 DMS hW hi_1 ht_2 hL_w1 hT_w1 hF_99 (by omega) hy1a hy1b (by omega) (by omega) (hDI3) (⟨rfl, by decide +kernel⟩)) ⟨callB_of 3 hts (gi kt_499) rfl rfl rfl (hts _ kt_103) (hts _ kt_500) (by decide +kernel) ⟨Nat.le_of_ble_eq_true rfl, Nat.le_of_ble_eq_true rfl⟩, (hts _ kt_501), (hts _ kt_502)⟩ ⟨fun a U g mk q => ⟨q.1, PTC.calling q.2⟩, pg_recv hK hP hi_1 hF_99 (q := (RX2, TX2, 2)) rfl, fun U hU hWm => ⟨rfl, PTC.mk hU hWm hP hK hD hE hO hG hXc_q_80 hS hFc⟩⟩ rfl rfl hl.1 rfl (lv_room (Nat.le_of_ble_eq_true rfl)) dX5_read_121 ⟨by show _ + 0 ≤ 0; omega, by show _ + 0 ≤ 0; omega⟩) hS (fun q _ h => hFc q h) hFc (fun r_108 u t H1 locs ht hvm hw hB hz1 hk1 hS => ?_)
            obtain ⟨F_109, hB1⟩ := hB
            obtain rfl : F_91 = F_109 := (funext (fun a => hB1.2.2.2 a List.not_mem_nil)).symm
            obtain ⟨hP, hD, hO, hR⟩ := QT.back hB1 ht hFc hR (fun q h => absurd h List.not_mem_nil)
            generalize H1 = H at hP hS ⊢
            have hw : r_108 = otv (OTR ov1 yy1 fq1 8 DMS) D cn := hw
            have hw_110 := hw
            have hot1 : r_108 = otU D cn (DMU V (hsU D cn V)) := hw_110.trans (otv_cg (otr_u hy1c) cn)
            refine lv_istore_n (lv' := [(2, .int r_108), (3, .int 0), (0, .ref h0), (1, .ref mg)]) hx hb dX5_read_124 rfl hl (by decide) rfl (fun ls hl => ?_)
            refine lv_iload_n hx hb dX5_read_125 rfl (lv_at hl 0 rfl) ?_
            refine lv_if_ge (tgt := 133) hx hb dX5_read_126 (by decide) (fun c_111 => ?_) (fun c_111 => ?_)
            ·
              obtain ⟨jr, hjr, hje⟩ := otU_j hot1 (Int32.not_lt.mpr c_111)
              subst hje
              refine lv_aload_n hx hb dX5_read_133 rfl (lv_at hl 2 rfl) ?_
              refine lv_aload_n hx hb dX5_read_134 rfl (lv_at hl 2 rfl) ?_
              refine pg_get (ci := 5) (v := .ref d) (C := RX5) (T := TX5) (N := 7) hx hb hts it_5 hown hK hP hL_h0 hF_100 rfl 0 (by decide) (hts _ kt_463) (fun _ h9 => h9) rfl dX5_read_135 ?_
              refine lv_iload_n hx hb dX5_read_138 rfl (lv_at hl 0 rfl) ?_
              have hFc := pg_free hD hS hA
              refine va_callr (va_runV (As := [.int (nI jr)]) (rest := [.ref h0]) ⟨hx, hb, hml, hown, hts⟩ (s_X2_valueAt_e l dC dI cs ty L H.size F_91 d δ ea jr cn D hW hi_1 ht_2 (by omega) (hjr) (hDI3)) ⟨callB_of 1 hts (gi kt_381) rfl rfl rfl (hts _ kt_103) (hts _ kt_503) (by decide +kernel) ⟨Nat.le_of_ble_eq_true rfl, Nat.le_of_ble_eq_true rfl⟩, (hts _ kt_383), (hts _ kt_384)⟩ ⟨fun a U g mk q => ⟨q.1, PT.calling q.2⟩, pg_recv hK hP hi_1 hF_99 (q := (RX2, TX2, 2)) rfl, fun U hU hWm => ⟨rfl, PT.mk hU hWm hP hK hD hE hO⟩⟩ rfl rfl hl.1 rfl (lv_room (Nat.le_of_ble_eq_true rfl)) dX5_read_139 ⟨by show _ + 0 ≤ 0; omega, by show _ + 0 ≤ 0; omega⟩) hS (fun q _ h => hFc q h) hFc (fun u r_112 t H1 locs ht hvm hw hB hz1 hk1 hS => ?_)
              obtain ⟨F_113, vr_114, μ_115, hB1, hq_116, hq_117, hq_118⟩ := hB
              obtain rfl : F_91 = F_113 := (funext (fun a => hB1.2.2.2 a List.not_mem_nil)).symm
              obtain ⟨hP, hD, hO, hR⟩ := QT.back hB1 ht hFc hR (fun q h => absurd h List.not_mem_nil)
              generalize H1 = H at hP hS ⊢
              obtain ⟨hva1, hva2, hva3, hva4⟩ := hq_118
              obtain ⟨hi_119, ht_120, hq_121⟩ := hW.bytes hq_116 hq_117
              refine lv_iload_n hx hb dX5_read_142 rfl (lv_at hl 1 rfl) ?_
              have hFc := pg_free hD hS hA
              refine va_calli (va_runV (As := [.ref r_112, .int 0]) (rest := []) ⟨hx, hb, hml, hown, hts⟩ (s_X5_readRecord_w l dC dI cs ty L H.size F_91 h0 ρ d δ ea w0 w1 rc rx ry0 ry1 ry2 r_112 μ_115 vr_114 700 rr ((D jr).2.2.2.2.1) ((D jr).2.2.2.2.2) 0 hW hL_h0 hT_h0 hq_116 hq_117 hL_rc hT_rc hL_rx hT_rx hva1 hva2 (by omega) (by omega) (hva3) (by omega)) ⟨callB_of 2 hts (gi kt_504) rfl rfl rfl (hts _ kt_471) (hts _ kt_505) (by decide +kernel) ⟨Nat.le_of_ble_eq_true rfl, Nat.le_of_ble_eq_true rfl⟩, (hts _ kt_506), (hts _ kt_507)⟩ ⟨fun a U g mk q => ⟨q.1, PTE.calling q.2⟩, pg_recv hK hP hL_h0 hF_100 (q := (RX5, TX5, 7)) rfl, fun U hU hWm => ⟨rfl, PTE.mk hU hWm hP hK hD hE hO hG (fun x hx => absurd hx List.not_mem_nil) hS hFc⟩⟩ rfl rfl hl.1 rfl (lv_room (Nat.le_of_ble_eq_true rfl)) dX5_read_143 ⟨by show _ + 0 ≤ 0; omega, by show _ + 0 ≤ 0; omega⟩) hS (fun q _ h => hFc q h) hFc (fun r_122 u t H1 locs ht hvm hw hB hz1 hk1 hS => ?_)
              obtain ⟨F_123, u0_124, u1_125, u2_126, hB1, hq_127, hq_128⟩ := hB
              obtain ⟨hP, hD, hO, hR⟩ := QT.back hB1 ht hFc hR (fun q h => by simp only [List.mem_cons, List.not_mem_nil, or_false] at h ⊢; omega)
              have hF_129 : F_123 mg = .inr (4, [.ref mx, .ref m0, .ref m1, .ref m2, .int (nI nn), .int bb]) := (hB1.2.2.2 mg (by rw [hT_mg]; simp only [List.mem_cons, List.not_mem_nil, or_false]; omega)).trans hF_93
              have hF_130 : F_123 mx = .inr (0, [.ref rm, .int (nI zm), .int 0]) := (hB1.2.2.2 mx (by rw [hT_mx]; simp only [List.mem_cons, List.not_mem_nil, or_false]; omega)).trans hF_94
              have hF_131 : F_123 rm = .inl (cs 16, 3000, .inl fm) := (hB1.2.2.2 rm (by rw [ht_25]; simp only [List.mem_cons, List.not_mem_nil, or_false]; omega)).trans hF_95
              have hF_132 : F_123 m0 = .inl (cs 16, 20, .inl e0) := (hB1.2.2.2 m0 (by rw [ht_21]; simp only [List.mem_cons, List.not_mem_nil, or_false]; omega)).trans hF_96
              have hF_133 : F_123 m1 = .inl (cs 16, 20, .inl e1) := (hB1.2.2.2 m1 (by rw [ht_22]; simp only [List.mem_cons, List.not_mem_nil, or_false]; omega)).trans hF_97
              have hF_134 : F_123 m2 = .inl (cs 16, 20, .inl e2) := (hB1.2.2.2 m2 (by rw [ht_23]; simp only [List.mem_cons, List.not_mem_nil, or_false]; omega)).trans hF_98
              have hF_135 : F_123 d = .inr (2, [.ref ea, .int (nI cn)]) := (hB1.2.2.2 d (by rw [ht_2]; simp only [List.mem_cons, List.not_mem_nil, or_false]; omega)).trans hF_99
              have hF_136 : F_123 ea = .inl (cs 21, 40, .inr (.inr (.inr (.inr f_33)))) := (hB1.2.2.2 ea (by rw [ht_32]; simp only [List.mem_cons, List.not_mem_nil, or_false]; omega)).trans hF_101
              have hF_137 : F_123 w0 = .inr (0, [.ref rw0, .int (nI V.length), .int 0]) := (hB1.2.2.2 w0 (by rw [hT_w0]; simp)).trans hF_102
              have hF_138 : F_123 rw0 = .inl (cs 16, 60, .inl fv) := (hB1.2.2.2 rw0 (by rw [ht_4]; simp)).trans hF_103
              have hF_139 : F_123 w1 = .inr (0, [.ref rw1, .int (nI yy1), .int ov1]) := (hB1.2.2.2 w1 (by rw [hT_w1]; simp)).trans hy1a
              have hF_140 : F_123 rw1 = .inl (cs 16, 60, .inl fq1) := (hB1.2.2.2 rw1 (by rw [ht_7]; simp)).trans hy1b
              generalize H1 = H at hP hS ⊢
              have hw : r_122 = rrW (TC (D jr).2.2.2.2.2 (D jr).2.2.2.2.1) (D jr).2.2.2.2.1 0 := hw
              have hw_141 := hw
              refine W.widen (k := 0) (n := 0) (by omega) (by omega) ?_
              exact W.iret (v := r_122) hx hb hr (fun t ht hWm => ⟨⟨r_122, (r_122, V), rfl, ⟨⟨wc, hcnt, Or.inr ⟨hw1, jf, hjf, hjn, hjm, by show (_ : Int32) = psW D cn (dmW (TC fm zm) (gc jf) (gd jf)); rw [← (hw_60).1, hVe]; show (_ : Int32) = pvW D cn V; unfold pvW; rw [if_neg hHS0, if_neg (show ¬ ¬ otU D cn (DMU V 0) < 0 from fun q => q hlt0), if_neg hHS1, if_neg (show ¬ otU D cn (DMU V (hsU D cn V)) < 0 from by rw [← hot1]; exact nI_pos (by omega))]; rw [rvU_j hot1 (by omega)]; exact hw_141⟩⟩, rfl⟩, ⟨F_123, u0_124, u1_125, u2_126, QT.mk ht hP hD hO hR, hq_127, (fun q => by
                  have hrr : rrW (TC (D jr).2.2.2.2.2 (D jr).2.2.2.2.1) (D jr).2.2.2.2.1 0 = (-1) := by rw [← hw_141]; exact q
                  obtain ⟨g9, hg9⟩ := rr_some hrr
                  have hg8 : tgT (kyT (D jr)) (kyY (D jr)) = some g9 := hg9
                  obtain ⟨hr1, hr2, hr3⟩ := hq_128 g9 hg9
                  have hrw := (show rwV D cn V = (jr, 0) from by unfold rwV; rw [if_neg (show ¬ ¬ otU D cn (DMU V 0) < 0 from fun q => q hlt0), ← hot1, nI_clamp (by omega)])
                  refine ⟨⟨_, _, _, hF_137, hF_138, hz3v, hz4⟩, ⟨jf, hjf, hjn, by rw [← (hw_60).1]; exact hVe⟩, ?_, ?_, ?_⟩
                  · rw [hr1]; unfold wnV; rw [hrw, (rc_of hg8).1]; rfl
                  · rw [hr2]; unfold saV; rw [hrw, (rc_of (own := 0) hg8).2]; rfl
                  · rw [hr3]; unfold skV; rw [hrw, (rc_of (own := 0) hg8).2]; rfl)⟩⟩, hS.F ht⟩) hS.2.2 dX5_read_146
            ·
              have hlt1 : otU D cn (DMU V (hsU D cn V)) < 0 := by rw [← hot1]; exact Int32.not_le.mp c_111
              refine lv_iconst (v := 0) hx hb dX5_read_129 (by decide) ?_
              refine lv_goto (tgt := 146) hx hb dX5_read_130 (by decide) ?_
              refine W.widen (k := 0) (n := 0) (by omega) (by omega) ?_
              exact W.iret (v := 0) hx hb hr (fun t ht hWm => ⟨⟨0, ((0 : Int32), V), rfl, ⟨⟨wc, hcnt, Or.inr ⟨hw1, jf, hjf, hjn, hjm, by show (_ : Int32) = psW D cn (dmW (TC fm zm) (gc jf) (gd jf)); rw [← (hw_60).1, hVe]; show (_ : Int32) = pvW D cn V; unfold pvW; rw [if_neg hHS0, if_neg (show ¬ ¬ otU D cn (DMU V 0) < 0 from fun q => q hlt0), if_neg hHS1, if_pos hlt1]⟩⟩, rfl⟩, ⟨F_91, v0_27, v1_28, v2_29, QT.mk ht hP hD hO hR, hF_100, (fun q => absurd (show (0 : Int32) = (-1) from q) (by decide))⟩⟩, hS.F ht⟩) hS.2.2 dX5_read_146
          ·
            have hHS1 : HAS D cn 3 (ooU (DMU V (hsU D cn V))) (yU (DMU V (hsU D cn V))) (faU (DMU V (hsU D cn V))) := (has_u hy1c).mp (orp1 hw_106 c_107)
            refine lv_iconst (v := 5) hx hb dX5_read_108 (by decide) ?_
            refine W.widen (k := 0) (n := 0) (by omega) (by omega) ?_
            exact W.iret (v := 5) hx hb hr (fun t ht hWm => ⟨⟨5, ((5 : Int32), V), rfl, ⟨⟨wc, hcnt, Or.inr ⟨hw1, jf, hjf, hjn, hjm, by show (_ : Int32) = psW D cn (dmW (TC fm zm) (gc jf) (gd jf)); rw [← (hw_60).1, hVe]; show (_ : Int32) = pvW D cn V; unfold pvW; rw [if_neg hHS0, if_neg (show ¬ ¬ otU D cn (DMU V 0) < 0 from fun q => q hlt0), if_pos hHS1]⟩⟩, rfl⟩, ⟨F_91, v0_27, v1_28, v2_29, QT.mk ht hP hD hO hR, hF_100, (fun q => absurd (show (5 : Int32) = (-1) from q) (by decide))⟩⟩, hS.F ht⟩) hS.2.2 dX5_read_109
        ·
          obtain ⟨jr, hjr, hje⟩ := otU_j hot0 c_85
          subst hje
          refine lv_iconst (v := 1) hx hb dX5_read_68 (by decide) ?_
          refine lv_goto (tgt := 73) hx hb dX5_read_69 (by decide) ?_
          refine lv_istore_n (lv' := [(3, .int 1), (2, .int (nI jr)), (0, .ref h0), (1, .ref mg)]) hx hb dX5_read_73 rfl hl (by decide) rfl (fun ls hl => ?_)
          refine lv_iload_n hx hb dX5_read_74 rfl (lv_at hl 0 rfl) ?_
          refine lv_if_ne (tgt := 125) hx hb dX5_read_75 (by decide) (fun c_142 => ?_) (fun c_142 => absurd c_142 (by decide))
          refine lv_iload_n hx hb dX5_read_125 rfl (lv_at hl 1 rfl) ?_
          refine lv_if_ge (tgt := 133) hx hb dX5_read_126 (by decide) (fun c_143 => ?_) (fun c_143 => absurd (Int32.not_lt.mp (nI_pos (by omega))) c_143)
          refine lv_aload_n hx hb dX5_read_133 rfl (lv_at hl 2 rfl) ?_
          refine lv_aload_n hx hb dX5_read_134 rfl (lv_at hl 2 rfl) ?_
          refine pg_get (ci := 5) (v := .ref d) (C := RX5) (T := TX5) (N := 7) hx hb hts it_5 hown hK hP hL_h0 hF_72 rfl 0 (by decide) (hts _ kt_463) (fun _ h9 => h9) rfl dX5_read_135 ?_
          refine lv_iload_n hx hb dX5_read_138 rfl (lv_at hl 1 rfl) ?_
          have hFc := pg_free hD hS hA
          refine va_callr (va_runV (As := [.int (nI jr)]) (rest := [.ref h0]) ⟨hx, hb, hml, hown, hts⟩ (s_X2_valueAt_e l dC dI cs ty L H.size F_63 d δ ea jr cn D hW hi_1 ht_2 (by omega) (hjr) (hDI2)) ⟨callB_of 1 hts (gi kt_381) rfl rfl rfl (hts _ kt_103) (hts _ kt_503) (by decide +kernel) ⟨Nat.le_of_ble_eq_true rfl, Nat.le_of_ble_eq_true rfl⟩, (hts _ kt_383), (hts _ kt_384)⟩ ⟨fun a U g mk q => ⟨q.1, PT.calling q.2⟩, pg_recv hK hP hi_1 hF_71 (q := (RX2, TX2, 2)) rfl, fun U hU hWm => ⟨rfl, PT.mk hU hWm hP hK hD hE hO⟩⟩ rfl rfl hl.1 rfl (lv_room (Nat.le_of_ble_eq_true rfl)) dX5_read_139 ⟨by show _ + 0 ≤ 0; omega, by show _ + 0 ≤ 0; omega⟩) hS (fun q _ h => hFc q h) hFc (fun u r_144 t H1 locs ht hvm hw hB hz1 hk1 hS => ?_)
          obtain ⟨F_145, vr_146, μ_147, hB1, hq_148, hq_149, hq_150⟩ := hB
          obtain rfl : F_63 = F_145 := (funext (fun a => hB1.2.2.2 a List.not_mem_nil)).symm
          obtain ⟨hP, hD, hO, hR⟩ := QT.back hB1 ht hFc hR (fun q h => absurd h List.not_mem_nil)
          generalize H1 = H at hP hS ⊢
          obtain ⟨hva1, hva2, hva3, hva4⟩ := hq_150
          obtain ⟨hi_151, ht_152, hq_153⟩ := hW.bytes hq_148 hq_149
          refine lv_iload_n hx hb dX5_read_142 rfl (lv_at hl 0 rfl) ?_
          have hFc := pg_free hD hS hA
          refine va_calli (va_runV (As := [.ref r_144, .int 1]) (rest := []) ⟨hx, hb, hml, hown, hts⟩ (s_X5_readRecord_w l dC dI cs ty L H.size F_63 h0 ρ d δ ea w0 w1 rc rx ry0 ry1 ry2 r_144 μ_147 vr_146 700 rr ((D jr).2.2.2.2.1) ((D jr).2.2.2.2.2) 1 hW hL_h0 hT_h0 hq_148 hq_149 hL_rc hT_rc hL_rx hT_rx hva1 hva2 (by omega) (by omega) (hva3) (by omega)) ⟨callB_of 2 hts (gi kt_504) rfl rfl rfl (hts _ kt_471) (hts _ kt_505) (by decide +kernel) ⟨Nat.le_of_ble_eq_true rfl, Nat.le_of_ble_eq_true rfl⟩, (hts _ kt_506), (hts _ kt_507)⟩ ⟨fun a U g mk q => ⟨q.1, PTE.calling q.2⟩, pg_recv hK hP hL_h0 hF_72 (q := (RX5, TX5, 7)) rfl, fun U hU hWm => ⟨rfl, PTE.mk hU hWm hP hK hD hE hO hG (fun x hx => absurd hx List.not_mem_nil) hS hFc⟩⟩ rfl rfl hl.1 rfl (lv_room (Nat.le_of_ble_eq_true rfl)) dX5_read_143 ⟨by show _ + 0 ≤ 0; omega, by show _ + 0 ≤ 0; omega⟩) hS (fun q _ h => hFc q h) hFc (fun r_154 u t H1 locs ht hvm hw hB hz1 hk1 hS => ?_)
          obtain ⟨F_155, u0_156, u1_157, u2_158, hB1, hq_159, hq_160⟩ := hB
          obtain ⟨hP, hD, hO, hR⟩ := QT.back hB1 ht hFc hR (fun q h => by simp only [List.mem_cons, List.not_mem_nil, or_false] at h ⊢; omega)
          have hF_161 : F_155 mg = .inr (4, [.ref mx, .ref m0, .ref m1, .ref m2, .int (nI nn), .int bb]) := (hB1.2.2.2 mg (by rw [hT_mg]; simp only [List.mem_cons, List.not_mem_nil, or_false]; omega)).trans hF_65
          have hF_162 : F_155 mx = .inr (0, [.ref rm, .int (nI zm), .int 0]) := (hB1.2.2.2 mx (by rw [hT_mx]; simp only [List.mem_cons, List.not_mem_nil, or_false]; omega)).trans hF_66
          have hF_163 : F_155 rm = .inl (cs 16, 3000, .inl fm) := (hB1.2.2.2 rm (by rw [ht_25]; simp only [List.mem_cons, List.not_mem_nil, or_false]; omega)).trans hF_67
          have hF_164 : F_155 m0 = .inl (cs 16, 20, .inl e0) := (hB1.2.2.2 m0 (by rw [ht_21]; simp only [List.mem_cons, List.not_mem_nil, or_false]; omega)).trans hF_68
          have hF_165 : F_155 m1 = .inl (cs 16, 20, .inl e1) := (hB1.2.2.2 m1 (by rw [ht_22]; simp only [List.mem_cons, List.not_mem_nil, or_false]; omega)).trans hF_69
          have hF_166 : F_155 m2 = .inl (cs 16, 20, .inl e2) := (hB1.2.2.2 m2 (by rw [ht_23]; simp only [List.mem_cons, List.not_mem_nil, or_false]; omega)).trans hF_70
          have hF_167 : F_155 d = .inr (2, [.ref ea, .int (nI cn)]) := (hB1.2.2.2 d (by rw [ht_2]; simp only [List.mem_cons, List.not_mem_nil, or_false]; omega)).trans hF_71
          have hF_168 : F_155 ea = .inl (cs 21, 40, .inr (.inr (.inr (.inr f_33)))) := (hB1.2.2.2 ea (by rw [ht_32]; simp only [List.mem_cons, List.not_mem_nil, or_false]; omega)).trans hF_73
          have hF_169 : F_155 w0 = .inr (0, [.ref rw0, .int (nI V.length), .int 0]) := (hB1.2.2.2 w0 (by rw [hT_w0]; simp)).trans hF_74
          have hF_170 : F_155 rw0 = .inl (cs 16, 60, .inl fv) := (hB1.2.2.2 rw0 (by rw [ht_4]; simp)).trans hF_75
          have hF_171 : F_155 w1 = .inr (0, [.ref rw1, .int (nI yy0), .int ov0]) := (hB1.2.2.2 w1 (by rw [hT_w1]; simp)).trans hy0a
          have hF_172 : F_155 rw1 = .inl (cs 16, 60, .inl fq0) := (hB1.2.2.2 rw1 (by rw [ht_7]; simp)).trans hy0b
          generalize H1 = H at hP hS ⊢
          have hw : r_154 = rrW (TC (D jr).2.2.2.2.2 (D jr).2.2.2.2.1) (D jr).2.2.2.2.1 1 := hw
          have hw_173 := hw
          refine W.widen (k := 0) (n := 0) (by omega) (by omega) ?_
          exact W.iret (v := r_154) hx hb hr (fun t ht hWm => ⟨⟨r_154, (r_154, V), rfl, ⟨⟨wc, hcnt, Or.inr ⟨hw1, jf, hjf, hjn, hjm, by show (_ : Int32) = psW D cn (dmW (TC fm zm) (gc jf) (gd jf)); rw [← (hw_60).1, hVe]; show (_ : Int32) = pvW D cn V; unfold pvW; rw [if_neg hHS0, if_pos (show ¬ otU D cn (DMU V 0) < 0 from by rw [← hot0]; exact nI_pos (by omega))]; rw [rvU_j hot0 (by omega)]; exact hw_173⟩⟩, rfl⟩, ⟨F_155, u0_156, u1_157, u2_158, QT.mk ht hP hD hO hR, hq_159, (fun q => by
              have hrr : rrW (TC (D jr).2.2.2.2.2 (D jr).2.2.2.2.1) (D jr).2.2.2.2.1 1 = (-1) := by rw [← hw_173]; exact q
              obtain ⟨g9, hg9⟩ := rr_some hrr
              have hg8 : tgT (kyT (D jr)) (kyY (D jr)) = some g9 := hg9
              obtain ⟨hr1, hr2, hr3⟩ := hq_160 g9 hg9
              have hrw := (show rwV D cn V = (jr, 1) from by unfold rwV; rw [if_pos (show ¬ otU D cn (DMU V 0) < 0 from by rw [← hot0]; exact nI_pos (by omega)), ← hot0, nI_clamp (by omega)])
              refine ⟨⟨_, _, _, hF_169, hF_170, hz3v, hz4⟩, ⟨jf, hjf, hjn, by rw [← (hw_60).1]; exact hVe⟩, ?_, ?_, ?_⟩
              · rw [hr1]; unfold wnV; rw [hrw, (rc_of hg8).1]; rfl
              · rw [hr2]; unfold saV; rw [hrw, (rc_of (own := 0) hg8).2]; rfl
              · rw [hr3]; unfold skV; rw [hrw, (rc_of (own := 0) hg8).2]; rfl)⟩⟩, hS.F ht⟩) hS.2.2 dX5_read_146
      ·
        have hHS0 : HAS D cn 3 (ooU (DMU V 0)) (yU (DMU V 0)) (faU (DMU V 0)) := (has_u hy0c).mp (orp1 hw_78 c_79)
        refine lv_iconst (v := 5) hx hb dX5_read_47 (by decide) ?_
        refine W.widen (k := 0) (n := 0) (by omega) (by omega) ?_
        exact W.iret (v := 5) hx hb hr (fun t ht hWm => ⟨⟨5, ((5 : Int32), V), rfl, ⟨⟨wc, hcnt, Or.inr ⟨hw1, jf, hjf, hjn, hjm, by show (_ : Int32) = psW D cn (dmW (TC fm zm) (gc jf) (gd jf)); rw [← (hw_60).1, hVe]; show (_ : Int32) = pvW D cn V; unfold pvW; rw [if_pos hHS0]⟩⟩, rfl⟩, ⟨F_63, v0_27, v1_28, v2_29, QT.mk ht hP hD hO hR, hF_72, (fun q => absurd (show (5 : Int32) = (-1) from q) (by decide))⟩⟩, hS.F ht⟩) hS.2.2 dX5_read_48
    ·
      have hgn := dmp_n hw_60 c_61
      refine lv_iconst (v := 1) hx hb dX5_read_25 (by decide) ?_
      refine W.widen (k := 0) (n := 0) (by omega) (by omega) ?_
      exact W.iret (v := 1) hx hb hr (fun t ht hWm => ⟨⟨1, ((1 : Int32), []), rfl, ⟨⟨wc, hcnt, Or.inr ⟨hw1, jf, hjf, hjn, hjm, by show (_ : Int32) = psW D cn (dmW (TC fm zm) (gc jf) (gd jf)); rw [← (hw_60).1, hgn]; rfl⟩⟩, rfl⟩, ⟨F_49, v0_27, v1_28, v2_29, QT.mk ht hP hD hO hR, hF_58, (fun q => absurd (show (1 : Int32) = (-1) from q) (by decide))⟩⟩, hS.F ht⟩) hS.2.2 dX5_read_26
set_option maxHeartbeats 4000000 in
set_option maxRecDepth 100000 in
theorem s_X11_hasAlignedSeal_e (l : Launch) (dC : Nat → ClassId) (dI : Nat → Nat → Nat) (cs : Nat → ClassId) (ty : TyM) (L : List Nat) (sz : Nat) (F : Nat → va_E) (h0 : Nat) (ρ : Nat) (ta : Nat) (ou : Nat) (di : Nat) (ea : Nat) (ck : Nat) (sl : Nat) (po : Nat) (hs : Nat) (le : Nat) (sp : Nat) (x : Nat) (y0 : Nat) (y1 : Nat) (y2 : Nat) (rx : Nat) (zm : Nat) (nn : Nat) (μ : Nat) (fm : Nat → Int32) (e0 : Nat → Int32) (e1 : Nat → Int32) (e2 : Nat → Int32) (gb : Nat → Nat) (gc : Nat → Nat) (gd : Nat → Nat) (bs : Nat) (pd : Nat) (pl : Nat) (pc : Nat) (pcx : Nat) (pc0 : Nat) (pc1 : Nat) (pc2 : Nat) (rpd : Nat) (u0 : Int32) (u1 : Int32) (u2 : Int32) (cn : Nat) (nw : Nat) (D : Nat → ETY) (V : List Nat) (hW : WT ty L) (hL_h0 : h0 ∈ L) (hT_h0 : ty h0 = (11, ρ, [ta, ou, di, ea, ck, sl, po, hs])) (hL_le : le ∈ L) (hT_le : ty le = (4, μ, [x, y0, y1, y2])) (hL_x : x ∈ L) (hT_x : ty x = (0, μ + 1, [rx, 3000])) (hL_po : po ∈ L) (hT_po : ty po = (5, ρ + 15, [di, ρ + 3, ea, pd, pl, pc, pcx, pc0, pc1, pc2])) (hL_pd : pd ∈ L) (hT_pd : ty pd = (0, ρ + 16, [rpd, 60])) (hF0 : F h0 = .inr (11, [.ref ta, .ref ou, .ref di, .ref ck, .ref sl, .ref po, .ref hs, .ref le, .ref sp])) (hFe : F le = .inr (4, [.ref x, .ref y0, .ref y1, .ref y2, .int (nI nn), .int (nI bs)])) (hFx : F x = .inr (0, [.ref rx, .int (nI zm), .int 0])) (hFrm : F rx = .inl (cs 16, 3000, .inl fm)) (hFm0 : F y0 = .inl (cs 16, 20, .inl e0)) (hFm1 : F y1 = .inl (cs 16, 20, .inl e1)) (hFm2 : F y2 = .inl (cs 16, 20, .inl e2)) (hz3 : zm ≤ 3000) (hn20 : nn ≤ 20) (hmu : μ = ρ + 20 ∨ μ = ρ + 30) (hpos : ∀ j, j < nn → e0 j = nI (gb j) ∧ e1 j = nI (gc j) ∧ e2 j = nI (gd j) ∧ gb j < gc j ∧ gc j < gd j ∧ gd j ≤ zm) (hcl : ∀ j, j < nn → fm (gc j) = 58) (hord : ∀ j, j + 1 < nn → gd j ≤ gb (j + 1)) (hbs : bs ≤ zm) (hFd : F di = .inr (2, [.ref ea, .int (nI cn)])) (hcn : cn ≤ 40) (hDI : DIRC cs F ea cn D) (hFp : F po = .inr (5, [.ref di, .ref pd, .ref pl, .ref pc, .int u0, .int u1, .int u2])) (hTV : TXE cs F pd 60 V) (hnw : nw < 2147483648) : Met l yX11_hasAlignedSeal (.code yX11_hasAlignedSeal cX11_hasAlignedSeal 3 (some .boolean) :: tb) ({ frames := 10, cells := 0, slots := 0, locals := 223 }) (va_Pc [.ref h0, .int (nI nw)] (PTE (dC, dI) cs ty L F sz [])) (va_Qi (fun (r : Int32) (_ : Unit) => HSR (fun k9 x9 => SJR fm zm nn bs k9 gb gc gd D cn nw (flT (TC fm zm) (gc k9 + 1) (gd k9 - (gc k9 + 1))) (flI (TC fm zm) (gc k9 + 1) (gd k9 - (gc k9 + 1))).length (∃ i, i < nn ∧ FRM (TC fm zm) (gb i) (gc i)) x9) (fun k9 => ALG D cn u2 (dmO (flT (TC fm zm) (gc k9 + 1) (gd k9 - (gc k9 + 1))) (flI (TC fm zm) (gc k9 + 1) (gd k9 - (gc k9 + 1))).length) V) (fun k9 => NAL (TC fm zm) (gb k9) (gc k9) DKL) nn r) (fun _ T9 => ∃ F2 : Nat → va_E, QT (dC, dI) cs ty L [ρ + 7, ρ + 8, ρ + 9, ρ + 10, ρ + 11, ρ + 12, ρ + 13, ρ + 14, ρ + 79, ρ + 80, ρ + 81, ρ + 82, ρ + 89, ρ + 90, ρ + 91, ρ + 92, ρ + 93, ρ + 94, ρ + 95, ρ + 96, ρ + 97, ρ + 98, ρ + 99, ρ + 100, ρ + 101, ρ + 102] F F2 (va_A (va_pl L F) sz) T9) (va_A (va_pl L F) sz)) 0 0 (va_A (va_pl L F) sz) := by
  refine Met.ofW (cc := cX11_hasAlignedSeal) (maxL := 3) (ret := (some .boolean)) (by decide) rfl ?_
  intro p e s m args below meth c s₁ B hml hv
  obtain ⟨rfl, ⟨hsz, hP, hK, hD0, hE, hO⟩, hG, hX⟩ := hv
  have hx := B.exec
  have hb := B.bytes
  have hr := B.returns
  have hts : ∀ w ∈ tb, w.before _ s = true := fun w h => atoms_spec (ws := .code yX11_hasAlignedSeal cX11_hasAlignedSeal 3 (some .boolean) :: tb) B.pre w (List.mem_cons_of_mem _ h)
  have hown : s.vm.findClass RX11 = some m.cls := findClass_of_methodNamed B.named
  have hlocks := B.notSynchronized
  subst hsz
  have hD := hD0.self (sz := s.heap.size)
  generalize hAe : va_A (va_pl L F) s.heap.size = A at hD hG hX ⊢
  have hA : ∀ q : Nat, s.heap.size ≤ q → A q := fun q h => by rw [← hAe]; exact Or.inr h
  have hS : va_S A s.heap s.heap [] := va_S.rf
  have hR : FR ty [ρ + 7, ρ + 8, ρ + 9, ρ + 10, ρ + 11, ρ + 12, ρ + 13, ρ + 14, ρ + 79, ρ + 80, ρ + 81, ρ + 82, ρ + 89, ρ + 90, ρ + 91, ρ + 92, ρ + 93, ρ + 94, ρ + 95, ρ + 96, ρ + 97, ρ + 98, ρ + 99, ρ + 100, ρ + 101, ρ + 102] F F := FR.refl
  have hl := lv_entry ([.ref h0, .int (nI nw)]) (n := 3) (Nat.le_of_ble_eq_true rfl)
  rw [lg_entry_eq]
  generalize (lg_sl ([.ref h0, .int (nI nw)]) ++ List.replicate (3 - (lg_sl ([.ref h0, .int (nI nw)])).length) Slot.unset).toArray = ls at hl ⊢
  have hl : lv_has ls 3 [(0, .ref h0), (1, .int (nI nw))] := hl
  obtain ⟨hi_1, ⟨r_2, ht_3⟩, hi_4, ⟨r_5, ht_6⟩, hi_7, ht_8, hi_9, ⟨w0_10, w1_11, w2_12, w3_13, nm_14, te_15, ht_16⟩, hi_17, ⟨l1_18, lx_19, ly0_20, ly1_21, ly2_22, k1_23, kx_24, ky0_25, ky1_26, ky2_27, w0_28, w1_29, w2_30, w3_31, w4_32, w5_33, w6_34, w7_35, w8_36, tk_37, h1_38, hx_39, hy_40, hw_41, pw_42, px_43, py_44, pz_45, pu_46, ht_47⟩, _, _, hi_48, ⟨hx_49, hy_50, hw_51, ht_52⟩⟩ := hW.gate hL_h0 hT_h0
  obtain ⟨_, hi_53, hi_54, hi_55, _, ht_56, ht_57, ht_58⟩ := hW.msg hL_le hT_le
  obtain ⟨hi_59, ht_60, hq_61⟩ := hW.bytes hL_x hT_x
  obtain ⟨_, _, _, _, hi_62, ⟨r_63, ht_64⟩, hi_65, ht_66⟩ := hW.pol hL_po hT_po
  have ht_64 : ty pl = (0, ρ + 24, [r_63, 60]) := ht_64
  have ht_66 : ty pc = (9, ρ + 17, [pcx, 700, pc0, pc1, pc2]) := ht_66
  obtain ⟨hi_67, ht_68, hq_69⟩ := hW.bytes hL_pd hT_pd
  obtain ⟨hi_70, ht_71⟩ := hW.dir hi_7 ht_8
  obtain ⟨f_72, hF_73, hq_74⟩ := hO.rentry hi_70 ht_71
  have hO0 := hO
  have he0 := hF_73
  obtain ⟨zv, fv, hz1v, hz2, hz3v, hz4⟩ := hTV.get hO hL_pd hT_pd
  obtain ⟨_, _, hi_75, ht_76, hi_77, ht_78, hi_79, ⟨r_80, ht_81⟩, hi_82, ⟨r_83, ht_84⟩, hi_85, ⟨r_86, ht_87⟩, hi_88, ⟨r_89, ht_90⟩, hi_91, ⟨r_92, ht_93⟩, hi_94, ⟨r_95, ht_96⟩, hi_97, ⟨r_98, ht_99⟩, hi_100, ⟨r_101, ht_102⟩, hi_103, ⟨r_104, ht_105⟩, hi_106, ht_107, hi_108, ht_109, hi_110, ht_111⟩ := hW.slr hi_17 ht_47
  have ht_76 : ty l1_18 = (9, ρ + 9, [lx_19, 3000, ly0_20, ly1_21, ly2_22]) := ht_76
  have ht_78 : ty k1_23 = (9, ρ + 11, [kx_24, 700, ky0_25, ky1_26, ky2_27]) := ht_78
  have ht_81 : ty w0_28 = (0, ρ + 89, [r_80, 60]) := ht_81
  have ht_84 : ty w1_29 = (0, ρ + 90, [r_83, 60]) := ht_84
  have ht_87 : ty w2_30 = (0, ρ + 91, [r_86, 32]) := ht_87
  have ht_90 : ty w3_31 = (0, ρ + 92, [r_89, 64]) := ht_90
  have ht_93 : ty w4_32 = (0, ρ + 93, [r_92, 64]) := ht_93
  have ht_96 : ty w5_33 = (0, ρ + 94, [r_95, 32]) := ht_96
  have ht_99 : ty w6_34 = (0, ρ + 95, [r_98, 64]) := ht_99
  have ht_102 : ty w7_35 = (0, ρ + 96, [r_101, 64]) := ht_102
  have ht_105 : ty w8_36 = (0, ρ + 97, [r_104, 6100]) := ht_105
  have ht_107 : ty tk_37 = (18, ρ + 98, [20]) := ht_107
  have ht_109 : ty h1_38 = (8, ρ + 13, [hx_39, hy_40, hw_41]) := ht_109
  have ht_111 : ty pw_42 = (6, ρ + 14, [px_43, py_44, pz_45, pu_46]) := ht_111
  obtain ⟨hi_112, hi_113, hi_114, hi_115, ⟨r_116, ht_117⟩, ht_118, ht_119, ht_120⟩ := hW.tags hi_75 ht_76
  have ht_117 : ty lx_19 = (0, ρ + 10, [r_116, 3000]) := ht_117
  have ht_119 : ty ly1_21 = (24, ρ + 79, [40]) := ht_119
  have ht_120 : ty ly2_22 = (24, ρ + 80, [40]) := ht_120
  obtain ⟨hi_121, hi_122, hi_123, hi_124, ⟨r_125, ht_126⟩, ht_127, ht_128, ht_129⟩ := hW.tags hi_77 ht_78
  have ht_126 : ty kx_24 = (0, ρ + 12, [r_125, 700]) := ht_126
  have ht_128 : ty ky1_26 = (24, ρ + 81, [40]) := ht_128
  have ht_129 : ty ky2_27 = (24, ρ + 82, [40]) := ht_129
  obtain ⟨hi_130, ht_131, hq_132⟩ := hW.bytes hi_112 ht_117
  obtain ⟨hi_133, ht_134, hq_135⟩ := hW.bytes hi_121 ht_126
  obtain ⟨hi_136, ht_137, hq_138⟩ := hW.bytes hi_79 ht_81
  obtain ⟨hi_139, ht_140, hq_141⟩ := hW.bytes hi_82 ht_84
  obtain ⟨hi_142, ht_143, hq_144⟩ := hW.bytes hi_85 ht_87
  obtain ⟨hi_145, ht_146, hq_147⟩ := hW.bytes hi_88 ht_90
  obtain ⟨hi_148, ht_149, hq_150⟩ := hW.bytes hi_91 ht_93
  obtain ⟨hi_151, ht_152, hq_153⟩ := hW.bytes hi_94 ht_96
  obtain ⟨hi_154, ht_155, hq_156⟩ := hW.bytes hi_97 ht_99
  obtain ⟨hi_157, ht_158, hq_159⟩ := hW.bytes hi_100 ht_102
  obtain ⟨hi_160, ht_161, hq_162⟩ := hW.bytes hi_103 ht_105
  obtain ⟨hi_163, hi_164, hi_165, ht_166, ht_167, ht_168⟩ := hW.sha hi_108 ht_109
  obtain ⟨hi_169, hi_170, hi_171, hi_172, ht_173, ht_174, ht_175, ht_176⟩ := hW.power hi_110 ht_111
  have ht_173 : ty px_43 = (19, ρ + 99, [16]) := ht_173
  have ht_174 : ty py_44 = (19, ρ + 100, [16]) := ht_174
  have ht_175 : ty pz_45 = (19, ρ + 101, [16]) := ht_175
  have ht_176 : ty pu_46 = (19, ρ + 102, [18]) := ht_176
  refine lv_iconst (v := 0) hx hb dX11_hasAlignedSeal_0 (by decide) ?_
  refine lv_istore_n (lv' := [(2, .int 0), (0, .ref h0), (1, .int (nI nw))]) hx hb dX11_hasAlignedSeal_1 rfl hl (by decide) rfl (fun ls hl => ?_)
  refine W.widen (k := 0) (n := 0) (by omega) (by omega) ?_
  have hF_178 : F h0 = .inr (11, [.ref ta, .ref ou, .ref di, .ref ck, .ref sl, .ref po, .ref hs, .ref le, .ref sp]) := (hR h0 (by rw [hT_h0]; simp)).symm.trans hF0
  have hF_179 : F le = .inr (4, [.ref x, .ref y0, .ref y1, .ref y2, .int (nI nn), .int (nI bs)]) := (hR le (by rw [hT_le]; simp only [List.mem_cons, List.not_mem_nil, or_false]; omega)).symm.trans hFe
  have hF_180 : F x = .inr (0, [.ref rx, .int (nI zm), .int 0]) := (hR x (by rw [hT_x]; simp only [List.mem_cons, List.not_mem_nil, or_false]; omega)).symm.trans hFx
  have hF_181 : F rx = .inl (cs 16, 3000, .inl fm) := (hR rx (by rw [ht_60]; simp only [List.mem_cons, List.not_mem_nil, or_false]; omega)).symm.trans hFrm
  have hF_182 : F y0 = .inl (cs 16, 20, .inl e0) := (hR y0 (by rw [ht_56]; simp only [List.mem_cons, List.not_mem_nil, or_false]; omega)).symm.trans hFm0
  have hF_183 : F y1 = .inl (cs 16, 20, .inl e1) := (hR y1 (by rw [ht_57]; simp only [List.mem_cons, List.not_mem_nil, or_false]; omega)).symm.trans hFm1
  have hF_184 : F y2 = .inl (cs 16, 20, .inl e2) := (hR y2 (by rw [ht_58]; simp only [List.mem_cons, List.not_mem_nil, or_false]; omega)).symm.trans hFm2
  have hF_185 : F di = .inr (2, [.ref ea, .int (nI cn)]) := (hR di (by rw [ht_8]; simp)).symm.trans hFd
  have hF_186 : F po = .inr (5, [.ref di, .ref pd, .ref pl, .ref pc, .int u0, .int u1, .int u2]) := (hR po (by rw [hT_po]; simp)).symm.trans hFp
  have hF_187 : F ea = .inl (cs 21, 40, .inr (.inr (.inr (.inr f_72)))) := (hR ea (by rw [ht_71]; simp)).symm.trans hF_73
  have hF_188 : F pd = .inr (0, [.ref rpd, .int (nI zv), .int 0]) := (hR pd (by rw [hT_pd]; simp)).symm.trans hz1v
  have hF_189 : F rpd = .inl (cs 16, 60, .inl fv) := (hR rpd (by rw [ht_68]; simp)).symm.trans hz2
  refine pl_loop (σ := Nat) A (dC, dI) cs ty L [ρ + 7, ρ + 8, ρ + 9, ρ + 10, ρ + 11, ρ + 12, ρ + 13, ρ + 14, ρ + 79, ρ + 80, ρ + 81, ρ + 82, ρ + 89, ρ + 90, ρ + 91, ρ + 92, ρ + 93, ρ + 94, ρ + 95, ρ + 96, ρ + 97, ρ + 98, ρ + 99, ρ + 100, ρ + 101, ρ + 102] F 2 3 (fun j => [(2, .int (nI j)), (0, .ref h0), (1, .int (nI nw))]) (fun j => []) (fun j FF => j ≤ nn ∧ (∀ k9, k9 < j → NAL (TC fm zm) (gb k9) (gc k9) DKL → ∃ x9, ((fun k9 x9 => SJR fm zm nn bs k9 gb gc gd D cn nw (flT (TC fm zm) (gc k9 + 1) (gd k9 - (gc k9 + 1))) (flI (TC fm zm) (gc k9 + 1) (gd k9 - (gc k9 + 1))).length (∃ i, i < nn ∧ FRM (TC fm zm) (gb i) (gc i)) x9)) k9 x9 ∧ ¬ (x9 = 2 ∧ ((fun k9 => ALG D cn u2 (dmO (flT (TC fm zm) (gc k9 + 1) (gd k9 - (gc k9 + 1))) (flI (TC fm zm) (gc k9 + 1) (gd k9 - (gc k9 + 1))).length) V)) k9)) ∧ DIRC cs FF ea cn D) (fun j => nn - j) ?_ 0 F (⟨Nat.zero_le _, fun k9 h9 => absurd h9 (Nat.not_lt_zero _), hDI⟩) hO hR _ _ hP hD hS ls (lv_sub hl [0, 1, 2] rfl)
  rintro j F_177 hv_190 hO hR ih_191 H locs hP hD hS ls hl
  have hl : lv_has ls 3 [(2, .int (nI j)), (0, .ref h0), (1, .int (nI nw))] := hl
  have hv_190 : j ≤ nn ∧ (∀ k9, k9 < j → NAL (TC fm zm) (gb k9) (gc k9) DKL → ∃ x9, ((fun k9 x9 => SJR fm zm nn bs k9 gb gc gd D cn nw (flT (TC fm zm) (gc k9 + 1) (gd k9 - (gc k9 + 1))) (flI (TC fm zm) (gc k9 + 1) (gd k9 - (gc k9 + 1))).length (∃ i, i < nn ∧ FRM (TC fm zm) (gb i) (gc i)) x9)) k9 x9 ∧ ¬ (x9 = 2 ∧ ((fun k9 => ALG D cn u2 (dmO (flT (TC fm zm) (gc k9 + 1) (gd k9 - (gc k9 + 1))) (flI (TC fm zm) (gc k9 + 1) (gd k9 - (gc k9 + 1))).length) V)) k9)) ∧ DIRC cs F_177 ea cn D := hv_190
  refine W.eq (g2 := F0 m 2 ls []) rfl ?_
  have hF_192 : F_177 h0 = .inr (11, [.ref ta, .ref ou, .ref di, .ref ck, .ref sl, .ref po, .ref hs, .ref le, .ref sp]) := (hR h0 (by rw [hT_h0]; simp)).trans hF_178
  have hF_193 : F_177 le = .inr (4, [.ref x, .ref y0, .ref y1, .ref y2, .int (nI nn), .int (nI bs)]) := (hR le (by rw [hT_le]; simp only [List.mem_cons, List.not_mem_nil, or_false]; omega)).trans hF_179
  have hF_194 : F_177 x = .inr (0, [.ref rx, .int (nI zm), .int 0]) := (hR x (by rw [hT_x]; simp only [List.mem_cons, List.not_mem_nil, or_false]; omega)).trans hF_180
  have hF_195 : F_177 rx = .inl (cs 16, 3000, .inl fm) := (hR rx (by rw [ht_60]; simp only [List.mem_cons, List.not_mem_nil, or_false]; omega)).trans hF_181
  have hF_196 : F_177 y0 = .inl (cs 16, 20, .inl e0) := (hR y0 (by rw [ht_56]; simp only [List.mem_cons, List.not_mem_nil, or_false]; omega)).trans hF_182
  have hF_197 : F_177 y1 = .inl (cs 16, 20, .inl e1) := (hR y1 (by rw [ht_57]; simp only [List.mem_cons, List.not_mem_nil, or_false]; omega)).trans hF_183
  have hF_198 : F_177 y2 = .inl (cs 16, 20, .inl e2) := (hR y2 (by rw [ht_58]; simp only [List.mem_cons, List.not_mem_nil, or_false]; omega)).trans hF_184
  have hF_199 : F_177 di = .inr (2, [.ref ea, .int (nI cn)]) := (hR di (by rw [ht_8]; simp)).trans hF_185
  have hF_200 : F_177 po = .inr (5, [.ref di, .ref pd, .ref pl, .ref pc, .int u0, .int u1, .int u2]) := (hR po (by rw [hT_po]; simp)).trans hF_186
  have hF_201 : F_177 ea = .inl (cs 21, 40, .inr (.inr (.inr (.inr f_72)))) := (hR ea (by rw [ht_71]; simp)).trans hF_187
  have hF_202 : F_177 pd = .inr (0, [.ref rpd, .int (nI zv), .int 0]) := (hR pd (by rw [hT_pd]; simp)).trans hF_188
  have hF_203 : F_177 rpd = .inl (cs 16, 60, .inl fv) := (hR rpd (by rw [ht_68]; simp)).trans hF_189
  obtain ⟨hv1, hv2, hv3⟩ := id hv_190
  refine lv_iload_n hx hb dX11_hasAlignedSeal_2 rfl (lv_at hl 0 rfl) ?_
  refine lv_aload_n hx hb dX11_hasAlignedSeal_3 rfl (lv_at hl 1 rfl) ?_
  refine pg_get (ci := 11) (v := .ref le) (C := RX11) (T := TX11) (N := 9) hx hb hts it_11 hown hK hP hL_h0 hF_192 rfl 7 (by decide) (hts _ kt_518) (fun _ h9 => h9) rfl dX11_hasAlignedSeal_4 ?_
  refine pg_getN (ci := 4) (v := .int (nI nn)) (C := RX4) (T := TX4) (N := 6) hx hb hts it_4 hown hK hP hL_le hF_193 rfl 4 (by decide) (hE.nest kn_20) (fun _ h9 => h9) rfl dX11_hasAlignedSeal_7 ?_
  refine lv_icmp_ge (tgt := 78) hx hb dX11_hasAlignedSeal_10 (by decide) (fun c_204 => ?_) (fun c_204 => ?_)
  ·
    have hi_205 : nn ≤ j := leN (N := nn) c_204
    have hjn : nn ≤ j := (nI_leI (by omega) (by omega)).mp c_204
    refine lv_iconst (v := 0) hx hb dX11_hasAlignedSeal_78 (by decide) ?_
    refine W.widen (k := 0) (n := 0) (by omega) (by omega) ?_
    exact W.zret (v := 0) (ty := .boolean) hx hb hr (by decide) (fun t ht hWm => ⟨⟨0, (), rfl, (Or.inr ⟨rfl, fun k9 h9 => hv2 k9 (by omega)⟩), ⟨F_177, QT.mk ht hP hD hO hR⟩⟩, hS.F ht⟩) hS.2.2 dX11_hasAlignedSeal_79
  ·
    have hi_206 : j < nn := ltN (N := nn) c_204
    have hjn : j < nn := Nat.not_le.mp (fun q => c_204 ((nI_leI (by omega) (by omega)).mpr q))
    refine lv_aload_n hx hb dX11_hasAlignedSeal_13 rfl (lv_at hl 1 rfl) ?_
    refine pg_get (ci := 11) (v := .ref le) (C := RX11) (T := TX11) (N := 9) hx hb hts it_11 hown hK hP hL_h0 hF_192 rfl 7 (by decide) (hts _ kt_518) (fun _ h9 => h9) rfl dX11_hasAlignedSeal_14 ?_
    refine lv_iload_n hx hb dX11_hasAlignedSeal_17 rfl (lv_at hl 0 rfl) ?_
    obtain ⟨q_207, v_208, hr_q_207, hXc_q_207⟩ := hG.2.2.2.2 ("PostGate", 112, "dkim-signature", [100, 107, 105, 109, 45, 115, 105, 103, 110, 97, 116, 117, 114, 101]) (by decide +kernel)
    have hXc_q_207 : SXc q_207 v_208 14 (cct [100, 107, 105, 109, 45, 115, 105, 103, 110, 97, 116, 117, 114, 101]) A s s.heap := hXc_q_207
    have hX_q_207 : SX q_207 v_208 14 A s s.heap := hXc_q_207.sx
    obtain ⟨xo_q_207, xc_q_207, xv_q_207, xt_q_207, xn_q_207⟩ := id hXc_q_207
    have hr_q_207 : vk_R "PostGate" 112 "dkim-signature" q_207 s := hr_q_207
    refine va_ldcS hx hb hown hr_q_207 dX11_hasAlignedSeal_18 ?_
    have hFc := pg_free hD hS hA
    refine va_calli (va_runV (As := [.int (nI j), .ref q_207]) (rest := []) ⟨hx, hb, hml, hown, hts⟩ (s_X4_isNamed_x l dC dI cs ty L H.size F_177 le μ x y0 y1 y2 q_207 v_208 14 (cct [100, 107, 105, 109, 45, 115, 105, 103, 110, 97, 116, 117, 114, 101]) nn j (nI bs) hW hL_le hT_le hF_193 (hjn) (hn20)) ⟨callB_of 2 hts (gi kt_210) rfl rfl rfl (hts _ kt_211) (hts _ kt_533) (by decide +kernel) ⟨Nat.le_of_ble_eq_true rfl, Nat.le_of_ble_eq_true rfl⟩, (hts _ kt_213), (hts _ kt_214)⟩ ⟨fun a U g mk q => ⟨q.1, PTC.calling q.2⟩, pg_recv hK hP hL_le hF_193 (q := (RX4, TX4, 6)) rfl, fun U hU hWm => ⟨rfl, PTC.mk hU hWm hP hK hD hE hO hG hXc_q_207 hS hFc⟩⟩ rfl rfl hl.1 rfl (lv_room (Nat.le_of_ble_eq_true rfl)) dX11_hasAlignedSeal_20 ⟨by show _ + 0 ≤ 0; omega, by show _ + 0 ≤ 0; omega⟩) hS (fun q _ h => hFc q h) hFc (fun r_209 u t H1 locs ht hvm hw hB hz1 hk1 hS => ?_)
    obtain ⟨F_210, hB1⟩ := hB
    obtain rfl : F_177 = F_210 := (funext (fun a => hB1.2.2.2 a List.not_mem_nil)).symm
    obtain ⟨hP, hD, hO, hR⟩ := QT.back hB1 ht hFc hR (fun q h => absurd h List.not_mem_nil)
    generalize H1 = H at hP hS ⊢
    have hw : ((r_209 = 1 ∧ nmd F_177 x y0 y1 (cct [100, 107, 105, 109, 45, 115, 105, 103, 110, 97, 116, 117, 114, 101]) 14 j) ∨ (r_209 = 0 ∧ ¬ nmd F_177 x y0 y1 (cct [100, 107, 105, 109, 45, 115, 105, 103, 110, 97, 116, 117, 114, 101]) 14 j)) := hw
    have hw_211 := hw
    refine lv_if_eq (tgt := 72) hx hb dX11_hasAlignedSeal_23 (by decide) (fun c_212 => ?_) (fun c_212 => ?_)
    ·
      have hNN : ¬ NAL (TC fm zm) (gb j) (gc j) DKL := fun q => nm0 hw_211 c_212 ((nmd_nal (l := DKL) ⟨rfl, by decide +kernel⟩ (by decide) hF_194 hF_195 hF_196 hF_197 (hpos j hjn).1 (hpos j hjn).2.1 (by omega) (hpos j hjn).2.2.2.1 (by have h9 := hpos j hjn; omega) hz3).mpr q)
      refine lv_iinc (v := (nI (j + 1))) (lv' := [(2, .int (nI (j + 1))), (0, .ref h0), (1, .int (nI nw))]) hx hb dX11_hasAlignedSeal_72 hl (k := 0) rfl (nI_1 _) (by decide) rfl (fun ls hl => ?_)
      refine lv_goto (tgt := 2) hx hb dX11_hasAlignedSeal_75 (by decide) ?_
      refine W.widen (k := 0) (n := 0) (by omega) (by omega) ?_
      exact ih_191 (j + 1) F_177 (⟨by omega, (fun k9 h9 hP9 => by rcases Nat.lt_or_ge k9 j with w9 | w9; exact hv2 k9 w9 hP9; obtain rfl : k9 = j := (by omega); exact absurd hP9 hNN), hv3⟩) (by show nn - (j + 1) < nn - j; omega) hO hR _ _ hP hD hS ls (lv_sub hl [0, 1, 2] rfl)
    ·
      have hNN : NAL (TC fm zm) (gb j) (gc j) DKL := (nmd_nal (l := DKL) ⟨rfl, by decide +kernel⟩ (by decide) hF_194 hF_195 hF_196 hF_197 (hpos j hjn).1 (hpos j hjn).2.1 (by omega) (hpos j hjn).2.2.2.1 (by have h9 := hpos j hjn; omega) hz3).mp (nm1 hw_211 c_212)
      refine lv_aload_n hx hb dX11_hasAlignedSeal_26 rfl (lv_at hl 1 rfl) ?_
      refine pg_get (ci := 11) (v := .ref sl) (C := RX11) (T := TX11) (N := 9) hx hb hts it_11 hown hK hP hL_h0 hF_192 rfl 4 (by decide) (hts _ kt_521) (fun _ h9 => h9) rfl dX11_hasAlignedSeal_27 ?_
      refine lv_aload_n hx hb dX11_hasAlignedSeal_30 rfl (lv_at hl 1 rfl) ?_
      refine pg_get (ci := 11) (v := .ref le) (C := RX11) (T := TX11) (N := 9) hx hb hts it_11 hown hK hP hL_h0 hF_192 rfl 7 (by decide) (hts _ kt_518) (fun _ h9 => h9) rfl dX11_hasAlignedSeal_31 ?_
      refine lv_iload_n hx hb dX11_hasAlignedSeal_34 rfl (lv_at hl 0 rfl) ?_
      refine lv_iload_n hx hb dX11_hasAlignedSeal_35 rfl (lv_at hl 2 rfl) ?_
      have hFc := pg_free hD hS hA
      obtain ⟨v0_213, v1_214, hF_215⟩ := hO.slr hi_17 ht_47
      refine va_calli (va_runV (As := [.ref le, .int (nI j), .int (nI nw)]) (rest := []) ⟨hx, hb, hml, hown, hts⟩ (s_X7_judge_e l dC dI cs ty L H.size F_177 sl (ρ + 7) di (ρ + 3) ea l1_18 lx_19 ly0_20 ly1_21 ly2_22 k1_23 kx_24 ky0_25 ky1_26 ky2_27 w0_28 w1_29 w2_30 w3_31 w4_32 w5_33 w6_34 w7_35 w8_36 tk_37 h1_38 hx_39 hy_40 hw_41 pw_42 px_43 py_44 pz_45 pu_46 r_116 r_125 r_80 r_83 r_86 r_89 r_92 r_95 r_98 r_101 r_104 le μ x y0 y1 y2 rx zm nn bs cn fm e0 e1 e2 gb gc gd D j nw hW hi_17 ht_47 hi_112 ht_117 hi_79 ht_81 hi_82 ht_84 hi_85 ht_87 hi_88 ht_90 hi_91 ht_93 hi_121 ht_126 hi_94 ht_96 hi_97 ht_99 hi_100 ht_102 hi_103 ht_105 hL_le hT_le hL_x hT_x hF_193 hF_194 hF_195 hF_196 hF_197 hF_198 (by omega) (by omega) (hpos) (hord) (hbs) hF_199 (hcn) (hv3) (by omega) (by omega) (hjn) (hnw)) ⟨callB_of 3 hts (gi kt_522) rfl rfl rfl (hts _ kt_322) (hts _ kt_523) (by decide +kernel) ⟨Nat.le_of_ble_eq_true rfl, Nat.le_of_ble_eq_true rfl⟩, (hts _ kt_524), (hts _ kt_525)⟩ ⟨fun a U g mk q => ⟨q.1, PTE.calling q.2⟩, pg_recv hK hP hi_17 hF_215 (q := (RX7, TX7, 17)) rfl, fun U hU hWm => ⟨rfl, PTE.mk hU hWm hP hK hD hE hO hG (fun x hx => absurd hx List.not_mem_nil) hS hFc⟩⟩ rfl rfl hl.1 rfl (lv_room (Nat.le_of_ble_eq_true rfl)) dX11_hasAlignedSeal_36 ⟨by show _ + 0 ≤ 0; omega, by show _ + 0 ≤ 0; omega⟩) hS (fun q _ h => hFc q h) hFc (fun r_216 u t H1 locs ht hvm hw hB hz1 hk1 hS => ?_)
      obtain ⟨F_217, hB1, hq_218⟩ := hB
      obtain ⟨hP, hD, hO, hR⟩ := QT.back hB1 ht hFc hR (fun q h => by simp only [List.mem_cons, List.not_mem_nil, or_false] at h ⊢; omega)
      have hF_219 : F_217 h0 = .inr (11, [.ref ta, .ref ou, .ref di, .ref ck, .ref sl, .ref po, .ref hs, .ref le, .ref sp]) := (hB1.2.2.2 h0 (by rw [hT_h0]; simp <;> omega)).trans hF_192
      have hF_220 : F_217 le = .inr (4, [.ref x, .ref y0, .ref y1, .ref y2, .int (nI nn), .int (nI bs)]) := (hB1.2.2.2 le (by rw [hT_le]; simp only [List.mem_cons, List.not_mem_nil, or_false]; omega)).trans hF_193
      have hF_221 : F_217 x = .inr (0, [.ref rx, .int (nI zm), .int 0]) := (hB1.2.2.2 x (by rw [hT_x]; simp only [List.mem_cons, List.not_mem_nil, or_false]; omega)).trans hF_194
      have hF_222 : F_217 rx = .inl (cs 16, 3000, .inl fm) := (hB1.2.2.2 rx (by rw [ht_60]; simp only [List.mem_cons, List.not_mem_nil, or_false]; omega)).trans hF_195
      have hF_223 : F_217 y0 = .inl (cs 16, 20, .inl e0) := (hB1.2.2.2 y0 (by rw [ht_56]; simp only [List.mem_cons, List.not_mem_nil, or_false]; omega)).trans hF_196
      have hF_224 : F_217 y1 = .inl (cs 16, 20, .inl e1) := (hB1.2.2.2 y1 (by rw [ht_57]; simp only [List.mem_cons, List.not_mem_nil, or_false]; omega)).trans hF_197
      have hF_225 : F_217 y2 = .inl (cs 16, 20, .inl e2) := (hB1.2.2.2 y2 (by rw [ht_58]; simp only [List.mem_cons, List.not_mem_nil, or_false]; omega)).trans hF_198
      have hF_226 : F_217 di = .inr (2, [.ref ea, .int (nI cn)]) := (hB1.2.2.2 di (by rw [ht_8]; simp <;> omega)).trans hF_199
      have hF_227 : F_217 po = .inr (5, [.ref di, .ref pd, .ref pl, .ref pc, .int u0, .int u1, .int u2]) := (hB1.2.2.2 po (by rw [hT_po]; simp <;> omega)).trans hF_200
      have hF_228 : F_217 ea = .inl (cs 21, 40, .inr (.inr (.inr (.inr f_72)))) := (hB1.2.2.2 ea (by rw [ht_71]; simp <;> omega)).trans hF_201
      have hF_229 : F_217 pd = .inr (0, [.ref rpd, .int (nI zv), .int 0]) := (hB1.2.2.2 pd (by rw [hT_pd]; simp <;> omega)).trans hF_202
      have hF_230 : F_217 rpd = .inl (cs 16, 60, .inl fv) := (hB1.2.2.2 rpd (by rw [ht_68]; simp <;> omega)).trans hF_203
      generalize H1 = H at hP hS ⊢
      have hw : SJR fm zm nn bs j gb gc gd D cn nw (flT (TC fm zm) (gc j + 1) (gd j - (gc j + 1))) (flI (TC fm zm) (gc j + 1) (gd j - (gc j + 1))).length (∃ i, i < nn ∧ FRM (TC fm zm) (gb i) (gc i)) r_216 := hw
      have hw_231 := hw
      have hSJ : ((fun k9 x9 => SJR fm zm nn bs k9 gb gc gd D cn nw (flT (TC fm zm) (gc k9 + 1) (gd k9 - (gc k9 + 1))) (flI (TC fm zm) (gc k9 + 1) (gd k9 - (gc k9 + 1))).length (∃ i, i < nn ∧ FRM (TC fm zm) (gb i) (gc i)) x9)) j r_216 := hw_231
      have hTD := hq_218
      have hDI4 := DIRC.fr hDI hO0 hW hi_70 ht_71 hcn hR (hF_228.trans he0.symm) (fun k hk => by simp only [List.mem_cons, List.not_mem_nil, or_false]; omega)
      refine lv_iconst (v := 2) hx hb dX11_hasAlignedSeal_39 (by decide) ?_
      refine lv_icmp_eq (tgt := 46) hx hb dX11_hasAlignedSeal_40 (by decide) (fun c_232 => ?_) (fun c_232 => ?_)
      ·
        obtain ⟨hFE, g9, hg9, hs9, -⟩ : (∃ i, i < nn ∧ FRM (TC fm zm) (gb i) (gc i)) ∧ ∃ gg, tgT (flT (TC fm zm) (gc j + 1) (gd j - (gc j + 1))) (flI (TC fm zm) (gc j + 1) (gd j - (gc j + 1))).length = some gg ∧ SWB (flT (TC fm zm) (gc j + 1) (gd j - (gc j + 1))) gg.2 gg.1 ∧ SJK fm zm nn bs j gb gc gd D cn nw (flT (TC fm zm) (gc j + 1) (gd j - (gc j + 1))) gg.2 gg.1 r_216 := by rcases hSJ with q | q; exact absurd (q.2.symm.trans c_232) (by decide); exact q
        obtain ⟨zd, fd, hd1, hd2, hd3, hd4⟩ := (hTD g9 hg9 hs9 hFE).get hO hi_79 ht_81
        rw [← dmO_e hg9] at hd3
        refine lv_aload_n hx hb dX11_hasAlignedSeal_46 rfl (lv_at hl 1 rfl) ?_
        refine pg_get (ci := 11) (v := .ref po) (C := RX11) (T := TX11) (N := 9) hx hb hts it_11 hown hK hP hL_h0 hF_219 rfl 5 (by decide) (hts _ kt_534) (fun _ h9 => h9) rfl dX11_hasAlignedSeal_47 ?_
        refine lv_aload_n hx hb dX11_hasAlignedSeal_50 rfl (lv_at hl 1 rfl) ?_
        refine pg_get (ci := 11) (v := .ref sl) (C := RX11) (T := TX11) (N := 9) hx hb hts it_11 hown hK hP hL_h0 hF_219 rfl 4 (by decide) (hts _ kt_521) (fun _ h9 => h9) rfl dX11_hasAlignedSeal_51 ?_
        obtain ⟨v0_233, v1_234, hF_235⟩ := hO.slr hi_17 ht_47
        refine pg_getN (ci := 7) (v := .ref w0_28) (C := RX7) (T := TX7) (N := 17) hx hb hts it_7 hown hK hP hi_17 hF_235 rfl 3 (by decide) (hE.nest kn_21) (fun _ h9 => h9) rfl dX11_hasAlignedSeal_54 ?_
        refine lv_aload_n hx hb dX11_hasAlignedSeal_57 rfl (lv_at hl 1 rfl) ?_
        refine pg_get (ci := 11) (v := .ref po) (C := RX11) (T := TX11) (N := 9) hx hb hts it_11 hown hK hP hL_h0 hF_219 rfl 5 (by decide) (hts _ kt_534) (fun _ h9 => h9) rfl dX11_hasAlignedSeal_58 ?_
        refine pg_getN (ci := 5) (v := .int u2) (C := RX5) (T := TX5) (N := 7) hx hb hts it_5 hown hK hP hL_po hF_227 rfl 6 (by decide) (hE.nest kn_22) (fun _ h9 => h9) rfl dX11_hasAlignedSeal_61 ?_
        have hFc := pg_free hD hS hA
        refine va_calli (va_runV (As := [.ref w0_28, .int u2]) (rest := []) ⟨hx, hb, hml, hown, hts⟩ (s_X5_isAligned_e l dC dI cs ty L H.size F_217 po (ρ + 15) di (ρ + 3) ea pd pl pc pcx pc0 pc1 pc2 w0_28 (ρ + 89) r_80 60 rpd zd zv cn fd fv (dmO (flT (TC fm zm) (gc j + 1) (gd j - (gc j + 1))) (flI (TC fm zm) (gc j + 1) (gd j - (gc j + 1))).length) V D u2 hW hL_po hT_po hL_pd hT_pd hi_79 ht_81 hd1 hd2 (hd3) (by omega) (by omega) hF_229 hF_230 (hz3v) (by omega) hF_226 (by omega) (hDI4)) ⟨callB_of 2 hts (gi kt_535) rfl rfl rfl (hts _ kt_471) (hts _ kt_536) (by decide +kernel) ⟨Nat.le_of_ble_eq_true rfl, Nat.le_of_ble_eq_true rfl⟩, (hts _ kt_537), (hts _ kt_538)⟩ ⟨fun a U g mk q => ⟨q.1, PT.calling q.2⟩, pg_recv hK hP hL_po hF_227 (q := (RX5, TX5, 7)) rfl, fun U hU hWm => ⟨rfl, PT.mk hU hWm hP hK hD hE hO⟩⟩ rfl rfl hl.1 rfl (lv_room (Nat.le_of_ble_eq_true rfl)) dX11_hasAlignedSeal_64 ⟨by show _ + 0 ≤ 0; omega, by show _ + 0 ≤ 0; omega⟩) hS (fun q _ h => hFc q h) hFc (fun r_236 u t H1 locs ht hvm hw hB hz1 hk1 hS => ?_)
        obtain ⟨F_237, hB1⟩ := hB
        obtain rfl : F_217 = F_237 := (funext (fun a => hB1.2.2.2 a List.not_mem_nil)).symm
        obtain ⟨hP, hD, hO, hR⟩ := QT.back hB1 ht hFc hR (fun q h => absurd h List.not_mem_nil)
        generalize H1 = H at hP hS ⊢
        have hw : (r_236 = 1 ∧ ALG D cn u2 (dmO (flT (TC fm zm) (gc j + 1) (gd j - (gc j + 1))) (flI (TC fm zm) (gc j + 1) (gd j - (gc j + 1))).length) V) ∨ (r_236 = 0 ∧ ¬ ALG D cn u2 (dmO (flT (TC fm zm) (gc j + 1) (gd j - (gc j + 1))) (flI (TC fm zm) (gc j + 1) (gd j - (gc j + 1))).length) V) := hw
        have hw_238 := hw
        refine lv_if_eq (tgt := 72) hx hb dX11_hasAlignedSeal_67 (by decide) (fun c_239 => ?_) (fun c_239 => ?_)
        ·
          refine lv_iinc (v := (nI (j + 1))) (lv' := [(2, .int (nI (j + 1))), (0, .ref h0), (1, .int (nI nw))]) hx hb dX11_hasAlignedSeal_72 hl (k := 0) rfl (nI_1 _) (by decide) rfl (fun ls hl => ?_)
          refine lv_goto (tgt := 2) hx hb dX11_hasAlignedSeal_75 (by decide) ?_
          refine W.widen (k := 0) (n := 0) (by omega) (by omega) ?_
          exact ih_191 (j + 1) F_217 (⟨by omega, (fun k9 h9 hP9 => by rcases Nat.lt_or_ge k9 j with w9 | w9; exact hv2 k9 w9 hP9; obtain rfl : k9 = j := (by omega); exact ⟨_, hSJ, fun q => orp0 hw_238 c_239 q.2⟩), hDI4⟩) (by show nn - (j + 1) < nn - j; omega) hO hR _ _ hP hD hS ls (lv_sub hl [0, 1, 2] rfl)
        ·
          refine lv_iconst (v := 1) hx hb dX11_hasAlignedSeal_70 (by decide) ?_
          refine W.widen (k := 0) (n := 0) (by omega) (by omega) ?_
          exact W.zret (v := 1) (ty := .boolean) hx hb hr (by decide) (fun t ht hWm => ⟨⟨1, (), rfl, (Or.inl ⟨rfl, j, hjn, hNN, (by have h9 := hSJ; rw [c_232] at h9; exact h9), orp1 hw_238 c_239, hv2⟩), ⟨F_217, QT.mk ht hP hD hO hR⟩⟩, hS.F ht⟩) hS.2.2 dX11_hasAlignedSeal_71
      ·
        refine lv_goto (tgt := 72) hx hb dX11_hasAlignedSeal_43 (by decide) ?_
        refine lv_iinc (v := (nI (j + 1))) (lv' := [(2, .int (nI (j + 1))), (0, .ref h0), (1, .int (nI nw))]) hx hb dX11_hasAlignedSeal_72 hl (k := 0) rfl (nI_1 _) (by decide) rfl (fun ls hl => ?_)
        refine lv_goto (tgt := 2) hx hb dX11_hasAlignedSeal_75 (by decide) ?_
        refine W.widen (k := 0) (n := 0) (by omega) (by omega) ?_
        exact ih_191 (j + 1) F_217 (⟨by omega, (fun k9 h9 hP9 => by rcases Nat.lt_or_ge k9 j with w9 | w9; exact hv2 k9 w9 hP9; obtain rfl : k9 = j := (by omega); exact ⟨_, hSJ, fun q => c_232 q.1⟩), hDI4⟩) (by show nn - (j + 1) < nn - j; omega) hO hR _ _ hP hD hS ls (lv_sub hl [0, 1, 2] rfl)
def WFN (D : Nat → ETY) (cn : Nat) (V U : List Nat) (pj : Nat) (H : Int32 → Prop) (r : Int32) : Prop := (pj = 2 ∧ ALG D cn (saV D cn V) U V ∧ r = 2) ∨ (¬ (pj = 2 ∧ ALG D cn (saV D cn V) U V) ∧ ∃ hr, H hr ∧ ((hr = 1 ∧ r = 2) ∨ (hr = 0 ∧ r = nI (wnV D cn V))))
def WSL (v1 x1 : Int32) (n : Nat) (P : Nat → Prop) (Z : Nat → Int32) (dw : Nat → Option (List Nat)) (W : List Nat → Int32 → Prop) (r : Int32) : Prop := ((v1 = 0 ∨ x1 < 0) ∧ r = (-1)) ∨ (¬ (v1 = 0 ∨ x1 < 0) ∧ n = 0 ∧ r = (-2)) ∨ (¬ (v1 = 0 ∨ x1 < 0) ∧ ¬ n = 0 ∧ ∃ ro, PLR P n Z ro ∧ ((¬ ro = (-1) ∧ r = ro) ∨ (ro = (-1) ∧ ∃ V j, j < n ∧ P j ∧ dw j = some V ∧ W V r)))
theorem hsr_1 {SJ : Nat → Int32 → Prop} {A P : Nat → Prop} {n : Nat} {r : Int32} (h : HSR SJ A P n r) (c : ¬ r = 0) : r = 1 := by
  rcases h with h | h
  · exact h.1
  · exact absurd h.1 c
theorem CHW_b9 (D : Nat → ETY) (cn : Nat) (SD : SDR) (ad : Int32) : (CHW D cn SD ad 11 SD.2.2.1 0 0).1 ≤ 6 := (CHW_b 11 _ _ _).1
set_option maxHeartbeats 4000000 in
set_option maxRecDepth 100000 in
theorem s_X11_wish_e (l : Launch) (dC : Nat → ClassId) (dI : Nat → Nat → Nat) (cs : Nat → ClassId) (ty : TyM) (L : List Nat) (sz : Nat) (F : Nat → va_E) (h0 : Nat) (ρ : Nat) (ta : Nat) (ou : Nat) (di : Nat) (ea : Nat) (ck : Nat) (sl : Nat) (po : Nat) (hs : Nat) (cn : Nat) (w0 : Nat) (w1 : Nat) (w2 : Nat) (w3 : Nat) (nm : Nat) (te : Nat) (cc : Nat) (vo : Nat) (ad : Int32) (v1 : Int32) (D : Nat → ETY) (SD : SDR) (zt : Nat) (le : Nat) (sp : Nat) (x : Nat) (y0 : Nat) (y1 : Nat) (y2 : Nat) (rx : Nat) (zm : Nat) (nn : Nat) (μ : Nat) (fm : Nat → Int32) (e0 : Nat → Int32) (e1 : Nat → Int32) (e2 : Nat → Int32) (bb : Int32) (oo : Int32) (gb : Nat → Nat) (gc : Nat → Nat) (gd : Nat → Nat) (bs : Nat) (x1 : Int32) (hW : WT ty L) (hL_h0 : h0 ∈ L) (hT_h0 : ty h0 = (11, ρ, [ta, ou, di, ea, ck, sl, po, hs])) (hL_ck : ck ∈ L) (hT_ck : ty ck = (1, ρ + 5, [di, ρ + 3, ea, w0, w1, w2, w3, nm, te])) (hL_le : le ∈ L) (hT_le : ty le = (4, μ, [x, y0, y1, y2])) (hL_x : x ∈ L) (hT_x : ty x = (0, μ + 1, [rx, 3000])) (hTS : TS F ta zt) (hcn : cn ≤ 40) (hFk : F ck = .inr (1, [.ref di, .ref w0, .ref w1, .ref w2, .ref w3, .ref nm, .ref te, .int ad, .int v1, .int (nI cc), .int (nI vo)])) (hFd : F di = .inr (2, [.ref ea, .int (nI cn)])) (hDI : DIRC cs F ea cn D) (hSD : (v1 = 0 ∨ SNP cs F w0 w1 w2 w3 SD)) (hF0 : F h0 = .inr (11, [.ref ta, .ref ou, .ref di, .ref ck, .ref sl, .ref po, .ref hs, .ref le, .ref sp])) (hFe : F le = .inr (4, [.ref x, .ref y0, .ref y1, .ref y2, .int (nI nn), .int bb])) (hFx : F x = .inr (0, [.ref rx, .int (nI zm), .int oo])) (hoo : (nn = 0 ∨ oo = 0)) (hFrm : F rx = .inl (cs 16, 3000, .inl fm)) (hFm0 : F y0 = .inl (cs 16, 20, .inl e0)) (hFm1 : F y1 = .inl (cs 16, 20, .inl e1)) (hFm2 : F y2 = .inl (cs 16, 20, .inl e2)) (hz3 : zm ≤ 3000) (hn20 : nn ≤ 20) (hmu : μ = ρ + 20 ∨ μ = ρ + 30) (hpos : ∀ j, j < nn → e0 j = nI (gb j) ∧ e1 j = nI (gc j) ∧ e2 j = nI (gd j) ∧ gb j < gc j ∧ gc j < gd j ∧ gd j ≤ zm) (hcl : ∀ j, j < nn → fm (gc j) = 58) (hord : ∀ j, j + 1 < nn → gd j ≤ gb (j + 1)) (hbs0 : nn = 0 ∨ (bb = nI bs ∧ bs ≤ zm ∧ zm ≤ 2000)) : Met l yX11_wish (.code yX11_wish cX11_wish 4 (some .int) :: tb) ({ frames := 101, cells := 0, slots := 0, locals := 2324 }) (va_Pc [.ref h0, .int x1] (PTE (dC, dI) cs ty L F sz [])) (va_Qi (fun (r : Int32) (_ : Unit) => WSL v1 x1 nn (fun i => nmd F x y0 y1 (cct [102, 114, 111, 109]) 4 i) (fun j9 => psW D cn (dmW (TC fm zm) (gc j9) (gd j9))) (fun j9 => dmW (TC fm zm) (gc j9) (gd j9)) (fun V9 r9 => WFN D cn V9 SD.2.2.1 (CHW D cn SD ad 11 SD.2.2.1 0 0).1 (fun h9 => HSR (fun k9 x9 => SJR fm zm nn bs k9 gb gc gd D cn x1.toNatClampNeg (flT (TC fm zm) (gc k9 + 1) (gd k9 - (gc k9 + 1))) (flI (TC fm zm) (gc k9 + 1) (gd k9 - (gc k9 + 1))).length (∃ i, i < nn ∧ FRM (TC fm zm) (gb i) (gc i)) x9) (fun k9 => ALG D cn (skV D cn V9) (dmO (flT (TC fm zm) (gc k9 + 1) (gd k9 - (gc k9 + 1))) (flI (TC fm zm) (gc k9 + 1) (gd k9 - (gc k9 + 1))).length) V9) (fun k9 => NAL (TC fm zm) (gb k9) (gc k9) DKL) nn h9) r9) r) (fun _ T9 => ∃ F2 : Nat → va_E, ∃ c9 : Nat, ∃ u9 : Nat, QT (dC, dI) cs ty L (chS (ρ + 5) 0 0 ++ [ρ + 7, ρ + 8, ρ + 9, ρ + 10, ρ + 11, ρ + 12, ρ + 13, ρ + 14, ρ + 15, ρ + 16, ρ + 17, ρ + 18, ρ + 24, ρ + 79, ρ + 80, ρ + 81, ρ + 82, ρ + 87, ρ + 88, ρ + 89, ρ + 90, ρ + 91, ρ + 92, ρ + 93, ρ + 94, ρ + 95, ρ + 96, ρ + 97, ρ + 98, ρ + 99, ρ + 100, ρ + 101, ρ + 102]) F F2 (va_A (va_pl L F) sz) T9 ∧ TS F2 ta zt ∧ F2 ck = .inr (1, [.ref di, .ref w0, .ref w1, .ref w2, .ref w3, .ref nm, .ref te, .int ad, .int v1, .int (nI c9), .int (nI u9)]) ∧ WCR (fun i => nmd F x y0 y1 (cct [102, 114, 111, 109]) 4 i) nn (fun j9 => psW D cn (dmW (TC fm zm) (gc j9) (gd j9))) v1 x1 cc vo (CHW D cn SD ad 11 SD.2.2.1 0 0).2 c9 u9) (va_A (va_pl L F) sz)) 0 0 (va_A (va_pl L F) sz) := by
  refine Met.ofW (cc := cX11_wish) (maxL := 4) (ret := (some .int)) (by decide) rfl ?_
  intro p e s m args below meth c s₁ B hml hv
  obtain ⟨rfl, ⟨hsz, hP, hK, hD0, hE, hO⟩, hG, hX⟩ := hv
  have hx := B.exec
  have hb := B.bytes
  have hr := B.returns
  have hts : ∀ w ∈ tb, w.before _ s = true := fun w h => atoms_spec (ws := .code yX11_wish cX11_wish 4 (some .int) :: tb) B.pre w (List.mem_cons_of_mem _ h)
  have hown : s.vm.findClass RX11 = some m.cls := findClass_of_methodNamed B.named
  have hlocks := B.notSynchronized
  subst hsz
  have hD := hD0.self (sz := s.heap.size)
  generalize hAe : va_A (va_pl L F) s.heap.size = A at hD hG hX ⊢
  have hA : ∀ q : Nat, s.heap.size ≤ q → A q := fun q h => by rw [← hAe]; exact Or.inr h
  have hS : va_S A s.heap s.heap [] := va_S.rf
  have hR : FR ty (chS (ρ + 5) 0 0 ++ [ρ + 7, ρ + 8, ρ + 9, ρ + 10, ρ + 11, ρ + 12, ρ + 13, ρ + 14, ρ + 15, ρ + 16, ρ + 17, ρ + 18, ρ + 24, ρ + 79, ρ + 80, ρ + 81, ρ + 82, ρ + 87, ρ + 88, ρ + 89, ρ + 90, ρ + 91, ρ + 92, ρ + 93, ρ + 94, ρ + 95, ρ + 96, ρ + 97, ρ + 98, ρ + 99, ρ + 100, ρ + 101, ρ + 102]) F F := FR.refl
  have hl := lv_entry ([.ref h0, .int x1]) (n := 4) (Nat.le_of_ble_eq_true rfl)
  rw [lg_entry_eq]
  generalize (lg_sl ([.ref h0, .int x1]) ++ List.replicate (4 - (lg_sl ([.ref h0, .int x1])).length) Slot.unset).toArray = ls at hl ⊢
  have hl : lv_has ls 4 [(0, .ref h0), (1, .int x1)] := hl
  obtain ⟨hi_1, ⟨r_2, ht_3⟩, hi_4, ⟨r_5, ht_6⟩, hi_7, ht_8, _, _, hi_9, ⟨l1_10, lx_11, ly0_12, ly1_13, ly2_14, k1_15, kx_16, ky0_17, ky1_18, ky2_19, w0_20, w1_21, w2_22, w3_23, w4_24, w5_25, w6_26, w7_27, w8_28, tk_29, h1_30, hx_31, hy_32, hw_33, pw_34, px_35, py_36, pz_37, pu_38, ht_39⟩, hi_40, ⟨w0_41, w1_42, rc_43, rx_44, ry0_45, ry1_46, ry2_47, ht_48⟩, hi_49, ⟨hx_50, hy_51, hw_52, ht_53⟩⟩ := hW.gate hL_h0 hT_h0
  obtain ⟨hi_54, ht_55, hq_56⟩ := hW.bytes hi_1 ht_3
  obtain ⟨z_57, o_58, hF_59, hq_60, hq_61⟩ := hO.bytes hi_1 ht_3
  have hts_62 := ts_of hF_59 hTS
  have hzt := (hTS).1
  obtain ⟨_, _, hi_63, ⟨r_64, ht_65⟩, hi_66, ⟨r_67, ht_68⟩, hi_69, ⟨r_70, ht_71⟩, hi_72, ⟨r_73, ht_74⟩, hi_75, ht_76, hi_77, ht_78⟩ := hW.chk hL_ck hT_ck
  have ht_65 : ty w0 = (0, ρ + 36, [r_64, 91]) := ht_65
  have ht_68 : ty w1 = (0, ρ + 37, [r_67, 30]) := ht_68
  have ht_71 : ty w2 = (0, ρ + 38, [r_70, 60]) := ht_71
  have ht_74 : ty w3 = (0, ρ + 39, [r_73, 15]) := ht_74
  have ht_76 : ty nm = (20, ρ + 40, [12]) := ht_76
  have ht_78 : ty te = (22, ρ + 41, [11]) := ht_78
  obtain ⟨hi_79, ht_80⟩ := hW.dir hi_7 ht_8
  obtain ⟨f_81, hF_82, hq_83⟩ := hO.rentry hi_79 ht_80
  obtain ⟨_, hi_84, hi_85, hi_86, _, ht_87, ht_88, ht_89⟩ := hW.msg hL_le hT_le
  obtain ⟨hi_90, ht_91, hq_92⟩ := hW.bytes hL_x hT_x
  have hO0 := hO
  have he0 := hF_82
  obtain ⟨hi_93, ht_94, hq_95⟩ := hW.bytes hi_63 ht_65
  obtain ⟨hi_96, ht_97, hq_98⟩ := hW.bytes hi_66 ht_68
  obtain ⟨hi_99, ht_100, hq_101⟩ := hW.bytes hi_69 ht_71
  obtain ⟨hi_102, ht_103, hq_104⟩ := hW.bytes hi_72 ht_74
  refine lv_aload_n hx hb dX11_wish_0 rfl (lv_at hl 0 rfl) ?_
  refine pg_get (ci := 11) (v := .ref ck) (C := RX11) (T := TX11) (N := 9) hx hb hts it_11 hown hK hP hL_h0 hF0 rfl 3 (by decide) (hts _ kt_517) (fun _ h9 => h9) rfl dX11_wish_1 ?_
  refine pg_getN (ci := 1) (v := .int v1) (C := RX1) (T := TX1) (N := 11) hx hb hts it_1 hown hK hP hL_ck hFk rfl 8 (by decide) (hE.nest kn_34) (fun _ h9 => h9) rfl dX11_wish_4 ?_
  refine lv_if_eq (tgt := 14) hx hb dX11_wish_7 (by decide) (fun c_105 => ?_) (fun c_105 => ?_)
  ·
    refine lv_iconst (v := (-1)) hx hb dX11_wish_14 (by decide) ?_
    refine W.widen (k := 0) (n := 0) (by omega) (by omega) ?_
    exact W.iret (v := (-1)) hx hb hr (fun t ht hWm => ⟨⟨(-1), (), rfl, (Or.inl ⟨Or.inl c_105, rfl⟩), ⟨F, cc, vo, QT.mk ht hP hD hO hR, ⟨hzt, _, hts_62⟩, hFk, (Or.inl ⟨Or.inl c_105, rfl, rfl⟩)⟩⟩, hS.F ht⟩) hS.2.2 dX11_wish_15
  ·
    refine lv_iload_n hx hb dX11_wish_10 rfl (lv_at hl 1 rfl) ?_
    refine lv_if_ge (tgt := 16) hx hb dX11_wish_11 (by decide) (fun c_106 => ?_) (fun c_106 => ?_)
    ·
      obtain ⟨nw, hnw, hxe⟩ : ∃ k, k < 2147483648 ∧ x1 = nI k := by obtain ⟨k, k1, k2⟩ := nI_of (Int32.not_lt.mpr c_106); exact ⟨k, k1, k2⟩
      have hnz : ¬ (v1 = 0 ∨ x1 < 0) := fun q => q.elim c_105 (Int32.not_lt.mpr c_106)
      refine lv_aload_n hx hb dX11_wish_16 rfl (lv_at hl 0 rfl) ?_
      refine pg_get (ci := 11) (v := .ref le) (C := RX11) (T := TX11) (N := 9) hx hb hts it_11 hown hK hP hL_h0 hF0 rfl 7 (by decide) (hts _ kt_518) (fun _ h9 => h9) rfl dX11_wish_17 ?_
      refine pg_getN (ci := 4) (v := .int (nI nn)) (C := RX4) (T := TX4) (N := 6) hx hb hts it_4 hown hK hP hL_le hFe rfl 4 (by decide) (hE.nest kn_20) (fun _ h9 => h9) rfl dX11_wish_20 ?_
      refine lv_if_ne (tgt := 29) hx hb dX11_wish_23 (by decide) (fun c_107 => ?_) (fun c_107 => ?_)
      ·
        have hn0 : ¬ nn = 0 := fun q => c_107 (by rw [q]; rfl)
        obtain ⟨hbb, hbs, hzm2⟩ := hbs0.resolve_left hn0
        subst hbb
        refine lv_aload_n hx hb dX11_wish_29 rfl (lv_at hl 0 rfl) ?_
        refine pg_get (ci := 11) (v := .ref po) (C := RX11) (T := TX11) (N := 9) hx hb hts it_11 hown hK hP hL_h0 hF0 rfl 5 (by decide) (hts _ kt_534) (fun _ h9 => h9) rfl dX11_wish_30 ?_
        refine lv_aload_n hx hb dX11_wish_33 rfl (lv_at hl 0 rfl) ?_
        refine pg_get (ci := 11) (v := .ref le) (C := RX11) (T := TX11) (N := 9) hx hb hts it_11 hown hK hP hL_h0 hF0 rfl 7 (by decide) (hts _ kt_518) (fun _ h9 => h9) rfl dX11_wish_34 ?_
        obtain rfl := hoo.resolve_left hn0
        obtain ⟨_, _, hi_109, ⟨r_110, ht_111⟩, hi_112, ⟨r_113, ht_114⟩, hi_115, ht_116⟩ := hW.pol hi_40 ht_48
        have ht_111 : ty w0_41 = (0, ρ + 16, [r_110, 60]) := ht_111
        have ht_114 : ty w1_42 = (0, ρ + 24, [r_113, 60]) := ht_114
        have ht_116 : ty rc_43 = (9, ρ + 17, [rx_44, 700, ry0_45, ry1_46, ry2_47]) := ht_116
        obtain ⟨hi_117, hi_118, hi_119, hi_120, ⟨r_121, ht_122⟩, ht_123, ht_124, ht_125⟩ := hW.tags hi_115 ht_116
        have ht_122 : ty rx_44 = (0, ρ + 18, [r_121, 700]) := ht_122
        have ht_124 : ty ry1_46 = (24, ρ + 87, [40]) := ht_124
        have ht_125 : ty ry2_47 = (24, ρ + 88, [40]) := ht_125
        obtain ⟨hi_126, ht_127, hq_128⟩ := hW.bytes hi_117 ht_122
        obtain ⟨hi_129, ht_130, hq_131⟩ := hW.bytes hi_109 ht_111
        obtain ⟨hi_132, ht_133, hq_134⟩ := hW.bytes hi_112 ht_114
        have hFc := pg_free hD hS hA
        obtain ⟨v0_135, v1_136, v2_137, hF_138⟩ := hO.pol hi_40 ht_48
        refine va_calli (va_runV (As := [.ref le]) (rest := []) ⟨hx, hb, hml, hown, hts⟩ (s_X5_read_w l dC dI cs ty L s.heap.size F po (ρ + 15) di (ρ + 3) ea w0_41 w1_42 rc_43 rx_44 ry0_45 ry1_46 ry2_47 r_110 r_113 r_121 cn le μ x y0 y1 y2 rx zm nn fm e0 e1 e2 (nI bs) gb gc gd D hW hi_40 ht_48 hi_109 ht_111 hi_112 ht_114 hi_115 ht_116 hi_117 ht_122 hL_le hT_le hL_x hT_x hFe hFx hFrm hFm0 hFm1 hFm2 (by omega) (by omega) (hpos) (hcl) hFd (by omega) (hDI) (by omega) (by omega)) ⟨callB_of 1 hts (gi kt_659) rfl rfl rfl (hts _ kt_471) (hts _ kt_660) (by decide +kernel) ⟨Nat.le_of_ble_eq_true rfl, Nat.le_of_ble_eq_true rfl⟩, (hts _ kt_661), (hts _ kt_662)⟩ ⟨fun a U g mk q => ⟨q.1, PTE.calling q.2⟩, pg_recv hK hP hi_40 hF_138 (q := (RX5, TX5, 7)) rfl, fun U hU hWm => ⟨rfl, PTE.mk hU hWm hP hK hD hE hO hG (fun x hx => absurd hx List.not_mem_nil) hS hFc⟩⟩ rfl rfl hl.1 rfl (lv_room (Nat.le_of_ble_eq_true rfl)) dX11_wish_37 ⟨by show _ + 0 ≤ 0; omega, by show _ + 0 ≤ 0; omega⟩) hS (fun q _ h => hFc q h) hFc (fun r_140 gq_139 t H1 locs ht hvm hw hB hz1 hk1 hS => ?_)
        obtain ⟨F_141, u0_142, u1_143, u2_144, hB1, hq_145, hq_146⟩ := hB
        obtain ⟨hP, hD, hO, hR⟩ := QT.back hB1 ht hFc hR (fun q h => by simp only [mem_chS, List.mem_append, List.mem_cons, List.not_mem_nil, or_false] at h ⊢; omega)
        have hF_147 : F_141 ck = .inr (1, [.ref di, .ref w0, .ref w1, .ref w2, .ref w3, .ref nm, .ref te, .int ad, .int v1, .int (nI cc), .int (nI vo)]) := (hB1.2.2.2 ck (by rw [hT_ck]; simp <;> omega)).trans hFk
        have hF_148 : F_141 di = .inr (2, [.ref ea, .int (nI cn)]) := (hB1.2.2.2 di (by rw [ht_8]; simp <;> omega)).trans hFd
        have hF_149 : F_141 h0 = .inr (11, [.ref ta, .ref ou, .ref di, .ref ck, .ref sl, .ref po, .ref hs, .ref le, .ref sp]) := (hB1.2.2.2 h0 (by rw [hT_h0]; simp <;> omega)).trans hF0
        have hF_150 : F_141 le = .inr (4, [.ref x, .ref y0, .ref y1, .ref y2, .int (nI nn), .int (nI bs)]) := (hB1.2.2.2 le (by rw [hT_le]; simp only [mem_chS, List.mem_append, List.mem_cons, List.not_mem_nil, or_false]; omega)).trans hFe
        have hF_151 : F_141 x = .inr (0, [.ref rx, .int (nI zm), .int 0]) := (hB1.2.2.2 x (by rw [hT_x]; simp only [mem_chS, List.mem_append, List.mem_cons, List.not_mem_nil, or_false]; omega)).trans hFx
        have hF_152 : F_141 rx = .inl (cs 16, 3000, .inl fm) := (hB1.2.2.2 rx (by rw [ht_91]; simp only [mem_chS, List.mem_append, List.mem_cons, List.not_mem_nil, or_false]; omega)).trans hFrm
        have hF_153 : F_141 y0 = .inl (cs 16, 20, .inl e0) := (hB1.2.2.2 y0 (by rw [ht_87]; simp only [mem_chS, List.mem_append, List.mem_cons, List.not_mem_nil, or_false]; omega)).trans hFm0
        have hF_154 : F_141 y1 = .inl (cs 16, 20, .inl e1) := (hB1.2.2.2 y1 (by rw [ht_88]; simp only [mem_chS, List.mem_append, List.mem_cons, List.not_mem_nil, or_false]; omega)).trans hFm1
        have hF_155 : F_141 y2 = .inl (cs 16, 20, .inl e2) := (hB1.2.2.2 y2 (by rw [ht_89]; simp only [mem_chS, List.mem_append, List.mem_cons, List.not_mem_nil, or_false]; omega)).trans hFm2
        have hF_156 : F_141 ta = .inr (0, [.ref r_2, .int (nI zt), .int 0]) := (hB1.2.2.2 ta (by rw [ht_3]; simp <;> omega)).trans hts_62
        have hF_157 : F_141 ea = .inl (cs 21, 40, .inr (.inr (.inr (.inr f_81)))) := (hB1.2.2.2 ea (by rw [ht_80]; simp <;> omega)).trans hF_82
        generalize H1 = H at hP hS ⊢
        have hw : (PLR (fun i => nmd F x y0 y1 (cct [102, 114, 111, 109]) 4 i) nn (fun j9 => psW D cn (dmW (TC fm zm) (gc j9) (gd j9))) r_140 ∧ gq_139.1 = r_140) := hw
        have hw_158 := hw
        obtain ⟨hPO, hgo⟩ := hw_158
        refine lv_istore_n (lv' := [(2, .int r_140), (0, .ref h0), (1, .int x1)]) hx hb dX11_wish_40 rfl hl (by decide) rfl (fun ls hl => ?_)
        refine lv_iload_n hx hb dX11_wish_41 rfl (lv_at hl 0 rfl) ?_
        refine lv_iconst (v := (-1)) hx hb dX11_wish_42 (by decide) ?_
        refine lv_icmp_eq (tgt := 48) hx hb dX11_wish_43 (by decide) (fun c_159 => ?_) (fun c_159 => ?_)
        ·
          obtain ⟨hTV, ⟨jf, hjf, hPjf, hdw⟩, hu0, hu1, hu2⟩ := hq_146 (hgo.trans c_159)
          refine lv_aload_n hx hb dX11_wish_48 rfl (lv_at hl 1 rfl) ?_
          refine pg_get (ci := 11) (v := .ref ck) (C := RX11) (T := TX11) (N := 9) hx hb hts it_11 hown hK hP hL_h0 hF_149 rfl 3 (by decide) (hts _ kt_517) (fun _ h9 => h9) rfl dX11_wish_49 ?_
          have hSD2 := (hSD.resolve_left c_105).fr hO0 hW hi_63 ht_65 hi_66 ht_68 hi_69 ht_71 hi_72 ht_74 hR (fun k9 h1 h2 => by simp only [mem_chS, List.mem_append, List.mem_cons, List.not_mem_nil, or_false]; omega)
          have hDI2 := DIRC.fr hDI hO0 hW hi_79 ht_80 hcn hR (hF_157.trans he0.symm) (fun k hk => by simp only [mem_chS, List.mem_append, List.mem_cons, List.not_mem_nil, or_false]; omega)
          obtain ⟨zv, fv, hz1v, hz2v, hz3v, hz4v⟩ := hTV.get hO hi_109 ht_111
          have hFc := pg_free hD hS hA
          refine va_calli (va_runV (As := []) (rest := []) ⟨hx, hb, hml, hown, hts⟩ (s_X1_judge_e l dC dI cs ty L H.size F_141 ck (ρ + 5) di (ρ + 3) ea w0 w1 w2 w3 nm te cc vo ad v1 cn D SD hW hL_ck hT_ck (by omega) (by omega) hF_147 hF_148 (hDI2) (hSD2)) ⟨callB_of 0 hts (gi kt_655) rfl rfl rfl (hts _ kt_572) (hts _ kt_656) (by decide +kernel) ⟨Nat.le_of_ble_eq_true rfl, Nat.le_of_ble_eq_true rfl⟩, (hts _ kt_657), (hts _ kt_658)⟩ ⟨fun a U g mk q => ⟨q.1, PTE.calling q.2⟩, pg_recv hK hP hL_ck hF_147 (q := (RX1, TX1, 11)) rfl, fun U hU hWm => ⟨rfl, PTE.mk hU hWm hP hK hD hE hO hG (fun x hx => absurd hx List.not_mem_nil) hS hFc⟩⟩ rfl rfl hl.1 rfl (lv_room (Nat.le_of_ble_eq_true rfl)) dX11_wish_52 ⟨by show _ + 0 ≤ 0; omega, by show _ + 0 ≤ 0; omega⟩) hS (fun q _ h => hFc q h) hFc (fun r_161 gp_160 t H1 locs ht hvm hw hB hz1 hk1 hS => ?_)
          obtain ⟨F_162, hB1, hq_163⟩ := hB
          obtain ⟨hP, hD, hO, hR⟩ := QT.back hB1 ht hFc hR (fun q h => by simp only [mem_chS, List.mem_append, List.mem_cons, List.not_mem_nil, or_false] at h ⊢; omega)
          have hF_164 : F_162 di = .inr (2, [.ref ea, .int (nI cn)]) := (hB1.2.2.2 di (by rw [ht_8]; simp only [mem_chS, List.mem_append, List.mem_cons, List.not_mem_nil, or_false]; omega)).trans hF_148
          have hF_165 : F_162 h0 = .inr (11, [.ref ta, .ref ou, .ref di, .ref ck, .ref sl, .ref po, .ref hs, .ref le, .ref sp]) := (hB1.2.2.2 h0 (by rw [hT_h0]; simp only [mem_chS, List.mem_append, List.mem_cons, List.not_mem_nil, or_false]; omega)).trans hF_149
          have hF_166 : F_162 le = .inr (4, [.ref x, .ref y0, .ref y1, .ref y2, .int (nI nn), .int (nI bs)]) := (hB1.2.2.2 le (by rw [hT_le]; simp only [mem_chS, List.mem_append, List.mem_cons, List.not_mem_nil, or_false]; omega)).trans hF_150
          have hF_167 : F_162 x = .inr (0, [.ref rx, .int (nI zm), .int 0]) := (hB1.2.2.2 x (by rw [hT_x]; simp only [mem_chS, List.mem_append, List.mem_cons, List.not_mem_nil, or_false]; omega)).trans hF_151
          have hF_168 : F_162 rx = .inl (cs 16, 3000, .inl fm) := (hB1.2.2.2 rx (by rw [ht_91]; simp only [mem_chS, List.mem_append, List.mem_cons, List.not_mem_nil, or_false]; omega)).trans hF_152
          have hF_169 : F_162 y0 = .inl (cs 16, 20, .inl e0) := (hB1.2.2.2 y0 (by rw [ht_87]; simp only [mem_chS, List.mem_append, List.mem_cons, List.not_mem_nil, or_false]; omega)).trans hF_153
          have hF_170 : F_162 y1 = .inl (cs 16, 20, .inl e1) := (hB1.2.2.2 y1 (by rw [ht_88]; simp only [mem_chS, List.mem_append, List.mem_cons, List.not_mem_nil, or_false]; omega)).trans hF_154
          have hF_171 : F_162 y2 = .inl (cs 16, 20, .inl e2) := (hB1.2.2.2 y2 (by rw [ht_89]; simp only [mem_chS, List.mem_append, List.mem_cons, List.not_mem_nil, or_false]; omega)).trans hF_155
          have hF_172 : F_162 ta = .inr (0, [.ref r_2, .int (nI zt), .int 0]) := (hB1.2.2.2 ta (by rw [ht_3]; simp only [mem_chS, List.mem_append, List.mem_cons, List.not_mem_nil, or_false]; omega)).trans hF_156
          have hF_173 : F_162 ea = .inl (cs 21, 40, .inr (.inr (.inr (.inr f_81)))) := (hB1.2.2.2 ea (by rw [ht_80]; simp only [mem_chS, List.mem_append, List.mem_cons, List.not_mem_nil, or_false]; omega)).trans hF_157
          have hF_174 : F_162 po = .inr (5, [.ref di, .ref w0_41, .ref w1_42, .ref rc_43, .int u0_142, .int u1_143, .int u2_144]) := (hB1.2.2.2 po (by rw [ht_48]; simp only [mem_chS, List.mem_append, List.mem_cons, List.not_mem_nil, or_false]; omega)).trans hq_145
          have hF_175 : F_162 w0_41 = .inr (0, [.ref r_110, .int (nI zv), .int 0]) := (hB1.2.2.2 w0_41 (by rw [ht_111]; simp only [mem_chS, List.mem_append, List.mem_cons, List.not_mem_nil, or_false]; omega)).trans hz1v
          have hF_176 : F_162 r_110 = .inl (cs 16, 60, .inl fv) := (hB1.2.2.2 r_110 (by rw [ht_130]; simp only [mem_chS, List.mem_append, List.mem_cons, List.not_mem_nil, or_false]; omega)).trans hz2v
          generalize H1 = H at hP hS ⊢
          have hw : (r_161 = nI (CHW D cn SD ad 11 SD.2.2.1 0 0).1 ∧ gp_160 = (CHW D cn SD ad 11 SD.2.2.1 0 0).2) := hw
          have hw_177 := hw
          have hDI3 := DIRC.fr hDI hO0 hW hi_79 ht_80 hcn hR (hF_173.trans he0.symm) (fun k hk => by simp only [mem_chS, List.mem_append, List.mem_cons, List.not_mem_nil, or_false]; omega)
          have hSD3 := (hSD.resolve_left c_105).fr hO0 hW hi_63 ht_65 hi_66 ht_68 hi_69 ht_71 hi_72 ht_74 hR (fun k9 h1 h2 => by simp only [mem_chS, List.mem_append, List.mem_cons, List.not_mem_nil, or_false]; omega)
          have hTV3 : TXE cs F_162 w0_41 60 gq_139.2 := ⟨_, _, _, hF_175, hF_176, hz3v, hz4v⟩
          refine lv_iconst (v := 2) hx hb dX11_wish_55 (by decide) ?_
          refine lv_icmp_ne (tgt := 87) hx hb dX11_wish_56 (by decide) (fun c_178 => ?_) (fun c_178 => ?_)
          ·
            have hp2 : ¬ (CHW D cn SD ad 11 SD.2.2.1 0 0).1 = 2 := fun q => c_178 (by rw [hw_177.1, q]; rfl)
            refine lv_iconst (v := 0) hx hb dX11_wish_87 (by decide) ?_
            refine lv_istore_n (lv' := [(3, .int 0), (2, .int r_140), (0, .ref h0), (1, .int x1)]) hx hb dX11_wish_88 rfl hl (by decide) rfl (fun ls hl => ?_)
            refine lv_iload_n hx hb dX11_wish_89 rfl (lv_at hl 0 rfl) ?_
            refine lv_if_ne (tgt := 101) hx hb dX11_wish_90 (by decide) (fun c_179 => absurd (by decide) c_179) (fun c_179 => ?_)
            refine lv_aload_n hx hb dX11_wish_93 rfl (lv_at hl 2 rfl) ?_
            refine lv_iload_n hx hb dX11_wish_94 rfl (lv_at hl 3 rfl) ?_
            refine W.eq (g2 := F0 m 95 ls [.int (nI nw), .ref h0]) (by rw [hxe]) ?_
            have hFc := pg_free hD hS hA
            refine va_calli (va_runV (As := [.int (nI nw)]) (rest := []) ⟨hx, hb, hml, hown, hts⟩ (s_X11_hasAlignedSeal_e l dC dI cs ty L H.size F_162 h0 ρ ta ou di ea ck sl po hs le sp x y0 y1 y2 rx zm nn μ fm e0 e1 e2 gb gc gd bs w0_41 w1_42 rc_43 rx_44 ry0_45 ry1_46 ry2_47 r_110 u0_142 u1_143 u2_144 cn nw D gq_139.2 hW hL_h0 hT_h0 hL_le hT_le hL_x hT_x hi_40 ht_48 hi_109 ht_111 hF_165 hF_166 hF_167 hF_168 hF_169 hF_170 hF_171 (by omega) (by omega) (by omega) (hpos) (hcl) (hord) (hbs) hF_164 (by omega) (hDI3) hF_174 (hTV3) (hnw)) ⟨callB_of 1 hts (gi kt_663) rfl rfl rfl (hts _ kt_664) (hts _ kt_665) (by decide +kernel) ⟨Nat.le_of_ble_eq_true rfl, Nat.le_of_ble_eq_true rfl⟩, (hts _ kt_666), (hts _ kt_667)⟩ ⟨fun a U g mk q => ⟨q.1, PTE.calling q.2⟩, pg_recv hK hP hL_h0 hF_165 (q := (RX11, TX11, 9)) rfl, fun U hU hWm => ⟨rfl, PTE.mk hU hWm hP hK hD hE hO hG (fun x hx => absurd hx List.not_mem_nil) hS hFc⟩⟩ rfl rfl hl.1 rfl (lv_room (Nat.le_of_ble_eq_true rfl)) dX11_wish_95 ⟨by show _ + 0 ≤ 0; omega, by show _ + 0 ≤ 0; omega⟩) hS (fun q _ h => hFc q h) hFc (fun r_180 u t H1 locs ht hvm hw hB hz1 hk1 hS => ?_)
            obtain ⟨F_181, hB1⟩ := hB
            obtain ⟨hP, hD, hO, hR⟩ := QT.back hB1 ht hFc hR (fun q h => by simp only [mem_chS, List.mem_append, List.mem_cons, List.not_mem_nil, or_false] at h ⊢; omega)
            have hF_182 : F_181 di = .inr (2, [.ref ea, .int (nI cn)]) := (hB1.2.2.2 di (by rw [ht_8]; simp)).trans hF_164
            have hF_183 : F_181 h0 = .inr (11, [.ref ta, .ref ou, .ref di, .ref ck, .ref sl, .ref po, .ref hs, .ref le, .ref sp]) := (hB1.2.2.2 h0 (by rw [hT_h0]; simp)).trans hF_165
            have hF_184 : F_181 le = .inr (4, [.ref x, .ref y0, .ref y1, .ref y2, .int (nI nn), .int (nI bs)]) := (hB1.2.2.2 le (by rw [hT_le]; simp only [mem_chS, List.mem_append, List.mem_cons, List.not_mem_nil, or_false]; omega)).trans hF_166
            have hF_185 : F_181 x = .inr (0, [.ref rx, .int (nI zm), .int 0]) := (hB1.2.2.2 x (by rw [hT_x]; simp only [mem_chS, List.mem_append, List.mem_cons, List.not_mem_nil, or_false]; omega)).trans hF_167
            have hF_186 : F_181 rx = .inl (cs 16, 3000, .inl fm) := (hB1.2.2.2 rx (by rw [ht_91]; simp only [mem_chS, List.mem_append, List.mem_cons, List.not_mem_nil, or_false]; omega)).trans hF_168
            have hF_187 : F_181 y0 = .inl (cs 16, 20, .inl e0) := (hB1.2.2.2 y0 (by rw [ht_87]; simp only [mem_chS, List.mem_append, List.mem_cons, List.not_mem_nil, or_false]; omega)).trans hF_169
            have hF_188 : F_181 y1 = .inl (cs 16, 20, .inl e1) := (hB1.2.2.2 y1 (by rw [ht_88]; simp only [mem_chS, List.mem_append, List.mem_cons, List.not_mem_nil, or_false]; omega)).trans hF_170
            have hF_189 : F_181 y2 = .inl (cs 16, 20, .inl e2) := (hB1.2.2.2 y2 (by rw [ht_89]; simp only [mem_chS, List.mem_append, List.mem_cons, List.not_mem_nil, or_false]; omega)).trans hF_171
            have hF_190 : F_181 ta = .inr (0, [.ref r_2, .int (nI zt), .int 0]) := (hB1.2.2.2 ta (by rw [ht_3]; simp)).trans hF_172
            have hF_191 : F_181 ea = .inl (cs 21, 40, .inr (.inr (.inr (.inr f_81)))) := (hB1.2.2.2 ea (by rw [ht_80]; simp)).trans hF_173
            have hF_192 : F_181 po = .inr (5, [.ref di, .ref w0_41, .ref w1_42, .ref rc_43, .int u0_142, .int u1_143, .int u2_144]) := (hB1.2.2.2 po (by rw [ht_48]; simp)).trans hF_174
            have hF_193 : F_181 w0_41 = .inr (0, [.ref r_110, .int (nI zv), .int 0]) := (hB1.2.2.2 w0_41 (by rw [ht_111]; simp)).trans hF_175
            have hF_194 : F_181 r_110 = .inl (cs 16, 60, .inl fv) := (hB1.2.2.2 r_110 (by rw [ht_130]; simp)).trans hF_176
            have hF_195 : F_181 ck = .inr (1, [.ref di, .ref w0, .ref w1, .ref w2, .ref w3, .ref nm, .ref te, .int ad, .int v1, .int (nI gp_160.1), .int (nI gp_160.2)]) := (hB1.2.2.2 ck (by rw [hT_ck]; simp)).trans hq_163
            generalize H1 = H at hP hS ⊢
            have hw : HSR (fun k9 x9 => SJR fm zm nn bs k9 gb gc gd D cn nw (flT (TC fm zm) (gc k9 + 1) (gd k9 - (gc k9 + 1))) (flI (TC fm zm) (gc k9 + 1) (gd k9 - (gc k9 + 1))).length (∃ i, i < nn ∧ FRM (TC fm zm) (gb i) (gc i)) x9) (fun k9 => ALG D cn u2_144 (dmO (flT (TC fm zm) (gc k9 + 1) (gd k9 - (gc k9 + 1))) (flI (TC fm zm) (gc k9 + 1) (gd k9 - (gc k9 + 1))).length) gq_139.2) (fun k9 => NAL (TC fm zm) (gb k9) (gc k9) DKL) nn r_180 := hw
            have hw_196 := hw
            refine lv_if_eq (tgt := 105) hx hb dX11_wish_98 (by decide) (fun c_197 => ?_) (fun c_197 => ?_)
            ·
              refine lv_aload_n hx hb dX11_wish_105 rfl (lv_at hl 2 rfl) ?_
              refine pg_get (ci := 11) (v := .ref po) (C := RX11) (T := TX11) (N := 9) hx hb hts it_11 hown hK hP hL_h0 hF_183 rfl 5 (by decide) (hts _ kt_534) (fun _ h9 => h9) rfl dX11_wish_106 ?_
              refine pg_getN (ci := 5) (v := .int u0_142) (C := RX5) (T := TX5) (N := 7) hx hb hts it_5 hown hK hP hi_40 hF_192 rfl 4 (by decide) (hE.nest kn_35) (fun _ h9 => h9) rfl dX11_wish_109 ?_
              refine W.widen (k := 0) (n := 0) (by omega) (by omega) ?_
              exact W.iret (v := u0_142) hx hb hr (fun t ht hWm => ⟨⟨u0_142, (), rfl, (Or.inr (Or.inr ⟨hnz, hn0, _, hPO, Or.inr ⟨c_159, gq_139.2, jf, hjf, hPjf, hdw, Or.inr ⟨(fun q => hp2 q.1), _, (by have h9 := hw_196; rw [hu2] at h9; rw [hxe, nI_clamp hnw]; exact h9), Or.inr ⟨c_197, hu0⟩⟩⟩⟩)), ⟨F_181, gp_160.1, gp_160.2, QT.mk ht hP hD hO hR, ⟨hzt, _, hF_190⟩, hF_195, (Or.inr ⟨c_105, Int32.not_lt.mpr c_106, hn0, _, hPO, Or.inl ⟨c_159, (by have h9 := hw_177.2; rw [← h9])⟩⟩)⟩⟩, hS.F ht⟩) hS.2.2 dX11_wish_112
            ·
              refine lv_iconst (v := 2) hx hb dX11_wish_101 (by decide) ?_
              refine lv_goto (tgt := 112) hx hb dX11_wish_102 (by decide) ?_
              refine W.widen (k := 0) (n := 0) (by omega) (by omega) ?_
              exact W.iret (v := 2) hx hb hr (fun t ht hWm => ⟨⟨2, (), rfl, (Or.inr (Or.inr ⟨hnz, hn0, _, hPO, Or.inr ⟨c_159, gq_139.2, jf, hjf, hPjf, hdw, Or.inr ⟨(fun q => hp2 q.1), _, (by have h9 := hw_196; rw [hu2] at h9; rw [hxe, nI_clamp hnw]; exact h9), Or.inl ⟨hsr_1 hw_196 c_197, rfl⟩⟩⟩⟩)), ⟨F_181, gp_160.1, gp_160.2, QT.mk ht hP hD hO hR, ⟨hzt, _, hF_190⟩, hF_195, (Or.inr ⟨c_105, Int32.not_lt.mpr c_106, hn0, _, hPO, Or.inl ⟨c_159, (by have h9 := hw_177.2; rw [← h9])⟩⟩)⟩⟩, hS.F ht⟩) hS.2.2 dX11_wish_112
          ·
            have hp2 : (CHW D cn SD ad 11 SD.2.2.1 0 0).1 = 2 := by have h9 := c_178; rw [hw_177.1] at h9; exact (nI_eq (b := 2) (by have h8 := CHW_b9 D cn SD ad; omega) (by omega)).mp h9
            obtain ⟨zs, fs, hs1_, hs2_, hs3_, hs4_⟩ := hSD3.2.2.1.get hO hi_69 ht_71
            refine lv_aload_n hx hb dX11_wish_59 rfl (lv_at hl 1 rfl) ?_
            refine pg_get (ci := 11) (v := .ref po) (C := RX11) (T := TX11) (N := 9) hx hb hts it_11 hown hK hP hL_h0 hF_165 rfl 5 (by decide) (hts _ kt_534) (fun _ h9 => h9) rfl dX11_wish_60 ?_
            refine lv_aload_n hx hb dX11_wish_63 rfl (lv_at hl 1 rfl) ?_
            refine pg_get (ci := 11) (v := .ref ck) (C := RX11) (T := TX11) (N := 9) hx hb hts it_11 hown hK hP hL_h0 hF_165 rfl 3 (by decide) (hts _ kt_517) (fun _ h9 => h9) rfl dX11_wish_64 ?_
            refine pg_getN (ci := 1) (v := .ref w2) (C := RX1) (T := TX1) (N := 11) hx hb hts it_1 hown hK hP hL_ck hq_163 rfl 3 (by decide) (hE.nest kn_36) (fun _ h9 => h9) rfl dX11_wish_67 ?_
            refine lv_aload_n hx hb dX11_wish_70 rfl (lv_at hl 1 rfl) ?_
            refine pg_get (ci := 11) (v := .ref po) (C := RX11) (T := TX11) (N := 9) hx hb hts it_11 hown hK hP hL_h0 hF_165 rfl 5 (by decide) (hts _ kt_534) (fun _ h9 => h9) rfl dX11_wish_71 ?_
            refine pg_getN (ci := 5) (v := .int u1_143) (C := RX5) (T := TX5) (N := 7) hx hb hts it_5 hown hK hP hi_40 hF_174 rfl 5 (by decide) (hE.nest kn_37) (fun _ h9 => h9) rfl dX11_wish_74 ?_
            have hFc := pg_free hD hS hA
            refine va_calli (va_runV (As := [.ref w2, .int u1_143]) (rest := []) ⟨hx, hb, hml, hown, hts⟩ (s_X5_isAligned_e l dC dI cs ty L H.size F_162 po (ρ + 15) di (ρ + 3) ea w0_41 w1_42 rc_43 rx_44 ry0_45 ry1_46 ry2_47 w2 (ρ + 38) r_70 60 r_110 zs zv cn fs fv SD.2.2.1 gq_139.2 D u1_143 hW hi_40 ht_48 hi_109 ht_111 hi_69 ht_71 hs1_ hs2_ (hs3_) (by omega) (by omega) hF_175 hF_176 (hz3v) (by omega) hF_164 (by omega) (hDI3)) ⟨callB_of 2 hts (gi kt_535) rfl rfl rfl (hts _ kt_471) (hts _ kt_536) (by decide +kernel) ⟨Nat.le_of_ble_eq_true rfl, Nat.le_of_ble_eq_true rfl⟩, (hts _ kt_537), (hts _ kt_538)⟩ ⟨fun a U g mk q => ⟨q.1, PT.calling q.2⟩, pg_recv hK hP hi_40 hF_174 (q := (RX5, TX5, 7)) rfl, fun U hU hWm => ⟨rfl, PT.mk hU hWm hP hK hD hE hO⟩⟩ rfl rfl hl.1 rfl (lv_room (Nat.le_of_ble_eq_true rfl)) dX11_wish_77 ⟨by show _ + 0 ≤ 0; omega, by show _ + 0 ≤ 0; omega⟩) hS (fun q _ h => hFc q h) hFc (fun r_198 u t H1 locs ht hvm hw hB hz1 hk1 hS => ?_)
            obtain ⟨F_199, hB1⟩ := hB
            obtain rfl : F_162 = F_199 := (funext (fun a => hB1.2.2.2 a List.not_mem_nil)).symm
            obtain ⟨hP, hD, hO, hR⟩ := QT.back hB1 ht hFc hR (fun q h => absurd h List.not_mem_nil)
            generalize H1 = H at hP hS ⊢
            have hw : (r_198 = 1 ∧ ALG D cn u1_143 SD.2.2.1 gq_139.2) ∨ (r_198 = 0 ∧ ¬ ALG D cn u1_143 SD.2.2.1 gq_139.2) := hw
            have hw_200 := hw
            refine lv_if_eq (tgt := 87) hx hb dX11_wish_80 (by decide) (fun c_201 => ?_) (fun c_201 => ?_)
            ·
              have hAL : ¬ ALG D cn (saV D cn gq_139.2) SD.2.2.1 gq_139.2 := by rw [← hu1]; exact orp0 hw_200 c_201
              refine lv_iconst (v := 0) hx hb dX11_wish_87 (by decide) ?_
              refine lv_istore_n (lv' := [(3, .int 0), (2, .int r_140), (0, .ref h0), (1, .int x1)]) hx hb dX11_wish_88 rfl hl (by decide) rfl (fun ls hl => ?_)
              refine lv_iload_n hx hb dX11_wish_89 rfl (lv_at hl 0 rfl) ?_
              refine lv_if_ne (tgt := 101) hx hb dX11_wish_90 (by decide) (fun c_202 => absurd (by decide) c_202) (fun c_202 => ?_)
              refine lv_aload_n hx hb dX11_wish_93 rfl (lv_at hl 2 rfl) ?_
              refine lv_iload_n hx hb dX11_wish_94 rfl (lv_at hl 3 rfl) ?_
              refine W.eq (g2 := F0 m 95 ls [.int (nI nw), .ref h0]) (by rw [hxe]) ?_
              have hFc := pg_free hD hS hA
              refine va_calli (va_runV (As := [.int (nI nw)]) (rest := []) ⟨hx, hb, hml, hown, hts⟩ (s_X11_hasAlignedSeal_e l dC dI cs ty L H.size F_162 h0 ρ ta ou di ea ck sl po hs le sp x y0 y1 y2 rx zm nn μ fm e0 e1 e2 gb gc gd bs w0_41 w1_42 rc_43 rx_44 ry0_45 ry1_46 ry2_47 r_110 u0_142 u1_143 u2_144 cn nw D gq_139.2 hW hL_h0 hT_h0 hL_le hT_le hL_x hT_x hi_40 ht_48 hi_109 ht_111 hF_165 hF_166 hF_167 hF_168 hF_169 hF_170 hF_171 (by omega) (by omega) (by omega) (hpos) (hcl) (hord) (hbs) hF_164 (by omega) (hDI3) hF_174 (hTV3) (hnw)) ⟨callB_of 1 hts (gi kt_663) rfl rfl rfl (hts _ kt_664) (hts _ kt_665) (by decide +kernel) ⟨Nat.le_of_ble_eq_true rfl, Nat.le_of_ble_eq_true rfl⟩, (hts _ kt_666), (hts _ kt_667)⟩ ⟨fun a U g mk q => ⟨q.1, PTE.calling q.2⟩, pg_recv hK hP hL_h0 hF_165 (q := (RX11, TX11, 9)) rfl, fun U hU hWm => ⟨rfl, PTE.mk hU hWm hP hK hD hE hO hG (fun x hx => absurd hx List.not_mem_nil) hS hFc⟩⟩ rfl rfl hl.1 rfl (lv_room (Nat.le_of_ble_eq_true rfl)) dX11_wish_95 ⟨by show _ + 0 ≤ 0; omega, by show _ + 0 ≤ 0; omega⟩) hS (fun q _ h => hFc q h) hFc (fun r_203 u t H1 locs ht hvm hw hB hz1 hk1 hS => ?_)
              obtain ⟨F_204, hB1⟩ := hB
              obtain ⟨hP, hD, hO, hR⟩ := QT.back hB1 ht hFc hR (fun q h => by simp only [mem_chS, List.mem_append, List.mem_cons, List.not_mem_nil, or_false] at h ⊢; omega)
              have hF_205 : F_204 di = .inr (2, [.ref ea, .int (nI cn)]) := (hB1.2.2.2 di (by rw [ht_8]; simp)).trans hF_164
              have hF_206 : F_204 h0 = .inr (11, [.ref ta, .ref ou, .ref di, .ref ck, .ref sl, .ref po, .ref hs, .ref le, .ref sp]) := (hB1.2.2.2 h0 (by rw [hT_h0]; simp)).trans hF_165
              have hF_207 : F_204 le = .inr (4, [.ref x, .ref y0, .ref y1, .ref y2, .int (nI nn), .int (nI bs)]) := (hB1.2.2.2 le (by rw [hT_le]; simp only [mem_chS, List.mem_append, List.mem_cons, List.not_mem_nil, or_false]; omega)).trans hF_166
              have hF_208 : F_204 x = .inr (0, [.ref rx, .int (nI zm), .int 0]) := (hB1.2.2.2 x (by rw [hT_x]; simp only [mem_chS, List.mem_append, List.mem_cons, List.not_mem_nil, or_false]; omega)).trans hF_167
              have hF_209 : F_204 rx = .inl (cs 16, 3000, .inl fm) := (hB1.2.2.2 rx (by rw [ht_91]; simp only [mem_chS, List.mem_append, List.mem_cons, List.not_mem_nil, or_false]; omega)).trans hF_168
              have hF_210 : F_204 y0 = .inl (cs 16, 20, .inl e0) := (hB1.2.2.2 y0 (by rw [ht_87]; simp only [mem_chS, List.mem_append, List.mem_cons, List.not_mem_nil, or_false]; omega)).trans hF_169
              have hF_211 : F_204 y1 = .inl (cs 16, 20, .inl e1) := (hB1.2.2.2 y1 (by rw [ht_88]; simp only [mem_chS, List.mem_append, List.mem_cons, List.not_mem_nil, or_false]; omega)).trans hF_170
              have hF_212 : F_204 y2 = .inl (cs 16, 20, .inl e2) := (hB1.2.2.2 y2 (by rw [ht_89]; simp only [mem_chS, List.mem_append, List.mem_cons, List.not_mem_nil, or_false]; omega)).trans hF_171
              have hF_213 : F_204 ta = .inr (0, [.ref r_2, .int (nI zt), .int 0]) := (hB1.2.2.2 ta (by rw [ht_3]; simp)).trans hF_172
              have hF_214 : F_204 ea = .inl (cs 21, 40, .inr (.inr (.inr (.inr f_81)))) := (hB1.2.2.2 ea (by rw [ht_80]; simp)).trans hF_173
              have hF_215 : F_204 po = .inr (5, [.ref di, .ref w0_41, .ref w1_42, .ref rc_43, .int u0_142, .int u1_143, .int u2_144]) := (hB1.2.2.2 po (by rw [ht_48]; simp)).trans hF_174
              have hF_216 : F_204 w0_41 = .inr (0, [.ref r_110, .int (nI zv), .int 0]) := (hB1.2.2.2 w0_41 (by rw [ht_111]; simp)).trans hF_175
              have hF_217 : F_204 r_110 = .inl (cs 16, 60, .inl fv) := (hB1.2.2.2 r_110 (by rw [ht_130]; simp)).trans hF_176
              have hF_218 : F_204 ck = .inr (1, [.ref di, .ref w0, .ref w1, .ref w2, .ref w3, .ref nm, .ref te, .int ad, .int v1, .int (nI gp_160.1), .int (nI gp_160.2)]) := (hB1.2.2.2 ck (by rw [hT_ck]; simp)).trans hq_163
              have hF_219 : F_204 w2 = .inr (0, [.ref r_70, .int (nI zs), .int 0]) := (hB1.2.2.2 w2 (by rw [ht_71]; simp)).trans hs1_
              have hF_220 : F_204 r_70 = .inl (cs 16, 60, .inl fs) := (hB1.2.2.2 r_70 (by rw [ht_100]; simp)).trans hs2_
              generalize H1 = H at hP hS ⊢
              have hw : HSR (fun k9 x9 => SJR fm zm nn bs k9 gb gc gd D cn nw (flT (TC fm zm) (gc k9 + 1) (gd k9 - (gc k9 + 1))) (flI (TC fm zm) (gc k9 + 1) (gd k9 - (gc k9 + 1))).length (∃ i, i < nn ∧ FRM (TC fm zm) (gb i) (gc i)) x9) (fun k9 => ALG D cn u2_144 (dmO (flT (TC fm zm) (gc k9 + 1) (gd k9 - (gc k9 + 1))) (flI (TC fm zm) (gc k9 + 1) (gd k9 - (gc k9 + 1))).length) gq_139.2) (fun k9 => NAL (TC fm zm) (gb k9) (gc k9) DKL) nn r_203 := hw
              have hw_221 := hw
              refine lv_if_eq (tgt := 105) hx hb dX11_wish_98 (by decide) (fun c_222 => ?_) (fun c_222 => ?_)
              ·
                refine lv_aload_n hx hb dX11_wish_105 rfl (lv_at hl 2 rfl) ?_
                refine pg_get (ci := 11) (v := .ref po) (C := RX11) (T := TX11) (N := 9) hx hb hts it_11 hown hK hP hL_h0 hF_206 rfl 5 (by decide) (hts _ kt_534) (fun _ h9 => h9) rfl dX11_wish_106 ?_
                refine pg_getN (ci := 5) (v := .int u0_142) (C := RX5) (T := TX5) (N := 7) hx hb hts it_5 hown hK hP hi_40 hF_215 rfl 4 (by decide) (hE.nest kn_35) (fun _ h9 => h9) rfl dX11_wish_109 ?_
                refine W.widen (k := 0) (n := 0) (by omega) (by omega) ?_
                exact W.iret (v := u0_142) hx hb hr (fun t ht hWm => ⟨⟨u0_142, (), rfl, (Or.inr (Or.inr ⟨hnz, hn0, _, hPO, Or.inr ⟨c_159, gq_139.2, jf, hjf, hPjf, hdw, Or.inr ⟨(fun q => hAL q.2), _, (by have h9 := hw_221; rw [hu2] at h9; rw [hxe, nI_clamp hnw]; exact h9), Or.inr ⟨c_222, hu0⟩⟩⟩⟩)), ⟨F_204, gp_160.1, gp_160.2, QT.mk ht hP hD hO hR, ⟨hzt, _, hF_213⟩, hF_218, (Or.inr ⟨c_105, Int32.not_lt.mpr c_106, hn0, _, hPO, Or.inl ⟨c_159, (by have h9 := hw_177.2; rw [← h9])⟩⟩)⟩⟩, hS.F ht⟩) hS.2.2 dX11_wish_112
              ·
                refine lv_iconst (v := 2) hx hb dX11_wish_101 (by decide) ?_
                refine lv_goto (tgt := 112) hx hb dX11_wish_102 (by decide) ?_
                refine W.widen (k := 0) (n := 0) (by omega) (by omega) ?_
                exact W.iret (v := 2) hx hb hr (fun t ht hWm => ⟨⟨2, (), rfl, (Or.inr (Or.inr ⟨hnz, hn0, _, hPO, Or.inr ⟨c_159, gq_139.2, jf, hjf, hPjf, hdw, Or.inr ⟨(fun q => hAL q.2), _, (by have h9 := hw_221; rw [hu2] at h9; rw [hxe, nI_clamp hnw]; exact h9), Or.inl ⟨hsr_1 hw_221 c_222, rfl⟩⟩⟩⟩)), ⟨F_204, gp_160.1, gp_160.2, QT.mk ht hP hD hO hR, ⟨hzt, _, hF_213⟩, hF_218, (Or.inr ⟨c_105, Int32.not_lt.mpr c_106, hn0, _, hPO, Or.inl ⟨c_159, (by have h9 := hw_177.2; rw [← h9])⟩⟩)⟩⟩, hS.F ht⟩) hS.2.2 dX11_wish_112
            ·
              have hAL : ALG D cn (saV D cn gq_139.2) SD.2.2.1 gq_139.2 := by rw [← hu1]; exact orp1 hw_200 c_201
              refine lv_iconst (v := 1) hx hb dX11_wish_83 (by decide) ?_
              refine lv_goto (tgt := 88) hx hb dX11_wish_84 (by decide) ?_
              refine lv_istore_n (lv' := [(3, .int 1), (2, .int r_140), (0, .ref h0), (1, .int x1)]) hx hb dX11_wish_88 rfl hl (by decide) rfl (fun ls hl => ?_)
              refine lv_iload_n hx hb dX11_wish_89 rfl (lv_at hl 0 rfl) ?_
              refine lv_if_ne (tgt := 101) hx hb dX11_wish_90 (by decide) (fun c_223 => ?_) (fun c_223 => absurd c_223 (by decide))
              refine lv_iconst (v := 2) hx hb dX11_wish_101 (by decide) ?_
              refine lv_goto (tgt := 112) hx hb dX11_wish_102 (by decide) ?_
              refine W.widen (k := 0) (n := 0) (by omega) (by omega) ?_
              exact W.iret (v := 2) hx hb hr (fun t ht hWm => ⟨⟨2, (), rfl, (Or.inr (Or.inr ⟨hnz, hn0, _, hPO, Or.inr ⟨c_159, gq_139.2, jf, hjf, hPjf, hdw, Or.inl ⟨hp2, hAL, rfl⟩⟩⟩)), ⟨F_162, gp_160.1, gp_160.2, QT.mk ht hP hD hO hR, ⟨hzt, _, hF_172⟩, hq_163, (Or.inr ⟨c_105, Int32.not_lt.mpr c_106, hn0, _, hPO, Or.inl ⟨c_159, (by have h9 := hw_177.2; rw [← h9])⟩⟩)⟩⟩, hS.F ht⟩) hS.2.2 dX11_wish_112
        ·
          refine lv_iload_n hx hb dX11_wish_46 rfl (lv_at hl 0 rfl) ?_
          refine W.widen (k := 0) (n := 0) (by omega) (by omega) ?_
          exact W.iret (v := r_140) hx hb hr (fun t ht hWm => ⟨⟨r_140, (), rfl, (Or.inr (Or.inr ⟨hnz, hn0, _, hPO, Or.inl ⟨c_159, rfl⟩⟩)), ⟨F_141, cc, vo, QT.mk ht hP hD hO hR, ⟨hzt, _, hF_156⟩, hF_147, (Or.inr ⟨c_105, Int32.not_lt.mpr c_106, hn0, _, hPO, Or.inr ⟨c_159, rfl, rfl⟩⟩)⟩⟩, hS.F ht⟩) hS.2.2 dX11_wish_47
      ·
        have hn0 : nn = 0 := (nI_eq (b := 0) (by omega) (by omega)).mp c_107
        refine lv_bipush (v := (-2)) hx hb dX11_wish_26 (by decide) ?_
        refine W.widen (k := 0) (n := 0) (by omega) (by omega) ?_
        exact W.iret (v := (-2)) hx hb hr (fun t ht hWm => ⟨⟨(-2), (), rfl, (Or.inr (Or.inl ⟨hnz, hn0, rfl⟩)), ⟨F, cc, vo, QT.mk ht hP hD hO hR, ⟨hzt, _, hts_62⟩, hFk, (Or.inl ⟨Or.inr (Or.inr hn0), rfl, rfl⟩)⟩⟩, hS.F ht⟩) hS.2.2 dX11_wish_28
    ·
      refine lv_iconst (v := (-1)) hx hb dX11_wish_14 (by decide) ?_
      refine W.widen (k := 0) (n := 0) (by omega) (by omega) ?_
      exact W.iret (v := (-1)) hx hb hr (fun t ht hWm => ⟨⟨(-1), (), rfl, (Or.inl ⟨Or.inr (Int32.not_le.mp c_106), rfl⟩), ⟨F, cc, vo, QT.mk ht hP hD hO hR, ⟨hzt, _, hts_62⟩, hFk, (Or.inl ⟨Or.inr (Or.inl (Int32.not_le.mp c_106)), rfl, rfl⟩)⟩⟩, hS.F ht⟩) hS.2.2 dX11_wish_15
