theorem cntp_le {P : Nat → Prop} : ∀ n w, CNT P n w → w ≤ n := by
  intro n
  induction n with
  | zero =>
    intro w h
    have h9 : w = 0 := h
    omega
  | succ n ih =>
    intro w h
    rcases h with ⟨-, v, h1, h2⟩ | ⟨-, h2⟩
    · have h9 := ih v h2
      omega
    · have h9 := ih w h2
      omega
theorem dmp_s {T : Nat → Nat} {c e : Nat} {r : Int32} {gU : Option (List Nat)} (h : DMP T c e r gU) (k : ¬ r = 0) : ∃ V, gU = some V := by
  rcases h.2 with q | q
  · cases e9 : gU with
    | none => exact absurd e9 q.2
    | some V => exact ⟨V, rfl⟩
  · exact absurd q.1 k
theorem dmp_n {T : Nat → Nat} {c e : Nat} {r : Int32} {gU : Option (List Nat)} (h : DMP T c e r gU) (k : r = 0) : gU = none := by
  rcases h.2 with q | q
  · exact absurd (q.1.symm.trans k) (by decide)
  · exact q.2
theorem otU_j {D : Nat → ETY} {ze : Nat} {U : List Nat} {x : Int32} (h : x = otU D ze U) (c : ¬ x < 0) : ∃ j, j < ze ∧ x = nI j := by
  subst h
  obtain ⟨j, h1, h2, -⟩ := otv_ge ze c
  exact ⟨j, h1, h2⟩
theorem rvU_j {D : Nat → ETY} {x own : Int32} {j : Nat} (h : nI j = x) (hj : j < 2 ^ 31) : rvU D x own = rrW (TC (D j).2.2.2.2.2 (D j).2.2.2.2.1) (D j).2.2.2.2.1 own := by
  unfold rvU
  rw [← h, nI_clamp hj]
theorem lsw_eq {f g : Nat → Int32} {x : Int32} : ∀ k, (∀ j, j < k → f j = g j) → lsw f x k = lsw g x k
  | 0, _ => rfl
  | k + 1, h => by
    have h1 := lsw_eq (x := x) k (fun j hj => h j (by omega))
    have h2 := h k (by omega)
    unfold lsw
    rw [h1, h2]
theorem und_eq {f g e : Nat → Int32} {z y : Nat} (h : ∀ j, j < z → f j = g j) : UND f z e y ↔ UND g z e y := by
  have hk : ∀ f g : Nat → Int32, (∀ j, j < z → f j = g j) → UND f z e y → UND g z e y := fun f g h q => by
    obtain ⟨q1, q2, q3⟩ := q
    refine ⟨q1, fun i h1 h2 => ?_, ?_⟩
    · rw [← h (z - i) (by omega)]
      exact q2 i h1 h2
    · by_cases c : z = y
      · exact Or.inl c
      · exact Or.inr (by rw [← h (z - y - 1) (by omega)]; exact q3.resolve_left c)
  exact ⟨hk f g h, hk g f (fun j hj => (h j hj).symm)⟩
theorem lgw_eq {f g : Nat → Int32} {z : Nat} {D : Nat → ETY} (h : ∀ j, j < z → f j = g j) : ∀ k, lgw (UND f z) D k = lgw (UND g z) D k
  | 0 => rfl
  | k + 1 => by
    rw [lgw_s, lgw_s, lgw_eq h k]
    by_cases c : (D k).1 = 4 ∧ UND f z (D k).2.2.2.1 (D k).2.2.1
    · rw [if_pos c, if_pos (show (D k).1 = 4 ∧ UND g z (D k).2.2.2.1 (D k).2.2.1 from ⟨c.1, (und_eq h).mp c.2⟩)]
    · rw [if_neg c, if_neg (fun q => c ⟨q.1, (und_eq h).mpr q.2⟩)]
theorem hst_eq {f g : Nat → Int32} {z : Nat} {D : Nat → ETY} {ze : Nat} (h : ∀ j, j < z → f j = g j) : HST (UND f z) f z D ze = HST (UND g z) g z D ze := by
  have h9 := lsw_le (f := g) (x := 46) z
  unfold HST
  rw [lgw_eq h, lsw_eq z h, lsw_eq (lsw g 46 z - 1) (fun j hj => h j (by omega)), lsw_eq (z - lgw (UND g z) D ze) (fun j hj => h j (by omega))]
def WCR (P : Nat → Prop) (n : Nat) (Z : Nat → Int32) (v1 x1 : Int32) (c v : Nat) (X : Nat × Nat) (c9 u9 : Nat) : Prop := ((v1 = 0 ∨ x1 < 0 ∨ n = 0) ∧ c9 = c ∧ u9 = v) ∨ (¬ v1 = 0 ∧ ¬ x1 < 0 ∧ ¬ n = 0 ∧ ∃ ro, PLR P n Z ro ∧ ((ro = (-1) ∧ (c9, u9) = X) ∨ (¬ ro = (-1) ∧ c9 = c ∧ u9 = v)))
set_option maxHeartbeats 4000000 in
set_option maxRecDepth 100000 in
theorem s_X5_read_e (l : Launch) (dC : Nat → ClassId) (dI : Nat → Nat → Nat) (cs : Nat → ClassId) (ty : TyM) (L : List Nat) (sz : Nat) (F : Nat → va_E) (h0 : Nat) (ρ : Nat) (d : Nat) (δ : Nat) (ea : Nat) (w0 : Nat) (w1 : Nat) (rc : Nat) (rx : Nat) (ry0 : Nat) (ry1 : Nat) (ry2 : Nat) (rw0 : Nat) (rw1 : Nat) (rr : Nat) (cn : Nat) (mg : Nat) (μ : Nat) (mx : Nat) (m0 : Nat) (m1 : Nat) (m2 : Nat) (rm : Nat) (zm : Nat) (nn : Nat) (fm : Nat → Int32) (e0 : Nat → Int32) (e1 : Nat → Int32) (e2 : Nat → Int32) (bb : Int32) (gb : Nat → Nat) (gc : Nat → Nat) (gd : Nat → Nat) (D : Nat → ETY) (hW : WT ty L) (hL_h0 : h0 ∈ L) (hT_h0 : ty h0 = (5, ρ, [d, δ, ea, w0, w1, rc, rx, ry0, ry1, ry2])) (hL_w0 : w0 ∈ L) (hT_w0 : ty w0 = (0, ρ + 1, [rw0, 60])) (hL_w1 : w1 ∈ L) (hT_w1 : ty w1 = (0, ρ + 9, [rw1, 60])) (hL_rc : rc ∈ L) (hT_rc : ty rc = (9, ρ + 2, [rx, 700, ry0, ry1, ry2])) (hL_rx : rx ∈ L) (hT_rx : ty rx = (0, ρ + 3, [rr, 700])) (hL_mg : mg ∈ L) (hT_mg : ty mg = (4, μ, [mx, m0, m1, m2])) (hL_mx : mx ∈ L) (hT_mx : ty mx = (0, μ + 1, [rm, 3000])) (hFe : F mg = .inr (4, [.ref mx, .ref m0, .ref m1, .ref m2, .int (nI nn), .int bb])) (hFx : F mx = .inr (0, [.ref rm, .int (nI zm), .int 0])) (hFrm : F rm = .inl (cs 16, 3000, .inl fm)) (hFm0 : F m0 = .inl (cs 16, 20, .inl e0)) (hFm1 : F m1 = .inl (cs 16, 20, .inl e1)) (hFm2 : F m2 = .inl (cs 16, 20, .inl e2)) (hz3 : zm ≤ 3000) (hn20 : nn ≤ 20) (hpos : ∀ j, j < nn → e0 j = nI (gb j) ∧ e1 j = nI (gc j) ∧ e2 j = nI (gd j) ∧ gb j < gc j ∧ gc j < gd j ∧ gd j ≤ zm) (hcl : ∀ j, j < nn → fm (gc j) = 58) (hFd : F d = .inr (2, [.ref ea, .int (nI cn)])) (hcn : cn ≤ 40) (hDI : DIRC cs F ea cn D) (hmu : μ = ρ + 5 ∨ μ = ρ + 15) (hdl : δ + 12 = ρ) : Met l yX5_read (.code yX5_read cX5_read 4 (some .int) :: tb) ({ frames := 9, cells := 0, slots := 0, locals := 197 }) (va_Pc [.ref h0, .ref mg] (PTE (dC, dI) cs ty L F sz [])) (va_Qi (fun (r : Int32) (_ : Unit) => PLR (fun i => nmd F mx m0 m1 (cct [102, 114, 111, 109]) 4 i) nn (fun j9 => psW D cn (dmW (TC fm zm) (gc j9) (gd j9))) r) (fun _ T9 => ∃ F2 : Nat → va_E, QT (dC, dI) cs ty L [ρ, ρ + 1, ρ + 2, ρ + 3, ρ + 9, ρ + 72, ρ + 73] F F2 (va_A (va_pl L F) sz) T9) (va_A (va_pl L F) sz)) 0 0 (va_A (va_pl L F) sz) := by
  refine Met.ofW (cc := cX5_read) (maxL := 4) (ret := (some .int)) (by decide) rfl ?_
  intro p e s m args below meth c s₁ B hml hv
  obtain ⟨rfl, ⟨hsz, hP, hK, hD0, hE, hO⟩, hG, hX⟩ := hv
  have hx := B.exec
  have hb := B.bytes
  have hr := B.returns
  have hts : ∀ w ∈ tb, w.before _ s = true := fun w h => atoms_spec (ws := .code yX5_read cX5_read 4 (some .int) :: tb) B.pre w (List.mem_cons_of_mem _ h)
  have hown : s.vm.findClass RX5 = some m.cls := findClass_of_methodNamed B.named
  have hlocks := B.notSynchronized
  subst hsz
  have hD := hD0.self (sz := s.heap.size)
  generalize hAe : va_A (va_pl L F) s.heap.size = A at hD hG hX ⊢
  have hA : ∀ q : Nat, s.heap.size ≤ q → A q := fun q h => by rw [← hAe]; exact Or.inr h
  have hS : va_S A s.heap s.heap [] := va_S.rf
  have hR : FR ty [ρ, ρ + 1, ρ + 2, ρ + 3, ρ + 9, ρ + 72, ρ + 73] F F := FR.refl
  have hl := lv_entry ([.ref h0, .ref mg]) (n := 4) (Nat.le_of_ble_eq_true rfl)
  rw [lg_entry_eq]
  generalize (lg_sl ([.ref h0, .ref mg]) ++ List.replicate (4 - (lg_sl ([.ref h0, .ref mg])).length) Slot.unset).toArray = ls at hl ⊢
  have hl : lv_has ls 4 [(0, .ref h0), (1, .ref mg)] := hl
  obtain ⟨hi_1, ht_2, _, _, _, _, _, _⟩ := hW.pol hL_h0 hT_h0
  obtain ⟨hi_3, ht_4, hq_5⟩ := hW.bytes hL_w0 hT_w0
  obtain ⟨hi_6, ht_7, hq_8⟩ := hW.bytes hL_w1 hT_w1
  obtain ⟨_, hi_9, hi_10, hi_11, _, ht_12, ht_13, ht_14⟩ := hW.tags hL_rc hT_rc
  have ht_13 : ty ry1 = (24, ρ + 72, [40]) := ht_13
  have ht_14 : ty ry2 = (24, ρ + 73, [40]) := ht_14
  obtain ⟨hi_15, ht_16, hq_17⟩ := hW.bytes hL_rx hT_rx
  obtain ⟨_, hi_18, hi_19, hi_20, _, ht_21, ht_22, ht_23⟩ := hW.msg hL_mg hT_mg
  obtain ⟨hi_24, ht_25, hq_26⟩ := hW.bytes hL_mx hT_mx
  obtain ⟨v0_27, v1_28, v2_29, hF_30⟩ := hO.pol hL_h0 hT_h0
  obtain ⟨hi_31, ht_32⟩ := hW.dir hi_1 ht_2
  obtain ⟨f_33, hF_34, hq_35⟩ := hO.rentry hi_31 ht_32
  have hO0 := hO
  have he0 := hF_34
  refine lv_aload_n hx hb dX5_read_0 rfl (lv_at hl 1 rfl) ?_
  obtain ⟨q_36, v_37, hr_q_36, hXc_q_36⟩ := hG.2.2.2.2 ("PostGate$Policy", 45, "from", [102, 114, 111, 109]) (by decide +kernel)
  have hXc_q_36 : SXc q_36 v_37 4 (cct [102, 114, 111, 109]) A s s.heap := hXc_q_36
  have hX_q_36 : SX q_36 v_37 4 A s s.heap := hXc_q_36.sx
  obtain ⟨xo_q_36, xc_q_36, xv_q_36, xt_q_36, xn_q_36⟩ := id hXc_q_36
  have hr_q_36 : vk_R "PostGate$Policy" 45 "from" q_36 s := hr_q_36
  refine va_ldcS hx hb hown hr_q_36 dX5_read_1 ?_
  have hFc := pg_free hD hS hA
  refine va_calli (va_runV (As := [.ref q_36]) (rest := []) ⟨hx, hb, hml, hown, hts⟩ (s_X4_countOf_e l dC dI cs ty L s.heap.size F mg μ mx m0 m1 m2 q_36 v_37 4 (cct [102, 114, 111, 109]) nn bb hW hL_mg hT_mg hFe (by omega)) ⟨callB_of 1 hts (gi kt_432) rfl rfl rfl (hts _ kt_211) (hts _ kt_485) (by decide +kernel) ⟨Nat.le_of_ble_eq_true rfl, Nat.le_of_ble_eq_true rfl⟩, (hts _ kt_434), (hts _ kt_435)⟩ ⟨fun a U g mk q => ⟨q.1, PTC.calling q.2⟩, pg_recv hK hP hL_mg hFe (q := (RX4, TX4, 6)) rfl, fun U hU hWm => ⟨rfl, PTC.mk hU hWm hP hK hD hE hO hG hXc_q_36 hS hFc⟩⟩ rfl rfl hl.1 rfl (lv_room (Nat.le_of_ble_eq_true rfl)) dX5_read_3 ⟨by show _ + 0 ≤ 0; omega, by show _ + 0 ≤ 0; omega⟩) hS (fun q _ h => hFc q h) hFc (fun r_38 u t H1 locs ht hvm hw hB hz1 hk1 hS => ?_)
  obtain ⟨F_39, hB1⟩ := hB
  obtain rfl : F = F_39 := (funext (fun a => hB1.2.2.2 a List.not_mem_nil)).symm
  obtain ⟨hP, hD, hO, hR⟩ := QT.back hB1 ht hFc hR (fun q h => absurd h List.not_mem_nil)
  generalize H1 = H at hP hS ⊢
  have hw : (∃ w : Nat, r_38 = nI w ∧ CNT (fun i => nmd F mx m0 m1 (cct [102, 114, 111, 109]) 4 i) nn w) := hw
  have hw_40 := hw
  obtain ⟨wc, hwc, hcnt⟩ := hw_40
  have hwn := cntp_le nn wc hcnt
  subst hwc
  refine lv_iconst (v := 1) hx hb dX5_read_6 (by decide) ?_
  refine lv_icmp_ne (tgt := 25) hx hb dX5_read_7 (by decide) (fun c_41 => ?_) (fun c_41 => ?_)
  ·
    have hw1 : ¬ wc = 1 := fun q => c_41 (by rw [q]; rfl)
    refine lv_iconst (v := 1) hx hb dX5_read_25 (by decide) ?_
    refine W.widen (k := 0) (n := 0) (by omega) (by omega) ?_
    exact W.iret (v := 1) hx hb hr (fun t ht hWm => ⟨⟨1, (), rfl, ⟨wc, hcnt, Or.inl ⟨hw1, rfl⟩⟩, ⟨F, QT.mk ht hP hD hO hR⟩⟩, hS.F ht⟩) hS.2.2 dX5_read_26
  ·
    have hw1 : wc = 1 := (nI_eq (b := 1) (by omega) (by omega)).mp c_41
    refine lv_aload_n hx hb dX5_read_10 rfl (lv_at hl 0 rfl) ?_
    refine lv_aload_n hx hb dX5_read_11 rfl (lv_at hl 1 rfl) ?_
    refine lv_aload_n hx hb dX5_read_12 rfl (lv_at hl 1 rfl) ?_
    refine va_ldcS hx hb hown hr_q_36 dX5_read_13 ?_
    refine lv_iconst (v := 0) hx hb dX5_read_15 (by decide) ?_
    have hFc := pg_free hD hS hA
    refine va_calli (va_runV (As := [.ref q_36, .int 0]) (rest := [.ref mg, .ref h0]) ⟨hx, hb, hml, hown, hts⟩ (s_X4_fieldOf_e l dC dI cs ty L H.size F mg μ mx m0 m1 m2 q_36 v_37 4 (cct [102, 114, 111, 109]) nn bb hW hL_mg hT_mg hFe (by omega) (cnt_ex nn wc hcnt (by omega))) ⟨callB_of 2 hts (gi kt_486) rfl rfl rfl (hts _ kt_211) (hts _ kt_487) (by decide +kernel) ⟨Nat.le_of_ble_eq_true rfl, Nat.le_of_ble_eq_true rfl⟩, (hts _ kt_488), (hts _ kt_489)⟩ ⟨fun a U g mk q => ⟨q.1, PTC.calling q.2⟩, pg_recv hK hP hL_mg hFe (q := (RX4, TX4, 6)) rfl, fun U hU hWm => ⟨rfl, PTC.mk hU hWm hP hK hD hE hO hG hXc_q_36 hS hFc⟩⟩ rfl rfl hl.1 rfl (lv_room (Nat.le_of_ble_eq_true rfl)) dX5_read_16 ⟨by show _ + 0 ≤ 0; omega, by show _ + 0 ≤ 0; omega⟩) hS (fun q _ h => hFc q h) hFc (fun r_44 u t H1 locs ht hvm hw hB hz1 hk1 hS => ?_)
    obtain ⟨F_45, hB1⟩ := hB
    obtain rfl : F = F_45 := (funext (fun a => hB1.2.2.2 a List.not_mem_nil)).symm
    obtain ⟨hP, hD, hO, hR⟩ := QT.back hB1 ht hFc hR (fun q h => absurd h List.not_mem_nil)
    generalize H1 = H at hP hS ⊢
    have hw : (∃ j : Nat, j < nn ∧ r_44 = nI j ∧ nmd F mx m0 m1 (cct [102, 114, 111, 109]) 4 j ∧ ∀ i, i < j → ¬ nmd F mx m0 m1 (cct [102, 114, 111, 109]) 4 i) := hw
    have hw_46 := hw
    obtain ⟨jf, hjf, hjr, hjn, hjm⟩ := hw_46
    subst hjr
    obtain ⟨q0, q1, q2, q3, q4, q5⟩ := hpos jf hjf
    have hFc := pg_free hD hS hA
    refine va_calli (va_runV (As := [.ref mg, .int (nI jf)]) (rest := []) ⟨hx, hb, hml, hown, hts⟩ (s_X5_readDomain_e l dC dI cs ty L H.size F h0 ρ d δ ea w0 w1 rc rx ry0 ry1 ry2 rw0 jf (gc jf) (gd jf) mg μ mx m0 m1 m2 rm zm nn fm e0 e1 e2 bb hW hL_h0 hT_h0 hL_w0 hT_w0 hL_mg hT_mg hL_mx hT_mx hFe hFx hFrm hFm0 hFm1 hFm2 (by omega) (by omega) (hjf) (q1) (q2) (q4) (q5) (hcl jf hjf) (⟨by omega, by omega, by omega, by omega⟩)) ⟨callB_of 2 hts (gi kt_490) rfl rfl rfl (hts _ kt_471) (hts _ kt_491) (by decide +kernel) ⟨Nat.le_of_ble_eq_true rfl, Nat.le_of_ble_eq_true rfl⟩, (hts _ kt_492), (hts _ kt_493)⟩ ⟨fun a U g mk q => ⟨q.1, PT.calling q.2⟩, pg_recv hK hP hL_h0 hF_30 (q := (RX5, TX5, 7)) rfl, fun U hU hWm => ⟨rfl, PT.mk hU hWm hP hK hD hE hO⟩⟩ rfl rfl hl.1 rfl (lv_room (Nat.le_of_ble_eq_true rfl)) dX5_read_19 ⟨by show _ + 0 ≤ 0; omega, by show _ + 0 ≤ 0; omega⟩) hS (fun q _ h => hFc q h) hFc (fun r_48 gU_47 t H1 locs ht hvm hw hB hz1 hk1 hS => ?_)
    obtain ⟨F_49, hB1, hq_50⟩ := hB
    obtain ⟨hP, hD, hO, hR⟩ := QT.back hB1 ht hFc hR (fun q h => by simp only [List.mem_cons, List.not_mem_nil, or_false] at h ⊢; omega)
    have hF_51 : F_49 mg = .inr (4, [.ref mx, .ref m0, .ref m1, .ref m2, .int (nI nn), .int bb]) := (hB1.2.2.2 mg (by rw [hT_mg]; simp only [List.mem_cons, List.not_mem_nil, or_false]; omega)).trans hFe
    have hF_52 : F_49 mx = .inr (0, [.ref rm, .int (nI zm), .int 0]) := (hB1.2.2.2 mx (by rw [hT_mx]; simp only [List.mem_cons, List.not_mem_nil, or_false]; omega)).trans hFx
    have hF_53 : F_49 rm = .inl (cs 16, 3000, .inl fm) := (hB1.2.2.2 rm (by rw [ht_25]; simp only [List.mem_cons, List.not_mem_nil, or_false]; omega)).trans hFrm
    have hF_54 : F_49 m0 = .inl (cs 16, 20, .inl e0) := (hB1.2.2.2 m0 (by rw [ht_21]; simp only [List.mem_cons, List.not_mem_nil, or_false]; omega)).trans hFm0
    have hF_55 : F_49 m1 = .inl (cs 16, 20, .inl e1) := (hB1.2.2.2 m1 (by rw [ht_22]; simp only [List.mem_cons, List.not_mem_nil, or_false]; omega)).trans hFm1
    have hF_56 : F_49 m2 = .inl (cs 16, 20, .inl e2) := (hB1.2.2.2 m2 (by rw [ht_23]; simp only [List.mem_cons, List.not_mem_nil, or_false]; omega)).trans hFm2
    have hF_57 : F_49 d = .inr (2, [.ref ea, .int (nI cn)]) := (hB1.2.2.2 d (by rw [ht_2]; simp only [List.mem_cons, List.not_mem_nil, or_false]; omega)).trans hFd
    have hF_58 : F_49 h0 = .inr (5, [.ref d, .ref w0, .ref w1, .ref rc, .int v0_27, .int v1_28, .int v2_29]) := (hB1.2.2.2 h0 (by rw [hT_h0]; simp)).trans hF_30
    have hF_59 : F_49 ea = .inl (cs 21, 40, .inr (.inr (.inr (.inr f_33)))) := (hB1.2.2.2 ea (by rw [ht_32]; simp only [List.mem_cons, List.not_mem_nil, or_false]; omega)).trans hF_34
    generalize H1 = H at hP hS ⊢
    have hw : DMP (TC fm zm) (gc jf) (gd jf) r_48 gU_47 := hw
    have hw_60 := hw
    refine lv_if_ne (tgt := 27) hx hb dX5_read_22 (by decide) (fun c_61 => ?_) (fun c_61 => ?_)
    ·
      obtain ⟨V, hVe⟩ := dmp_s hw_60 c_61
      obtain ⟨hVT, hVN⟩ := hq_50 V hVe
      obtain ⟨zv, fv, hz1, hz2, hz3v, hz4⟩ := hVT.get hO hL_w0 hT_w0
      obtain rfl := hz3v.1
      have hz1v := hz1
      refine lv_aload_n hx hb dX5_read_27 rfl (lv_at hl 0 rfl) ?_
      refine lv_iconst (v := 0) hx hb dX5_read_28 (by decide) ?_
      refine W.eq (g2 := F0 m 29 ls [.int (nI 0), .ref h0]) rfl ?_
      have hFc := pg_free hD hS hA
      refine va_callv (va_runV (As := [.int (nI 0)]) (rest := []) ⟨hx, hb, hml, hown, hts⟩ (s_X5_setPlace_e l dC dI cs ty L H.size F_49 h0 ρ d δ ea w0 w1 rc rx ry0 ry1 ry2 rw0 rw1 0 V hW hL_h0 hT_h0 hL_w0 hT_w0 hL_w1 hT_w1 (⟨_, _, _, hz1v, hz2, hz3v, hz4⟩) (Nat.zero_le _)) ⟨callB_of 1 hts (gi kt_494) rfl rfl rfl (hts _ kt_471) (hts _ kt_495) (by decide +kernel) ⟨Nat.le_of_ble_eq_true rfl, Nat.le_of_ble_eq_true rfl⟩, (hts _ kt_496), (hts _ kt_497)⟩ ⟨fun a U g mk q => ⟨q.1, PTE.calling q.2⟩, pg_recv hK hP hL_h0 hF_58 (q := (RX5, TX5, 7)) rfl, fun U hU hWm => ⟨rfl, PTE.mk hU hWm hP hK hD hE hO hG (fun x hx => absurd hx List.not_mem_nil) hS hFc⟩⟩ rfl rfl hl.1 rfl (lv_room (Nat.le_of_ble_eq_true rfl)) dX5_read_29 ⟨by show _ + 0 ≤ 0; omega, by show _ + 0 ≤ 0; omega⟩) hS (fun q _ h => hFc q h) hFc (fun u t H1 locs ht hvm hw hB hz1 hk1 hS => ?_)
      obtain ⟨F_63, hB1, hq_64⟩ := hB
      obtain ⟨hP, hD, hO, hR⟩ := QT.back hB1 ht hFc hR (fun q h => by simp only [List.mem_cons, List.not_mem_nil, or_false] at h ⊢; omega)
      have hF_65 : F_63 mg = .inr (4, [.ref mx, .ref m0, .ref m1, .ref m2, .int (nI nn), .int bb]) := (hB1.2.2.2 mg (by rw [hT_mg]; simp only [List.mem_cons, List.not_mem_nil, or_false]; omega)).trans hF_51
      have hF_66 : F_63 mx = .inr (0, [.ref rm, .int (nI zm), .int 0]) := (hB1.2.2.2 mx (by rw [hT_mx]; simp only [List.mem_cons, List.not_mem_nil, or_false]; omega)).trans hF_52
      have hF_67 : F_63 rm = .inl (cs 16, 3000, .inl fm) := (hB1.2.2.2 rm (by rw [ht_25]; simp only [List.mem_cons, List.not_mem_nil, or_false]; omega)).trans hF_53
      have hF_68 : F_63 m0 = .inl (cs 16, 20, .inl e0) := (hB1.2.2.2 m0 (by rw [ht_21]; simp only [List.mem_cons, List.not_mem_nil, or_false]; omega)).trans hF_54
      have hF_69 : F_63 m1 = .inl (cs 16, 20, .inl e1) := (hB1.2.2.2 m1 (by rw [ht_22]; simp only [List.mem_cons, List.not_mem_nil, or_false]; omega)).trans hF_55
      have hF_70 : F_63 m2 = .inl (cs 16, 20, .inl e2) := (hB1.2.2.2 m2 (by rw [ht_23]; simp only [List.mem_cons, List.not_mem_nil, or_false]; omega)).trans hF_56
      have hF_71 : F_63 d = .inr (2, [.ref ea, .int (nI cn)]) := (hB1.2.2.2 d (by rw [ht_2]; simp only [List.mem_cons, List.not_mem_nil, or_false]; omega)).trans hF_57
      have hF_72 : F_63 h0 = .inr (5, [.ref d, .ref w0, .ref w1, .ref rc, .int v0_27, .int v1_28, .int v2_29]) := (hB1.2.2.2 h0 (by rw [hT_h0]; simp)).trans hF_58
      have hF_73 : F_63 ea = .inl (cs 21, 40, .inr (.inr (.inr (.inr f_33)))) := (hB1.2.2.2 ea (by rw [ht_32]; simp only [List.mem_cons, List.not_mem_nil, or_false]; omega)).trans hF_59
      have hF_74 : F_63 w0 = .inr (0, [.ref rw0, .int (nI V.length), .int 0]) := (hB1.2.2.2 w0 (by rw [hT_w0]; simp)).trans hz1v
      have hF_75 : F_63 rw0 = .inl (cs 16, 60, .inl fv) := (hB1.2.2.2 rw0 (by rw [ht_4]; simp)).trans hz2
      generalize H1 = H at hP hS ⊢
      have hG0 : TXG cs F_63 w1 60 (DMU V 0) := hq_64
      obtain ⟨yy0, ov0, fq0, hy0a, hy0b, hy0c⟩ := hG0.get hO hL_w1 hT_w1
      have hyy0 : yy0 ≤ 60 := by have h9 := hy0c.1; omega
      have hDI2 := DIRC.fr hDI hO0 hW hi_31 ht_32 hcn hR (hF_73.trans he0.symm) (fun k hk => by simp only [List.mem_cons, List.not_mem_nil, or_false]; omega)
      refine lv_aload_n hx hb dX5_read_32 rfl (lv_at hl 0 rfl) ?_
      refine pg_get (ci := 5) (v := .ref d) (C := RX5) (T := TX5) (N := 7) hx hb hts it_5 hown hK hP hL_h0 hF_72 rfl 0 (by decide) (hts _ kt_463) (fun _ h9 => h9) rfl dX5_read_33 ?_
      refine lv_iconst (v := 3) hx hb dX5_read_36 (by decide) ?_
      refine lv_aload_n hx hb dX5_read_37 rfl (lv_at hl 0 rfl) ?_
      refine pg_get (ci := 5) (v := .ref w1) (C := RX5) (T := TX5) (N := 7) hx hb hts it_5 hown hK hP hL_h0 hF_72 rfl 2 (by decide) (hts _ kt_458) (fun _ h9 => h9) rfl dX5_read_38 ?_
      have hFc := pg_free hD hS hA
      refine va_calli (va_runV (As := [.int 3, .ref w1]) (rest := []) ⟨hx, hb, hml, hown, hts⟩ (s_X2_has_e l dC dI cs ty L H.size F_63 d δ ea w1 (ρ + 9) rw1 60 yy0 cn fq0 D 3 ov0 hW hi_1 ht_2 hL_w1 hT_w1 hF_71 (by omega) hy0a hy0b (by omega) (by omega) (hDI2)) ⟨callB_of 2 hts (gi kt_373) rfl rfl rfl (hts _ kt_103) (hts _ kt_498) (by decide +kernel) ⟨Nat.le_of_ble_eq_true rfl, Nat.le_of_ble_eq_true rfl⟩, (hts _ kt_375), (hts _ kt_376)⟩ ⟨fun a U g mk q => ⟨q.1, PT.calling q.2⟩, pg_recv hK hP hi_1 hF_71 (q := (RX2, TX2, 2)) rfl, fun U hU hWm => ⟨rfl, PT.mk hU hWm hP hK hD hE hO⟩⟩ rfl rfl hl.1 rfl (lv_room (Nat.le_of_ble_eq_true rfl)) dX5_read_41 ⟨by show _ + 0 ≤ 0; omega, by show _ + 0 ≤ 0; omega⟩) hS (fun q _ h => hFc q h) hFc (fun r_76 u t H1 locs ht hvm hw hB hz1 hk1 hS => ?_)
      obtain ⟨F_77, hB1⟩ := hB
      obtain rfl : F_63 = F_77 := (funext (fun a => hB1.2.2.2 a List.not_mem_nil)).symm
      obtain ⟨hP, hD, hO, hR⟩ := QT.back hB1 ht hFc hR (fun q h => absurd h List.not_mem_nil)
      generalize H1 = H at hP hS ⊢
      have hw : (r_76 = 1 ∧ HAS D cn 3 ov0 yy0 fq0) ∨ (r_76 = 0 ∧ ¬ HAS D cn 3 ov0 yy0 fq0) := hw
      have hw_78 := hw
      refine lv_if_eq (tgt := 49) hx hb dX5_read_44 (by decide) (fun c_79 => ?_) (fun c_79 => ?_)
      ·
        have hHS0 : ¬ HAS D cn 3 (ooU (DMU V 0)) (yU (DMU V 0)) (faU (DMU V 0)) := fun q => orp0 hw_78 c_79 ((has_u hy0c).mpr q)
        refine lv_aload_n hx hb dX5_read_49 rfl (lv_at hl 0 rfl) ?_
        refine pg_get (ci := 5) (v := .ref d) (C := RX5) (T := TX5) (N := 7) hx hb hts it_5 hown hK hP hL_h0 hF_72 rfl 0 (by decide) (hts _ kt_463) (fun _ h9 => h9) rfl dX5_read_50 ?_
        refine lv_aload_n hx hb dX5_read_53 rfl (lv_at hl 0 rfl) ?_
        refine pg_get (ci := 5) (v := .ref w1) (C := RX5) (T := TX5) (N := 7) hx hb hts it_5 hown hK hP hL_h0 hF_72 rfl 2 (by decide) (hts _ kt_458) (fun _ h9 => h9) rfl dX5_read_54 ?_
        obtain ⟨q_80, v_81, hr_q_80, hXc_q_80⟩ := hG.2.2.2.2 ("PostGate$Policy", 70, "v=DMARC1", [118, 61, 68, 77, 65, 82, 67, 49]) (by decide +kernel)
        have hXc_q_80 : SXc q_80 v_81 8 (cct [118, 61, 68, 77, 65, 82, 67, 49]) A s s.heap := hXc_q_80
        have hX_q_80 : SX q_80 v_81 8 A s s.heap := hXc_q_80.sx
        obtain ⟨xo_q_80, xc_q_80, xv_q_80, xt_q_80, xn_q_80⟩ := id hXc_q_80
        have hr_q_80 : vk_R "PostGate$Policy" 70 "v=DMARC1" q_80 s := hr_q_80
        refine va_ldcS hx hb hown hr_q_80 dX5_read_57 ?_
        refine lv_iconst (v := 0) hx hb dX5_read_59 (by decide) ?_
        have hFc := pg_free hD hS hA
        refine va_calli (va_runV (As := [.ref w1, .ref q_80, .int 0]) (rest := []) ⟨hx, hb, hml, hown, hts⟩ (s_X2_onlyText_f l dC dI cs ty L H.size F_63 d δ ea w1 (ρ + 9) rw1 60 q_80 v_81 8 (cct [118, 61, 68, 77, 65, 82, 67, 49]) yy0 cn fq0 D ov0 DMS hW hi_1 ht_2 hL_w1 hT_w1 hF_71 (by omega) hy0a hy0b (by omega) (by omega) (hDI2) (⟨rfl, by decide +kernel⟩)) ⟨callB_of 3 hts (gi kt_499) rfl rfl rfl (hts _ kt_103) (hts _ kt_500) (by decide +kernel) ⟨Nat.le_of_ble_eq_true rfl, Nat.le_of_ble_eq_true rfl⟩, (hts _ kt_501), (hts _ kt_502)⟩ ⟨fun a U g mk q => ⟨q.1, PTC.calling q.2⟩, pg_recv hK hP hi_1 hF_71 (q := (RX2, TX2, 2)) rfl, fun U hU hWm => ⟨rfl, PTC.mk hU hWm hP hK hD hE hO hG hXc_q_80 hS hFc⟩⟩ rfl rfl hl.1 rfl (lv_room (Nat.le_of_ble_eq_true rfl)) dX5_read_60 ⟨by show _ + 0 ≤ 0; omega, by show _ + 0 ≤ 0; omega⟩) hS (fun q _ h => hFc q h) hFc (fun r_82 u t H1 locs ht hvm hw hB hz1 hk1 hS => ?_)
        obtain ⟨F_83, hB1⟩ := hB
        obtain rfl : F_63 = F_83 := (funext (fun a => hB1.2.2.2 a List.not_mem_nil)).symm
        obtain ⟨hP, hD, hO, hR⟩ := QT.back hB1 ht hFc hR (fun q h => absurd h List.not_mem_nil)
        generalize H1 = H at hP hS ⊢
        have hw : r_82 = otv (OTR ov0 yy0 fq0 8 DMS) D cn := hw
        have hw_84 := hw
        have hot0 : r_82 = otU D cn (DMU V 0) := hw_84.trans (otv_cg (otr_u hy0c) cn)
        refine lv_istore_n (lv' := [(2, .int r_82), (0, .ref h0), (1, .ref mg)]) hx hb dX5_read_63 rfl hl (by decide) rfl (fun ls hl => ?_)
        refine lv_iload_n hx hb dX5_read_64 rfl (lv_at hl 0 rfl) ?_
        refine lv_if_lt (tgt := 72) hx hb dX5_read_65 (by decide) (fun c_85 => ?_) (fun c_85 => ?_)
        ·
          have hlt0 : otU D cn (DMU V 0) < 0 := by rw [← hot0]; exact c_85
          refine lv_iconst (v := 0) hx hb dX5_read_72 (by decide) ?_
          refine lv_istore_n (lv' := [(3, .int 0), (2, .int r_82), (0, .ref h0), (1, .ref mg)]) hx hb dX5_read_73 rfl hl (by decide) rfl (fun ls hl => ?_)
          refine lv_iload_n hx hb dX5_read_74 rfl (lv_at hl 0 rfl) ?_
          refine lv_if_ne (tgt := 125) hx hb dX5_read_75 (by decide) (fun c_86 => absurd (by decide) c_86) (fun c_86 => ?_)
          refine lv_aload_n hx hb dX5_read_78 rfl (lv_at hl 2 rfl) ?_
          refine lv_aload_n hx hb dX5_read_79 rfl (lv_at hl 2 rfl) ?_
          refine pg_get (ci := 5) (v := .ref d) (C := RX5) (T := TX5) (N := 7) hx hb hts it_5 hown hK hP hL_h0 hF_72 rfl 0 (by decide) (hts _ kt_463) (fun _ h9 => h9) rfl dX5_read_80 ?_
          refine lv_aload_n hx hb dX5_read_83 rfl (lv_at hl 2 rfl) ?_
          refine pg_get (ci := 5) (v := .ref w0) (C := RX5) (T := TX5) (N := 7) hx hb hts it_5 hown hK hP hL_h0 hF_72 rfl 1 (by decide) (hts _ kt_461) (fun _ h9 => h9) rfl dX5_read_84 ?_
          have hFc := pg_free hD hS hA
          refine va_calli (va_runV (As := [.ref w0]) (rest := [.ref h0]) ⟨hx, hb, hml, hown, hts⟩ (s_X2_houseStart_e l dC dI cs ty L H.size F_63 d δ ea w0 (ρ + 1) rw0 60 V.length cn fv D hW hi_1 ht_2 hL_w0 hT_w0 hF_71 (by omega) hF_74 hF_75 (by omega) (by omega) (hDI2)) ⟨callB_of 1 hts (gi kt_102) rfl rfl rfl (hts _ kt_103) (hts _ kt_508) (by decide +kernel) ⟨Nat.le_of_ble_eq_true rfl, Nat.le_of_ble_eq_true rfl⟩, (hts _ kt_105), (hts _ kt_106)⟩ ⟨fun a U g mk q => ⟨q.1, PT.calling q.2⟩, pg_recv hK hP hi_1 hF_71 (q := (RX2, TX2, 2)) rfl, fun U hU hWm => ⟨rfl, PT.mk hU hWm hP hK hD hE hO⟩⟩ rfl rfl hl.1 rfl (lv_room (Nat.le_of_ble_eq_true rfl)) dX5_read_87 ⟨by show _ + 0 ≤ 0; omega, by show _ + 0 ≤ 0; omega⟩) hS (fun q _ h => hFc q h) hFc (fun r_87 u t H1 locs ht hvm hw hB hz1 hk1 hS => ?_)
          obtain ⟨F_88, hB1⟩ := hB
          obtain rfl : F_63 = F_88 := (funext (fun a => hB1.2.2.2 a List.not_mem_nil)).symm
          obtain ⟨hP, hD, hO, hR⟩ := QT.back hB1 ht hFc hR (fun q h => absurd h List.not_mem_nil)
          generalize H1 = H at hP hS ⊢
          have hw : r_87 = nI (HST (UND fv V.length) fv V.length D cn) := hw
          have hw_89 := hw
          have hHT : r_87 = nI (hsU D cn V) := hw_89.trans (congrArg nI (hst_eq hz3v.2.1))
          subst hHT
          have hFc := pg_free hD hS hA
          refine va_callv (va_runV (As := [.int (nI (hsU D cn V))]) (rest := []) ⟨hx, hb, hml, hown, hts⟩ (s_X5_setPlace_e l dC dI cs ty L H.size F_63 h0 ρ d δ ea w0 w1 rc rx ry0 ry1 ry2 rw0 rw1 (hsU D cn V) V hW hL_h0 hT_h0 hL_w0 hT_w0 hL_w1 hT_w1 (⟨_, _, _, hF_74, hF_75, hz3v, hz4⟩) (hst_le)) ⟨callB_of 1 hts (gi kt_494) rfl rfl rfl (hts _ kt_471) (hts _ kt_495) (by decide +kernel) ⟨Nat.le_of_ble_eq_true rfl, Nat.le_of_ble_eq_true rfl⟩, (hts _ kt_496), (hts _ kt_497)⟩ ⟨fun a U g mk q => ⟨q.1, PTE.calling q.2⟩, pg_recv hK hP hL_h0 hF_72 (q := (RX5, TX5, 7)) rfl, fun U hU hWm => ⟨rfl, PTE.mk hU hWm hP hK hD hE hO hG (fun x hx => absurd hx List.not_mem_nil) hS hFc⟩⟩ rfl rfl hl.1 rfl (lv_room (Nat.le_of_ble_eq_true rfl)) dX5_read_90 ⟨by show _ + 0 ≤ 0; omega, by show _ + 0 ≤ 0; omega⟩) hS (fun q _ h => hFc q h) hFc (fun u t H1 locs ht hvm hw hB hz1 hk1 hS => ?_)
          obtain ⟨F_91, hB1, hq_92⟩ := hB
          obtain ⟨hP, hD, hO, hR⟩ := QT.back hB1 ht hFc hR (fun q h => by simp only [List.mem_cons, List.not_mem_nil, or_false] at h ⊢; omega)
          have hF_93 : F_91 mg = .inr (4, [.ref mx, .ref m0, .ref m1, .ref m2, .int (nI nn), .int bb]) := (hB1.2.2.2 mg (by rw [hT_mg]; simp only [List.mem_cons, List.not_mem_nil, or_false]; omega)).trans hF_65
          have hF_94 : F_91 mx = .inr (0, [.ref rm, .int (nI zm), .int 0]) := (hB1.2.2.2 mx (by rw [hT_mx]; simp only [List.mem_cons, List.not_mem_nil, or_false]; omega)).trans hF_66
          have hF_95 : F_91 rm = .inl (cs 16, 3000, .inl fm) := (hB1.2.2.2 rm (by rw [ht_25]; simp only [List.mem_cons, List.not_mem_nil, or_false]; omega)).trans hF_67
          have hF_96 : F_91 m0 = .inl (cs 16, 20, .inl e0) := (hB1.2.2.2 m0 (by rw [ht_21]; simp only [List.mem_cons, List.not_mem_nil, or_false]; omega)).trans hF_68
          have hF_97 : F_91 m1 = .inl (cs 16, 20, .inl e1) := (hB1.2.2.2 m1 (by rw [ht_22]; simp only [List.mem_cons, List.not_mem_nil, or_false]; omega)).trans hF_69
          have hF_98 : F_91 m2 = .inl (cs 16, 20, .inl e2) := (hB1.2.2.2 m2 (by rw [ht_23]; simp only [List.mem_cons, List.not_mem_nil, or_false]; omega)).trans hF_70
          have hF_99 : F_91 d = .inr (2, [.ref ea, .int (nI cn)]) := (hB1.2.2.2 d (by rw [ht_2]; simp only [List.mem_cons, List.not_mem_nil, or_false]; omega)).trans hF_71
          have hF_100 : F_91 h0 = .inr (5, [.ref d, .ref w0, .ref w1, .ref rc, .int v0_27, .int v1_28, .int v2_29]) := (hB1.2.2.2 h0 (by rw [hT_h0]; simp)).trans hF_72
          have hF_101 : F_91 ea = .inl (cs 21, 40, .inr (.inr (.inr (.inr f_33)))) := (hB1.2.2.2 ea (by rw [ht_32]; simp only [List.mem_cons, List.not_mem_nil, or_false]; omega)).trans hF_73
          have hF_102 : F_91 w0 = .inr (0, [.ref rw0, .int (nI V.length), .int 0]) := (hB1.2.2.2 w0 (by rw [hT_w0]; simp)).trans hF_74
          have hF_103 : F_91 rw0 = .inl (cs 16, 60, .inl fv) := (hB1.2.2.2 rw0 (by rw [ht_4]; simp)).trans hF_75
          generalize H1 = H at hP hS ⊢
          have hG1 : TXG cs F_91 w1 60 (DMU V (hsU D cn V)) := hq_92
          obtain ⟨yy1, ov1, fq1, hy1a, hy1b, hy1c⟩ := hG1.get hO hL_w1 hT_w1
          have hyy1 : yy1 ≤ 60 := by have h9 := hy1c.1; omega
          have hDI3 := DIRC.fr hDI hO0 hW hi_31 ht_32 hcn hR (hF_101.trans he0.symm) (fun k hk => by simp only [List.mem_cons, List.not_mem_nil, or_false]; omega)
          refine lv_aload_n hx hb dX5_read_93 rfl (lv_at hl 2 rfl) ?_
          refine pg_get (ci := 5) (v := .ref d) (C := RX5) (T := TX5) (N := 7) hx hb hts it_5 hown hK hP hL_h0 hF_100 rfl 0 (by decide) (hts _ kt_463) (fun _ h9 => h9) rfl dX5_read_94 ?_
          refine lv_iconst (v := 3) hx hb dX5_read_97 (by decide) ?_
          refine lv_aload_n hx hb dX5_read_98 rfl (lv_at hl 2 rfl) ?_
          refine pg_get (ci := 5) (v := .ref w1) (C := RX5) (T := TX5) (N := 7) hx hb hts it_5 hown hK hP hL_h0 hF_100 rfl 2 (by decide) (hts _ kt_458) (fun _ h9 => h9) rfl dX5_read_99 ?_
          have hFc := pg_free hD hS hA
          refine va_calli (va_runV (As := [.int 3, .ref w1]) (rest := []) ⟨hx, hb, hml, hown, hts⟩ (s_X2_has_e l dC dI cs ty L H.size F_91 d δ ea w1 (ρ + 9) rw1 60 yy1 cn fq1 D 3 ov1 hW hi_1 ht_2 hL_w1 hT_w1 hF_99 (by omega) hy1a hy1b (by omega) (by omega) (hDI3)) ⟨callB_of 2 hts (gi kt_373) rfl rfl rfl (hts _ kt_103) (hts _ kt_498) (by decide +kernel) ⟨Nat.le_of_ble_eq_true rfl, Nat.le_of_ble_eq_true rfl⟩, (hts _ kt_375), (hts _ kt_376)⟩ ⟨fun a U g mk q => ⟨q.1, PT.calling q.2⟩, pg_recv hK hP hi_1 hF_99 (q := (RX2, TX2, 2)) rfl, fun U hU hWm => ⟨rfl, PT.mk hU hWm hP hK hD hE hO⟩⟩ rfl rfl hl.1 rfl (lv_room (Nat.le_of_ble_eq_true rfl)) dX5_read_102 ⟨by show _ + 0 ≤ 0; omega, by show _ + 0 ≤ 0; omega⟩) hS (fun q _ h => hFc q h) hFc (fun r_104 u t H1 locs ht hvm hw hB hz1 hk1 hS => ?_)
          obtain ⟨F_105, hB1⟩ := hB
          obtain rfl : F_91 = F_105 := (funext (fun a => hB1.2.2.2 a List.not_mem_nil)).symm
          obtain ⟨hP, hD, hO, hR⟩ := QT.back hB1 ht hFc hR (fun q h => absurd h List.not_mem_nil)
          generalize H1 = H at hP hS ⊢
          have hw : (r_104 = 1 ∧ HAS D cn 3 ov1 yy1 fq1) ∨ (r_104 = 0 ∧ ¬ HAS D cn 3 ov1 yy1 fq1) := hw
          have hw_106 := hw
          refine lv_if_eq (tgt := 110) hx hb dX5_read_105 (by decide) (fun c_107 => ?_) (fun c_107 => ?_)
          ·
            have hHS1 : ¬ HAS D cn 3 (ooU (DMU V (hsU D cn V))) (yU (DMU V (hsU D cn V))) (faU (DMU V (hsU D cn V))) := fun q => orp0 hw_106 c_107 ((has_u hy1c).mpr q)
            refine lv_aload_n hx hb dX5_read_110 rfl (lv_at hl 2 rfl) ?_
            refine pg_get (ci := 5) (v := .ref d) (C := RX5) (T := TX5) (N := 7) hx hb hts it_5 hown hK hP hL_h0 hF_100 rfl 0 (by decide) (hts _ kt_463) (fun _ h9 => h9) rfl dX5_read_111 ?_
            refine lv_aload_n hx hb dX5_read_114 rfl (lv_at hl 2 rfl) ?_
            refine pg_get (ci := 5) (v := .ref w1) (C := RX5) (T := TX5) (N := 7) hx hb hts it_5 hown hK hP hL_h0 hF_100 rfl 2 (by decide) (hts _ kt_458) (fun _ h9 => h9) rfl dX5_read_115 ?_
            refine va_ldcS hx hb hown hr_q_80 dX5_read_118 ?_
            refine lv_iconst (v := 0) hx hb dX5_read_120 (by decide) ?_
            have hFc := pg_free hD hS hA
            refine va_calli (va_runV (As := [.ref w1, .ref q_80, .int 0]) (rest := []) ⟨hx, hb, hml, hown, hts⟩ (s_X2_onlyText_f l dC dI cs ty L H.size F_91 d δ ea w1 (ρ + 9) rw1 60 q_80 v_81 8 (cct [118, 61, 68, 77, 65, 82, 67, 49]) yy1 cn fq1 D ov1 DMS hW hi_1 ht_2 hL_w1 hT_w1 hF_99 (by omega) hy1a hy1b (by omega) (by omega) (hDI3) (⟨rfl, by decide +kernel⟩)) ⟨callB_of 3 hts (gi kt_499) rfl rfl rfl (hts _ kt_103) (hts _ kt_500) (by decide +kernel) ⟨Nat.le_of_ble_eq_true rfl, Nat.le_of_ble_eq_true rfl⟩, (hts _ kt_501), (hts _ kt_502)⟩ ⟨fun a U g mk q => ⟨q.1, PTC.calling q.2⟩, pg_recv hK hP hi_1 hF_99 (q := (RX2, TX2, 2)) rfl, fun U hU hWm => ⟨rfl, PTC.mk hU hWm hP hK hD hE hO hG hXc_q_80 hS hFc⟩⟩ rfl rfl hl.1 rfl (lv_room (Nat.le_of_ble_eq_true rfl)) dX5_read_121 ⟨by show _ + 0 ≤ 0; omega, by show _ + 0 ≤ 0; omega⟩) hS (fun q _ h => hFc q h) hFc (fun r_108 u t H1 locs ht hvm hw hB hz1 hk1 hS => ?_)
            obtain ⟨F_109, hB1⟩ := hB
            obtain rfl : F_91 = F_109 := (funext (fun a => hB1.2.2.2 a List.not_mem_nil)).symm
            obtain ⟨hP, hD, hO, hR⟩ := QT.back hB1 ht hFc hR (fun q h => absurd h List.not_mem_nil)
            generalize H1 = H at hP hS ⊢
            have hw : r_108 = otv (OTR ov1 yy1 fq1 8 DMS) D cn := hw
            have hw_110 := hw
            have hot1 : r_108 = otU D cn (DMU V (hsU D cn V)) := hw_110.trans (otv_cg (otr_u hy1c) cn)
            refine lv_istore_n (lv' := [(2, .int r_108), (3, .int 0), (0, .ref h0), (1, .ref mg)]) hx hb dX5_read_124 rfl hl (by decide) rfl (fun ls hl => ?_)
            refine lv_iload_n hx hb dX5_read_125 rfl (lv_at hl 0 rfl) ?_
            refine lv_if_ge (tgt := 133) hx hb dX5_read_126 (by decide) (fun c_111 => ?_) (fun c_111 => ?_)
            ·
              obtain ⟨jr, hjr, hje⟩ := otU_j hot1 (Int32.not_lt.mpr c_111)
              subst hje
              refine lv_aload_n hx hb dX5_read_133 rfl (lv_at hl 2 rfl) ?_
              refine lv_aload_n hx hb dX5_read_134 rfl (lv_at hl 2 rfl) ?_
              refine pg_get (ci := 5) (v := .ref d) (C := RX5) (T := TX5) (N := 7) hx hb hts it_5 hown hK hP hL_h0 hF_100 rfl 0 (by decide) (hts _ kt_463) (fun _ h9 => h9) rfl dX5_read_135 ?_
              refine lv_iload_n hx hb dX5_read_138 rfl (lv_at hl 0 rfl) ?_
              have hFc := pg_free hD hS hA
              refine va_callr (va_runV (As := [.int (nI jr)]) (rest := [.ref h0]) ⟨hx, hb, hml, hown, hts⟩ (s_X2_valueAt_e l dC dI cs ty L H.size F_91 d δ ea jr cn D hW hi_1 ht_2 (by omega) (hjr) (hDI3)) ⟨callB_of 1 hts (gi kt_381) rfl rfl rfl (hts _ kt_103) (hts _ kt_503) (by decide +kernel) ⟨Nat.le_of_ble_eq_true rfl, Nat.le_of_ble_eq_true rfl⟩, (hts _ kt_383), (hts _ kt_384)⟩ ⟨fun a U g mk q => ⟨q.1, PT.calling q.2⟩, pg_recv hK hP hi_1 hF_99 (q := (RX2, TX2, 2)) rfl, fun U hU hWm => ⟨rfl, PT.mk hU hWm hP hK hD hE hO⟩⟩ rfl rfl hl.1 rfl (lv_room (Nat.le_of_ble_eq_true rfl)) dX5_read_139 ⟨by show _ + 0 ≤ 0; omega, by show _ + 0 ≤ 0; omega⟩) hS (fun q _ h => hFc q h) hFc (fun u r_112 t H1 locs ht hvm hw hB hz1 hk1 hS => ?_)
              obtain ⟨F_113, vr_114, μ_115, hB1, hq_116, hq_117, hq_118⟩ := hB
              obtain rfl : F_91 = F_113 := (funext (fun a => hB1.2.2.2 a List.not_mem_nil)).symm
              obtain ⟨hP, hD, hO, hR⟩ := QT.back hB1 ht hFc hR (fun q h => absurd h List.not_mem_nil)
              generalize H1 = H at hP hS ⊢
              obtain ⟨hva1, hva2, hva3, hva4⟩ := hq_118
              obtain ⟨hi_119, ht_120, hq_121⟩ := hW.bytes hq_116 hq_117
              refine lv_iload_n hx hb dX5_read_142 rfl (lv_at hl 1 rfl) ?_
              have hFc := pg_free hD hS hA
              refine va_calli (va_runV (As := [.ref r_112, .int 0]) (rest := []) ⟨hx, hb, hml, hown, hts⟩ (s_X5_readRecord_e l dC dI cs ty L H.size F_91 h0 ρ d δ ea w0 w1 rc rx ry0 ry1 ry2 r_112 μ_115 vr_114 700 rr ((D jr).2.2.2.2.1) ((D jr).2.2.2.2.2) 0 hW hL_h0 hT_h0 hq_116 hq_117 hL_rc hT_rc hL_rx hT_rx hva1 hva2 (by omega) (by omega) (hva3) (by omega)) ⟨callB_of 2 hts (gi kt_504) rfl rfl rfl (hts _ kt_471) (hts _ kt_505) (by decide +kernel) ⟨Nat.le_of_ble_eq_true rfl, Nat.le_of_ble_eq_true rfl⟩, (hts _ kt_506), (hts _ kt_507)⟩ ⟨fun a U g mk q => ⟨q.1, PTE.calling q.2⟩, pg_recv hK hP hL_h0 hF_100 (q := (RX5, TX5, 7)) rfl, fun U hU hWm => ⟨rfl, PTE.mk hU hWm hP hK hD hE hO hG (fun x hx => absurd hx List.not_mem_nil) hS hFc⟩⟩ rfl rfl hl.1 rfl (lv_room (Nat.le_of_ble_eq_true rfl)) dX5_read_143 ⟨by show _ + 0 ≤ 0; omega, by show _ + 0 ≤ 0; omega⟩) hS (fun q _ h => hFc q h) hFc (fun r_122 u t H1 locs ht hvm hw hB hz1 hk1 hS => ?_)
              obtain ⟨F_123, hB1⟩ := hB
              obtain ⟨hP, hD, hO, hR⟩ := QT.back hB1 ht hFc hR (fun q h => by simp only [List.mem_cons, List.not_mem_nil, or_false] at h ⊢; omega)
              have hF_124 : F_123 mg = .inr (4, [.ref mx, .ref m0, .ref m1, .ref m2, .int (nI nn), .int bb]) := (hB1.2.2.2 mg (by rw [hT_mg]; simp only [List.mem_cons, List.not_mem_nil, or_false]; omega)).trans hF_93
              have hF_125 : F_123 mx = .inr (0, [.ref rm, .int (nI zm), .int 0]) := (hB1.2.2.2 mx (by rw [hT_mx]; simp only [List.mem_cons, List.not_mem_nil, or_false]; omega)).trans hF_94
              have hF_126 : F_123 rm = .inl (cs 16, 3000, .inl fm) := (hB1.2.2.2 rm (by rw [ht_25]; simp only [List.mem_cons, List.not_mem_nil, or_false]; omega)).trans hF_95
              have hF_127 : F_123 m0 = .inl (cs 16, 20, .inl e0) := (hB1.2.2.2 m0 (by rw [ht_21]; simp only [List.mem_cons, List.not_mem_nil, or_false]; omega)).trans hF_96
              have hF_128 : F_123 m1 = .inl (cs 16, 20, .inl e1) := (hB1.2.2.2 m1 (by rw [ht_22]; simp only [List.mem_cons, List.not_mem_nil, or_false]; omega)).trans hF_97
              have hF_129 : F_123 m2 = .inl (cs 16, 20, .inl e2) := (hB1.2.2.2 m2 (by rw [ht_23]; simp only [List.mem_cons, List.not_mem_nil, or_false]; omega)).trans hF_98
              have hF_130 : F_123 d = .inr (2, [.ref ea, .int (nI cn)]) := (hB1.2.2.2 d (by rw [ht_2]; simp only [List.mem_cons, List.not_mem_nil, or_false]; omega)).trans hF_99
              have hF_131 : F_123 ea = .inl (cs 21, 40, .inr (.inr (.inr (.inr f_33)))) := (hB1.2.2.2 ea (by rw [ht_32]; simp only [List.mem_cons, List.not_mem_nil, or_false]; omega)).trans hF_101
              have hF_132 : F_123 w0 = .inr (0, [.ref rw0, .int (nI V.length), .int 0]) := (hB1.2.2.2 w0 (by rw [hT_w0]; simp)).trans hF_102
              have hF_133 : F_123 rw0 = .inl (cs 16, 60, .inl fv) := (hB1.2.2.2 rw0 (by rw [ht_4]; simp)).trans hF_103
              have hF_134 : F_123 w1 = .inr (0, [.ref rw1, .int (nI yy1), .int ov1]) := (hB1.2.2.2 w1 (by rw [hT_w1]; simp)).trans hy1a
              have hF_135 : F_123 rw1 = .inl (cs 16, 60, .inl fq1) := (hB1.2.2.2 rw1 (by rw [ht_7]; simp)).trans hy1b
              generalize H1 = H at hP hS ⊢
              have hw : r_122 = rrW (TC (D jr).2.2.2.2.2 (D jr).2.2.2.2.1) (D jr).2.2.2.2.1 0 := hw
              have hw_136 := hw
              refine W.widen (k := 0) (n := 0) (by omega) (by omega) ?_
              exact W.iret (v := r_122) hx hb hr (fun t ht hWm => ⟨⟨r_122, (), rfl, ⟨wc, hcnt, Or.inr ⟨hw1, jf, hjf, hjn, hjm, by show (_ : Int32) = psW D cn (dmW (TC fm zm) (gc jf) (gd jf)); rw [← (hw_60).1, hVe]; show (_ : Int32) = pvW D cn V; unfold pvW; rw [if_neg hHS0, if_neg (show ¬ ¬ otU D cn (DMU V 0) < 0 from fun q => q hlt0), if_neg hHS1, if_neg (show ¬ otU D cn (DMU V (hsU D cn V)) < 0 from by rw [← hot1]; exact nI_pos (by omega))]; rw [rvU_j hot1 (by omega)]; exact hw_136⟩⟩, ⟨F_123, QT.mk ht hP hD hO hR⟩⟩, hS.F ht⟩) hS.2.2 dX5_read_146
            ·
              have hlt1 : otU D cn (DMU V (hsU D cn V)) < 0 := by rw [← hot1]; exact Int32.not_le.mp c_111
              refine lv_iconst (v := 0) hx hb dX5_read_129 (by decide) ?_
              refine lv_goto (tgt := 146) hx hb dX5_read_130 (by decide) ?_
              refine W.widen (k := 0) (n := 0) (by omega) (by omega) ?_
              exact W.iret (v := 0) hx hb hr (fun t ht hWm => ⟨⟨0, (), rfl, ⟨wc, hcnt, Or.inr ⟨hw1, jf, hjf, hjn, hjm, by show (_ : Int32) = psW D cn (dmW (TC fm zm) (gc jf) (gd jf)); rw [← (hw_60).1, hVe]; show (_ : Int32) = pvW D cn V; unfold pvW; rw [if_neg hHS0, if_neg (show ¬ ¬ otU D cn (DMU V 0) < 0 from fun q => q hlt0), if_neg hHS1, if_pos hlt1]⟩⟩, ⟨F_91, QT.mk ht hP hD hO hR⟩⟩, hS.F ht⟩) hS.2.2 dX5_read_146
          ·
            have hHS1 : HAS D cn 3 (ooU (DMU V (hsU D cn V))) (yU (DMU V (hsU D cn V))) (faU (DMU V (hsU D cn V))) := (has_u hy1c).mp (orp1 hw_106 c_107)
            refine lv_iconst (v := 5) hx hb dX5_read_108 (by decide) ?_
            refine W.widen (k := 0) (n := 0) (by omega) (by omega) ?_
            exact W.iret (v := 5) hx hb hr (fun t ht hWm => ⟨⟨5, (), rfl, ⟨wc, hcnt, Or.inr ⟨hw1, jf, hjf, hjn, hjm, by show (_ : Int32) = psW D cn (dmW (TC fm zm) (gc jf) (gd jf)); rw [← (hw_60).1, hVe]; show (_ : Int32) = pvW D cn V; unfold pvW; rw [if_neg hHS0, if_neg (show ¬ ¬ otU D cn (DMU V 0) < 0 from fun q => q hlt0), if_pos hHS1]⟩⟩, ⟨F_91, QT.mk ht hP hD hO hR⟩⟩, hS.F ht⟩) hS.2.2 dX5_read_109
        ·
          obtain ⟨jr, hjr, hje⟩ := otU_j hot0 c_85
          subst hje
          refine lv_iconst (v := 1) hx hb dX5_read_68 (by decide) ?_
          refine lv_goto (tgt := 73) hx hb dX5_read_69 (by decide) ?_
          refine lv_istore_n (lv' := [(3, .int 1), (2, .int (nI jr)), (0, .ref h0), (1, .ref mg)]) hx hb dX5_read_73 rfl hl (by decide) rfl (fun ls hl => ?_)
          refine lv_iload_n hx hb dX5_read_74 rfl (lv_at hl 0 rfl) ?_
          refine lv_if_ne (tgt := 125) hx hb dX5_read_75 (by decide) (fun c_137 => ?_) (fun c_137 => absurd c_137 (by decide))
          refine lv_iload_n hx hb dX5_read_125 rfl (lv_at hl 1 rfl) ?_
          refine lv_if_ge (tgt := 133) hx hb dX5_read_126 (by decide) (fun c_138 => ?_) (fun c_138 => absurd (Int32.not_lt.mp (nI_pos (by omega))) c_138)
          refine lv_aload_n hx hb dX5_read_133 rfl (lv_at hl 2 rfl) ?_
          refine lv_aload_n hx hb dX5_read_134 rfl (lv_at hl 2 rfl) ?_
          refine pg_get (ci := 5) (v := .ref d) (C := RX5) (T := TX5) (N := 7) hx hb hts it_5 hown hK hP hL_h0 hF_72 rfl 0 (by decide) (hts _ kt_463) (fun _ h9 => h9) rfl dX5_read_135 ?_
          refine lv_iload_n hx hb dX5_read_138 rfl (lv_at hl 1 rfl) ?_
          have hFc := pg_free hD hS hA
          refine va_callr (va_runV (As := [.int (nI jr)]) (rest := [.ref h0]) ⟨hx, hb, hml, hown, hts⟩ (s_X2_valueAt_e l dC dI cs ty L H.size F_63 d δ ea jr cn D hW hi_1 ht_2 (by omega) (hjr) (hDI2)) ⟨callB_of 1 hts (gi kt_381) rfl rfl rfl (hts _ kt_103) (hts _ kt_503) (by decide +kernel) ⟨Nat.le_of_ble_eq_true rfl, Nat.le_of_ble_eq_true rfl⟩, (hts _ kt_383), (hts _ kt_384)⟩ ⟨fun a U g mk q => ⟨q.1, PT.calling q.2⟩, pg_recv hK hP hi_1 hF_71 (q := (RX2, TX2, 2)) rfl, fun U hU hWm => ⟨rfl, PT.mk hU hWm hP hK hD hE hO⟩⟩ rfl rfl hl.1 rfl (lv_room (Nat.le_of_ble_eq_true rfl)) dX5_read_139 ⟨by show _ + 0 ≤ 0; omega, by show _ + 0 ≤ 0; omega⟩) hS (fun q _ h => hFc q h) hFc (fun u r_139 t H1 locs ht hvm hw hB hz1 hk1 hS => ?_)
          obtain ⟨F_140, vr_141, μ_142, hB1, hq_143, hq_144, hq_145⟩ := hB
          obtain rfl : F_63 = F_140 := (funext (fun a => hB1.2.2.2 a List.not_mem_nil)).symm
          obtain ⟨hP, hD, hO, hR⟩ := QT.back hB1 ht hFc hR (fun q h => absurd h List.not_mem_nil)
          generalize H1 = H at hP hS ⊢
          obtain ⟨hva1, hva2, hva3, hva4⟩ := hq_145
          obtain ⟨hi_146, ht_147, hq_148⟩ := hW.bytes hq_143 hq_144
          refine lv_iload_n hx hb dX5_read_142 rfl (lv_at hl 0 rfl) ?_
          have hFc := pg_free hD hS hA
          refine va_calli (va_runV (As := [.ref r_139, .int 1]) (rest := []) ⟨hx, hb, hml, hown, hts⟩ (s_X5_readRecord_e l dC dI cs ty L H.size F_63 h0 ρ d δ ea w0 w1 rc rx ry0 ry1 ry2 r_139 μ_142 vr_141 700 rr ((D jr).2.2.2.2.1) ((D jr).2.2.2.2.2) 1 hW hL_h0 hT_h0 hq_143 hq_144 hL_rc hT_rc hL_rx hT_rx hva1 hva2 (by omega) (by omega) (hva3) (by omega)) ⟨callB_of 2 hts (gi kt_504) rfl rfl rfl (hts _ kt_471) (hts _ kt_505) (by decide +kernel) ⟨Nat.le_of_ble_eq_true rfl, Nat.le_of_ble_eq_true rfl⟩, (hts _ kt_506), (hts _ kt_507)⟩ ⟨fun a U g mk q => ⟨q.1, PTE.calling q.2⟩, pg_recv hK hP hL_h0 hF_72 (q := (RX5, TX5, 7)) rfl, fun U hU hWm => ⟨rfl, PTE.mk hU hWm hP hK hD hE hO hG (fun x hx => absurd hx List.not_mem_nil) hS hFc⟩⟩ rfl rfl hl.1 rfl (lv_room (Nat.le_of_ble_eq_true rfl)) dX5_read_143 ⟨by show _ + 0 ≤ 0; omega, by show _ + 0 ≤ 0; omega⟩) hS (fun q _ h => hFc q h) hFc (fun r_149 u t H1 locs ht hvm hw hB hz1 hk1 hS => ?_)
          obtain ⟨F_150, hB1⟩ := hB
          obtain ⟨hP, hD, hO, hR⟩ := QT.back hB1 ht hFc hR (fun q h => by simp only [List.mem_cons, List.not_mem_nil, or_false] at h ⊢; omega)
          have hF_151 : F_150 mg = .inr (4, [.ref mx, .ref m0, .ref m1, .ref m2, .int (nI nn), .int bb]) := (hB1.2.2.2 mg (by rw [hT_mg]; simp only [List.mem_cons, List.not_mem_nil, or_false]; omega)).trans hF_65
          have hF_152 : F_150 mx = .inr (0, [.ref rm, .int (nI zm), .int 0]) := (hB1.2.2.2 mx (by rw [hT_mx]; simp only [List.mem_cons, List.not_mem_nil, or_false]; omega)).trans hF_66
          have hF_153 : F_150 rm = .inl (cs 16, 3000, .inl fm) := (hB1.2.2.2 rm (by rw [ht_25]; simp only [List.mem_cons, List.not_mem_nil, or_false]; omega)).trans hF_67
          have hF_154 : F_150 m0 = .inl (cs 16, 20, .inl e0) := (hB1.2.2.2 m0 (by rw [ht_21]; simp only [List.mem_cons, List.not_mem_nil, or_false]; omega)).trans hF_68
          have hF_155 : F_150 m1 = .inl (cs 16, 20, .inl e1) := (hB1.2.2.2 m1 (by rw [ht_22]; simp only [List.mem_cons, List.not_mem_nil, or_false]; omega)).trans hF_69
          have hF_156 : F_150 m2 = .inl (cs 16, 20, .inl e2) := (hB1.2.2.2 m2 (by rw [ht_23]; simp only [List.mem_cons, List.not_mem_nil, or_false]; omega)).trans hF_70
          have hF_157 : F_150 d = .inr (2, [.ref ea, .int (nI cn)]) := (hB1.2.2.2 d (by rw [ht_2]; simp only [List.mem_cons, List.not_mem_nil, or_false]; omega)).trans hF_71
          have hF_158 : F_150 ea = .inl (cs 21, 40, .inr (.inr (.inr (.inr f_33)))) := (hB1.2.2.2 ea (by rw [ht_32]; simp only [List.mem_cons, List.not_mem_nil, or_false]; omega)).trans hF_73
          have hF_159 : F_150 w0 = .inr (0, [.ref rw0, .int (nI V.length), .int 0]) := (hB1.2.2.2 w0 (by rw [hT_w0]; simp)).trans hF_74
          have hF_160 : F_150 rw0 = .inl (cs 16, 60, .inl fv) := (hB1.2.2.2 rw0 (by rw [ht_4]; simp)).trans hF_75
          have hF_161 : F_150 w1 = .inr (0, [.ref rw1, .int (nI yy0), .int ov0]) := (hB1.2.2.2 w1 (by rw [hT_w1]; simp)).trans hy0a
          have hF_162 : F_150 rw1 = .inl (cs 16, 60, .inl fq0) := (hB1.2.2.2 rw1 (by rw [ht_7]; simp)).trans hy0b
          generalize H1 = H at hP hS ⊢
          have hw : r_149 = rrW (TC (D jr).2.2.2.2.2 (D jr).2.2.2.2.1) (D jr).2.2.2.2.1 1 := hw
          have hw_163 := hw
          refine W.widen (k := 0) (n := 0) (by omega) (by omega) ?_
          exact W.iret (v := r_149) hx hb hr (fun t ht hWm => ⟨⟨r_149, (), rfl, ⟨wc, hcnt, Or.inr ⟨hw1, jf, hjf, hjn, hjm, by show (_ : Int32) = psW D cn (dmW (TC fm zm) (gc jf) (gd jf)); rw [← (hw_60).1, hVe]; show (_ : Int32) = pvW D cn V; unfold pvW; rw [if_neg hHS0, if_pos (show ¬ otU D cn (DMU V 0) < 0 from by rw [← hot0]; exact nI_pos (by omega))]; rw [rvU_j hot0 (by omega)]; exact hw_163⟩⟩, ⟨F_150, QT.mk ht hP hD hO hR⟩⟩, hS.F ht⟩) hS.2.2 dX5_read_146
      ·
        have hHS0 : HAS D cn 3 (ooU (DMU V 0)) (yU (DMU V 0)) (faU (DMU V 0)) := (has_u hy0c).mp (orp1 hw_78 c_79)
        refine lv_iconst (v := 5) hx hb dX5_read_47 (by decide) ?_
        refine W.widen (k := 0) (n := 0) (by omega) (by omega) ?_
        exact W.iret (v := 5) hx hb hr (fun t ht hWm => ⟨⟨5, (), rfl, ⟨wc, hcnt, Or.inr ⟨hw1, jf, hjf, hjn, hjm, by show (_ : Int32) = psW D cn (dmW (TC fm zm) (gc jf) (gd jf)); rw [← (hw_60).1, hVe]; show (_ : Int32) = pvW D cn V; unfold pvW; rw [if_pos hHS0]⟩⟩, ⟨F_63, QT.mk ht hP hD hO hR⟩⟩, hS.F ht⟩) hS.2.2 dX5_read_48
    ·
      have hgn := dmp_n hw_60 c_61
      refine lv_iconst (v := 1) hx hb dX5_read_25 (by decide) ?_
      refine W.widen (k := 0) (n := 0) (by omega) (by omega) ?_
      exact W.iret (v := 1) hx hb hr (fun t ht hWm => ⟨⟨1, (), rfl, ⟨wc, hcnt, Or.inr ⟨hw1, jf, hjf, hjn, hjm, by show (_ : Int32) = psW D cn (dmW (TC fm zm) (gc jf) (gd jf)); rw [← (hw_60).1, hgn]; rfl⟩⟩, ⟨F_49, QT.mk ht hP hD hO hR⟩⟩, hS.F ht⟩) hS.2.2 dX5_read_26
set_option maxHeartbeats 4000000 in
set_option maxRecDepth 100000 in
theorem s_X11_wish_c (l : Launch) (dC : Nat → ClassId) (dI : Nat → Nat → Nat) (cs : Nat → ClassId) (ty : TyM) (L : List Nat) (sz : Nat) (F : Nat → va_E) (h0 : Nat) (ρ : Nat) (ta : Nat) (ou : Nat) (di : Nat) (ea : Nat) (ck : Nat) (sl : Nat) (po : Nat) (hs : Nat) (cn : Nat) (w0 : Nat) (w1 : Nat) (w2 : Nat) (w3 : Nat) (nm : Nat) (te : Nat) (cc : Nat) (vo : Nat) (ad : Int32) (v1 : Int32) (D : Nat → ETY) (SD : SDR) (zt : Nat) (le : Nat) (sp : Nat) (x : Nat) (y0 : Nat) (y1 : Nat) (y2 : Nat) (rx : Nat) (zm : Nat) (nn : Nat) (μ : Nat) (fm : Nat → Int32) (e0 : Nat → Int32) (e1 : Nat → Int32) (e2 : Nat → Int32) (bb : Int32) (oo : Int32) (gb : Nat → Nat) (gc : Nat → Nat) (gd : Nat → Nat) (x1 : Int32) (hW : WT ty L) (hL_h0 : h0 ∈ L) (hT_h0 : ty h0 = (11, ρ, [ta, ou, di, ea, ck, sl, po, hs])) (hL_ck : ck ∈ L) (hT_ck : ty ck = (1, ρ + 5, [di, ρ + 3, ea, w0, w1, w2, w3, nm, te])) (hL_le : le ∈ L) (hT_le : ty le = (4, μ, [x, y0, y1, y2])) (hL_x : x ∈ L) (hT_x : ty x = (0, μ + 1, [rx, 3000])) (hTS : TS F ta zt) (hcn : cn ≤ 40) (hFk : F ck = .inr (1, [.ref di, .ref w0, .ref w1, .ref w2, .ref w3, .ref nm, .ref te, .int ad, .int v1, .int (nI cc), .int (nI vo)])) (hFd : F di = .inr (2, [.ref ea, .int (nI cn)])) (hDI : DIRC cs F ea cn D) (hSD : (v1 = 0 ∨ SNP cs F w0 w1 w2 w3 SD)) (hF0 : F h0 = .inr (11, [.ref ta, .ref ou, .ref di, .ref ck, .ref sl, .ref po, .ref hs, .ref le, .ref sp])) (hFe : F le = .inr (4, [.ref x, .ref y0, .ref y1, .ref y2, .int (nI nn), .int bb])) (hFx : F x = .inr (0, [.ref rx, .int (nI zm), .int oo])) (hoo : (nn = 0 ∨ oo = 0)) (hFrm : F rx = .inl (cs 16, 3000, .inl fm)) (hFm0 : F y0 = .inl (cs 16, 20, .inl e0)) (hFm1 : F y1 = .inl (cs 16, 20, .inl e1)) (hFm2 : F y2 = .inl (cs 16, 20, .inl e2)) (hz3 : zm ≤ 3000) (hn20 : nn ≤ 20) (hmu : μ = ρ + 20 ∨ μ = ρ + 30) (hpos : ∀ j, j < nn → e0 j = nI (gb j) ∧ e1 j = nI (gc j) ∧ e2 j = nI (gd j) ∧ gb j < gc j ∧ gc j < gd j ∧ gd j ≤ zm) (hcl : ∀ j, j < nn → fm (gc j) = 58) : Met l yX11_wish (.code yX11_wish cX11_wish 4 (some .int) :: tb) ({ frames := 101, cells := 0, slots := 0, locals := 2324 }) (va_Pc [.ref h0, .int x1] (PTE (dC, dI) cs ty L F sz [])) (va_Qi (fun (r : Int32) (_ : Unit) => True) (fun _ T9 => ∃ F2 : Nat → va_E, ∃ c9 : Nat, ∃ u9 : Nat, QT (dC, dI) cs ty L (chS (ρ + 5) 0 0 ++ [ρ + 7, ρ + 8, ρ + 9, ρ + 10, ρ + 11, ρ + 12, ρ + 13, ρ + 14, ρ + 15, ρ + 16, ρ + 17, ρ + 18, ρ + 24, ρ + 79, ρ + 80, ρ + 81, ρ + 82, ρ + 87, ρ + 88, ρ + 89, ρ + 90, ρ + 91, ρ + 92, ρ + 93, ρ + 94, ρ + 95, ρ + 96, ρ + 97, ρ + 98, ρ + 99, ρ + 100, ρ + 101, ρ + 102]) F F2 (va_A (va_pl L F) sz) T9 ∧ TS F2 ta zt ∧ F2 ck = .inr (1, [.ref di, .ref w0, .ref w1, .ref w2, .ref w3, .ref nm, .ref te, .int ad, .int v1, .int (nI c9), .int (nI u9)]) ∧ WCR (fun i => nmd F x y0 y1 (cct [102, 114, 111, 109]) 4 i) nn (fun j9 => psW D cn (dmW (TC fm zm) (gc j9) (gd j9))) v1 x1 cc vo (CHW D cn SD ad 11 SD.2.2.1 0 0).2 c9 u9) (va_A (va_pl L F) sz)) 0 0 (va_A (va_pl L F) sz) := by
  refine Met.ofW (cc := cX11_wish) (maxL := 4) (ret := (some .int)) (by decide) rfl ?_
  intro p e s m args below meth c s₁ B hml hv
  obtain ⟨rfl, ⟨hsz, hP, hK, hD0, hE, hO⟩, hG, hX⟩ := hv
  have hx := B.exec
  have hb := B.bytes
  have hr := B.returns
  have hts : ∀ w ∈ tb, w.before _ s = true := fun w h => atoms_spec (ws := .code yX11_wish cX11_wish 4 (some .int) :: tb) B.pre w (List.mem_cons_of_mem _ h)
  have hown : s.vm.findClass RX11 = some m.cls := findClass_of_methodNamed B.named
  have hlocks := B.notSynchronized
  subst hsz
  have hD := hD0.self (sz := s.heap.size)
  generalize hAe : va_A (va_pl L F) s.heap.size = A at hD hG hX ⊢
  have hA : ∀ q : Nat, s.heap.size ≤ q → A q := fun q h => by rw [← hAe]; exact Or.inr h
  have hS : va_S A s.heap s.heap [] := va_S.rf
  have hR : FR ty (chS (ρ + 5) 0 0 ++ [ρ + 7, ρ + 8, ρ + 9, ρ + 10, ρ + 11, ρ + 12, ρ + 13, ρ + 14, ρ + 15, ρ + 16, ρ + 17, ρ + 18, ρ + 24, ρ + 79, ρ + 80, ρ + 81, ρ + 82, ρ + 87, ρ + 88, ρ + 89, ρ + 90, ρ + 91, ρ + 92, ρ + 93, ρ + 94, ρ + 95, ρ + 96, ρ + 97, ρ + 98, ρ + 99, ρ + 100, ρ + 101, ρ + 102]) F F := FR.refl
  have hl := lv_entry ([.ref h0, .int x1]) (n := 4) (Nat.le_of_ble_eq_true rfl)
  rw [lg_entry_eq]
  generalize (lg_sl ([.ref h0, .int x1]) ++ List.replicate (4 - (lg_sl ([.ref h0, .int x1])).length) Slot.unset).toArray = ls at hl ⊢
  have hl : lv_has ls 4 [(0, .ref h0), (1, .int x1)] := hl
  obtain ⟨hi_1, ⟨r_2, ht_3⟩, hi_4, ⟨r_5, ht_6⟩, hi_7, ht_8, _, _, hi_9, ⟨l1_10, lx_11, ly0_12, ly1_13, ly2_14, k1_15, kx_16, ky0_17, ky1_18, ky2_19, w0_20, w1_21, w2_22, w3_23, w4_24, w5_25, w6_26, w7_27, w8_28, tk_29, h1_30, hx_31, hy_32, hw_33, pw_34, px_35, py_36, pz_37, pu_38, ht_39⟩, hi_40, ⟨w0_41, w1_42, rc_43, rx_44, ry0_45, ry1_46, ry2_47, ht_48⟩, hi_49, ⟨hx_50, hy_51, hw_52, ht_53⟩⟩ := hW.gate hL_h0 hT_h0
  obtain ⟨hi_54, ht_55, hq_56⟩ := hW.bytes hi_1 ht_3
  obtain ⟨z_57, o_58, hF_59, hq_60, hq_61⟩ := hO.bytes hi_1 ht_3
  have hts_62 := ts_of hF_59 hTS
  have hzt := (hTS).1
  obtain ⟨_, _, hi_63, ⟨r_64, ht_65⟩, hi_66, ⟨r_67, ht_68⟩, hi_69, ⟨r_70, ht_71⟩, hi_72, ⟨r_73, ht_74⟩, hi_75, ht_76, hi_77, ht_78⟩ := hW.chk hL_ck hT_ck
  have ht_65 : ty w0 = (0, ρ + 36, [r_64, 91]) := ht_65
  have ht_68 : ty w1 = (0, ρ + 37, [r_67, 30]) := ht_68
  have ht_71 : ty w2 = (0, ρ + 38, [r_70, 60]) := ht_71
  have ht_74 : ty w3 = (0, ρ + 39, [r_73, 15]) := ht_74
  have ht_76 : ty nm = (20, ρ + 40, [12]) := ht_76
  have ht_78 : ty te = (22, ρ + 41, [11]) := ht_78
  obtain ⟨hi_79, ht_80⟩ := hW.dir hi_7 ht_8
  obtain ⟨f_81, hF_82, hq_83⟩ := hO.rentry hi_79 ht_80
  obtain ⟨_, hi_84, hi_85, hi_86, _, ht_87, ht_88, ht_89⟩ := hW.msg hL_le hT_le
  obtain ⟨hi_90, ht_91, hq_92⟩ := hW.bytes hL_x hT_x
  have hO0 := hO
  have he0 := hF_82
  refine lv_aload_n hx hb dX11_wish_0 rfl (lv_at hl 0 rfl) ?_
  refine pg_get (ci := 11) (v := .ref ck) (C := RX11) (T := TX11) (N := 9) hx hb hts it_11 hown hK hP hL_h0 hF0 rfl 3 (by decide) (hts _ kt_517) (fun _ h9 => h9) rfl dX11_wish_1 ?_
  refine pg_getN (ci := 1) (v := .int v1) (C := RX1) (T := TX1) (N := 11) hx hb hts it_1 hown hK hP hL_ck hFk rfl 8 (by decide) (hE.nest kn_34) (fun _ h9 => h9) rfl dX11_wish_4 ?_
  refine lv_if_eq (tgt := 14) hx hb dX11_wish_7 (by decide) (fun c_93 => ?_) (fun c_93 => ?_)
  ·
    refine lv_iconst (v := (-1)) hx hb dX11_wish_14 (by decide) ?_
    refine W.widen (k := 0) (n := 0) (by omega) (by omega) ?_
    exact W.iret (v := (-1)) hx hb hr (fun t ht hWm => ⟨⟨(-1), (), rfl, trivial, ⟨F, cc, vo, QT.mk ht hP hD hO hR, ⟨hzt, _, hts_62⟩, hFk, (Or.inl ⟨Or.inl c_93, rfl, rfl⟩)⟩⟩, hS.F ht⟩) hS.2.2 dX11_wish_15
  ·
    refine lv_iload_n hx hb dX11_wish_10 rfl (lv_at hl 1 rfl) ?_
    refine lv_if_ge (tgt := 16) hx hb dX11_wish_11 (by decide) (fun c_94 => ?_) (fun c_94 => ?_)
    ·
      refine lv_aload_n hx hb dX11_wish_16 rfl (lv_at hl 0 rfl) ?_
      refine pg_get (ci := 11) (v := .ref le) (C := RX11) (T := TX11) (N := 9) hx hb hts it_11 hown hK hP hL_h0 hF0 rfl 7 (by decide) (hts _ kt_518) (fun _ h9 => h9) rfl dX11_wish_17 ?_
      refine pg_getN (ci := 4) (v := .int (nI nn)) (C := RX4) (T := TX4) (N := 6) hx hb hts it_4 hown hK hP hL_le hFe rfl 4 (by decide) (hE.nest kn_20) (fun _ h9 => h9) rfl dX11_wish_20 ?_
      refine lv_if_ne (tgt := 29) hx hb dX11_wish_23 (by decide) (fun c_95 => ?_) (fun c_95 => ?_)
      ·
        have hn0 : ¬ nn = 0 := fun q => c_95 (by rw [q]; rfl)
        refine lv_aload_n hx hb dX11_wish_29 rfl (lv_at hl 0 rfl) ?_
        refine pg_get (ci := 11) (v := .ref po) (C := RX11) (T := TX11) (N := 9) hx hb hts it_11 hown hK hP hL_h0 hF0 rfl 5 (by decide) (hts _ kt_534) (fun _ h9 => h9) rfl dX11_wish_30 ?_
        refine lv_aload_n hx hb dX11_wish_33 rfl (lv_at hl 0 rfl) ?_
        refine pg_get (ci := 11) (v := .ref le) (C := RX11) (T := TX11) (N := 9) hx hb hts it_11 hown hK hP hL_h0 hF0 rfl 7 (by decide) (hts _ kt_518) (fun _ h9 => h9) rfl dX11_wish_34 ?_
        obtain rfl := hoo.resolve_left hn0
        obtain ⟨_, _, hi_97, ⟨r_98, ht_99⟩, hi_100, ⟨r_101, ht_102⟩, hi_103, ht_104⟩ := hW.pol hi_40 ht_48
        have ht_99 : ty w0_41 = (0, ρ + 16, [r_98, 60]) := ht_99
        have ht_102 : ty w1_42 = (0, ρ + 24, [r_101, 60]) := ht_102
        have ht_104 : ty rc_43 = (9, ρ + 17, [rx_44, 700, ry0_45, ry1_46, ry2_47]) := ht_104
        obtain ⟨hi_105, hi_106, hi_107, hi_108, ⟨r_109, ht_110⟩, ht_111, ht_112, ht_113⟩ := hW.tags hi_103 ht_104
        have ht_110 : ty rx_44 = (0, ρ + 18, [r_109, 700]) := ht_110
        have ht_112 : ty ry1_46 = (24, ρ + 87, [40]) := ht_112
        have ht_113 : ty ry2_47 = (24, ρ + 88, [40]) := ht_113
        obtain ⟨hi_114, ht_115, hq_116⟩ := hW.bytes hi_105 ht_110
        obtain ⟨hi_117, ht_118, hq_119⟩ := hW.bytes hi_97 ht_99
        obtain ⟨hi_120, ht_121, hq_122⟩ := hW.bytes hi_100 ht_102
        have hFc := pg_free hD hS hA
        obtain ⟨v0_123, v1_124, v2_125, hF_126⟩ := hO.pol hi_40 ht_48
        refine va_calli (va_runV (As := [.ref le]) (rest := []) ⟨hx, hb, hml, hown, hts⟩ (s_X5_read_e l dC dI cs ty L s.heap.size F po (ρ + 15) di (ρ + 3) ea w0_41 w1_42 rc_43 rx_44 ry0_45 ry1_46 ry2_47 r_98 r_101 r_109 cn le μ x y0 y1 y2 rx zm nn fm e0 e1 e2 bb gb gc gd D hW hi_40 ht_48 hi_97 ht_99 hi_100 ht_102 hi_103 ht_104 hi_105 ht_110 hL_le hT_le hL_x hT_x hFe hFx hFrm hFm0 hFm1 hFm2 (by omega) (by omega) (hpos) (hcl) hFd (by omega) (hDI) (by omega) (by omega)) ⟨callB_of 1 hts (gi kt_659) rfl rfl rfl (hts _ kt_471) (hts _ kt_660) (by decide +kernel) ⟨Nat.le_of_ble_eq_true rfl, Nat.le_of_ble_eq_true rfl⟩, (hts _ kt_661), (hts _ kt_662)⟩ ⟨fun a U g mk q => ⟨q.1, PTE.calling q.2⟩, pg_recv hK hP hi_40 hF_126 (q := (RX5, TX5, 7)) rfl, fun U hU hWm => ⟨rfl, PTE.mk hU hWm hP hK hD hE hO hG (fun x hx => absurd hx List.not_mem_nil) hS hFc⟩⟩ rfl rfl hl.1 rfl (lv_room (Nat.le_of_ble_eq_true rfl)) dX11_wish_37 ⟨by show _ + 0 ≤ 0; omega, by show _ + 0 ≤ 0; omega⟩) hS (fun q _ h => hFc q h) hFc (fun r_127 u t H1 locs ht hvm hw hB hz1 hk1 hS => ?_)
        obtain ⟨F_128, hB1⟩ := hB
        obtain ⟨hP, hD, hO, hR⟩ := QT.back hB1 ht hFc hR (fun q h => by simp only [mem_chS, List.mem_append, List.mem_cons, List.not_mem_nil, or_false] at h ⊢; omega)
        have hF_129 : F_128 ck = .inr (1, [.ref di, .ref w0, .ref w1, .ref w2, .ref w3, .ref nm, .ref te, .int ad, .int v1, .int (nI cc), .int (nI vo)]) := (hB1.2.2.2 ck (by rw [hT_ck]; simp <;> omega)).trans hFk
        have hF_130 : F_128 di = .inr (2, [.ref ea, .int (nI cn)]) := (hB1.2.2.2 di (by rw [ht_8]; simp <;> omega)).trans hFd
        have hF_131 : F_128 h0 = .inr (11, [.ref ta, .ref ou, .ref di, .ref ck, .ref sl, .ref po, .ref hs, .ref le, .ref sp]) := (hB1.2.2.2 h0 (by rw [hT_h0]; simp <;> omega)).trans hF0
        have hF_132 : F_128 le = .inr (4, [.ref x, .ref y0, .ref y1, .ref y2, .int (nI nn), .int bb]) := (hB1.2.2.2 le (by rw [hT_le]; simp only [mem_chS, List.mem_append, List.mem_cons, List.not_mem_nil, or_false]; omega)).trans hFe
        have hF_133 : F_128 x = .inr (0, [.ref rx, .int (nI zm), .int 0]) := (hB1.2.2.2 x (by rw [hT_x]; simp only [mem_chS, List.mem_append, List.mem_cons, List.not_mem_nil, or_false]; omega)).trans hFx
        have hF_134 : F_128 rx = .inl (cs 16, 3000, .inl fm) := (hB1.2.2.2 rx (by rw [ht_91]; simp only [mem_chS, List.mem_append, List.mem_cons, List.not_mem_nil, or_false]; omega)).trans hFrm
        have hF_135 : F_128 y0 = .inl (cs 16, 20, .inl e0) := (hB1.2.2.2 y0 (by rw [ht_87]; simp only [mem_chS, List.mem_append, List.mem_cons, List.not_mem_nil, or_false]; omega)).trans hFm0
        have hF_136 : F_128 y1 = .inl (cs 16, 20, .inl e1) := (hB1.2.2.2 y1 (by rw [ht_88]; simp only [mem_chS, List.mem_append, List.mem_cons, List.not_mem_nil, or_false]; omega)).trans hFm1
        have hF_137 : F_128 y2 = .inl (cs 16, 20, .inl e2) := (hB1.2.2.2 y2 (by rw [ht_89]; simp only [mem_chS, List.mem_append, List.mem_cons, List.not_mem_nil, or_false]; omega)).trans hFm2
        have hF_138 : F_128 ta = .inr (0, [.ref r_2, .int (nI zt), .int 0]) := (hB1.2.2.2 ta (by rw [ht_3]; simp <;> omega)).trans hts_62
        have hF_139 : F_128 ea = .inl (cs 21, 40, .inr (.inr (.inr (.inr f_81)))) := (hB1.2.2.2 ea (by rw [ht_80]; simp <;> omega)).trans hF_82
        generalize H1 = H at hP hS ⊢
        have hw : PLR (fun i => nmd F x y0 y1 (cct [102, 114, 111, 109]) 4 i) nn (fun j9 => psW D cn (dmW (TC fm zm) (gc j9) (gd j9))) r_127 := hw
        have hw_140 := hw
        refine lv_istore_n (lv' := [(2, .int r_127), (0, .ref h0), (1, .int x1)]) hx hb dX11_wish_40 rfl hl (by decide) rfl (fun ls hl => ?_)
        refine lv_iload_n hx hb dX11_wish_41 rfl (lv_at hl 0 rfl) ?_
        refine lv_iconst (v := (-1)) hx hb dX11_wish_42 (by decide) ?_
        refine lv_icmp_eq (tgt := 48) hx hb dX11_wish_43 (by decide) (fun c_141 => ?_) (fun c_141 => ?_)
        ·
          refine lv_aload_n hx hb dX11_wish_48 rfl (lv_at hl 1 rfl) ?_
          refine pg_get (ci := 11) (v := .ref ck) (C := RX11) (T := TX11) (N := 9) hx hb hts it_11 hown hK hP hL_h0 hF_131 rfl 3 (by decide) (hts _ kt_517) (fun _ h9 => h9) rfl dX11_wish_49 ?_
          have hSD2 := (hSD.resolve_left c_93).fr hO0 hW hi_63 ht_65 hi_66 ht_68 hi_69 ht_71 hi_72 ht_74 hR (fun k9 h1 h2 => by simp only [mem_chS, List.mem_append, List.mem_cons, List.not_mem_nil, or_false]; omega)
          have hDI2 := DIRC.fr hDI hO0 hW hi_79 ht_80 hcn hR (hF_139.trans he0.symm) (fun k hk => by simp only [mem_chS, List.mem_append, List.mem_cons, List.not_mem_nil, or_false]; omega)
          have hFc := pg_free hD hS hA
          refine va_calli (va_runV (As := []) (rest := []) ⟨hx, hb, hml, hown, hts⟩ (s_X1_judge_e l dC dI cs ty L H.size F_128 ck (ρ + 5) di (ρ + 3) ea w0 w1 w2 w3 nm te cc vo ad v1 cn D SD hW hL_ck hT_ck (by omega) (by omega) hF_129 hF_130 (hDI2) (hSD2)) ⟨callB_of 0 hts (gi kt_655) rfl rfl rfl (hts _ kt_572) (hts _ kt_656) (by decide +kernel) ⟨Nat.le_of_ble_eq_true rfl, Nat.le_of_ble_eq_true rfl⟩, (hts _ kt_657), (hts _ kt_658)⟩ ⟨fun a U g mk q => ⟨q.1, PTE.calling q.2⟩, pg_recv hK hP hL_ck hF_129 (q := (RX1, TX1, 11)) rfl, fun U hU hWm => ⟨rfl, PTE.mk hU hWm hP hK hD hE hO hG (fun x hx => absurd hx List.not_mem_nil) hS hFc⟩⟩ rfl rfl hl.1 rfl (lv_room (Nat.le_of_ble_eq_true rfl)) dX11_wish_52 ⟨by show _ + 0 ≤ 0; omega, by show _ + 0 ≤ 0; omega⟩) hS (fun q _ h => hFc q h) hFc (fun r_143 gp_142 t H1 locs ht hvm hw hB hz1 hk1 hS => ?_)
          obtain ⟨F_144, hB1, hq_145⟩ := hB
          obtain ⟨hP, hD, hO, hR⟩ := QT.back hB1 ht hFc hR (fun q h => by simp only [mem_chS, List.mem_append, List.mem_cons, List.not_mem_nil, or_false] at h ⊢; omega)
          have hF_146 : F_144 di = .inr (2, [.ref ea, .int (nI cn)]) := (hB1.2.2.2 di (by rw [ht_8]; simp only [mem_chS, List.mem_append, List.mem_cons, List.not_mem_nil, or_false]; omega)).trans hF_130
          have hF_147 : F_144 h0 = .inr (11, [.ref ta, .ref ou, .ref di, .ref ck, .ref sl, .ref po, .ref hs, .ref le, .ref sp]) := (hB1.2.2.2 h0 (by rw [hT_h0]; simp only [mem_chS, List.mem_append, List.mem_cons, List.not_mem_nil, or_false]; omega)).trans hF_131
          have hF_148 : F_144 ta = .inr (0, [.ref r_2, .int (nI zt), .int 0]) := (hB1.2.2.2 ta (by rw [ht_3]; simp only [mem_chS, List.mem_append, List.mem_cons, List.not_mem_nil, or_false]; omega)).trans hF_138
          have hF_149 : F_144 ea = .inl (cs 21, 40, .inr (.inr (.inr (.inr f_81)))) := (hB1.2.2.2 ea (by rw [ht_80]; simp only [mem_chS, List.mem_append, List.mem_cons, List.not_mem_nil, or_false]; omega)).trans hF_139
          generalize H1 = H at hP hS ⊢
          have hw : (r_143 = nI (CHW D cn SD ad 11 SD.2.2.1 0 0).1 ∧ gp_142 = (CHW D cn SD ad 11 SD.2.2.1 0 0).2) := hw
          have hw_150 := hw
          refine lv_iconst (v := 2) hx hb dX11_wish_55 (by decide) ?_
          refine lv_icmp_ne (tgt := 87) hx hb dX11_wish_56 (by decide) (fun c_151 => ?_) (fun c_151 => ?_)
          ·
            refine lv_iconst (v := 0) hx hb dX11_wish_87 (by decide) ?_
            refine lv_istore_n (lv' := [(3, .int 0), (2, .int r_127), (0, .ref h0), (1, .int x1)]) hx hb dX11_wish_88 rfl hl (by decide) rfl (fun ls hl => ?_)
            refine lv_iload_n hx hb dX11_wish_89 rfl (lv_at hl 0 rfl) ?_
            refine lv_if_ne (tgt := 101) hx hb dX11_wish_90 (by decide) (fun c_152 => absurd (by decide) c_152) (fun c_152 => ?_)
            refine lv_aload_n hx hb dX11_wish_93 rfl (lv_at hl 2 rfl) ?_
            refine lv_iload_n hx hb dX11_wish_94 rfl (lv_at hl 3 rfl) ?_
            have hFc := pg_free hD hS hA
            refine va_calli (va_runV (As := [.int x1]) (rest := []) ⟨hx, hb, hml, hown, hts⟩ (s_X11_hasAlignedSeal l dC dI cs ty L H.size F_144 h0 ρ ta ou di ea ck sl po hs zt x1 hW hL_h0 hT_h0 (⟨hzt, _, hF_148⟩)) ⟨callB_of 1 hts (gi kt_663) rfl rfl rfl (hts _ kt_664) (hts _ kt_665) (by decide +kernel) ⟨Nat.le_of_ble_eq_true rfl, Nat.le_of_ble_eq_true rfl⟩, (hts _ kt_666), (hts _ kt_667)⟩ ⟨fun a U g mk q => ⟨q.1, PTE.calling q.2⟩, pg_recv hK hP hL_h0 hF_147 (q := (RX11, TX11, 9)) rfl, fun U hU hWm => ⟨rfl, PTE.mk hU hWm hP hK hD hE hO hG (fun x hx => absurd hx List.not_mem_nil) hS hFc⟩⟩ rfl rfl hl.1 rfl (lv_room (Nat.le_of_ble_eq_true rfl)) dX11_wish_95 ⟨by show _ + 0 ≤ 0; omega, by show _ + 0 ≤ 0; omega⟩) hS (fun q _ h => hFc q h) hFc (fun r_153 u t H1 locs ht hvm hw hB hz1 hk1 hS => ?_)
            obtain ⟨F_154, hB1, hq_155⟩ := hB
            obtain ⟨hP, hD, hO, hR⟩ := QT.back hB1 ht hFc hR (fun q h => by simp only [mem_chS, List.mem_append, List.mem_cons, List.not_mem_nil, or_false] at h ⊢; omega)
            have hF_156 : F_154 di = .inr (2, [.ref ea, .int (nI cn)]) := (hB1.2.2.2 di (by rw [ht_8]; simp)).trans hF_146
            have hF_157 : F_154 h0 = .inr (11, [.ref ta, .ref ou, .ref di, .ref ck, .ref sl, .ref po, .ref hs, .ref le, .ref sp]) := (hB1.2.2.2 h0 (by rw [hT_h0]; simp)).trans hF_147
            have hF_158 : F_154 ta = .inr (0, [.ref r_2, .int (nI zt), .int 0]) := (hB1.2.2.2 ta (by rw [ht_3]; simp)).trans hF_148
            have hF_159 : F_154 ea = .inl (cs 21, 40, .inr (.inr (.inr (.inr f_81)))) := (hB1.2.2.2 ea (by rw [ht_80]; simp)).trans hF_149
            have hF_160 : F_154 ck = .inr (1, [.ref di, .ref w0, .ref w1, .ref w2, .ref w3, .ref nm, .ref te, .int ad, .int v1, .int (nI gp_142.1), .int (nI gp_142.2)]) := (hB1.2.2.2 ck (by rw [hT_ck]; simp)).trans hq_145
            generalize H1 = H at hP hS ⊢
            have hw : (r_153 = 0 ∨ r_153 = 1) := hw
            have hw_161 := hw
            refine lv_if_eq (tgt := 105) hx hb dX11_wish_98 (by decide) (fun c_162 => ?_) (fun c_162 => ?_)
            ·
              refine lv_aload_n hx hb dX11_wish_105 rfl (lv_at hl 2 rfl) ?_
              refine pg_get (ci := 11) (v := .ref po) (C := RX11) (T := TX11) (N := 9) hx hb hts it_11 hown hK hP hL_h0 hF_157 rfl 5 (by decide) (hts _ kt_534) (fun _ h9 => h9) rfl dX11_wish_106 ?_
              obtain ⟨v0_163, v1_164, v2_165, hF_166⟩ := hO.pol hi_40 ht_48
              refine pg_getN (ci := 5) (v := .int v0_163) (C := RX5) (T := TX5) (N := 7) hx hb hts it_5 hown hK hP hi_40 hF_166 rfl 4 (by decide) (hE.nest kn_35) (fun _ h9 => h9) rfl dX11_wish_109 ?_
              refine W.widen (k := 0) (n := 0) (by omega) (by omega) ?_
              exact W.iret (v := v0_163) hx hb hr (fun t ht hWm => ⟨⟨v0_163, (), rfl, trivial, ⟨F_154, gp_142.1, gp_142.2, QT.mk ht hP hD hO hR, ⟨hzt, _, hF_158⟩, hF_160, (Or.inr ⟨c_93, Int32.not_lt.mpr c_94, hn0, _, hw_140, Or.inl ⟨c_141, (by have h9 := hw_150.2; rw [← h9])⟩⟩)⟩⟩, hS.F ht⟩) hS.2.2 dX11_wish_112
            ·
              refine lv_iconst (v := 2) hx hb dX11_wish_101 (by decide) ?_
              refine lv_goto (tgt := 112) hx hb dX11_wish_102 (by decide) ?_
              refine W.widen (k := 0) (n := 0) (by omega) (by omega) ?_
              exact W.iret (v := 2) hx hb hr (fun t ht hWm => ⟨⟨2, (), rfl, trivial, ⟨F_154, gp_142.1, gp_142.2, QT.mk ht hP hD hO hR, ⟨hzt, _, hF_158⟩, hF_160, (Or.inr ⟨c_93, Int32.not_lt.mpr c_94, hn0, _, hw_140, Or.inl ⟨c_141, (by have h9 := hw_150.2; rw [← h9])⟩⟩)⟩⟩, hS.F ht⟩) hS.2.2 dX11_wish_112
          ·
            refine lv_aload_n hx hb dX11_wish_59 rfl (lv_at hl 1 rfl) ?_
            refine pg_get (ci := 11) (v := .ref po) (C := RX11) (T := TX11) (N := 9) hx hb hts it_11 hown hK hP hL_h0 hF_147 rfl 5 (by decide) (hts _ kt_534) (fun _ h9 => h9) rfl dX11_wish_60 ?_
            refine lv_aload_n hx hb dX11_wish_63 rfl (lv_at hl 1 rfl) ?_
            refine pg_get (ci := 11) (v := .ref ck) (C := RX11) (T := TX11) (N := 9) hx hb hts it_11 hown hK hP hL_h0 hF_147 rfl 3 (by decide) (hts _ kt_517) (fun _ h9 => h9) rfl dX11_wish_64 ?_
            refine pg_getN (ci := 1) (v := .ref w2) (C := RX1) (T := TX1) (N := 11) hx hb hts it_1 hown hK hP hL_ck hq_145 rfl 3 (by decide) (hE.nest kn_36) (fun _ h9 => h9) rfl dX11_wish_67 ?_
            refine lv_aload_n hx hb dX11_wish_70 rfl (lv_at hl 1 rfl) ?_
            refine pg_get (ci := 11) (v := .ref po) (C := RX11) (T := TX11) (N := 9) hx hb hts it_11 hown hK hP hL_h0 hF_147 rfl 5 (by decide) (hts _ kt_534) (fun _ h9 => h9) rfl dX11_wish_71 ?_
            obtain ⟨v0_167, v1_168, v2_169, hF_170⟩ := hO.pol hi_40 ht_48
            refine pg_getN (ci := 5) (v := .int v1_168) (C := RX5) (T := TX5) (N := 7) hx hb hts it_5 hown hK hP hi_40 hF_170 rfl 5 (by decide) (hE.nest kn_37) (fun _ h9 => h9) rfl dX11_wish_74 ?_
            have hFc := pg_free hD hS hA
            refine va_calli (va_runV (As := [.ref w2, .int v1_168]) (rest := []) ⟨hx, hb, hml, hown, hts⟩ (s_X5_isAligned l dC dI cs ty L H.size F_144 po (ρ + 15) di (ρ + 3) ea w0_41 w1_42 rc_43 rx_44 ry0_45 ry1_46 ry2_47 w2 (ρ + 38) r_70 60 v1_168 hW hi_40 ht_48 hi_69 ht_71) ⟨callB_of 2 hts (gi kt_535) rfl rfl rfl (hts _ kt_471) (hts _ kt_536) (by decide +kernel) ⟨Nat.le_of_ble_eq_true rfl, Nat.le_of_ble_eq_true rfl⟩, (hts _ kt_537), (hts _ kt_538)⟩ ⟨fun a U g mk q => ⟨q.1, PT.calling q.2⟩, pg_recv hK hP hi_40 hF_170 (q := (RX5, TX5, 7)) rfl, fun U hU hWm => ⟨rfl, PT.mk hU hWm hP hK hD hE hO⟩⟩ rfl rfl hl.1 rfl (lv_room (Nat.le_of_ble_eq_true rfl)) dX11_wish_77 ⟨by show _ + 0 ≤ 0; omega, by show _ + 0 ≤ 0; omega⟩) hS (fun q _ h => hFc q h) hFc (fun r_171 u t H1 locs ht hvm hw hB hz1 hk1 hS => ?_)
            obtain ⟨F_172, hB1⟩ := hB
            obtain rfl : F_144 = F_172 := (funext (fun a => hB1.2.2.2 a List.not_mem_nil)).symm
            obtain ⟨hP, hD, hO, hR⟩ := QT.back hB1 ht hFc hR (fun q h => absurd h List.not_mem_nil)
            generalize H1 = H at hP hS ⊢
            have hw : (r_171 = 0 ∨ r_171 = 1) := hw
            have hw_173 := hw
            refine lv_if_eq (tgt := 87) hx hb dX11_wish_80 (by decide) (fun c_174 => ?_) (fun c_174 => ?_)
            ·
              refine lv_iconst (v := 0) hx hb dX11_wish_87 (by decide) ?_
              refine lv_istore_n (lv' := [(3, .int 0), (2, .int r_127), (0, .ref h0), (1, .int x1)]) hx hb dX11_wish_88 rfl hl (by decide) rfl (fun ls hl => ?_)
              refine lv_iload_n hx hb dX11_wish_89 rfl (lv_at hl 0 rfl) ?_
              refine lv_if_ne (tgt := 101) hx hb dX11_wish_90 (by decide) (fun c_175 => absurd (by decide) c_175) (fun c_175 => ?_)
              refine lv_aload_n hx hb dX11_wish_93 rfl (lv_at hl 2 rfl) ?_
              refine lv_iload_n hx hb dX11_wish_94 rfl (lv_at hl 3 rfl) ?_
              have hFc := pg_free hD hS hA
              refine va_calli (va_runV (As := [.int x1]) (rest := []) ⟨hx, hb, hml, hown, hts⟩ (s_X11_hasAlignedSeal l dC dI cs ty L H.size F_144 h0 ρ ta ou di ea ck sl po hs zt x1 hW hL_h0 hT_h0 (⟨hzt, _, hF_148⟩)) ⟨callB_of 1 hts (gi kt_663) rfl rfl rfl (hts _ kt_664) (hts _ kt_665) (by decide +kernel) ⟨Nat.le_of_ble_eq_true rfl, Nat.le_of_ble_eq_true rfl⟩, (hts _ kt_666), (hts _ kt_667)⟩ ⟨fun a U g mk q => ⟨q.1, PTE.calling q.2⟩, pg_recv hK hP hL_h0 hF_147 (q := (RX11, TX11, 9)) rfl, fun U hU hWm => ⟨rfl, PTE.mk hU hWm hP hK hD hE hO hG (fun x hx => absurd hx List.not_mem_nil) hS hFc⟩⟩ rfl rfl hl.1 rfl (lv_room (Nat.le_of_ble_eq_true rfl)) dX11_wish_95 ⟨by show _ + 0 ≤ 0; omega, by show _ + 0 ≤ 0; omega⟩) hS (fun q _ h => hFc q h) hFc (fun r_176 u t H1 locs ht hvm hw hB hz1 hk1 hS => ?_)
              obtain ⟨F_177, hB1, hq_178⟩ := hB
              obtain ⟨hP, hD, hO, hR⟩ := QT.back hB1 ht hFc hR (fun q h => by simp only [mem_chS, List.mem_append, List.mem_cons, List.not_mem_nil, or_false] at h ⊢; omega)
              have hF_179 : F_177 di = .inr (2, [.ref ea, .int (nI cn)]) := (hB1.2.2.2 di (by rw [ht_8]; simp)).trans hF_146
              have hF_180 : F_177 h0 = .inr (11, [.ref ta, .ref ou, .ref di, .ref ck, .ref sl, .ref po, .ref hs, .ref le, .ref sp]) := (hB1.2.2.2 h0 (by rw [hT_h0]; simp)).trans hF_147
              have hF_181 : F_177 ta = .inr (0, [.ref r_2, .int (nI zt), .int 0]) := (hB1.2.2.2 ta (by rw [ht_3]; simp)).trans hF_148
              have hF_182 : F_177 ea = .inl (cs 21, 40, .inr (.inr (.inr (.inr f_81)))) := (hB1.2.2.2 ea (by rw [ht_80]; simp)).trans hF_149
              have hF_183 : F_177 ck = .inr (1, [.ref di, .ref w0, .ref w1, .ref w2, .ref w3, .ref nm, .ref te, .int ad, .int v1, .int (nI gp_142.1), .int (nI gp_142.2)]) := (hB1.2.2.2 ck (by rw [hT_ck]; simp)).trans hq_145
              have hF_184 : F_177 po = .inr (5, [.ref di, .ref w0_41, .ref w1_42, .ref rc_43, .int v0_167, .int v1_168, .int v2_169]) := (hB1.2.2.2 po (by rw [ht_48]; simp)).trans hF_170
              generalize H1 = H at hP hS ⊢
              have hw : (r_176 = 0 ∨ r_176 = 1) := hw
              have hw_185 := hw
              refine lv_if_eq (tgt := 105) hx hb dX11_wish_98 (by decide) (fun c_186 => ?_) (fun c_186 => ?_)
              ·
                refine lv_aload_n hx hb dX11_wish_105 rfl (lv_at hl 2 rfl) ?_
                refine pg_get (ci := 11) (v := .ref po) (C := RX11) (T := TX11) (N := 9) hx hb hts it_11 hown hK hP hL_h0 hF_180 rfl 5 (by decide) (hts _ kt_534) (fun _ h9 => h9) rfl dX11_wish_106 ?_
                refine pg_getN (ci := 5) (v := .int v0_167) (C := RX5) (T := TX5) (N := 7) hx hb hts it_5 hown hK hP hi_40 hF_184 rfl 4 (by decide) (hE.nest kn_35) (fun _ h9 => h9) rfl dX11_wish_109 ?_
                refine W.widen (k := 0) (n := 0) (by omega) (by omega) ?_
                exact W.iret (v := v0_167) hx hb hr (fun t ht hWm => ⟨⟨v0_167, (), rfl, trivial, ⟨F_177, gp_142.1, gp_142.2, QT.mk ht hP hD hO hR, ⟨hzt, _, hF_181⟩, hF_183, (Or.inr ⟨c_93, Int32.not_lt.mpr c_94, hn0, _, hw_140, Or.inl ⟨c_141, (by have h9 := hw_150.2; rw [← h9])⟩⟩)⟩⟩, hS.F ht⟩) hS.2.2 dX11_wish_112
              ·
                refine lv_iconst (v := 2) hx hb dX11_wish_101 (by decide) ?_
                refine lv_goto (tgt := 112) hx hb dX11_wish_102 (by decide) ?_
                refine W.widen (k := 0) (n := 0) (by omega) (by omega) ?_
                exact W.iret (v := 2) hx hb hr (fun t ht hWm => ⟨⟨2, (), rfl, trivial, ⟨F_177, gp_142.1, gp_142.2, QT.mk ht hP hD hO hR, ⟨hzt, _, hF_181⟩, hF_183, (Or.inr ⟨c_93, Int32.not_lt.mpr c_94, hn0, _, hw_140, Or.inl ⟨c_141, (by have h9 := hw_150.2; rw [← h9])⟩⟩)⟩⟩, hS.F ht⟩) hS.2.2 dX11_wish_112
            ·
              refine lv_iconst (v := 1) hx hb dX11_wish_83 (by decide) ?_
              refine lv_goto (tgt := 88) hx hb dX11_wish_84 (by decide) ?_
              refine lv_istore_n (lv' := [(3, .int 1), (2, .int r_127), (0, .ref h0), (1, .int x1)]) hx hb dX11_wish_88 rfl hl (by decide) rfl (fun ls hl => ?_)
              refine lv_iload_n hx hb dX11_wish_89 rfl (lv_at hl 0 rfl) ?_
              refine lv_if_ne (tgt := 101) hx hb dX11_wish_90 (by decide) (fun c_187 => ?_) (fun c_187 => absurd c_187 (by decide))
              refine lv_iconst (v := 2) hx hb dX11_wish_101 (by decide) ?_
              refine lv_goto (tgt := 112) hx hb dX11_wish_102 (by decide) ?_
              refine W.widen (k := 0) (n := 0) (by omega) (by omega) ?_
              exact W.iret (v := 2) hx hb hr (fun t ht hWm => ⟨⟨2, (), rfl, trivial, ⟨F_144, gp_142.1, gp_142.2, QT.mk ht hP hD hO hR, ⟨hzt, _, hF_148⟩, hq_145, (Or.inr ⟨c_93, Int32.not_lt.mpr c_94, hn0, _, hw_140, Or.inl ⟨c_141, (by have h9 := hw_150.2; rw [← h9])⟩⟩)⟩⟩, hS.F ht⟩) hS.2.2 dX11_wish_112
        ·
          refine lv_iload_n hx hb dX11_wish_46 rfl (lv_at hl 0 rfl) ?_
          refine W.widen (k := 0) (n := 0) (by omega) (by omega) ?_
          exact W.iret (v := r_127) hx hb hr (fun t ht hWm => ⟨⟨r_127, (), rfl, trivial, ⟨F_128, cc, vo, QT.mk ht hP hD hO hR, ⟨hzt, _, hF_138⟩, hF_129, (Or.inr ⟨c_93, Int32.not_lt.mpr c_94, hn0, _, hw_140, Or.inr ⟨c_141, rfl, rfl⟩⟩)⟩⟩, hS.F ht⟩) hS.2.2 dX11_wish_47
      ·
        have hn0 : nn = 0 := (nI_eq (b := 0) (by omega) (by omega)).mp c_95
        refine lv_bipush (v := (-2)) hx hb dX11_wish_26 (by decide) ?_
        refine W.widen (k := 0) (n := 0) (by omega) (by omega) ?_
        exact W.iret (v := (-2)) hx hb hr (fun t ht hWm => ⟨⟨(-2), (), rfl, trivial, ⟨F, cc, vo, QT.mk ht hP hD hO hR, ⟨hzt, _, hts_62⟩, hFk, (Or.inl ⟨Or.inr (Or.inr hn0), rfl, rfl⟩)⟩⟩, hS.F ht⟩) hS.2.2 dX11_wish_28
    ·
      refine lv_iconst (v := (-1)) hx hb dX11_wish_14 (by decide) ?_
      refine W.widen (k := 0) (n := 0) (by omega) (by omega) ?_
      exact W.iret (v := (-1)) hx hb hr (fun t ht hWm => ⟨⟨(-1), (), rfl, trivial, ⟨F, cc, vo, QT.mk ht hP hD hO hR, ⟨hzt, _, hts_62⟩, hFk, (Or.inl ⟨Or.inr (Or.inl (Int32.not_le.mp c_94)), rfl, rfl⟩)⟩⟩, hS.F ht⟩) hS.2.2 dX11_wish_15
set_option maxHeartbeats 4000000 in
set_option maxRecDepth 100000 in
theorem s_X11_permission_c (l : Launch) (dC : Nat → ClassId) (dI : Nat → Nat → Nat) (cs : Nat → ClassId) (ty : TyM) (L : List Nat) (sz : Nat) (F : Nat → va_E) (h0 : Nat) (ρ : Nat) (ta : Nat) (ou : Nat) (di : Nat) (ea : Nat) (ck : Nat) (sl : Nat) (po : Nat) (hs : Nat) (cn : Nat) (w0 : Nat) (w1 : Nat) (w2 : Nat) (w3 : Nat) (nm : Nat) (te : Nat) (cc : Nat) (vo : Nat) (ad : Int32) (v1 : Int32) (D : Nat → ETY) (SD : SDR) (hW : WT ty L) (hL_h0 : h0 ∈ L) (hT_h0 : ty h0 = (11, ρ, [ta, ou, di, ea, ck, sl, po, hs])) (hL_ck : ck ∈ L) (hT_ck : ty ck = (1, ρ + 5, [di, ρ + 3, ea, w0, w1, w2, w3, nm, te])) (hcn : cn ≤ 40) (hFk : F ck = .inr (1, [.ref di, .ref w0, .ref w1, .ref w2, .ref w3, .ref nm, .ref te, .int ad, .int v1, .int (nI cc), .int (nI vo)])) (hFd : F di = .inr (2, [.ref ea, .int (nI cn)])) (hDI : DIRC cs F ea cn D) (hSD : (v1 = 0 ∨ SNP cs F w0 w1 w2 w3 SD)) : Met l yX11_permission (.code yX11_permission cX11_permission 1 (some .int) :: tb) ({ frames := 101, cells := 0, slots := 0, locals := 2324 }) (va_Pc [.ref h0] (PTE (dC, dI) cs ty L F sz [])) (va_Qi (fun (r : Int32) (_ : Unit) => r = (if v1 = 0 then (-1) else nI (CHW D cn SD ad 11 SD.2.2.1 0 0).1)) (fun _ T9 => ∃ F2 : Nat → va_E, ∃ c9 : Nat, ∃ u9 : Nat, QT (dC, dI) cs ty L (chS (ρ + 5) 0 0) F F2 (va_A (va_pl L F) sz) T9 ∧ F2 ck = .inr (1, [.ref di, .ref w0, .ref w1, .ref w2, .ref w3, .ref nm, .ref te, .int ad, .int v1, .int (nI c9), .int (nI u9)]) ∧ ((v1 = 0 ∧ c9 = cc ∧ u9 = vo) ∨ (¬ v1 = 0 ∧ (c9, u9) = (CHW D cn SD ad 11 SD.2.2.1 0 0).2))) (va_A (va_pl L F) sz)) 0 0 (va_A (va_pl L F) sz) := by
  refine Met.ofW (cc := cX11_permission) (maxL := 1) (ret := (some .int)) (by decide) rfl ?_
  intro p e s m args below meth c s₁ B hml hv
  obtain ⟨rfl, ⟨hsz, hP, hK, hD0, hE, hO⟩, hG, hX⟩ := hv
  have hx := B.exec
  have hb := B.bytes
  have hr := B.returns
  have hts : ∀ w ∈ tb, w.before _ s = true := fun w h => atoms_spec (ws := .code yX11_permission cX11_permission 1 (some .int) :: tb) B.pre w (List.mem_cons_of_mem _ h)
  have hown : s.vm.findClass RX11 = some m.cls := findClass_of_methodNamed B.named
  have hlocks := B.notSynchronized
  subst hsz
  have hD := hD0.self (sz := s.heap.size)
  generalize hAe : va_A (va_pl L F) s.heap.size = A at hD hG hX ⊢
  have hA : ∀ q : Nat, s.heap.size ≤ q → A q := fun q h => by rw [← hAe]; exact Or.inr h
  have hS : va_S A s.heap s.heap [] := va_S.rf
  have hR : FR ty (chS (ρ + 5) 0 0) F F := FR.refl
  have hl := lv_entry ([.ref h0]) (n := 1) (Nat.le_of_ble_eq_true rfl)
  rw [lg_entry_eq]
  generalize (lg_sl ([.ref h0]) ++ List.replicate (1 - (lg_sl ([.ref h0])).length) Slot.unset).toArray = ls at hl ⊢
  have hl : lv_has ls 1 [(0, .ref h0)] := hl
  obtain ⟨hi_1, ⟨r_2, ht_3⟩, hi_4, ⟨r_5, ht_6⟩, hi_7, ht_8, _, _, hi_9, ⟨l1_10, lx_11, ly0_12, ly1_13, ly2_14, k1_15, kx_16, ky0_17, ky1_18, ky2_19, w0_20, w1_21, w2_22, w3_23, w4_24, w5_25, w6_26, w7_27, w8_28, tk_29, h1_30, hx_31, hy_32, hw_33, pw_34, px_35, py_36, pz_37, pu_38, ht_39⟩, hi_40, ⟨w0_41, w1_42, rc_43, rx_44, ry0_45, ry1_46, ry2_47, ht_48⟩, hi_49, ⟨hx_50, hy_51, hw_52, ht_53⟩⟩ := hW.gate hL_h0 hT_h0
  obtain ⟨le_54, sp_55, μ_56, ν_57, hF_58, hq_59, hq_60, hq_61, hq_62, hq_63, hq_64⟩ := hO.gate hL_h0 hT_h0
  obtain ⟨x_65, y0_66, y1_67, y2_68, ht_69⟩ := id hq_60
  obtain ⟨x_70, y0_71, y1_72, y2_73, ht_74⟩ := id hq_62
  obtain ⟨_, _, hi_75, ⟨r_76, ht_77⟩, hi_78, ⟨r_79, ht_80⟩, hi_81, ⟨r_82, ht_83⟩, hi_84, ⟨r_85, ht_86⟩, hi_87, ht_88, hi_89, ht_90⟩ := hW.chk hL_ck hT_ck
  have ht_77 : ty w0 = (0, ρ + 36, [r_76, 91]) := ht_77
  have ht_80 : ty w1 = (0, ρ + 37, [r_79, 30]) := ht_80
  have ht_83 : ty w2 = (0, ρ + 38, [r_82, 60]) := ht_83
  have ht_86 : ty w3 = (0, ρ + 39, [r_85, 15]) := ht_86
  have ht_88 : ty nm = (20, ρ + 40, [12]) := ht_88
  have ht_90 : ty te = (22, ρ + 41, [11]) := ht_90
  obtain ⟨hi_91, ht_92⟩ := hW.dir hi_7 ht_8
  refine lv_aload_n hx hb dX11_permission_0 rfl (lv_at hl 0 rfl) ?_
  refine pg_get (ci := 11) (v := .ref ck) (C := RX11) (T := TX11) (N := 9) hx hb hts it_11 hown hK hP hL_h0 hF_58 rfl 3 (by decide) (hts _ kt_517) (fun _ h9 => h9) rfl dX11_permission_1 ?_
  refine pg_getN (ci := 1) (v := .int v1) (C := RX1) (T := TX1) (N := 11) hx hb hts it_1 hown hK hP hL_ck hFk rfl 8 (by decide) (hE.nest kn_34) (fun _ h9 => h9) rfl dX11_permission_4 ?_
  refine lv_if_eq (tgt := 20) hx hb dX11_permission_7 (by decide) (fun c_93 => ?_) (fun c_93 => ?_)
  ·
    refine lv_iconst (v := (-1)) hx hb dX11_permission_20 (by decide) ?_
    refine W.widen (k := 0) (n := 0) (by omega) (by omega) ?_
    exact W.iret (v := (-1)) hx hb hr (fun t ht hWm => ⟨⟨(-1), (), rfl, ((if_pos c_93).symm), ⟨F, cc, vo, QT.mk ht hP hD hO hR, hFk, (Or.inl ⟨c_93, rfl, rfl⟩)⟩⟩, hS.F ht⟩) hS.2.2 dX11_permission_21
  ·
    refine lv_aload_n hx hb dX11_permission_10 rfl (lv_at hl 0 rfl) ?_
    refine pg_get (ci := 11) (v := .ref ck) (C := RX11) (T := TX11) (N := 9) hx hb hts it_11 hown hK hP hL_h0 hF_58 rfl 3 (by decide) (hts _ kt_517) (fun _ h9 => h9) rfl dX11_permission_11 ?_
    have hFc := pg_free hD hS hA
    refine va_calli (va_runV (As := []) (rest := []) ⟨hx, hb, hml, hown, hts⟩ (s_X1_judge_e l dC dI cs ty L s.heap.size F ck (ρ + 5) di (ρ + 3) ea w0 w1 w2 w3 nm te cc vo ad v1 cn D SD hW hL_ck hT_ck (by omega) (by omega) hFk hFd (hDI) (hSD.resolve_left c_93)) ⟨callB_of 0 hts (gi kt_655) rfl rfl rfl (hts _ kt_572) (hts _ kt_656) (by decide +kernel) ⟨Nat.le_of_ble_eq_true rfl, Nat.le_of_ble_eq_true rfl⟩, (hts _ kt_657), (hts _ kt_658)⟩ ⟨fun a U g mk q => ⟨q.1, PTE.calling q.2⟩, pg_recv hK hP hL_ck hFk (q := (RX1, TX1, 11)) rfl, fun U hU hWm => ⟨rfl, PTE.mk hU hWm hP hK hD hE hO hG (fun x hx => absurd hx List.not_mem_nil) hS hFc⟩⟩ rfl rfl hl.1 rfl (lv_room (Nat.le_of_ble_eq_true rfl)) dX11_permission_14 ⟨by show _ + 0 ≤ 0; omega, by show _ + 0 ≤ 0; omega⟩) hS (fun q _ h => hFc q h) hFc (fun r_95 gp_94 t H1 locs ht hvm hw hB hz1 hk1 hS => ?_)
    obtain ⟨F_96, hB1, hq_97⟩ := hB
    obtain ⟨hP, hD, hO, hR⟩ := QT.back hB1 ht hFc hR (fun q h => by simp only [mem_chS, List.mem_append, List.mem_cons, List.not_mem_nil, or_false] at h ⊢; omega)
    have hF_98 : F_96 di = .inr (2, [.ref ea, .int (nI cn)]) := (hB1.2.2.2 di (by rw [ht_8]; simp only [mem_chS, List.mem_append, List.mem_cons, List.not_mem_nil, or_false]; omega)).trans hFd
    have hF_99 : F_96 h0 = .inr (11, [.ref ta, .ref ou, .ref di, .ref ck, .ref sl, .ref po, .ref hs, .ref le_54, .ref sp_55]) := (hB1.2.2.2 h0 (by rw [hT_h0]; simp only [mem_chS, List.mem_append, List.mem_cons, List.not_mem_nil, or_false]; omega)).trans hF_58
    generalize H1 = H at hP hS ⊢
    have hw : (r_95 = nI (CHW D cn SD ad 11 SD.2.2.1 0 0).1 ∧ gp_94 = (CHW D cn SD ad 11 SD.2.2.1 0 0).2) := hw
    have hw_100 := hw
    refine lv_goto (tgt := 21) hx hb dX11_permission_17 (by decide) ?_
    refine W.widen (k := 0) (n := 0) (by omega) (by omega) ?_
    exact W.iret (v := r_95) hx hb hr (fun t ht hWm => ⟨⟨r_95, (), rfl, (by rw [if_neg c_93]; exact hw_100.1), ⟨F_96, gp_94.1, gp_94.2, QT.mk ht hP hD hO hR, hq_97, (Or.inr ⟨c_93, (by have h9 := hw_100.2; rw [← h9])⟩)⟩⟩, hS.F ht⟩) hS.2.2 dX11_permission_21
set_option maxHeartbeats 4000000 in
set_option maxRecDepth 100000 in
theorem s_X11_cost_c (l : Launch) (dC : Nat → ClassId) (dI : Nat → Nat → Nat) (cs : Nat → ClassId) (ty : TyM) (L : List Nat) (sz : Nat) (F : Nat → va_E) (h0 : Nat) (ρ : Nat) (ta : Nat) (ou : Nat) (di : Nat) (ea : Nat) (ck : Nat) (sl : Nat) (po : Nat) (hs : Nat) (w0 : Nat) (w1 : Nat) (w2 : Nat) (w3 : Nat) (nm : Nat) (te : Nat) (cc : Nat) (vo : Nat) (ad : Int32) (v1 : Int32) (x1 : Int32) (hW : WT ty L) (hL_h0 : h0 ∈ L) (hT_h0 : ty h0 = (11, ρ, [ta, ou, di, ea, ck, sl, po, hs])) (hL_ck : ck ∈ L) (hT_ck : ty ck = (1, ρ + 5, [di, ρ + 3, ea, w0, w1, w2, w3, nm, te])) (hFk : F ck = .inr (1, [.ref di, .ref w0, .ref w1, .ref w2, .ref w3, .ref nm, .ref te, .int ad, .int v1, .int (nI cc), .int (nI vo)])) : Met l yX11_cost (.code yX11_cost cX11_cost 2 (some .int) :: tb) ({ frames := 0, cells := 0, slots := 0, locals := 0 }) (va_Pc [.ref h0, .int x1] (PT (dC, dI) cs ty L F sz)) (va_Qi (fun (r : Int32) (_ : Unit) => r = (if x1 = 0 then nI cc else if x1 = 1 then nI vo else (-1))) (fun _ T9 => ∃ F2 : Nat → va_E, QT (dC, dI) cs ty L [] F F2 (va_A (va_pl L F) sz) T9) (va_A (va_pl L F) sz)) 0 0 (va_A (va_pl L F) sz) := by
  refine Met.ofW (cc := cX11_cost) (maxL := 2) (ret := (some .int)) (by decide) rfl ?_
  intro p e s m args below meth c s₁ B hml hv
  obtain ⟨rfl, hsz, hP, hK, hD0, hE, hO⟩ := hv
  have hx := B.exec
  have hb := B.bytes
  have hr := B.returns
  have hts : ∀ w ∈ tb, w.before _ s = true := fun w h => atoms_spec (ws := .code yX11_cost cX11_cost 2 (some .int) :: tb) B.pre w (List.mem_cons_of_mem _ h)
  have hown : s.vm.findClass RX11 = some m.cls := findClass_of_methodNamed B.named
  have hlocks := B.notSynchronized
  subst hsz
  have hD := hD0.self (sz := s.heap.size)
  generalize hAe : va_A (va_pl L F) s.heap.size = A at hD ⊢
  have hA : ∀ q : Nat, s.heap.size ≤ q → A q := fun q h => by rw [← hAe]; exact Or.inr h
  have hS : va_S A s.heap s.heap [] := va_S.rf
  have hR : FR ty [] F F := FR.refl
  have hl := lv_entry ([.ref h0, .int x1]) (n := 2) (Nat.le_of_ble_eq_true rfl)
  rw [lg_entry_eq]
  generalize (lg_sl ([.ref h0, .int x1]) ++ List.replicate (2 - (lg_sl ([.ref h0, .int x1])).length) Slot.unset).toArray = ls at hl ⊢
  have hl : lv_has ls 2 [(0, .ref h0), (1, .int x1)] := hl
  obtain ⟨hi_1, ⟨r_2, ht_3⟩, hi_4, ⟨r_5, ht_6⟩, hi_7, ht_8, _, _, hi_9, ⟨l1_10, lx_11, ly0_12, ly1_13, ly2_14, k1_15, kx_16, ky0_17, ky1_18, ky2_19, w0_20, w1_21, w2_22, w3_23, w4_24, w5_25, w6_26, w7_27, w8_28, tk_29, h1_30, hx_31, hy_32, hw_33, pw_34, px_35, py_36, pz_37, pu_38, ht_39⟩, hi_40, ⟨w0_41, w1_42, rc_43, rx_44, ry0_45, ry1_46, ry2_47, ht_48⟩, hi_49, ⟨hx_50, hy_51, hw_52, ht_53⟩⟩ := hW.gate hL_h0 hT_h0
  obtain ⟨le_54, sp_55, μ_56, ν_57, hF_58, hq_59, hq_60, hq_61, hq_62, hq_63, hq_64⟩ := hO.gate hL_h0 hT_h0
  obtain ⟨x_65, y0_66, y1_67, y2_68, ht_69⟩ := id hq_60
  obtain ⟨x_70, y0_71, y1_72, y2_73, ht_74⟩ := id hq_62
  obtain ⟨_, _, hi_75, ⟨r_76, ht_77⟩, hi_78, ⟨r_79, ht_80⟩, hi_81, ⟨r_82, ht_83⟩, hi_84, ⟨r_85, ht_86⟩, hi_87, ht_88, hi_89, ht_90⟩ := hW.chk hL_ck hT_ck
  have ht_77 : ty w0 = (0, ρ + 36, [r_76, 91]) := ht_77
  have ht_80 : ty w1 = (0, ρ + 37, [r_79, 30]) := ht_80
  have ht_83 : ty w2 = (0, ρ + 38, [r_82, 60]) := ht_83
  have ht_86 : ty w3 = (0, ρ + 39, [r_85, 15]) := ht_86
  have ht_88 : ty nm = (20, ρ + 40, [12]) := ht_88
  have ht_90 : ty te = (22, ρ + 41, [11]) := ht_90
  refine lv_iload_n hx hb dX11_cost_0 rfl (lv_at hl 1 rfl) ?_
  by_cases c_91 : x1 = 0
  ·
    refine lv_lookup (off := 27) (tgt := 28) hx hb dX11_cost_1 (by decide) (by rw [c_91]; decide) (by decide) ?_
    refine lv_aload_n hx hb dX11_cost_28 rfl (lv_at hl 0 rfl) ?_
    refine pg_get (ci := 11) (v := .ref ck) (C := RX11) (T := TX11) (N := 9) hx hb hts it_11 hown hK hP hL_h0 hF_58 rfl 3 (by decide) (hts _ kt_517) (fun _ h9 => h9) rfl dX11_cost_29 ?_
    refine pg_getN (ci := 1) (v := .int (nI cc)) (C := RX1) (T := TX1) (N := 11) hx hb hts it_1 hown hK hP hL_ck hFk rfl 9 (by decide) (hE.nest kn_18) (fun _ h9 => h9) rfl dX11_cost_32 ?_
    refine W.widen (k := 0) (n := 0) (by omega) (by omega) ?_
    exact W.iret (v := (nI cc)) hx hb hr (fun t ht hWm => ⟨⟨(nI cc), (), rfl, ((if_pos c_91).symm), ⟨F, QT.mk ht hP hD hO hR⟩⟩, hS.F ht⟩) hS.2.2 dX11_cost_35
  ·
    by_cases c_92 : x1 = 1
    ·
      refine lv_lookup (off := 35) (tgt := 36) hx hb dX11_cost_1 (by decide) (by rw [c_92]; decide) (by decide) ?_
      refine lv_aload_n hx hb dX11_cost_36 rfl (lv_at hl 0 rfl) ?_
      refine pg_get (ci := 11) (v := .ref ck) (C := RX11) (T := TX11) (N := 9) hx hb hts it_11 hown hK hP hL_h0 hF_58 rfl 3 (by decide) (hts _ kt_517) (fun _ h9 => h9) rfl dX11_cost_37 ?_
      refine pg_getN (ci := 1) (v := .int (nI vo)) (C := RX1) (T := TX1) (N := 11) hx hb hts it_1 hown hK hP hL_ck hFk rfl 10 (by decide) (hE.nest kn_19) (fun _ h9 => h9) rfl dX11_cost_40 ?_
      refine W.widen (k := 0) (n := 0) (by omega) (by omega) ?_
      exact W.iret (v := (nI vo)) hx hb hr (fun t ht hWm => ⟨⟨(nI vo), (), rfl, (((if_neg c_91).trans (if_pos c_92)).symm), ⟨F, QT.mk ht hP hD hO hR⟩⟩, hS.F ht⟩) hS.2.2 dX11_cost_43
    ·
      refine lv_lookup (off := 43) (tgt := 44) hx hb dX11_cost_1 (by decide) (lk2 _ _ _ _ _ (fun h => c_91 (Int32.toInt_inj.mp h)) (fun h => c_92 (Int32.toInt_inj.mp h))) (by decide) ?_
      refine lv_iconst (v := (-1)) hx hb dX11_cost_44 (by decide) ?_
      refine W.widen (k := 0) (n := 0) (by omega) (by omega) ?_
      exact W.iret (v := (-1)) hx hb hr (fun t ht hWm => ⟨⟨(-1), (), rfl, (((if_neg c_91).trans (if_neg c_92)).symm), ⟨F, QT.mk ht hP hD hO hR⟩⟩, hS.F ht⟩) hS.2.2 dX11_cost_45
