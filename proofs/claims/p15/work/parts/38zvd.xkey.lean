theorem dce_y {P : Prop} {r : Int32} {x y : Nat} (h : (r = 1 ∧ P ∧ x = y) ∨ (r = 0 ∧ ¬ P)) (c : ¬ r = 0) : P ∧ x = y := by
  rcases h with h | h
  · exact h.2
  · exact absurd h.1 c
theorem dce_n {P : Prop} {r : Int32} {x y : Nat} (h : (r = 1 ∧ P ∧ x = y) ∨ (r = 0 ∧ ¬ P)) (c : r = 0) : ¬ P := by
  rcases h with h | h
  · exact absurd (h.1.symm.trans c) (by decide)
  · exact h.2
set_option maxHeartbeats 4000000 in
set_option maxRecDepth 100000 in
theorem s_X7_isWell_e (l : Launch) (dC : Nat → ClassId) (dI : Nat → Nat → Nat) (cs : Nat → ClassId) (ty : TyM) (L : List Nat) (sz : Nat) (F : Nat → va_E) (h0 : Nat) (ρ : Nat) (d : Nat) (δ : Nat) (ea : Nat) (sl : Nat) (sx : Nat) (sy0 : Nat) (sy1 : Nat) (sy2 : Nat) (ke : Nat) (kx : Nat) (ky0 : Nat) (ky1 : Nat) (ky2 : Nat) (w0 : Nat) (w1 : Nat) (w2 : Nat) (w3 : Nat) (w4 : Nat) (w5 : Nat) (w6 : Nat) (w7 : Nat) (w8 : Nat) (tk : Nat) (hs : Nat) (ha : Nat) (hbb : Nat) (hcc : Nat) (pw : Nat) (px : Nat) (py : Nat) (pz : Nat) (pu : Nat) (rsx : Nat) (rw2 : Nat) (rw3 : Nat) (jf : Nat) (kc : Nat) (kd : Nat) (mg : Nat) (μ : Nat) (mx : Nat) (m0 : Nat) (m1 : Nat) (m2 : Nat) (rm : Nat) (zm : Nat) (nn : Nat) (fm : Nat → Int32) (e0 : Nat → Int32) (e1 : Nat → Int32) (e2 : Nat → Int32) (bb : Int32) (hW : WT ty L) (hL_h0 : h0 ∈ L) (hT_h0 : ty h0 = (7, ρ, [d, δ, ea, sl, sx, sy0, sy1, sy2, ke, kx, ky0, ky1, ky2, w0, w1, w2, w3, w4, w5, w6, w7, w8, tk, hs, ha, hbb, hcc, pw, px, py, pz, pu])) (hL_sx : sx ∈ L) (hT_sx : ty sx = (0, ρ + 3, [rsx, 3000])) (hL_w2 : w2 ∈ L) (hT_w2 : ty w2 = (0, ρ + 84, [rw2, 32])) (hL_w3 : w3 ∈ L) (hT_w3 : ty w3 = (0, ρ + 85, [rw3, 64])) (hL_mg : mg ∈ L) (hT_mg : ty mg = (4, μ, [mx, m0, m1, m2])) (hL_mx : mx ∈ L) (hT_mx : ty mx = (0, μ + 1, [rm, 3000])) (hFe : F mg = .inr (4, [.ref mx, .ref m0, .ref m1, .ref m2, .int (nI nn), .int bb])) (hFx : F mx = .inr (0, [.ref rm, .int (nI zm), .int 0])) (hFrm : F rm = .inl (cs 16, 3000, .inl fm)) (hFm0 : F m0 = .inl (cs 16, 20, .inl e0)) (hFm1 : F m1 = .inl (cs 16, 20, .inl e1)) (hFm2 : F m2 = .inl (cs 16, 20, .inl e2)) (hz3 : zm ≤ 3000) (hn20 : nn ≤ 20) (hjf : jf < nn) (hec : e1 jf = nI kc) (hed : e2 jf = nI kd) (hcd : kc < kd) (hdz : kd ≤ zm) (hmu : μ = ρ + 13 ∨ μ = ρ + 23) : Met l yX7_isWell (.code yX7_isWell cX7_isWell 3 (some .boolean) :: tb) ({ frames := 8, cells := 0, slots := 0, locals := 177 }) (va_Pc [.ref h0, .ref mg, .int (nI jf)] (PTE (dC, dI) cs ty L F sz [])) (va_Qi (fun (r : Int32) (gg : TGG) => (r = 1 ∧ tgT (flT (TC fm zm) (kc + 1) (kd - (kc + 1))) (flI (TC fm zm) (kc + 1) (kd - (kc + 1))).length = some gg ∧ SWB (flT (TC fm zm) (kc + 1) (kd - (kc + 1))) gg.2 gg.1) ∨ (r = 0 ∧ ¬ SWL (flT (TC fm zm) (kc + 1) (kd - (kc + 1))) (flI (TC fm zm) (kc + 1) (kd - (kc + 1))).length)) (fun (gg : TGG) T9 => ∃ F2 : Nat → va_E, ∃ p0 : Nat → Int32, ∃ p1 : Nat → Int32, ∃ p2 : Nat → Int32, ∃ fc : Nat → Int32, ∃ fb : Nat → Int32, ∃ fs : Nat → Int32, ∃ u0 : Int32, ∃ u1 : Int32, QT (dC, dI) cs ty L [ρ, ρ + 2, ρ + 3, ρ + 72, ρ + 73, ρ + 84, ρ + 85] F F2 (va_A (va_pl L F) sz) T9 ∧ F2 sl = .inr (9, [.ref sx, .ref sy0, .ref sy1, .ref sy2, .int (nI gg.1)]) ∧ F2 sx = .inr (0, [.ref rsx, .int (nI (flI (TC fm zm) (kc + 1) (kd - (kc + 1))).length), .int 0]) ∧ F2 rsx = .inl (cs 16, 3000, .inl fc) ∧ F2 sy0 = .inl (cs 16, 40, .inl p0) ∧ F2 sy1 = .inl (cs 16, 40, .inl p1) ∧ F2 sy2 = .inl (cs 16, 40, .inl p2) ∧ F2 h0 = .inr (7, [.ref d, .ref sl, .ref ke, .ref w0, .ref w1, .ref w2, .ref w3, .ref w4, .ref w5, .ref w6, .ref w7, .ref w8, .ref tk, .ref hs, .ref pw, .int u0, .int u1]) ∧ TC fc (flI (TC fm zm) (kc + 1) (kd - (kc + 1))).length = (flT (TC fm zm) (kc + 1) (kd - (kc + 1))) ∧ HLD p0 p1 p2 gg.1 gg.2 ∧ (TGI (flI (TC fm zm) (kc + 1) (kd - (kc + 1))).length gg.1 gg.2 ∧ gg.1 ≤ 40 ∧ (flI (TC fm zm) (kc + 1) (kd - (kc + 1))).length ≤ 3000) ∧ (tgT (flT (TC fm zm) (kc + 1) (kd - (kc + 1))) (flI (TC fm zm) (kc + 1) (kd - (kc + 1))).length = some gg → SWB (flT (TC fm zm) (kc + 1) (kd - (kc + 1))) gg.2 gg.1 → u0 = frx (flT (TC fm zm) (kc + 1) (kd - (kc + 1))) gg.2 gg.1 ∧ u1 = brx (flT (TC fm zm) (kc + 1) (kd - (kc + 1))) gg.2 gg.1 ∧ F2 w2 = .inr (0, [.ref rw2, .int (nI 32), .int 0]) ∧ F2 rw2 = .inl (cs 16, 32, .inl fb) ∧ BYT (dcB (flT (TC fm zm) (kc + 1) (kd - (kc + 1))) (tgA gg.2 (tgR (flT (TC fm zm) (kc + 1) (kd - (kc + 1))) gg.2 [98, 104] gg.1)) 32) 32 fb ∧ F2 w3 = .inr (0, [.ref rw3, .int (nI 64), .int 0]) ∧ F2 rw3 = .inl (cs 16, 64, .inl fs) ∧ BYT (dcB (flT (TC fm zm) (kc + 1) (kd - (kc + 1))) (tgA gg.2 (tgR (flT (TC fm zm) (kc + 1) (kd - (kc + 1))) gg.2 [98] gg.1)) 64) 64 fs)) (va_A (va_pl L F) sz)) 0 0 (va_A (va_pl L F) sz) := by
  refine Met.ofW (cc := cX7_isWell) (maxL := 3) (ret := (some .boolean)) (by decide) rfl ?_
  intro p e s m args below meth c s₁ B hml hv
  obtain ⟨rfl, ⟨hsz, hP, hK, hD0, hE, hO⟩, hG, hX⟩ := hv
  have hx := B.exec
  have hb := B.bytes
  have hr := B.returns
  have hts : ∀ w ∈ tb, w.before _ s = true := fun w h => atoms_spec (ws := .code yX7_isWell cX7_isWell 3 (some .boolean) :: tb) B.pre w (List.mem_cons_of_mem _ h)
  have hown : s.vm.findClass RX7 = some m.cls := findClass_of_methodNamed B.named
  have hlocks := B.notSynchronized
  subst hsz
  have hD := hD0.self (sz := s.heap.size)
  generalize hAe : va_A (va_pl L F) s.heap.size = A at hD hG hX ⊢
  have hA : ∀ q : Nat, s.heap.size ≤ q → A q := fun q h => by rw [← hAe]; exact Or.inr h
  have hS : va_S A s.heap s.heap [] := va_S.rf
  have hR : FR ty [ρ, ρ + 2, ρ + 3, ρ + 72, ρ + 73, ρ + 84, ρ + 85] F F := FR.refl
  have hl := lv_entry ([.ref h0, .ref mg, .int (nI jf)]) (n := 3) (Nat.le_of_ble_eq_true rfl)
  rw [lg_entry_eq]
  generalize (lg_sl ([.ref h0, .ref mg, .int (nI jf)]) ++ List.replicate (3 - (lg_sl ([.ref h0, .ref mg, .int (nI jf)])).length) Slot.unset).toArray = ls at hl ⊢
  have hl : lv_has ls 3 [(0, .ref h0), (1, .ref mg), (2, .int (nI jf))] := hl
  obtain ⟨hi_1, ht_2, hi_3, ht_4, hi_5, ht_6, hi_7, ⟨r_8, ht_9⟩, hi_10, ⟨r_11, ht_12⟩, _, _, _, _, hi_13, ⟨r_14, ht_15⟩, hi_16, ⟨r_17, ht_18⟩, hi_19, ⟨r_20, ht_21⟩, hi_22, ⟨r_23, ht_24⟩, hi_25, ⟨r_26, ht_27⟩, hi_28, ht_29, hi_30, ht_31, hi_32, ht_33⟩ := hW.slr hL_h0 hT_h0
  obtain ⟨_, hi_34, hi_35, hi_36, _, ht_37, ht_38, ht_39⟩ := hW.tags hi_3 ht_4
  have ht_38 : ty sy1 = (24, ρ + 72, [40]) := ht_38
  have ht_39 : ty sy2 = (24, ρ + 73, [40]) := ht_39
  obtain ⟨hi_40, ht_41, hq_42⟩ := hW.bytes hL_sx hT_sx
  obtain ⟨hi_43, ht_44, hq_45⟩ := hW.bytes hL_w2 hT_w2
  obtain ⟨hi_46, ht_47, hq_48⟩ := hW.bytes hL_w3 hT_w3
  obtain ⟨_, hi_49, hi_50, hi_51, _, ht_52, ht_53, ht_54⟩ := hW.msg hL_mg hT_mg
  obtain ⟨hi_55, ht_56, hq_57⟩ := hW.bytes hL_mx hT_mx
  obtain ⟨v0_58, v1_59, hF_60⟩ := hO.slr hL_h0 hT_h0
  refine lv_aload_n hx hb dX7_isWell_0 rfl (lv_at hl 0 rfl) ?_
  refine pg_get (ci := 7) (v := .ref sl) (C := RX7) (T := TX7) (N := 17) hx hb hts it_7 hown hK hP hL_h0 hF_60 rfl 1 (by decide) (hts _ kt_307) (fun _ h9 => h9) rfl dX7_isWell_1 ?_
  refine lv_aload_n hx hb dX7_isWell_4 rfl (lv_at hl 1 rfl) ?_
  refine pg_getN (ci := 4) (v := .ref mx) (C := RX4) (T := TX4) (N := 6) hx hb hts it_4 hown hK hP hL_mg hFe rfl 0 (by decide) (hE.nest kn_8) (fun _ h9 => h9) rfl dX7_isWell_5 ?_
  refine lv_aload_n hx hb dX7_isWell_8 rfl (lv_at hl 1 rfl) ?_
  refine pg_getN (ci := 4) (v := .ref m1) (C := RX4) (T := TX4) (N := 6) hx hb hts it_4 hown hK hP hL_mg hFe rfl 2 (by decide) (hE.nest kn_9) (fun _ h9 => h9) rfl dX7_isWell_9 ?_
  refine lv_iload_n hx hb dX7_isWell_12 rfl (lv_at hl 2 rfl) ?_
  refine pg_iald hx hb hK hP hi_50 0 hFm1 rfl (vp_in_nI (by omega) (by omega)) dX7_isWell_13 ?_
  refine lv_topi (fun x_61 ex_61 => ?_)
  obtain rfl : x_61 = (nI kc) := ex_61.trans (((congrArg e1 (nI_clamp (by omega))).trans hec))
  refine lv_iconst (v := 1) hx hb dX7_isWell_14 (by decide) ?_
  refine lv_iadd hx hb dX7_isWell_15 ?_
  refine lv_topi (fun x_62 ex_62 => ?_)
  obtain rfl : x_62 = (nI (kc + 1)) := ex_62.trans (nI_1 kc)
  refine lv_aload_n hx hb dX7_isWell_16 rfl (lv_at hl 1 rfl) ?_
  refine pg_getN (ci := 4) (v := .ref m2) (C := RX4) (T := TX4) (N := 6) hx hb hts it_4 hown hK hP hL_mg hFe rfl 3 (by decide) (hE.nest kn_10) (fun _ h9 => h9) rfl dX7_isWell_17 ?_
  refine lv_iload_n hx hb dX7_isWell_20 rfl (lv_at hl 2 rfl) ?_
  refine pg_iald hx hb hK hP hi_51 0 hFm2 rfl (vp_in_nI (by omega) (by omega)) dX7_isWell_21 ?_
  refine lv_topi (fun x_63 ex_63 => ?_)
  obtain rfl : x_63 = (nI kd) := ex_63.trans (((congrArg e2 (nI_clamp (by omega))).trans hed))
  have hFc := pg_free hD hS hA
  obtain ⟨z_64, hF_65, hq_66⟩ := hO.tags hi_3 ht_4
  refine va_calli (va_runV (As := [.ref mx, .int (nI (kc + 1)), .int (nI kd)]) (rest := []) ⟨hx, hb, hml, hown, hts⟩ (s_X9_read_e l dC dI cs ty L s.heap.size F sl (ρ + 2) sx 3000 sy0 sy1 sy2 mx (μ + 1) rm 3000 rsx zm (kc + 1) kd fm hW hi_3 ht_4 hL_sx hT_sx hL_mx hT_mx hFx hFrm (by omega) (by omega) (hcd) (hdz) (by omega) (by omega) (by omega) (by omega) (by omega) (by omega)) ⟨callB_of 3 hts (gi kt_330) rfl rfl rfl (hts _ kt_164) (hts _ kt_331) (by decide +kernel) ⟨Nat.le_of_ble_eq_true rfl, Nat.le_of_ble_eq_true rfl⟩, (hts _ kt_332), (hts _ kt_333)⟩ ⟨fun a U g mk q => ⟨q.1, PT.calling q.2⟩, pg_recv hK hP hi_3 hF_65 (q := (RX9, TX9, 5)) rfl, fun U hU hWm => ⟨rfl, PT.mk hU hWm hP hK hD hE hO⟩⟩ rfl rfl hl.1 rfl (lv_room (Nat.le_of_ble_eq_true rfl)) dX7_isWell_22 ⟨by show _ + 0 ≤ 0; omega, by show _ + 0 ≤ 0; omega⟩) hS (fun q _ h => hFc q h) hFc (fun r_68 gg_67 t H1 locs ht hvm hw hB hz1 hk1 hS => ?_)
  obtain ⟨F_69, p0_70, p1_71, p2_72, fc_73, hB1, hq_74, hq_75, hq_76, hq_77, hq_78, hq_79, hq_80, hq_81, hq_82⟩ := hB
  obtain ⟨hP, hD, hO, hR⟩ := QT.back hB1 ht hFc hR (fun q h => by simp only [List.mem_cons, List.not_mem_nil, or_false] at h ⊢; omega)
  have hF_83 : F_69 mg = .inr (4, [.ref mx, .ref m0, .ref m1, .ref m2, .int (nI nn), .int bb]) := (hB1.2.2.2 mg (by rw [hT_mg]; simp only [List.mem_cons, List.not_mem_nil, or_false]; omega)).trans hFe
  have hF_84 : F_69 mx = .inr (0, [.ref rm, .int (nI zm), .int 0]) := (hB1.2.2.2 mx (by rw [hT_mx]; simp only [List.mem_cons, List.not_mem_nil, or_false]; omega)).trans hFx
  have hF_85 : F_69 rm = .inl (cs 16, 3000, .inl fm) := (hB1.2.2.2 rm (by rw [ht_56]; simp only [List.mem_cons, List.not_mem_nil, or_false]; omega)).trans hFrm
  have hF_86 : F_69 m0 = .inl (cs 16, 20, .inl e0) := (hB1.2.2.2 m0 (by rw [ht_52]; simp only [List.mem_cons, List.not_mem_nil, or_false]; omega)).trans hFm0
  have hF_87 : F_69 m1 = .inl (cs 16, 20, .inl e1) := (hB1.2.2.2 m1 (by rw [ht_53]; simp only [List.mem_cons, List.not_mem_nil, or_false]; omega)).trans hFm1
  have hF_88 : F_69 m2 = .inl (cs 16, 20, .inl e2) := (hB1.2.2.2 m2 (by rw [ht_54]; simp only [List.mem_cons, List.not_mem_nil, or_false]; omega)).trans hFm2
  have hF_89 : F_69 h0 = .inr (7, [.ref d, .ref sl, .ref ke, .ref w0, .ref w1, .ref w2, .ref w3, .ref w4, .ref w5, .ref w6, .ref w7, .ref w8, .ref tk, .ref hs, .ref pw, .int v0_58, .int v1_59]) := (hB1.2.2.2 h0 (by rw [hT_h0]; simp <;> omega)).trans hF_60
  generalize H1 = H at hP hS ⊢
  have hw : TGX (flT (TC fm zm) (kc + 1) (kd - (kc + 1))) (flI (TC fm zm) (kc + 1) (kd - (kc + 1))).length r_68 gg_67 := hw
  have hw_90 := hw
  obtain ⟨hti1, hti2, hti3⟩ := hq_82
  have hRD := hw_90
  refine lv_if_ne (tgt := 30) hx hb dX7_isWell_25 (by decide) (fun c_91 => ?_) (fun c_91 => ?_)
  ·
    have hgt : tgT (flT (TC fm zm) (kc + 1) (kd - (kc + 1))) (flI (TC fm zm) (kc + 1) (kd - (kc + 1))).length = some gg_67 := by rcases hRD with h9 | h9; exact h9.2; exact absurd h9.1 c_91
    refine lv_aload_n hx hb dX7_isWell_30 rfl (lv_at hl 0 rfl) ?_
    refine pg_get (ci := 7) (v := .ref sl) (C := RX7) (T := TX7) (N := 17) hx hb hts it_7 hown hK hP hL_h0 hF_89 rfl 1 (by decide) (hts _ kt_307) (fun _ h9 => h9) rfl dX7_isWell_31 ?_
    obtain ⟨q_92, v_93, hr_q_92, hXc_q_92⟩ := hG.2.2.2.2 ("PostGate$Sealer", 154, "v", [118]) (by decide +kernel)
    have hXc_q_92 : SXc q_92 v_93 1 (cct [118]) A s s.heap := hXc_q_92
    have hX_q_92 : SX q_92 v_93 1 A s s.heap := hXc_q_92.sx
    obtain ⟨xo_q_92, xc_q_92, xv_q_92, xt_q_92, xn_q_92⟩ := id hXc_q_92
    have hr_q_92 : vk_R "PostGate$Sealer" 154 "v" q_92 s := hr_q_92
    refine va_ldcS hx hb hown hr_q_92 dX7_isWell_34 ?_
    obtain ⟨q_94, v_95, hr_q_94, hXc_q_94⟩ := hG.2.2.2.2 ("PostGate$Sealer", 156, "1", [49]) (by decide +kernel)
    have hXc_q_94 : SXc q_94 v_95 1 (cct [49]) A s s.heap := hXc_q_94
    have hX_q_94 : SX q_94 v_95 1 A s s.heap := hXc_q_94.sx
    obtain ⟨xo_q_94, xc_q_94, xv_q_94, xt_q_94, xn_q_94⟩ := id hXc_q_94
    have hr_q_94 : vk_R "PostGate$Sealer" 156 "1" q_94 s := hr_q_94
    refine va_ldcS hx hb hown hr_q_94 dX7_isWell_36 ?_
    have hFc := pg_free hD hS hA
    refine va_calli (va_runV (As := [.ref q_92, .ref q_94]) (rest := []) ⟨hx, hb, hml, hown, hts⟩ (s_X9_is_e l dC dI cs ty L H.size F_69 sl (ρ + 2) sx 3000 sy0 sy1 sy2 rsx ((flI (TC fm zm) (kc + 1) (kd - (kc + 1))).length) gg_67.1 fc_73 p0_70 p1_71 p2_72 gg_67.2 q_92 v_93 1 (cct [118]) q_94 v_95 1 (cct [49]) ([118]) ([49]) hW hi_3 ht_4 hL_sx hT_sx hq_74 hq_75 hq_76 hq_77 hq_78 hq_79 (hti3) (by omega) (hti2) (hq_81) (hti1) (⟨rfl, by decide +kernel⟩) (⟨rfl, by decide +kernel⟩)) ⟨callB_of 2 hts (gi kt_334) rfl rfl rfl (hts _ kt_164) (hts _ kt_335) (by decide +kernel) ⟨Nat.le_of_ble_eq_true rfl, Nat.le_of_ble_eq_true rfl⟩, (hts _ kt_336), (hts _ kt_337)⟩ ⟨fun a U g mk q => ⟨q.1, PTD.calling q.2⟩, pg_recv hK hP hi_3 hq_74 (q := (RX9, TX9, 5)) rfl, fun U hU hWm => ⟨rfl, PTD.mk hU hWm hP hK hD hE hO hG hXc_q_92 hXc_q_94 hS hFc⟩⟩ rfl rfl hl.1 rfl (lv_room (Nat.le_of_ble_eq_true rfl)) dX7_isWell_38 ⟨by show _ + 0 ≤ 0; omega, by show _ + 0 ≤ 0; omega⟩) hS (fun q _ h => hFc q h) hFc (fun r_96 u t H1 locs ht hvm hw hB hz1 hk1 hS => ?_)
    obtain ⟨F_97, hB1⟩ := hB
    obtain rfl : F_69 = F_97 := (funext (fun a => hB1.2.2.2 a List.not_mem_nil)).symm
    obtain ⟨hP, hD, hO, hR⟩ := QT.back hB1 ht hFc hR (fun q h => absurd h List.not_mem_nil)
    generalize H1 = H at hP hS ⊢
    have hw : (r_96 = 1 ∧ TGV (TC fc_73 (flI (TC fm zm) (kc + 1) (kd - (kc + 1))).length) gg_67.2 gg_67.1 [118] [49]) ∨ (r_96 = 0 ∧ ¬ TGV (TC fc_73 (flI (TC fm zm) (kc + 1) (kd - (kc + 1))).length) gg_67.2 gg_67.1 [118] [49]) := hw
    have hw_98 := hw
    refine lv_if_eq (tgt := 154) hx hb dX7_isWell_41 (by decide) (fun c_99 => ?_) (fun c_99 => ?_)
    ·
      refine lv_iconst (v := 0) hx hb dX7_isWell_154 (by decide) ?_
      refine W.widen (k := 0) (n := 0) (by omega) (by omega) ?_
      exact W.zret (v := 0) (ty := .boolean) hx hb hr (by decide) (fun t ht hWm => ⟨⟨0, gg_67, rfl, (Or.inr ⟨rfl, swl_n hgt (by have h9 := (show ¬ SWB (TC fc_73 (flI (TC fm zm) (kc + 1) (kd - (kc + 1))).length) gg_67.2 gg_67.1 from fun q => orp0 hw_98 c_99 (q.1)); rw [hq_80] at h9; exact h9)⟩), ⟨F_69, p0_70, p1_71, p2_72, fc_73, (fun _ => 0), (fun _ => 0), v0_58, v1_59, QT.mk ht hP hD hO hR, hq_74, hq_75, hq_76, hq_77, hq_78, hq_79, hF_89, hq_80, hq_81, ⟨hti1, hti2, hti3⟩, (fun _ q => absurd q (by have h9 := (show ¬ SWB (TC fc_73 (flI (TC fm zm) (kc + 1) (kd - (kc + 1))).length) gg_67.2 gg_67.1 from fun q => orp0 hw_98 c_99 (q.1)); rw [hq_80] at h9; exact h9))⟩⟩, hS.F ht⟩) hS.2.2 dX7_isWell_155
    ·
      refine lv_aload_n hx hb dX7_isWell_44 rfl (lv_at hl 0 rfl) ?_
      refine pg_get (ci := 7) (v := .ref sl) (C := RX7) (T := TX7) (N := 17) hx hb hts it_7 hown hK hP hL_h0 hF_89 rfl 1 (by decide) (hts _ kt_307) (fun _ h9 => h9) rfl dX7_isWell_45 ?_
      obtain ⟨q_100, v_101, hr_q_100, hXc_q_100⟩ := hG.2.2.2.2 ("PostGate$Sealer", 162, "a", [97]) (by decide +kernel)
      have hXc_q_100 : SXc q_100 v_101 1 (cct [97]) A s s.heap := hXc_q_100
      have hX_q_100 : SX q_100 v_101 1 A s s.heap := hXc_q_100.sx
      obtain ⟨xo_q_100, xc_q_100, xv_q_100, xt_q_100, xn_q_100⟩ := id hXc_q_100
      have hr_q_100 : vk_R "PostGate$Sealer" 162 "a" q_100 s := hr_q_100
      refine va_ldcS hx hb hown hr_q_100 dX7_isWell_48 ?_
      obtain ⟨q_102, v_103, hr_q_102, hXc_q_102⟩ := hG.2.2.2.2 ("PostGate$Sealer", 164, "rsa-sha256", [114, 115, 97, 45, 115, 104, 97, 50, 53, 54]) (by decide +kernel)
      have hXc_q_102 : SXc q_102 v_103 10 (cct [114, 115, 97, 45, 115, 104, 97, 50, 53, 54]) A s s.heap := hXc_q_102
      have hX_q_102 : SX q_102 v_103 10 A s s.heap := hXc_q_102.sx
      obtain ⟨xo_q_102, xc_q_102, xv_q_102, xt_q_102, xn_q_102⟩ := id hXc_q_102
      have hr_q_102 : vk_R "PostGate$Sealer" 164 "rsa-sha256" q_102 s := hr_q_102
      refine va_ldcS hx hb hown hr_q_102 dX7_isWell_50 ?_
      have hFc := pg_free hD hS hA
      refine va_calli (va_runV (As := [.ref q_100, .ref q_102]) (rest := []) ⟨hx, hb, hml, hown, hts⟩ (s_X9_is_e l dC dI cs ty L H.size F_69 sl (ρ + 2) sx 3000 sy0 sy1 sy2 rsx ((flI (TC fm zm) (kc + 1) (kd - (kc + 1))).length) gg_67.1 fc_73 p0_70 p1_71 p2_72 gg_67.2 q_100 v_101 1 (cct [97]) q_102 v_103 10 (cct [114, 115, 97, 45, 115, 104, 97, 50, 53, 54]) ([97]) RS2 hW hi_3 ht_4 hL_sx hT_sx hq_74 hq_75 hq_76 hq_77 hq_78 hq_79 (hti3) (by omega) (hti2) (hq_81) (hti1) (⟨rfl, by decide +kernel⟩) (⟨rfl, by decide +kernel⟩)) ⟨callB_of 2 hts (gi kt_334) rfl rfl rfl (hts _ kt_164) (hts _ kt_335) (by decide +kernel) ⟨Nat.le_of_ble_eq_true rfl, Nat.le_of_ble_eq_true rfl⟩, (hts _ kt_336), (hts _ kt_337)⟩ ⟨fun a U g mk q => ⟨q.1, PTD.calling q.2⟩, pg_recv hK hP hi_3 hq_74 (q := (RX9, TX9, 5)) rfl, fun U hU hWm => ⟨rfl, PTD.mk hU hWm hP hK hD hE hO hG hXc_q_100 hXc_q_102 hS hFc⟩⟩ rfl rfl hl.1 rfl (lv_room (Nat.le_of_ble_eq_true rfl)) dX7_isWell_52 ⟨by show _ + 0 ≤ 0; omega, by show _ + 0 ≤ 0; omega⟩) hS (fun q _ h => hFc q h) hFc (fun r_104 u t H1 locs ht hvm hw hB hz1 hk1 hS => ?_)
      obtain ⟨F_105, hB1⟩ := hB
      obtain rfl : F_69 = F_105 := (funext (fun a => hB1.2.2.2 a List.not_mem_nil)).symm
      obtain ⟨hP, hD, hO, hR⟩ := QT.back hB1 ht hFc hR (fun q h => absurd h List.not_mem_nil)
      generalize H1 = H at hP hS ⊢
      have hw : (r_104 = 1 ∧ TGV (TC fc_73 (flI (TC fm zm) (kc + 1) (kd - (kc + 1))).length) gg_67.2 gg_67.1 [97] RS2) ∨ (r_104 = 0 ∧ ¬ TGV (TC fc_73 (flI (TC fm zm) (kc + 1) (kd - (kc + 1))).length) gg_67.2 gg_67.1 [97] RS2) := hw
      have hw_106 := hw
      refine lv_if_eq (tgt := 154) hx hb dX7_isWell_55 (by decide) (fun c_107 => ?_) (fun c_107 => ?_)
      ·
        refine lv_iconst (v := 0) hx hb dX7_isWell_154 (by decide) ?_
        refine W.widen (k := 0) (n := 0) (by omega) (by omega) ?_
        exact W.zret (v := 0) (ty := .boolean) hx hb hr (by decide) (fun t ht hWm => ⟨⟨0, gg_67, rfl, (Or.inr ⟨rfl, swl_n hgt (by have h9 := (show ¬ SWB (TC fc_73 (flI (TC fm zm) (kc + 1) (kd - (kc + 1))).length) gg_67.2 gg_67.1 from fun q => orp0 hw_106 c_107 (q.2.1)); rw [hq_80] at h9; exact h9)⟩), ⟨F_69, p0_70, p1_71, p2_72, fc_73, (fun _ => 0), (fun _ => 0), v0_58, v1_59, QT.mk ht hP hD hO hR, hq_74, hq_75, hq_76, hq_77, hq_78, hq_79, hF_89, hq_80, hq_81, ⟨hti1, hti2, hti3⟩, (fun _ q => absurd q (by have h9 := (show ¬ SWB (TC fc_73 (flI (TC fm zm) (kc + 1) (kd - (kc + 1))).length) gg_67.2 gg_67.1 from fun q => orp0 hw_106 c_107 (q.2.1)); rw [hq_80] at h9; exact h9))⟩⟩, hS.F ht⟩) hS.2.2 dX7_isWell_155
      ·
        refine lv_aload_n hx hb dX7_isWell_58 rfl (lv_at hl 0 rfl) ?_
        refine pg_get (ci := 7) (v := .ref sl) (C := RX7) (T := TX7) (N := 17) hx hb hts it_7 hown hK hP hL_h0 hF_89 rfl 1 (by decide) (hts _ kt_307) (fun _ h9 => h9) rfl dX7_isWell_59 ?_
        obtain ⟨q_108, v_109, hr_q_108, hXc_q_108⟩ := hG.2.2.2.2 ("PostGate$Sealer", 101, "d", [100]) (by decide +kernel)
        have hXc_q_108 : SXc q_108 v_109 1 (cct [100]) A s s.heap := hXc_q_108
        have hX_q_108 : SX q_108 v_109 1 A s s.heap := hXc_q_108.sx
        obtain ⟨xo_q_108, xc_q_108, xv_q_108, xt_q_108, xn_q_108⟩ := id hXc_q_108
        have hr_q_108 : vk_R "PostGate$Sealer" 101 "d" q_108 s := hr_q_108
        refine va_ldcS hx hb hown hr_q_108 dX7_isWell_62 ?_
        have hFc := pg_free hD hS hA
        refine va_calli (va_runV (As := [.ref q_108]) (rest := []) ⟨hx, hb, hml, hown, hts⟩ (s_X9_isNameAt_e l dC dI cs ty L H.size F_69 sl (ρ + 2) sx 3000 sy0 sy1 sy2 rsx ((flI (TC fm zm) (kc + 1) (kd - (kc + 1))).length) gg_67.1 fc_73 p0_70 p1_71 p2_72 gg_67.2 q_108 v_109 1 (cct [100]) ([100]) hW hi_3 ht_4 hL_sx hT_sx hq_74 hq_75 hq_76 hq_77 hq_78 hq_79 (hti3) (by omega) (hti2) (hq_81) (hti1) (⟨rfl, by decide +kernel⟩)) ⟨callB_of 1 hts (gi kt_338) rfl rfl rfl (hts _ kt_164) (hts _ kt_339) (by decide +kernel) ⟨Nat.le_of_ble_eq_true rfl, Nat.le_of_ble_eq_true rfl⟩, (hts _ kt_340), (hts _ kt_341)⟩ ⟨fun a U g mk q => ⟨q.1, PTC.calling q.2⟩, pg_recv hK hP hi_3 hq_74 (q := (RX9, TX9, 5)) rfl, fun U hU hWm => ⟨rfl, PTC.mk hU hWm hP hK hD hE hO hG hXc_q_108 hS hFc⟩⟩ rfl rfl hl.1 rfl (lv_room (Nat.le_of_ble_eq_true rfl)) dX7_isWell_64 ⟨by show _ + 0 ≤ 0; omega, by show _ + 0 ≤ 0; omega⟩) hS (fun q _ h => hFc q h) hFc (fun r_110 u t H1 locs ht hvm hw hB hz1 hk1 hS => ?_)
        obtain ⟨F_111, hB1⟩ := hB
        obtain rfl : F_69 = F_111 := (funext (fun a => hB1.2.2.2 a List.not_mem_nil)).symm
        obtain ⟨hP, hD, hO, hR⟩ := QT.back hB1 ht hFc hR (fun q h => absurd h List.not_mem_nil)
        generalize H1 = H at hP hS ⊢
        have hw : r_110 = (if NMC (TC fc_73 (flI (TC fm zm) (kc + 1) (kd - (kc + 1))).length) (tgA gg_67.2 (tgR (TC fc_73 (flI (TC fm zm) (kc + 1) (kd - (kc + 1))).length) gg_67.2 [100] gg_67.1)) (tgB gg_67.2 (tgR (TC fc_73 (flI (TC fm zm) (kc + 1) (kd - (kc + 1))).length) gg_67.2 [100] gg_67.1)) = true then 1 else 0) := hw
        have hw_112 := hw
        refine lv_if_eq (tgt := 154) hx hb dX7_isWell_67 (by decide) (fun c_113 => ?_) (fun c_113 => ?_)
        ·
          refine lv_iconst (v := 0) hx hb dX7_isWell_154 (by decide) ?_
          refine W.widen (k := 0) (n := 0) (by omega) (by omega) ?_
          exact W.zret (v := 0) (ty := .boolean) hx hb hr (by decide) (fun t ht hWm => ⟨⟨0, gg_67, rfl, (Or.inr ⟨rfl, swl_n hgt (by have h9 := (show ¬ SWB (TC fc_73 (flI (TC fm zm) (kc + 1) (kd - (kc + 1))).length) gg_67.2 gg_67.1 from fun q => ifb0 hw_112 c_113 (q.2.2.1)); rw [hq_80] at h9; exact h9)⟩), ⟨F_69, p0_70, p1_71, p2_72, fc_73, (fun _ => 0), (fun _ => 0), v0_58, v1_59, QT.mk ht hP hD hO hR, hq_74, hq_75, hq_76, hq_77, hq_78, hq_79, hF_89, hq_80, hq_81, ⟨hti1, hti2, hti3⟩, (fun _ q => absurd q (by have h9 := (show ¬ SWB (TC fc_73 (flI (TC fm zm) (kc + 1) (kd - (kc + 1))).length) gg_67.2 gg_67.1 from fun q => ifb0 hw_112 c_113 (q.2.2.1)); rw [hq_80] at h9; exact h9))⟩⟩, hS.F ht⟩) hS.2.2 dX7_isWell_155
        ·
          refine lv_aload_n hx hb dX7_isWell_70 rfl (lv_at hl 0 rfl) ?_
          refine pg_get (ci := 7) (v := .ref sl) (C := RX7) (T := TX7) (N := 17) hx hb hts it_7 hown hK hP hL_h0 hF_89 rfl 1 (by decide) (hts _ kt_307) (fun _ h9 => h9) rfl dX7_isWell_71 ?_
          obtain ⟨q_114, v_115, hr_q_114, hXc_q_114⟩ := hG.2.2.2.2 ("PostGate$Sealer", 169, "s", [115]) (by decide +kernel)
          have hXc_q_114 : SXc q_114 v_115 1 (cct [115]) A s s.heap := hXc_q_114
          have hX_q_114 : SX q_114 v_115 1 A s s.heap := hXc_q_114.sx
          obtain ⟨xo_q_114, xc_q_114, xv_q_114, xt_q_114, xn_q_114⟩ := id hXc_q_114
          have hr_q_114 : vk_R "PostGate$Sealer" 169 "s" q_114 s := hr_q_114
          refine va_ldcS hx hb hown hr_q_114 dX7_isWell_74 ?_
          have hFc := pg_free hD hS hA
          refine va_calli (va_runV (As := [.ref q_114]) (rest := []) ⟨hx, hb, hml, hown, hts⟩ (s_X9_isNameAt_e l dC dI cs ty L H.size F_69 sl (ρ + 2) sx 3000 sy0 sy1 sy2 rsx ((flI (TC fm zm) (kc + 1) (kd - (kc + 1))).length) gg_67.1 fc_73 p0_70 p1_71 p2_72 gg_67.2 q_114 v_115 1 (cct [115]) ([115]) hW hi_3 ht_4 hL_sx hT_sx hq_74 hq_75 hq_76 hq_77 hq_78 hq_79 (hti3) (by omega) (hti2) (hq_81) (hti1) (⟨rfl, by decide +kernel⟩)) ⟨callB_of 1 hts (gi kt_338) rfl rfl rfl (hts _ kt_164) (hts _ kt_339) (by decide +kernel) ⟨Nat.le_of_ble_eq_true rfl, Nat.le_of_ble_eq_true rfl⟩, (hts _ kt_340), (hts _ kt_341)⟩ ⟨fun a U g mk q => ⟨q.1, PTC.calling q.2⟩, pg_recv hK hP hi_3 hq_74 (q := (RX9, TX9, 5)) rfl, fun U hU hWm => ⟨rfl, PTC.mk hU hWm hP hK hD hE hO hG hXc_q_114 hS hFc⟩⟩ rfl rfl hl.1 rfl (lv_room (Nat.le_of_ble_eq_true rfl)) dX7_isWell_76 ⟨by show _ + 0 ≤ 0; omega, by show _ + 0 ≤ 0; omega⟩) hS (fun q _ h => hFc q h) hFc (fun r_116 u t H1 locs ht hvm hw hB hz1 hk1 hS => ?_)
          obtain ⟨F_117, hB1⟩ := hB
          obtain rfl : F_69 = F_117 := (funext (fun a => hB1.2.2.2 a List.not_mem_nil)).symm
          obtain ⟨hP, hD, hO, hR⟩ := QT.back hB1 ht hFc hR (fun q h => absurd h List.not_mem_nil)
          generalize H1 = H at hP hS ⊢
          have hw : r_116 = (if NMC (TC fc_73 (flI (TC fm zm) (kc + 1) (kd - (kc + 1))).length) (tgA gg_67.2 (tgR (TC fc_73 (flI (TC fm zm) (kc + 1) (kd - (kc + 1))).length) gg_67.2 [115] gg_67.1)) (tgB gg_67.2 (tgR (TC fc_73 (flI (TC fm zm) (kc + 1) (kd - (kc + 1))).length) gg_67.2 [115] gg_67.1)) = true then 1 else 0) := hw
          have hw_118 := hw
          refine lv_if_eq (tgt := 154) hx hb dX7_isWell_79 (by decide) (fun c_119 => ?_) (fun c_119 => ?_)
          ·
            refine lv_iconst (v := 0) hx hb dX7_isWell_154 (by decide) ?_
            refine W.widen (k := 0) (n := 0) (by omega) (by omega) ?_
            exact W.zret (v := 0) (ty := .boolean) hx hb hr (by decide) (fun t ht hWm => ⟨⟨0, gg_67, rfl, (Or.inr ⟨rfl, swl_n hgt (by have h9 := (show ¬ SWB (TC fc_73 (flI (TC fm zm) (kc + 1) (kd - (kc + 1))).length) gg_67.2 gg_67.1 from fun q => ifb0 hw_118 c_119 (q.2.2.2.1)); rw [hq_80] at h9; exact h9)⟩), ⟨F_69, p0_70, p1_71, p2_72, fc_73, (fun _ => 0), (fun _ => 0), v0_58, v1_59, QT.mk ht hP hD hO hR, hq_74, hq_75, hq_76, hq_77, hq_78, hq_79, hF_89, hq_80, hq_81, ⟨hti1, hti2, hti3⟩, (fun _ q => absurd q (by have h9 := (show ¬ SWB (TC fc_73 (flI (TC fm zm) (kc + 1) (kd - (kc + 1))).length) gg_67.2 gg_67.1 from fun q => ifb0 hw_118 c_119 (q.2.2.2.1)); rw [hq_80] at h9; exact h9))⟩⟩, hS.F ht⟩) hS.2.2 dX7_isWell_155
          ·
            refine lv_aload_n hx hb dX7_isWell_82 rfl (lv_at hl 0 rfl) ?_
            refine pg_get (ci := 7) (v := .ref sl) (C := RX7) (T := TX7) (N := 17) hx hb hts it_7 hown hK hP hL_h0 hF_89 rfl 1 (by decide) (hts _ kt_307) (fun _ h9 => h9) rfl dX7_isWell_83 ?_
            obtain ⟨q_120, v_121, hr_q_120, hXc_q_120⟩ := hG.2.2.2.2 ("PostGate$Sealer", 171, "bh", [98, 104]) (by decide +kernel)
            have hXc_q_120 : SXc q_120 v_121 2 (cct [98, 104]) A s s.heap := hXc_q_120
            have hX_q_120 : SX q_120 v_121 2 A s s.heap := hXc_q_120.sx
            obtain ⟨xo_q_120, xc_q_120, xv_q_120, xt_q_120, xn_q_120⟩ := id hXc_q_120
            have hr_q_120 : vk_R "PostGate$Sealer" 171 "bh" q_120 s := hr_q_120
            refine va_ldcS hx hb hown hr_q_120 dX7_isWell_86 ?_
            refine lv_aload_n hx hb dX7_isWell_88 rfl (lv_at hl 0 rfl) ?_
            refine pg_get (ci := 7) (v := .ref w2) (C := RX7) (T := TX7) (N := 17) hx hb hts it_7 hown hK hP hL_h0 hF_89 rfl 5 (by decide) (hts _ kt_342) (fun _ h9 => h9) rfl dX7_isWell_89 ?_
            refine lv_bipush (v := 32) hx hb dX7_isWell_92 (by decide) ?_
            refine W.eq (g2 := F0 m 94 ls [.int (nI 32), .ref w2, .ref q_120, .ref sl]) rfl ?_
            have hFc := pg_free hD hS hA
            refine va_calli (va_runV (As := [.ref q_120, .ref w2, .int (nI 32)]) (rest := []) ⟨hx, hb, hml, hown, hts⟩ (s_X9_decode_e l dC dI cs ty L H.size F_69 sl (ρ + 2) sx 3000 sy0 sy1 sy2 rsx ((flI (TC fm zm) (kc + 1) (kd - (kc + 1))).length) gg_67.1 fc_73 p0_70 p1_71 p2_72 gg_67.2 q_120 v_121 2 (cct [98, 104]) ([98, 104]) w2 (ρ + 84) rw2 32 32 hW hi_3 ht_4 hL_sx hT_sx hL_w2 hT_w2 hq_74 hq_75 hq_76 hq_77 hq_78 hq_79 (hti3) (by omega) (hti2) (hq_81) (hti1) (⟨rfl, by decide +kernel⟩) (Or.inl rfl) (by omega) (by omega) (by omega)) ⟨callB_of 3 hts (gi kt_343) rfl rfl rfl (hts _ kt_164) (hts _ kt_344) (by decide +kernel) ⟨Nat.le_of_ble_eq_true rfl, Nat.le_of_ble_eq_true rfl⟩, (hts _ kt_345), (hts _ kt_346)⟩ ⟨fun a U g mk q => ⟨q.1, PTC.calling q.2⟩, pg_recv hK hP hi_3 hq_74 (q := (RX9, TX9, 5)) rfl, fun U hU hWm => ⟨rfl, PTC.mk hU hWm hP hK hD hE hO hG hXc_q_120 hS hFc⟩⟩ rfl rfl hl.1 rfl (lv_room (Nat.le_of_ble_eq_true rfl)) dX7_isWell_94 ⟨by show _ + 0 ≤ 0; omega, by show _ + 0 ≤ 0; omega⟩) hS (fun q _ h => hFc q h) hFc (fun r_123 gz_122 t H1 locs ht hvm hw hB hz1 hk1 hS => ?_)
            obtain ⟨F_124, f2_125, hB1, hq_126, hq_127, hq_128⟩ := hB
            obtain ⟨hP, hD, hO, hR⟩ := QT.back hB1 ht hFc hR (fun q h => by simp only [List.mem_cons, List.not_mem_nil, or_false] at h ⊢; omega)
            have hF_129 : F_124 mg = .inr (4, [.ref mx, .ref m0, .ref m1, .ref m2, .int (nI nn), .int bb]) := (hB1.2.2.2 mg (by rw [hT_mg]; simp only [List.mem_cons, List.not_mem_nil, or_false]; omega)).trans hF_83
            have hF_130 : F_124 mx = .inr (0, [.ref rm, .int (nI zm), .int 0]) := (hB1.2.2.2 mx (by rw [hT_mx]; simp only [List.mem_cons, List.not_mem_nil, or_false]; omega)).trans hF_84
            have hF_131 : F_124 rm = .inl (cs 16, 3000, .inl fm) := (hB1.2.2.2 rm (by rw [ht_56]; simp only [List.mem_cons, List.not_mem_nil, or_false]; omega)).trans hF_85
            have hF_132 : F_124 m0 = .inl (cs 16, 20, .inl e0) := (hB1.2.2.2 m0 (by rw [ht_52]; simp only [List.mem_cons, List.not_mem_nil, or_false]; omega)).trans hF_86
            have hF_133 : F_124 m1 = .inl (cs 16, 20, .inl e1) := (hB1.2.2.2 m1 (by rw [ht_53]; simp only [List.mem_cons, List.not_mem_nil, or_false]; omega)).trans hF_87
            have hF_134 : F_124 m2 = .inl (cs 16, 20, .inl e2) := (hB1.2.2.2 m2 (by rw [ht_54]; simp only [List.mem_cons, List.not_mem_nil, or_false]; omega)).trans hF_88
            have hF_135 : F_124 h0 = .inr (7, [.ref d, .ref sl, .ref ke, .ref w0, .ref w1, .ref w2, .ref w3, .ref w4, .ref w5, .ref w6, .ref w7, .ref w8, .ref tk, .ref hs, .ref pw, .int v0_58, .int v1_59]) := (hB1.2.2.2 h0 (by rw [hT_h0]; simp)).trans hF_89
            have hF_136 : F_124 sl = .inr (9, [.ref sx, .ref sy0, .ref sy1, .ref sy2, .int (nI gg_67.1)]) := (hB1.2.2.2 sl (by rw [ht_4]; simp)).trans hq_74
            have hF_137 : F_124 sx = .inr (0, [.ref rsx, .int (nI (flI (TC fm zm) (kc + 1) (kd - (kc + 1))).length), .int 0]) := (hB1.2.2.2 sx (by rw [hT_sx]; simp)).trans hq_75
            have hF_138 : F_124 rsx = .inl (cs 16, 3000, .inl fc_73) := (hB1.2.2.2 rsx (by rw [ht_41]; simp)).trans hq_76
            have hF_139 : F_124 sy0 = .inl (cs 16, 40, .inl p0_70) := (hB1.2.2.2 sy0 (by rw [ht_37]; simp)).trans hq_77
            have hF_140 : F_124 sy1 = .inl (cs 16, 40, .inl p1_71) := (hB1.2.2.2 sy1 (by rw [ht_38]; simp)).trans hq_78
            have hF_141 : F_124 sy2 = .inl (cs 16, 40, .inl p2_72) := (hB1.2.2.2 sy2 (by rw [ht_39]; simp)).trans hq_79
            generalize H1 = H at hP hS ⊢
            have hw : (r_123 = 1 ∧ DCD (TC fc_73 (flI (TC fm zm) (kc + 1) (kd - (kc + 1))).length) (tgA gg_67.2 (tgR (TC fc_73 (flI (TC fm zm) (kc + 1) (kd - (kc + 1))).length) gg_67.2 [98, 104] gg_67.1)) (tgB gg_67.2 (tgR (TC fc_73 (flI (TC fm zm) (kc + 1) (kd - (kc + 1))).length) gg_67.2 [98, 104] gg_67.1)) 32 ∧ gz_122 = 32) ∨ (r_123 = 0 ∧ ¬ DCD (TC fc_73 (flI (TC fm zm) (kc + 1) (kd - (kc + 1))).length) (tgA gg_67.2 (tgR (TC fc_73 (flI (TC fm zm) (kc + 1) (kd - (kc + 1))).length) gg_67.2 [98, 104] gg_67.1)) (tgB gg_67.2 (tgR (TC fc_73 (flI (TC fm zm) (kc + 1) (kd - (kc + 1))).length) gg_67.2 [98, 104] gg_67.1)) 32) := hw
            have hw_142 := hw
            refine lv_if_eq (tgt := 154) hx hb dX7_isWell_97 (by decide) (fun c_143 => ?_) (fun c_143 => ?_)
            ·
              refine lv_iconst (v := 0) hx hb dX7_isWell_154 (by decide) ?_
              refine W.widen (k := 0) (n := 0) (by omega) (by omega) ?_
              exact W.zret (v := 0) (ty := .boolean) hx hb hr (by decide) (fun t ht hWm => ⟨⟨0, gg_67, rfl, (Or.inr ⟨rfl, swl_n hgt (by have h9 := (show ¬ SWB (TC fc_73 (flI (TC fm zm) (kc + 1) (kd - (kc + 1))).length) gg_67.2 gg_67.1 from fun q => dce_n hw_142 c_143 (q.2.2.2.2.1)); rw [hq_80] at h9; exact h9)⟩), ⟨F_124, p0_70, p1_71, p2_72, fc_73, f2_125, (fun _ => 0), v0_58, v1_59, QT.mk ht hP hD hO hR, hF_136, hF_137, hF_138, hF_139, hF_140, hF_141, hF_135, hq_80, hq_81, ⟨hti1, hti2, hti3⟩, (fun _ q => absurd q (by have h9 := (show ¬ SWB (TC fc_73 (flI (TC fm zm) (kc + 1) (kd - (kc + 1))).length) gg_67.2 gg_67.1 from fun q => dce_n hw_142 c_143 (q.2.2.2.2.1)); rw [hq_80] at h9; exact h9))⟩⟩, hS.F ht⟩) hS.2.2 dX7_isWell_155
            ·
              refine lv_aload_n hx hb dX7_isWell_100 rfl (lv_at hl 0 rfl) ?_
              refine pg_get (ci := 7) (v := .ref sl) (C := RX7) (T := TX7) (N := 17) hx hb hts it_7 hown hK hP hL_h0 hF_135 rfl 1 (by decide) (hts _ kt_307) (fun _ h9 => h9) rfl dX7_isWell_101 ?_
              obtain ⟨q_144, v_145, hr_q_144, hXc_q_144⟩ := hG.2.2.2.2 ("PostGate$Sealer", 177, "b", [98]) (by decide +kernel)
              have hXc_q_144 : SXc q_144 v_145 1 (cct [98]) A s s.heap := hXc_q_144
              have hX_q_144 : SX q_144 v_145 1 A s s.heap := hXc_q_144.sx
              obtain ⟨xo_q_144, xc_q_144, xv_q_144, xt_q_144, xn_q_144⟩ := id hXc_q_144
              have hr_q_144 : vk_R "PostGate$Sealer" 177 "b" q_144 s := hr_q_144
              refine va_ldcS hx hb hown hr_q_144 dX7_isWell_104 ?_
              refine lv_aload_n hx hb dX7_isWell_106 rfl (lv_at hl 0 rfl) ?_
              refine pg_get (ci := 7) (v := .ref w3) (C := RX7) (T := TX7) (N := 17) hx hb hts it_7 hown hK hP hL_h0 hF_135 rfl 6 (by decide) (hts _ kt_347) (fun _ h9 => h9) rfl dX7_isWell_107 ?_
              refine lv_bipush (v := 64) hx hb dX7_isWell_110 (by decide) ?_
              refine W.eq (g2 := F0 m 112 ls [.int (nI 64), .ref w3, .ref q_144, .ref sl]) rfl ?_
              have hFc := pg_free hD hS hA
              refine va_calli (va_runV (As := [.ref q_144, .ref w3, .int (nI 64)]) (rest := []) ⟨hx, hb, hml, hown, hts⟩ (s_X9_decode_e l dC dI cs ty L H.size F_124 sl (ρ + 2) sx 3000 sy0 sy1 sy2 rsx ((flI (TC fm zm) (kc + 1) (kd - (kc + 1))).length) gg_67.1 fc_73 p0_70 p1_71 p2_72 gg_67.2 q_144 v_145 1 (cct [98]) ([98]) w3 (ρ + 85) rw3 64 64 hW hi_3 ht_4 hL_sx hT_sx hL_w3 hT_w3 hF_136 hF_137 hF_138 hF_139 hF_140 hF_141 (hti3) (by omega) (hti2) (hq_81) (hti1) (⟨rfl, by decide +kernel⟩) (Or.inr rfl) (by omega) (by omega) (by omega)) ⟨callB_of 3 hts (gi kt_343) rfl rfl rfl (hts _ kt_164) (hts _ kt_344) (by decide +kernel) ⟨Nat.le_of_ble_eq_true rfl, Nat.le_of_ble_eq_true rfl⟩, (hts _ kt_345), (hts _ kt_346)⟩ ⟨fun a U g mk q => ⟨q.1, PTC.calling q.2⟩, pg_recv hK hP hi_3 hF_136 (q := (RX9, TX9, 5)) rfl, fun U hU hWm => ⟨rfl, PTC.mk hU hWm hP hK hD hE hO hG hXc_q_144 hS hFc⟩⟩ rfl rfl hl.1 rfl (lv_room (Nat.le_of_ble_eq_true rfl)) dX7_isWell_112 ⟨by show _ + 0 ≤ 0; omega, by show _ + 0 ≤ 0; omega⟩) hS (fun q _ h => hFc q h) hFc (fun r_147 gz_146 t H1 locs ht hvm hw hB hz1 hk1 hS => ?_)
              obtain ⟨F_148, f2_149, hB1, hq_150, hq_151, hq_152⟩ := hB
              obtain ⟨hP, hD, hO, hR⟩ := QT.back hB1 ht hFc hR (fun q h => by simp only [List.mem_cons, List.not_mem_nil, or_false] at h ⊢; omega)
              have hF_153 : F_148 mg = .inr (4, [.ref mx, .ref m0, .ref m1, .ref m2, .int (nI nn), .int bb]) := (hB1.2.2.2 mg (by rw [hT_mg]; simp only [List.mem_cons, List.not_mem_nil, or_false]; omega)).trans hF_129
              have hF_154 : F_148 mx = .inr (0, [.ref rm, .int (nI zm), .int 0]) := (hB1.2.2.2 mx (by rw [hT_mx]; simp only [List.mem_cons, List.not_mem_nil, or_false]; omega)).trans hF_130
              have hF_155 : F_148 rm = .inl (cs 16, 3000, .inl fm) := (hB1.2.2.2 rm (by rw [ht_56]; simp only [List.mem_cons, List.not_mem_nil, or_false]; omega)).trans hF_131
              have hF_156 : F_148 m0 = .inl (cs 16, 20, .inl e0) := (hB1.2.2.2 m0 (by rw [ht_52]; simp only [List.mem_cons, List.not_mem_nil, or_false]; omega)).trans hF_132
              have hF_157 : F_148 m1 = .inl (cs 16, 20, .inl e1) := (hB1.2.2.2 m1 (by rw [ht_53]; simp only [List.mem_cons, List.not_mem_nil, or_false]; omega)).trans hF_133
              have hF_158 : F_148 m2 = .inl (cs 16, 20, .inl e2) := (hB1.2.2.2 m2 (by rw [ht_54]; simp only [List.mem_cons, List.not_mem_nil, or_false]; omega)).trans hF_134
              have hF_159 : F_148 h0 = .inr (7, [.ref d, .ref sl, .ref ke, .ref w0, .ref w1, .ref w2, .ref w3, .ref w4, .ref w5, .ref w6, .ref w7, .ref w8, .ref tk, .ref hs, .ref pw, .int v0_58, .int v1_59]) := (hB1.2.2.2 h0 (by rw [hT_h0]; simp)).trans hF_135
              have hF_160 : F_148 sl = .inr (9, [.ref sx, .ref sy0, .ref sy1, .ref sy2, .int (nI gg_67.1)]) := (hB1.2.2.2 sl (by rw [ht_4]; simp)).trans hF_136
              have hF_161 : F_148 sx = .inr (0, [.ref rsx, .int (nI (flI (TC fm zm) (kc + 1) (kd - (kc + 1))).length), .int 0]) := (hB1.2.2.2 sx (by rw [hT_sx]; simp)).trans hF_137
              have hF_162 : F_148 rsx = .inl (cs 16, 3000, .inl fc_73) := (hB1.2.2.2 rsx (by rw [ht_41]; simp)).trans hF_138
              have hF_163 : F_148 sy0 = .inl (cs 16, 40, .inl p0_70) := (hB1.2.2.2 sy0 (by rw [ht_37]; simp)).trans hF_139
              have hF_164 : F_148 sy1 = .inl (cs 16, 40, .inl p1_71) := (hB1.2.2.2 sy1 (by rw [ht_38]; simp)).trans hF_140
              have hF_165 : F_148 sy2 = .inl (cs 16, 40, .inl p2_72) := (hB1.2.2.2 sy2 (by rw [ht_39]; simp)).trans hF_141
              have hF_166 : F_148 w2 = .inr (0, [.ref rw2, .int (nI gz_122), .int 0]) := (hB1.2.2.2 w2 (by rw [hT_w2]; simp)).trans hq_126
              have hF_167 : F_148 rw2 = .inl (cs 16, 32, .inl f2_125) := (hB1.2.2.2 rw2 (by rw [ht_44]; simp)).trans hq_127
              generalize H1 = H at hP hS ⊢
              have hw : (r_147 = 1 ∧ DCD (TC fc_73 (flI (TC fm zm) (kc + 1) (kd - (kc + 1))).length) (tgA gg_67.2 (tgR (TC fc_73 (flI (TC fm zm) (kc + 1) (kd - (kc + 1))).length) gg_67.2 [98] gg_67.1)) (tgB gg_67.2 (tgR (TC fc_73 (flI (TC fm zm) (kc + 1) (kd - (kc + 1))).length) gg_67.2 [98] gg_67.1)) 64 ∧ gz_146 = 64) ∨ (r_147 = 0 ∧ ¬ DCD (TC fc_73 (flI (TC fm zm) (kc + 1) (kd - (kc + 1))).length) (tgA gg_67.2 (tgR (TC fc_73 (flI (TC fm zm) (kc + 1) (kd - (kc + 1))).length) gg_67.2 [98] gg_67.1)) (tgB gg_67.2 (tgR (TC fc_73 (flI (TC fm zm) (kc + 1) (kd - (kc + 1))).length) gg_67.2 [98] gg_67.1)) 64) := hw
              have hw_168 := hw
              refine lv_if_eq (tgt := 154) hx hb dX7_isWell_115 (by decide) (fun c_169 => ?_) (fun c_169 => ?_)
              ·
                refine lv_iconst (v := 0) hx hb dX7_isWell_154 (by decide) ?_
                refine W.widen (k := 0) (n := 0) (by omega) (by omega) ?_
                exact W.zret (v := 0) (ty := .boolean) hx hb hr (by decide) (fun t ht hWm => ⟨⟨0, gg_67, rfl, (Or.inr ⟨rfl, swl_n hgt (by have h9 := (show ¬ SWB (TC fc_73 (flI (TC fm zm) (kc + 1) (kd - (kc + 1))).length) gg_67.2 gg_67.1 from fun q => dce_n hw_168 c_169 (q.2.2.2.2.2.1)); rw [hq_80] at h9; exact h9)⟩), ⟨F_148, p0_70, p1_71, p2_72, fc_73, f2_125, f2_149, v0_58, v1_59, QT.mk ht hP hD hO hR, hF_160, hF_161, hF_162, hF_163, hF_164, hF_165, hF_159, hq_80, hq_81, ⟨hti1, hti2, hti3⟩, (fun _ q => absurd q (by have h9 := (show ¬ SWB (TC fc_73 (flI (TC fm zm) (kc + 1) (kd - (kc + 1))).length) gg_67.2 gg_67.1 from fun q => dce_n hw_168 c_169 (q.2.2.2.2.2.1)); rw [hq_80] at h9; exact h9))⟩⟩, hS.F ht⟩) hS.2.2 dX7_isWell_155
              ·
                refine lv_aload_n hx hb dX7_isWell_118 rfl (lv_at hl 0 rfl) ?_
                have hFc := pg_free hD hS hA
                refine va_calli (va_runV (As := []) (rest := []) ⟨hx, hb, hml, hown, hts⟩ (s_X7_isFieldList_e l dC dI cs ty L H.size F_148 h0 ρ d δ ea sl sx sy0 sy1 sy2 ke kx ky0 ky1 ky2 w0 w1 w2 w3 w4 w5 w6 w7 w8 tk hs ha hbb hcc pw px py pz pu rsx ((flI (TC fm zm) (kc + 1) (kd - (kc + 1))).length) gg_67.1 fc_73 p0_70 p1_71 p2_72 gg_67.2 v0_58 v1_59 hW hL_h0 hT_h0 hL_sx hT_sx hF_159 hF_160 hF_161 hF_162 hF_163 hF_164 hF_165 (hti3) (hti2) (hq_81) (hti1)) ⟨callB_of 0 hts (gi kt_348) rfl rfl rfl (hts _ kt_322) (hts _ kt_349) (by decide +kernel) ⟨Nat.le_of_ble_eq_true rfl, Nat.le_of_ble_eq_true rfl⟩, (hts _ kt_350), (hts _ kt_351)⟩ ⟨fun a U g mk q => ⟨q.1, PTE.calling q.2⟩, pg_recv hK hP hL_h0 hF_159 (q := (RX7, TX7, 17)) rfl, fun U hU hWm => ⟨rfl, PTE.mk hU hWm hP hK hD hE hO hG (fun x hx => absurd hx List.not_mem_nil) hS hFc⟩⟩ rfl rfl hl.1 rfl (lv_room (Nat.le_of_ble_eq_true rfl)) dX7_isWell_119 ⟨by show _ + 0 ≤ 0; omega, by show _ + 0 ≤ 0; omega⟩) hS (fun q _ h => hFc q h) hFc (fun r_170 u t H1 locs ht hvm hw hB hz1 hk1 hS => ?_)
                obtain ⟨F_171, hB1⟩ := hB
                obtain rfl : F_148 = F_171 := (funext (fun a => hB1.2.2.2 a List.not_mem_nil)).symm
                obtain ⟨hP, hD, hO, hR⟩ := QT.back hB1 ht hFc hR (fun q h => absurd h List.not_mem_nil)
                generalize H1 = H at hP hS ⊢
                have hw : (r_170 = 1 ∧ HLO (TC fc_73 (flI (TC fm zm) (kc + 1) (kd - (kc + 1))).length) (tgA gg_67.2 (tgR (TC fc_73 (flI (TC fm zm) (kc + 1) (kd - (kc + 1))).length) gg_67.2 [104] gg_67.1)) (tgB gg_67.2 (tgR (TC fc_73 (flI (TC fm zm) (kc + 1) (kd - (kc + 1))).length) gg_67.2 [104] gg_67.1))) ∨ (r_170 = 0 ∧ ¬ HLO (TC fc_73 (flI (TC fm zm) (kc + 1) (kd - (kc + 1))).length) (tgA gg_67.2 (tgR (TC fc_73 (flI (TC fm zm) (kc + 1) (kd - (kc + 1))).length) gg_67.2 [104] gg_67.1)) (tgB gg_67.2 (tgR (TC fc_73 (flI (TC fm zm) (kc + 1) (kd - (kc + 1))).length) gg_67.2 [104] gg_67.1))) := hw
                have hw_172 := hw
                refine lv_if_eq (tgt := 154) hx hb dX7_isWell_122 (by decide) (fun c_173 => ?_) (fun c_173 => ?_)
                ·
                  refine lv_iconst (v := 0) hx hb dX7_isWell_154 (by decide) ?_
                  refine W.widen (k := 0) (n := 0) (by omega) (by omega) ?_
                  exact W.zret (v := 0) (ty := .boolean) hx hb hr (by decide) (fun t ht hWm => ⟨⟨0, gg_67, rfl, (Or.inr ⟨rfl, swl_n hgt (by have h9 := (show ¬ SWB (TC fc_73 (flI (TC fm zm) (kc + 1) (kd - (kc + 1))).length) gg_67.2 gg_67.1 from fun q => orp0 hw_172 c_173 (q.2.2.2.2.2.2.1)); rw [hq_80] at h9; exact h9)⟩), ⟨F_148, p0_70, p1_71, p2_72, fc_73, f2_125, f2_149, v0_58, v1_59, QT.mk ht hP hD hO hR, hF_160, hF_161, hF_162, hF_163, hF_164, hF_165, hF_159, hq_80, hq_81, ⟨hti1, hti2, hti3⟩, (fun _ q => absurd q (by have h9 := (show ¬ SWB (TC fc_73 (flI (TC fm zm) (kc + 1) (kd - (kc + 1))).length) gg_67.2 gg_67.1 from fun q => orp0 hw_172 c_173 (q.2.2.2.2.2.2.1)); rw [hq_80] at h9; exact h9))⟩⟩, hS.F ht⟩) hS.2.2 dX7_isWell_155
                ·
                  refine lv_aload_n hx hb dX7_isWell_125 rfl (lv_at hl 0 rfl) ?_
                  have hFc := pg_free hD hS hA
                  refine va_calli (va_runV (As := []) (rest := []) ⟨hx, hb, hml, hown, hts⟩ (s_X7_readPlainness_e l dC dI cs ty L H.size F_148 h0 ρ d δ ea sl sx sy0 sy1 sy2 ke kx ky0 ky1 ky2 w0 w1 w2 w3 w4 w5 w6 w7 w8 tk hs ha hbb hcc pw px py pz pu rsx ((flI (TC fm zm) (kc + 1) (kd - (kc + 1))).length) gg_67.1 fc_73 p0_70 p1_71 p2_72 gg_67.2 v0_58 v1_59 hW hL_h0 hT_h0 hL_sx hT_sx hF_159 hF_160 hF_161 hF_162 hF_163 hF_164 hF_165 (hti3) (hti2) (hq_81) (hti1)) ⟨callB_of 0 hts (gi kt_352) rfl rfl rfl (hts _ kt_322) (hts _ kt_353) (by decide +kernel) ⟨Nat.le_of_ble_eq_true rfl, Nat.le_of_ble_eq_true rfl⟩, (hts _ kt_354), (hts _ kt_355)⟩ ⟨fun a U g mk q => ⟨q.1, PTE.calling q.2⟩, pg_recv hK hP hL_h0 hF_159 (q := (RX7, TX7, 17)) rfl, fun U hU hWm => ⟨rfl, PTE.mk hU hWm hP hK hD hE hO hG (fun x hx => absurd hx List.not_mem_nil) hS hFc⟩⟩ rfl rfl hl.1 rfl (lv_room (Nat.le_of_ble_eq_true rfl)) dX7_isWell_126 ⟨by show _ + 0 ≤ 0; omega, by show _ + 0 ≤ 0; omega⟩) hS (fun q _ h => hFc q h) hFc (fun r_174 u t H1 locs ht hvm hw hB hz1 hk1 hS => ?_)
                  obtain ⟨F_175, hB1, hq_176⟩ := hB
                  obtain ⟨hP, hD, hO, hR⟩ := QT.back hB1 ht hFc hR (fun q h => by simp only [List.mem_cons, List.not_mem_nil, or_false] at h ⊢; omega)
                  have hF_177 : F_175 mg = .inr (4, [.ref mx, .ref m0, .ref m1, .ref m2, .int (nI nn), .int bb]) := (hB1.2.2.2 mg (by rw [hT_mg]; simp only [List.mem_cons, List.not_mem_nil, or_false]; omega)).trans hF_153
                  have hF_178 : F_175 mx = .inr (0, [.ref rm, .int (nI zm), .int 0]) := (hB1.2.2.2 mx (by rw [hT_mx]; simp only [List.mem_cons, List.not_mem_nil, or_false]; omega)).trans hF_154
                  have hF_179 : F_175 rm = .inl (cs 16, 3000, .inl fm) := (hB1.2.2.2 rm (by rw [ht_56]; simp only [List.mem_cons, List.not_mem_nil, or_false]; omega)).trans hF_155
                  have hF_180 : F_175 m0 = .inl (cs 16, 20, .inl e0) := (hB1.2.2.2 m0 (by rw [ht_52]; simp only [List.mem_cons, List.not_mem_nil, or_false]; omega)).trans hF_156
                  have hF_181 : F_175 m1 = .inl (cs 16, 20, .inl e1) := (hB1.2.2.2 m1 (by rw [ht_53]; simp only [List.mem_cons, List.not_mem_nil, or_false]; omega)).trans hF_157
                  have hF_182 : F_175 m2 = .inl (cs 16, 20, .inl e2) := (hB1.2.2.2 m2 (by rw [ht_54]; simp only [List.mem_cons, List.not_mem_nil, or_false]; omega)).trans hF_158
                  have hF_183 : F_175 sl = .inr (9, [.ref sx, .ref sy0, .ref sy1, .ref sy2, .int (nI gg_67.1)]) := (hB1.2.2.2 sl (by rw [ht_4]; simp)).trans hF_160
                  have hF_184 : F_175 sx = .inr (0, [.ref rsx, .int (nI (flI (TC fm zm) (kc + 1) (kd - (kc + 1))).length), .int 0]) := (hB1.2.2.2 sx (by rw [hT_sx]; simp)).trans hF_161
                  have hF_185 : F_175 rsx = .inl (cs 16, 3000, .inl fc_73) := (hB1.2.2.2 rsx (by rw [ht_41]; simp)).trans hF_162
                  have hF_186 : F_175 sy0 = .inl (cs 16, 40, .inl p0_70) := (hB1.2.2.2 sy0 (by rw [ht_37]; simp)).trans hF_163
                  have hF_187 : F_175 sy1 = .inl (cs 16, 40, .inl p1_71) := (hB1.2.2.2 sy1 (by rw [ht_38]; simp)).trans hF_164
                  have hF_188 : F_175 sy2 = .inl (cs 16, 40, .inl p2_72) := (hB1.2.2.2 sy2 (by rw [ht_39]; simp)).trans hF_165
                  have hF_189 : F_175 w2 = .inr (0, [.ref rw2, .int (nI gz_122), .int 0]) := (hB1.2.2.2 w2 (by rw [hT_w2]; simp)).trans hF_166
                  have hF_190 : F_175 rw2 = .inl (cs 16, 32, .inl f2_125) := (hB1.2.2.2 rw2 (by rw [ht_44]; simp)).trans hF_167
                  have hF_191 : F_175 w3 = .inr (0, [.ref rw3, .int (nI gz_146), .int 0]) := (hB1.2.2.2 w3 (by rw [hT_w3]; simp)).trans hq_150
                  have hF_192 : F_175 rw3 = .inl (cs 16, 64, .inl f2_149) := (hB1.2.2.2 rw3 (by rw [ht_47]; simp)).trans hq_151
                  generalize H1 = H at hP hS ⊢
                  have hw : (r_174 = 1 ∧ PLO (TC fc_73 (flI (TC fm zm) (kc + 1) (kd - (kc + 1))).length) gg_67.2 gg_67.1) ∨ (r_174 = 0 ∧ ¬ PLO (TC fc_73 (flI (TC fm zm) (kc + 1) (kd - (kc + 1))).length) gg_67.2 gg_67.1) := hw
                  have hw_193 := hw
                  refine lv_if_eq (tgt := 154) hx hb dX7_isWell_129 (by decide) (fun c_194 => ?_) (fun c_194 => ?_)
                  ·
                    refine lv_iconst (v := 0) hx hb dX7_isWell_154 (by decide) ?_
                    refine W.widen (k := 0) (n := 0) (by omega) (by omega) ?_
                    exact W.zret (v := 0) (ty := .boolean) hx hb hr (by decide) (fun t ht hWm => ⟨⟨0, gg_67, rfl, (Or.inr ⟨rfl, swl_n hgt (by have h9 := (show ¬ SWB (TC fc_73 (flI (TC fm zm) (kc + 1) (kd - (kc + 1))).length) gg_67.2 gg_67.1 from fun q => orp0 hw_193 c_194 (q.2.2.2.2.2.2.2.1)); rw [hq_80] at h9; exact h9)⟩), ⟨F_175, p0_70, p1_71, p2_72, fc_73, f2_125, f2_149, (frx (TC fc_73 (flI (TC fm zm) (kc + 1) (kd - (kc + 1))).length) gg_67.2 gg_67.1), (brx (TC fc_73 (flI (TC fm zm) (kc + 1) (kd - (kc + 1))).length) gg_67.2 gg_67.1), QT.mk ht hP hD hO hR, hF_183, hF_184, hF_185, hF_186, hF_187, hF_188, hq_176, hq_80, hq_81, ⟨hti1, hti2, hti3⟩, (fun _ q => absurd q (by have h9 := (show ¬ SWB (TC fc_73 (flI (TC fm zm) (kc + 1) (kd - (kc + 1))).length) gg_67.2 gg_67.1 from fun q => orp0 hw_193 c_194 (q.2.2.2.2.2.2.2.1)); rw [hq_80] at h9; exact h9))⟩⟩, hS.F ht⟩) hS.2.2 dX7_isWell_155
                  ·
                    refine lv_aload_n hx hb dX7_isWell_132 rfl (lv_at hl 0 rfl) ?_
                    obtain ⟨q_195, v_196, hr_q_195, hXc_q_195⟩ := hG.2.2.2.2 ("PostGate$Sealer", 185, "l", [108]) (by decide +kernel)
                    have hXc_q_195 : SXc q_195 v_196 1 (cct [108]) A s s.heap := hXc_q_195
                    have hX_q_195 : SX q_195 v_196 1 A s s.heap := hXc_q_195.sx
                    obtain ⟨xo_q_195, xc_q_195, xv_q_195, xt_q_195, xn_q_195⟩ := id hXc_q_195
                    have hr_q_195 : vk_R "PostGate$Sealer" 185 "l" q_195 s := hr_q_195
                    refine va_ldcS hx hb hown hr_q_195 dX7_isWell_133 ?_
                    have hFc := pg_free hD hS hA
                    refine va_calli (va_runV (As := [.ref q_195]) (rest := []) ⟨hx, hb, hml, hown, hts⟩ (s_X7_isNumberOrMisses_e l dC dI cs ty L H.size F_175 h0 ρ d δ ea sl sx sy0 sy1 sy2 ke kx ky0 ky1 ky2 w0 w1 w2 w3 w4 w5 w6 w7 w8 tk hs ha hbb hcc pw px py pz pu rsx ((flI (TC fm zm) (kc + 1) (kd - (kc + 1))).length) gg_67.1 fc_73 p0_70 p1_71 p2_72 gg_67.2 (frx (TC fc_73 (flI (TC fm zm) (kc + 1) (kd - (kc + 1))).length) gg_67.2 gg_67.1) (brx (TC fc_73 (flI (TC fm zm) (kc + 1) (kd - (kc + 1))).length) gg_67.2 gg_67.1) q_195 v_196 1 (cct [108]) ([108]) hW hL_h0 hT_h0 hL_sx hT_sx hq_176 hF_183 hF_184 hF_185 hF_186 hF_187 hF_188 (hti3) (hti2) (hq_81) (hti1) (⟨rfl, by decide +kernel⟩)) ⟨callB_of 1 hts (gi kt_356) rfl rfl rfl (hts _ kt_322) (hts _ kt_357) (by decide +kernel) ⟨Nat.le_of_ble_eq_true rfl, Nat.le_of_ble_eq_true rfl⟩, (hts _ kt_358), (hts _ kt_359)⟩ ⟨fun a U g mk q => ⟨q.1, PTC.calling q.2⟩, pg_recv hK hP hL_h0 hq_176 (q := (RX7, TX7, 17)) rfl, fun U hU hWm => ⟨rfl, PTC.mk hU hWm hP hK hD hE hO hG hXc_q_195 hS hFc⟩⟩ rfl rfl hl.1 rfl (lv_room (Nat.le_of_ble_eq_true rfl)) dX7_isWell_135 ⟨by show _ + 0 ≤ 0; omega, by show _ + 0 ≤ 0; omega⟩) hS (fun q _ h => hFc q h) hFc (fun r_197 u t H1 locs ht hvm hw hB hz1 hk1 hS => ?_)
                    obtain ⟨F_198, hB1⟩ := hB
                    obtain rfl : F_175 = F_198 := (funext (fun a => hB1.2.2.2 a List.not_mem_nil)).symm
                    obtain ⟨hP, hD, hO, hR⟩ := QT.back hB1 ht hFc hR (fun q h => absurd h List.not_mem_nil)
                    generalize H1 = H at hP hS ⊢
                    have hw : (r_197 = 1 ∧ NOM (TC fc_73 (flI (TC fm zm) (kc + 1) (kd - (kc + 1))).length) gg_67.2 gg_67.1 [108]) ∨ (r_197 = 0 ∧ ¬ NOM (TC fc_73 (flI (TC fm zm) (kc + 1) (kd - (kc + 1))).length) gg_67.2 gg_67.1 [108]) := hw
                    have hw_199 := hw
                    refine lv_if_eq (tgt := 154) hx hb dX7_isWell_138 (by decide) (fun c_200 => ?_) (fun c_200 => ?_)
                    ·
                      refine lv_iconst (v := 0) hx hb dX7_isWell_154 (by decide) ?_
                      refine W.widen (k := 0) (n := 0) (by omega) (by omega) ?_
                      exact W.zret (v := 0) (ty := .boolean) hx hb hr (by decide) (fun t ht hWm => ⟨⟨0, gg_67, rfl, (Or.inr ⟨rfl, swl_n hgt (by have h9 := (show ¬ SWB (TC fc_73 (flI (TC fm zm) (kc + 1) (kd - (kc + 1))).length) gg_67.2 gg_67.1 from fun q => orp0 hw_199 c_200 (q.2.2.2.2.2.2.2.2.1)); rw [hq_80] at h9; exact h9)⟩), ⟨F_175, p0_70, p1_71, p2_72, fc_73, f2_125, f2_149, (frx (TC fc_73 (flI (TC fm zm) (kc + 1) (kd - (kc + 1))).length) gg_67.2 gg_67.1), (brx (TC fc_73 (flI (TC fm zm) (kc + 1) (kd - (kc + 1))).length) gg_67.2 gg_67.1), QT.mk ht hP hD hO hR, hF_183, hF_184, hF_185, hF_186, hF_187, hF_188, hq_176, hq_80, hq_81, ⟨hti1, hti2, hti3⟩, (fun _ q => absurd q (by have h9 := (show ¬ SWB (TC fc_73 (flI (TC fm zm) (kc + 1) (kd - (kc + 1))).length) gg_67.2 gg_67.1 from fun q => orp0 hw_199 c_200 (q.2.2.2.2.2.2.2.2.1)); rw [hq_80] at h9; exact h9))⟩⟩, hS.F ht⟩) hS.2.2 dX7_isWell_155
                    ·
                      refine lv_aload_n hx hb dX7_isWell_141 rfl (lv_at hl 0 rfl) ?_
                      obtain ⟨q_201, v_202, hr_q_201, hXc_q_201⟩ := hG.2.2.2.2 ("PostGate$Sealer", 113, "x", [120]) (by decide +kernel)
                      have hXc_q_201 : SXc q_201 v_202 1 (cct [120]) A s s.heap := hXc_q_201
                      have hX_q_201 : SX q_201 v_202 1 A s s.heap := hXc_q_201.sx
                      obtain ⟨xo_q_201, xc_q_201, xv_q_201, xt_q_201, xn_q_201⟩ := id hXc_q_201
                      have hr_q_201 : vk_R "PostGate$Sealer" 113 "x" q_201 s := hr_q_201
                      refine va_ldcS hx hb hown hr_q_201 dX7_isWell_142 ?_
                      have hFc := pg_free hD hS hA
                      refine va_calli (va_runV (As := [.ref q_201]) (rest := []) ⟨hx, hb, hml, hown, hts⟩ (s_X7_isNumberOrMisses_e l dC dI cs ty L H.size F_175 h0 ρ d δ ea sl sx sy0 sy1 sy2 ke kx ky0 ky1 ky2 w0 w1 w2 w3 w4 w5 w6 w7 w8 tk hs ha hbb hcc pw px py pz pu rsx ((flI (TC fm zm) (kc + 1) (kd - (kc + 1))).length) gg_67.1 fc_73 p0_70 p1_71 p2_72 gg_67.2 (frx (TC fc_73 (flI (TC fm zm) (kc + 1) (kd - (kc + 1))).length) gg_67.2 gg_67.1) (brx (TC fc_73 (flI (TC fm zm) (kc + 1) (kd - (kc + 1))).length) gg_67.2 gg_67.1) q_201 v_202 1 (cct [120]) ([120]) hW hL_h0 hT_h0 hL_sx hT_sx hq_176 hF_183 hF_184 hF_185 hF_186 hF_187 hF_188 (hti3) (hti2) (hq_81) (hti1) (⟨rfl, by decide +kernel⟩)) ⟨callB_of 1 hts (gi kt_356) rfl rfl rfl (hts _ kt_322) (hts _ kt_357) (by decide +kernel) ⟨Nat.le_of_ble_eq_true rfl, Nat.le_of_ble_eq_true rfl⟩, (hts _ kt_358), (hts _ kt_359)⟩ ⟨fun a U g mk q => ⟨q.1, PTC.calling q.2⟩, pg_recv hK hP hL_h0 hq_176 (q := (RX7, TX7, 17)) rfl, fun U hU hWm => ⟨rfl, PTC.mk hU hWm hP hK hD hE hO hG hXc_q_201 hS hFc⟩⟩ rfl rfl hl.1 rfl (lv_room (Nat.le_of_ble_eq_true rfl)) dX7_isWell_144 ⟨by show _ + 0 ≤ 0; omega, by show _ + 0 ≤ 0; omega⟩) hS (fun q _ h => hFc q h) hFc (fun r_203 u t H1 locs ht hvm hw hB hz1 hk1 hS => ?_)
                      obtain ⟨F_204, hB1⟩ := hB
                      obtain rfl : F_175 = F_204 := (funext (fun a => hB1.2.2.2 a List.not_mem_nil)).symm
                      obtain ⟨hP, hD, hO, hR⟩ := QT.back hB1 ht hFc hR (fun q h => absurd h List.not_mem_nil)
                      generalize H1 = H at hP hS ⊢
                      have hw : (r_203 = 1 ∧ NOM (TC fc_73 (flI (TC fm zm) (kc + 1) (kd - (kc + 1))).length) gg_67.2 gg_67.1 [120]) ∨ (r_203 = 0 ∧ ¬ NOM (TC fc_73 (flI (TC fm zm) (kc + 1) (kd - (kc + 1))).length) gg_67.2 gg_67.1 [120]) := hw
                      have hw_205 := hw
                      refine lv_if_eq (tgt := 154) hx hb dX7_isWell_147 (by decide) (fun c_206 => ?_) (fun c_206 => ?_)
                      ·
                        refine lv_iconst (v := 0) hx hb dX7_isWell_154 (by decide) ?_
                        refine W.widen (k := 0) (n := 0) (by omega) (by omega) ?_
                        exact W.zret (v := 0) (ty := .boolean) hx hb hr (by decide) (fun t ht hWm => ⟨⟨0, gg_67, rfl, (Or.inr ⟨rfl, swl_n hgt (by have h9 := (show ¬ SWB (TC fc_73 (flI (TC fm zm) (kc + 1) (kd - (kc + 1))).length) gg_67.2 gg_67.1 from fun q => orp0 hw_205 c_206 (q.2.2.2.2.2.2.2.2.2)); rw [hq_80] at h9; exact h9)⟩), ⟨F_175, p0_70, p1_71, p2_72, fc_73, f2_125, f2_149, (frx (TC fc_73 (flI (TC fm zm) (kc + 1) (kd - (kc + 1))).length) gg_67.2 gg_67.1), (brx (TC fc_73 (flI (TC fm zm) (kc + 1) (kd - (kc + 1))).length) gg_67.2 gg_67.1), QT.mk ht hP hD hO hR, hF_183, hF_184, hF_185, hF_186, hF_187, hF_188, hq_176, hq_80, hq_81, ⟨hti1, hti2, hti3⟩, (fun _ q => absurd q (by have h9 := (show ¬ SWB (TC fc_73 (flI (TC fm zm) (kc + 1) (kd - (kc + 1))).length) gg_67.2 gg_67.1 from fun q => orp0 hw_205 c_206 (q.2.2.2.2.2.2.2.2.2)); rw [hq_80] at h9; exact h9))⟩⟩, hS.F ht⟩) hS.2.2 dX7_isWell_155
                      ·
                        refine lv_iconst (v := 1) hx hb dX7_isWell_150 (by decide) ?_
                        refine lv_goto (tgt := 155) hx hb dX7_isWell_151 (by decide) ?_
                        refine W.widen (k := 0) (n := 0) (by omega) (by omega) ?_
                        exact W.zret (v := 1) (ty := .boolean) hx hb hr (by decide) (fun t ht hWm => ⟨⟨1, gg_67, rfl, (Or.inl ⟨rfl, hgt, (by have h9 := (show SWB (TC fc_73 (flI (TC fm zm) (kc + 1) (kd - (kc + 1))).length) gg_67.2 gg_67.1 from ⟨orp1 hw_98 c_99, orp1 hw_106 c_107, ifb1 hw_112 c_113, ifb1 hw_118 c_119, (dce_y hw_142 c_143).1, (dce_y hw_168 c_169).1, orp1 hw_172 c_173, orp1 hw_193 c_194, orp1 hw_199 c_200, orp1 hw_205 c_206⟩); rw [hq_80] at h9; exact h9)⟩), ⟨F_175, p0_70, p1_71, p2_72, fc_73, f2_125, f2_149, (frx (TC fc_73 (flI (TC fm zm) (kc + 1) (kd - (kc + 1))).length) gg_67.2 gg_67.1), (brx (TC fc_73 (flI (TC fm zm) (kc + 1) (kd - (kc + 1))).length) gg_67.2 gg_67.1), QT.mk ht hP hD hO hR, hF_183, hF_184, hF_185, hF_186, hF_187, hF_188, hq_176, hq_80, hq_81, ⟨hti1, hti2, hti3⟩, (fun _ _ => ⟨(by rw [← hq_80]), (by rw [← hq_80]), (by have h9 := hF_189; rw [(dce_y hw_142 c_143).2] at h9; exact h9), hF_190, (by have h9 := hq_128 (dce_y hw_142 c_143).1; rw [hq_80] at h9; exact h9), (by have h9 := hF_191; rw [(dce_y hw_168 c_169).2] at h9; exact h9), hF_192, (by have h9 := hq_152 (dce_y hw_168 c_169).1; rw [hq_80] at h9; exact h9)⟩)⟩⟩, hS.F ht⟩) hS.2.2 dX7_isWell_155
  ·
    have hgt : tgT (flT (TC fm zm) (kc + 1) (kd - (kc + 1))) (flI (TC fm zm) (kc + 1) (kd - (kc + 1))).length = none := by rcases hRD with h9 | h9; exact absurd (h9.1.symm.trans c_91) (by decide); exact h9.2
    refine lv_iconst (v := 0) hx hb dX7_isWell_28 (by decide) ?_
    refine W.widen (k := 0) (n := 0) (by omega) (by omega) ?_
    exact W.zret (v := 0) (ty := .boolean) hx hb hr (by decide) (fun t ht hWm => ⟨⟨0, gg_67, rfl, (Or.inr ⟨rfl, swl_0 hgt⟩), ⟨F_69, p0_70, p1_71, p2_72, fc_73, (fun _ => 0), (fun _ => 0), v0_58, v1_59, QT.mk ht hP hD hO hR, hq_74, hq_75, hq_76, hq_77, hq_78, hq_79, hF_89, hq_80, hq_81, ⟨hti1, hti2, hti3⟩, (fun q _ => nomatch hgt.symm.trans q)⟩⟩, hS.F ht⟩) hS.2.2 dX7_isWell_29
def rgT (T : Nat → Nat) : Nat → Nat → List Nat
  | _, 0 => []
  | a, k + 1 => T a :: rgT T (a + 1) k
theorem rgT_len {T : Nat → Nat} : ∀ (k a : Nat), (rgT T a k).length = k
  | 0, _ => rfl
  | k + 1, a => congrArg (fun n => n + 1) (rgT_len k (a + 1))
theorem rgT_get {T : Nat → Nat} : ∀ (k a j : Nat), j < k → (rgT T a k).getD j 0 = T (a + j)
  | 0, _, j, h => absurd h (Nat.not_lt_zero _)
  | _ + 1, _, 0, _ => rfl
  | k + 1, a, j + 1, h => by
    show (rgT T (a + 1) k).getD j 0 = _
    rw [rgT_get k (a + 1) j (by omega), show a + 1 + j = a + (j + 1) by omega]
theorem tga_rt {U : List Nat} {T : Nat → Nat} {n y a b m y2 : Nat} {oo oo2 : Int32} {f fv f2 : Nat → Int32} (h : TGA U n y oo f) (hv : ∀ j, a ≤ j → j < b → fv j = nI (T j)) (hab : a ≤ b) (hm : m = min (b - a) (n - y)) (hy2 : y2 = y + m) (ho : (oo2 = 1 ∧ (¬ oo = 0 ∨ m < b - a)) ∨ (oo2 = 0 ∧ oo = 0 ∧ b - a ≤ m)) (h1 : ∀ j, j < y → f2 j = f j) (h2 : ∀ j, y ≤ j → j < y + m → f2 j = fv (a + (j - y))) : TGA (U ++ rgT T a (b - a)) n y2 oo2 f2 := by
  obtain ⟨g1, g2, g3⟩ := h
  have hl : (U ++ rgT T a (b - a)).length = U.length + (b - a) := by rw [List.length_append, rgT_len]
  have hoo : oo = 0 ↔ ¬ n < U.length := by
    constructor
    · intro q c
      rw [if_pos c] at g2
      rw [g2] at q
      exact absurd q (by decide)
    · intro c
      rw [g2, if_neg c]
  refine ⟨by rw [hl]; omega, ?_, fun j hj => ?_⟩
  · rw [hl]
    rcases ho with ⟨q1, q2⟩ | ⟨q1, q2, q3⟩
    · rw [q1]
      rcases q2 with q2 | q2
      · have c : n < U.length := Classical.byContradiction (fun c => q2 (hoo.mpr c))
        rw [if_pos (by omega)]
      · rw [if_pos (by omega)]
    · have c := hoo.mp q2
      rw [q1, if_neg (by omega)]
  · rcases Nat.lt_or_ge j y with q | q
    · rw [h1 j q, g3 j q, apl_l U j (by omega)]
    · have hu : U.length = y := by omega
      rw [h2 j q (by omega), hv _ (by omega) (by omega)]
      have h9 := apl_r (W := rgT T a (b - a)) U (j - y)
      rw [hu, show y + (j - y) = j by omega] at h9
      rw [h9, rgT_get _ _ _ (by omega)]
theorem tc_or {f : Nat → Int32} {z j : Nat} : TC f z j < 128 ∨ TC f z j = 200 := by
  by_cases c : TC f z j < 128
  · exact Or.inl c
  · exact Or.inr (cdv_200 c)
theorem nmc_cd {T : Nat → Nat} {a b j : Nat} (h : NMC T a b = true) (hT : T j < 128 ∨ T j = 200) (h1 : a ≤ j) (h2 : j < b) : T j < 128 := by
  rcases hT with q | q
  · exact q
  · have h9 : cdv (nI (T j)) < 128 := NM_cd h j h1 h2
    rw [q] at h9
    exact absurd h9 (by decide)
theorem tc_nI {f : Nat → Int32} {z j : Nat} (hj : j < z) (h : TC f z j < 128) : f j = nI (TC f z j) := by
  rw [tcn_in hj] at h ⊢
  exact cdv_in h
theorem nmc_len {T : Nat → Nat} {a b : Nat} (h : NMC T a b = true) : a + 1 ≤ b ∧ b ≤ a + 60 := by
  have h9 : NM (fun j => nI (T j)) a b = true := h
  unfold NM at h9
  rw [Bool.and_eq_true] at h9
  exact of_decide_eq_true h9.1
theorem tga_src {U : List Nat} {n y : Nat} {oo : Int32} {f : Nat → Int32} (h : TGA U n y oo f) (hl : U.length ≤ n) (hc : ∀ j, j < U.length → U.getD j 0 < 128) : oo = 0 ∧ SRC U y f := by
  obtain ⟨h1, h2, h3⟩ := h
  have e : y = U.length := by omega
  rw [if_neg (by omega)] at h2
  exact ⟨h2, e.symm, h3, fun j hj => hc j (by omega)⟩
set_option maxHeartbeats 4000000 in
set_option maxRecDepth 100000 in
theorem s_X0_addRange_q (l : Launch) (dC : Nat → ClassId) (dI : Nat → Nat → Nat) (cs : Nat → ClassId) (ty : TyM) (L : List Nat) (sz : Nat) (F : Nat → va_E) (h0 : Nat) (ρ : Nat) (r0 : Nat) (n : Nat) (g1 : Nat) (σ : Nat) (r1 : Nat) (n1 : Nat) (y : Nat) (z : Nat) (a : Nat) (b : Nat) (f : Nat → Int32) (fv : Nat → Int32) (T : Nat → Nat) (oo : Int32) (U : List Nat) (hW : WT ty L) (hL_h0 : h0 ∈ L) (hT_h0 : ty h0 = (0, ρ, [r0, n])) (hL_g1 : g1 ∈ L) (hT_g1 : ty g1 = (0, σ, [r1, n1])) (hF0 : F h0 = .inr (0, [.ref r0, .int (nI y), .int oo])) (hFr : F r0 = .inl (cs 16, n, .inl f)) (hm9 : n ≤ 10000) (hT : TGA U n y oo f) (hFg : F g1 = .inr (0, [.ref r1, .int (nI z), .int 0])) (hFv : F r1 = .inl (cs 16, n1, .inl fv)) (hzn : z ≤ n1) (hn9 : n1 ≤ 10000) (hab : a ≤ b) (hbz : b ≤ z) (hV : ∀ j, a ≤ j → j < b → fv j = nI (T j)) : Met l yX0_addRange (.code yX0_addRange cX0_addRange 7 none :: tb) ({ frames := 1, cells := 0, slots := 0, locals := 48 }) (va_Pc [.ref h0, .ref g1, .int (nI a), .int (nI b)] (PT (dC, dI) cs ty L F sz)) (va_Qv (fun _ : Unit => True) (fun _ T9 => ∃ F2 : Nat → va_E, ∃ y2 : Nat, ∃ oo2 : Int32, ∃ f2 : Nat → Int32, QT (dC, dI) cs ty L [ρ] F F2 (va_A (va_pl L F) sz) T9 ∧ F2 h0 = .inr (0, [.ref r0, .int (nI y2), .int oo2]) ∧ F2 r0 = .inl (cs 16, n, .inl f2) ∧ TGA (U ++ rgT T a (b - a)) n y2 oo2 f2) (va_A (va_pl L F) sz)) 0 0 (va_A (va_pl L F) sz) := by
  refine Met.ofW (cc := cX0_addRange) (maxL := 7) (ret := none) (by decide) rfl ?_
  intro p e s m args below meth c s₁ B hml hv
  obtain ⟨rfl, hsz, hP, hK, hD0, hE, hO⟩ := hv
  have hx := B.exec
  have hb := B.bytes
  have hr := B.returns
  have hts : ∀ w ∈ tb, w.before _ s = true := fun w h => atoms_spec (ws := .code yX0_addRange cX0_addRange 7 none :: tb) B.pre w (List.mem_cons_of_mem _ h)
  have hown : s.vm.findClass RX0 = some m.cls := findClass_of_methodNamed B.named
  have hlocks := B.notSynchronized
  subst hsz
  have hD := hD0.self (sz := s.heap.size)
  generalize hAe : va_A (va_pl L F) s.heap.size = A at hD ⊢
  have hA : ∀ q : Nat, s.heap.size ≤ q → A q := fun q h => by rw [← hAe]; exact Or.inr h
  have hS : va_S A s.heap s.heap [] := va_S.rf
  have hR : FR ty [ρ] F F := FR.refl
  have hl := lv_entry ([.ref h0, .ref g1, .int (nI a), .int (nI b)]) (n := 7) (Nat.le_of_ble_eq_true rfl)
  rw [lg_entry_eq]
  generalize (lg_sl ([.ref h0, .ref g1, .int (nI a), .int (nI b)]) ++ List.replicate (7 - (lg_sl ([.ref h0, .ref g1, .int (nI a), .int (nI b)])).length) Slot.unset).toArray = ls at hl ⊢
  have hl : lv_has ls 7 [(0, .ref h0), (1, .ref g1), (2, .int (nI a)), (3, .int (nI b))] := hl
  obtain ⟨hi_1, ht_2, hq_3⟩ := hW.bytes hL_h0 hT_h0
  obtain ⟨hi_4, ht_5, hq_6⟩ := hW.bytes hL_g1 hT_g1
  have hyn : y ≤ n := by have h9 := hT.1; omega
  have hoob := tga_b hT
  refine lv_iconst (v := 0) hx hb dX0_addRange_0 (by decide) ?_
  refine lv_iload_n hx hb dX0_addRange_1 rfl (lv_at hl 2 rfl) ?_
  refine va_mmax hx hb (by rw [hml]; exact hl.1.symm) hown (hts _ kt_17) (hts _ kt_18) (hts _ kt_19) (hts _ kt_20) (Nat.le_of_ble_eq_true rfl) (Nat.le_of_ble_eq_true rfl) (by show _ ≤ 0; omega) (by show _ ≤ 0; omega) dX0_addRange_2 ?_
  refine lv_topi (fun x_7 ex_7 => ?_)
  obtain rfl : x_7 = (nI a) := ex_7.trans (max0n (by omega))
  refine lv_istore (lv' := [(4, .int (nI a)), (0, .ref h0), (1, .ref g1), (2, .int (nI a)), (3, .int (nI b))]) hx hb dX0_addRange_5 hl (by decide) rfl (fun ls hl => ?_)
  refine lv_iload_n hx hb dX0_addRange_7 rfl (lv_at hl 4 rfl) ?_
  refine lv_aload_n hx hb dX0_addRange_8 rfl (lv_at hl 2 rfl) ?_
  refine pg_get (ci := 0) (v := .int (nI z)) (C := RX0) (T := TX0) (N := 3) hx hb hts it_0 hown hK hP hL_g1 hFg rfl 1 (by decide) (hts _ kt_10) (fun _ h9 => h9) rfl dX0_addRange_9 ?_
  refine va_mmin hx hb (by rw [hml]; exact hl.1.symm) hown (hts _ kt_25) (hts _ kt_26) (hts _ kt_19) (hts _ kt_27) (Nat.le_of_ble_eq_true rfl) (Nat.le_of_ble_eq_true rfl) (by show _ ≤ 0; omega) (by show _ ≤ 0; omega) dX0_addRange_12 ?_
  refine lv_topi (fun x_8 ex_8 => ?_)
  obtain rfl : x_8 = (nI b) := ex_8.trans (mnI_le (by omega) (by omega))
  refine lv_iload hx hb dX0_addRange_15 (lv_at hl 0 rfl) ?_
  refine lv_isub hx hb dX0_addRange_17 ?_
  refine lv_topi (fun x_9 ex_9 => ?_)
  obtain rfl : x_9 = (nI (b - a)) := ex_9.trans (pk_sub hab)
  refine lv_istore (lv' := [(5, .int (nI (b - a))), (4, .int (nI a)), (0, .ref h0), (1, .ref g1), (2, .int (nI a)), (3, .int (nI b))]) hx hb dX0_addRange_18 hl (by decide) rfl (fun ls hl => ?_)
  refine lv_iload hx hb dX0_addRange_20 (lv_at hl 0 rfl) ?_
  refine lv_aload_n hx hb dX0_addRange_22 rfl (lv_at hl 2 rfl) ?_
  refine pg_get (ci := 0) (v := .ref r0) (C := RX0) (T := TX0) (N := 3) hx hb hts it_0 hown hK hP hL_h0 hF0 rfl 0 (by decide) (hts _ kt_12) (fun _ h9 => h9) rfl dX0_addRange_23 ?_
  refine pg_alen (v := (nI n)) hx hb hK hP hi_1 0 hFr rfl rfl dX0_addRange_26 ?_
  refine lv_aload_n hx hb dX0_addRange_27 rfl (lv_at hl 2 rfl) ?_
  refine pg_get (ci := 0) (v := .int (nI y)) (C := RX0) (T := TX0) (N := 3) hx hb hts it_0 hown hK hP hL_h0 hF0 rfl 1 (by decide) (hts _ kt_10) (fun _ h9 => h9) rfl dX0_addRange_28 ?_
  refine lv_isub hx hb dX0_addRange_31 ?_
  refine lv_topi (fun x_10 ex_10 => ?_)
  obtain rfl : x_10 = (nI (n - y)) := ex_10.trans (pk_sub hyn)
  refine va_mmin hx hb (by rw [hml]; exact hl.1.symm) hown (hts _ kt_25) (hts _ kt_26) (hts _ kt_19) (hts _ kt_27) (Nat.le_of_ble_eq_true rfl) (Nat.le_of_ble_eq_true rfl) (by show _ ≤ 0; omega) (by show _ ≤ 0; omega) dX0_addRange_32 ?_
  refine lv_topi (fun x_11 ex_11 => ?_)
  obtain rfl : x_11 = (nI (min (b - a) (n - y))) := ex_11.trans (mnI_g (by omega) (by omega))
  refine lv_istore (lv' := [(6, .int (nI (min (b - a) (n - y)))), (5, .int (nI (b - a))), (4, .int (nI a)), (0, .ref h0), (1, .ref g1), (2, .int (nI a)), (3, .int (nI b))]) hx hb dX0_addRange_35 hl (by decide) rfl (fun ls hl => ?_)
  refine lv_iload hx hb dX0_addRange_37 (lv_at hl 0 rfl) ?_
  refine lv_if_le (tgt := 72) hx hb dX0_addRange_39 (by decide) (fun c_12 => ?_) (fun c_12 => ?_)
  ·
    have hz0 : (min (b - a) (n - y)) = 0 := by have h9 : (min (b - a) (n - y)) ≤ 0 := (nI_leI (b := 0) (by omega) (by omega)).mp c_12; omega
    refine lv_aload_n hx hb dX0_addRange_72 rfl (lv_at hl 3 rfl) ?_
    refine lv_aload_n hx hb dX0_addRange_73 rfl (lv_at hl 3 rfl) ?_
    refine pg_get (ci := 0) (v := .int oo) (C := RX0) (T := TX0) (N := 3) hx hb hts it_0 hown hK hP hL_h0 hF0 rfl 2 (by decide) (hts _ kt_11) (fun _ h9 => h9) rfl dX0_addRange_74 ?_
    refine lv_if_ne (tgt := 87) hx hb dX0_addRange_77 (by decide) (fun c_14 => ?_) (fun c_14 => ?_)
    ·
      refine lv_iconst (v := 1) hx hb dX0_addRange_87 (by decide) ?_
      refine lv_goto (tgt := 92) hx hb dX0_addRange_88 (by decide) ?_
      refine pg_put (ci := 0) (v := .int 1) (ty := .boolean) (C := RX0) (T := TX0) (N := 3) hx hb hts it_0 tyX0 tyX0_ok nmX0 hown hK hP hD hS hL_h0 hF0 rfl 2 (by decide) (hts _ kt_11) (fun _ h9 => h9) rfl (by decide +kernel) (rfl) (rfl) (Nat.le_of_ble_eq_true rfl) dX0_addRange_92 (fun H locs hP hD hS => ?_)
      obtain ⟨F_15, he_16, hP, hD, hO, hR⟩ : ∃ G, G = va_up F h0 (.inr (0, [.ref r0, .int (nI y), .int 1])) ∧ va_P (dC, dI) vwCl (va_pl L G) H ∧ va_D A (va_pl L G) ∧ OK cs ty L G ∧ FR ty [ρ] F G := ⟨_, rfl, hP, hD, hO.up (sh.bytes hT_h0 ⟨y, 1, rfl, (by first | omega | assumption | exact Or.inl rfl | exact Or.inr rfl), (by first | omega | assumption | exact Or.inl rfl | exact Or.inr rfl)⟩), hR.up hT_h0 (by simp)⟩
      have hF_17 : F_15 h0 = .inr (0, [.ref r0, .int (nI y), .int 1]) := by rw [he_16]; exact up_self
      have hF_18 : F_15 r0 = .inl (cs 16, n, .inl f) := by rw [he_16, up_ne (ne_ty ht_2 hT_h0 (by simp))]; exact hFr
      have hF_19 : F_15 r1 = .inl (cs 16, n1, .inl fv) := by rw [he_16, up_ne (ne_ty ht_5 hT_h0 (by simp))]; exact hFv
      refine W.widen (k := 0) (n := 0) (by omega) (by omega) ?_
      exact W.vret hx hb hr (fun t ht hWm => ⟨⟨(), rfl, trivial, ⟨F_15, y, 1, f, QT.mk ht hP hD hO hR, hF_17, hF_18, (tga_rt hT hV hab rfl (by omega) (Or.inl ⟨rfl, Or.inl c_14⟩) (fun j _ => rfl) (fun j h1 h2 => by omega))⟩⟩, hS.F ht⟩) hS.2.2 dX0_addRange_95
    ·
      refine lv_iload hx hb dX0_addRange_80 (lv_at hl 0 rfl) ?_
      refine lv_iload hx hb dX0_addRange_82 (lv_at hl 1 rfl) ?_
      refine lv_icmp_ge (tgt := 91) hx hb dX0_addRange_84 (by decide) (fun c_20 => ?_) (fun c_20 => ?_)
      ·
        have hi_21 : (b - a) ≤ (min (b - a) (n - y)) := leN (N := (b - a)) c_20
        have hge : b - a ≤ (min (b - a) (n - y)) := (nI_leI (by omega) (by omega)).mp c_20
        refine lv_iconst (v := 0) hx hb dX0_addRange_91 (by decide) ?_
        refine pg_put (ci := 0) (v := .int 0) (ty := .boolean) (C := RX0) (T := TX0) (N := 3) hx hb hts it_0 tyX0 tyX0_ok nmX0 hown hK hP hD hS hL_h0 hF0 rfl 2 (by decide) (hts _ kt_11) (fun _ h9 => h9) rfl (by decide +kernel) (rfl) (rfl) (Nat.le_of_ble_eq_true rfl) dX0_addRange_92 (fun H locs hP hD hS => ?_)
        obtain ⟨F_22, he_23, hP, hD, hO, hR⟩ : ∃ G, G = va_up F h0 (.inr (0, [.ref r0, .int (nI y), .int 0])) ∧ va_P (dC, dI) vwCl (va_pl L G) H ∧ va_D A (va_pl L G) ∧ OK cs ty L G ∧ FR ty [ρ] F G := ⟨_, rfl, hP, hD, hO.up (sh.bytes hT_h0 ⟨y, 0, rfl, (by first | omega | assumption | exact Or.inl rfl | exact Or.inr rfl), (by first | omega | assumption | exact Or.inl rfl | exact Or.inr rfl)⟩), hR.up hT_h0 (by simp)⟩
        have hF_24 : F_22 h0 = .inr (0, [.ref r0, .int (nI y), .int 0]) := by rw [he_23]; exact up_self
        have hF_25 : F_22 r0 = .inl (cs 16, n, .inl f) := by rw [he_23, up_ne (ne_ty ht_2 hT_h0 (by simp))]; exact hFr
        have hF_26 : F_22 r1 = .inl (cs 16, n1, .inl fv) := by rw [he_23, up_ne (ne_ty ht_5 hT_h0 (by simp))]; exact hFv
        refine W.widen (k := 0) (n := 0) (by omega) (by omega) ?_
        exact W.vret hx hb hr (fun t ht hWm => ⟨⟨(), rfl, trivial, ⟨F_22, y, 0, f, QT.mk ht hP hD hO hR, hF_24, hF_25, (tga_rt hT hV hab rfl (by omega) (Or.inr ⟨rfl, c_14, hge⟩) (fun j _ => rfl) (fun j h1 h2 => by omega))⟩⟩, hS.F ht⟩) hS.2.2 dX0_addRange_95
      ·
        have hi_27 : (min (b - a) (n - y)) < (b - a) := ltN (N := (b - a)) c_20
        have hge : (min (b - a) (n - y)) < b - a := Nat.not_le.mp (fun q => c_20 ((nI_leI (by omega) (by omega)).mpr q))
        refine lv_iconst (v := 1) hx hb dX0_addRange_87 (by decide) ?_
        refine lv_goto (tgt := 92) hx hb dX0_addRange_88 (by decide) ?_
        refine pg_put (ci := 0) (v := .int 1) (ty := .boolean) (C := RX0) (T := TX0) (N := 3) hx hb hts it_0 tyX0 tyX0_ok nmX0 hown hK hP hD hS hL_h0 hF0 rfl 2 (by decide) (hts _ kt_11) (fun _ h9 => h9) rfl (by decide +kernel) (rfl) (rfl) (Nat.le_of_ble_eq_true rfl) dX0_addRange_92 (fun H locs hP hD hS => ?_)
        obtain ⟨F_28, he_29, hP, hD, hO, hR⟩ : ∃ G, G = va_up F h0 (.inr (0, [.ref r0, .int (nI y), .int 1])) ∧ va_P (dC, dI) vwCl (va_pl L G) H ∧ va_D A (va_pl L G) ∧ OK cs ty L G ∧ FR ty [ρ] F G := ⟨_, rfl, hP, hD, hO.up (sh.bytes hT_h0 ⟨y, 1, rfl, (by first | omega | assumption | exact Or.inl rfl | exact Or.inr rfl), (by first | omega | assumption | exact Or.inl rfl | exact Or.inr rfl)⟩), hR.up hT_h0 (by simp)⟩
        have hF_30 : F_28 h0 = .inr (0, [.ref r0, .int (nI y), .int 1]) := by rw [he_29]; exact up_self
        have hF_31 : F_28 r0 = .inl (cs 16, n, .inl f) := by rw [he_29, up_ne (ne_ty ht_2 hT_h0 (by simp))]; exact hFr
        have hF_32 : F_28 r1 = .inl (cs 16, n1, .inl fv) := by rw [he_29, up_ne (ne_ty ht_5 hT_h0 (by simp))]; exact hFv
        refine W.widen (k := 0) (n := 0) (by omega) (by omega) ?_
        exact W.vret hx hb hr (fun t ht hWm => ⟨⟨(), rfl, trivial, ⟨F_28, y, 1, f, QT.mk ht hP hD hO hR, hF_30, hF_31, (tga_rt hT hV hab rfl (by omega) (Or.inl ⟨rfl, Or.inr hge⟩) (fun j _ => rfl) (fun j h1 h2 => by omega))⟩⟩, hS.F ht⟩) hS.2.2 dX0_addRange_95
  ·
    have hp0 : 0 < (min (b - a) (n - y)) := posN c_12
    refine lv_aload_n hx hb dX0_addRange_42 rfl (lv_at hl 4 rfl) ?_
    refine pg_get (ci := 0) (v := .ref r1) (C := RX0) (T := TX0) (N := 3) hx hb hts it_0 hown hK hP hL_g1 hFg rfl 0 (by decide) (hts _ kt_12) (fun _ h9 => h9) rfl dX0_addRange_43 ?_
    refine lv_iload hx hb dX0_addRange_46 (lv_at hl 2 rfl) ?_
    refine lv_aload_n hx hb dX0_addRange_48 rfl (lv_at hl 3 rfl) ?_
    refine pg_get (ci := 0) (v := .ref r0) (C := RX0) (T := TX0) (N := 3) hx hb hts it_0 hown hK hP hL_h0 hF0 rfl 0 (by decide) (hts _ kt_12) (fun _ h9 => h9) rfl dX0_addRange_49 ?_
    refine lv_aload_n hx hb dX0_addRange_52 rfl (lv_at hl 3 rfl) ?_
    refine pg_get (ci := 0) (v := .int (nI y)) (C := RX0) (T := TX0) (N := 3) hx hb hts it_0 hown hK hP hL_h0 hF0 rfl 1 (by decide) (hts _ kt_10) (fun _ h9 => h9) rfl dX0_addRange_53 ?_
    refine lv_iload hx hb dX0_addRange_56 (lv_at hl 0 rfl) ?_
    refine pg_copyi hx hb (by rw [hml]; exact hl.1.symm) hown (hts _ kt_28) (hts _ kt_29) (hts _ kt_30) (hts _ kt_31) hK hP hD hS hi_4 hi_1 0 0 hFv hFr rfl rfl rfl (nI_pos (by omega)) (nI_pos (by omega)) (nI_pos (by omega)) (by rw [nI_clamp (by omega), nI_clamp (by omega)]; omega) (by rw [nI_clamp (by omega), nI_clamp (by omega)]; omega) (fun _ _ => rfl) (Nat.le_of_ble_eq_true rfl) (by decide) dX0_addRange_58 (fun H locs hP hD hS => ?_)
    obtain ⟨F_34, he_35, hP, hD, hO, hR⟩ : ∃ G, G = va_up F r0 (.inl (cs 16, n, .inl (va_cpy fv f ((nI a)).toNatClampNeg ((nI y)).toNatClampNeg ((nI (min (b - a) (n - y)))).toNatClampNeg))) ∧ va_P (dC, dI) vwCl (va_pl L G) H ∧ va_D A (va_pl L G) ∧ OK cs ty L G ∧ FR ty [ρ] F G := ⟨_, rfl, hP, hD, hO.up (sh.ints ht_2 ⟨_, rfl⟩), hR.up ht_2 (by simp)⟩
    have hF_36 : F_34 r0 = .inl (cs 16, n, .inl (va_cpy fv f ((nI a)).toNatClampNeg ((nI y)).toNatClampNeg ((nI (min (b - a) (n - y)))).toNatClampNeg)) := by rw [he_35]; exact up_self
    have hF_37 : F_34 h0 = .inr (0, [.ref r0, .int (nI y), .int oo]) := by rw [he_35, up_ne (ne_ty hT_h0 ht_2 (by simp))]; exact hF0
    have hF_38 : F_34 g1 = .inr (0, [.ref r1, .int (nI z), .int 0]) := by rw [he_35, up_ne (ne_ty hT_g1 ht_2 (by simp))]; exact hFg
    refine lv_aload_n hx hb dX0_addRange_61 rfl (lv_at hl 3 rfl) ?_
    refine lv_dup hx hb dX0_addRange_62 rfl ?_
    refine pg_get (ci := 0) (v := .int (nI y)) (C := RX0) (T := TX0) (N := 3) hx hb hts it_0 hown hK hP hL_h0 hF_37 rfl 1 (by decide) (hts _ kt_10) (fun _ h9 => h9) rfl dX0_addRange_63 ?_
    refine lv_iload hx hb dX0_addRange_66 (lv_at hl 0 rfl) ?_
    refine lv_iadd hx hb dX0_addRange_68 ?_
    refine lv_topi (fun x_39 ex_39 => ?_)
    obtain rfl : x_39 = (nI (y + (min (b - a) (n - y)))) := ex_39.trans (nI_add _ _)
    refine pg_put (ci := 0) (v := .int (nI (y + (min (b - a) (n - y))))) (ty := .int) (C := RX0) (T := TX0) (N := 3) hx hb hts it_0 tyX0 tyX0_ok nmX0 hown hK hP hD hS hL_h0 hF_37 rfl 1 (by decide) (hts _ kt_10) (fun _ h9 => h9) rfl (by decide +kernel) (rfl) (rfl) (Nat.le_of_ble_eq_true rfl) dX0_addRange_69 (fun H locs hP hD hS => ?_)
    obtain ⟨F_40, he_41, hP, hD, hO, hR⟩ : ∃ G, G = va_up F_34 h0 (.inr (0, [.ref r0, .int (nI (y + (min (b - a) (n - y)))), .int oo])) ∧ va_P (dC, dI) vwCl (va_pl L G) H ∧ va_D A (va_pl L G) ∧ OK cs ty L G ∧ FR ty [ρ] F G := ⟨_, rfl, hP, hD, hO.up (sh.bytes hT_h0 ⟨(y + (min (b - a) (n - y))), oo, rfl, (by first | omega | assumption | exact Or.inl rfl | exact Or.inr rfl), (by first | omega | assumption | exact Or.inl rfl | exact Or.inr rfl)⟩), hR.up hT_h0 (by simp)⟩
    have hF_42 : F_40 h0 = .inr (0, [.ref r0, .int (nI (y + (min (b - a) (n - y)))), .int oo]) := by rw [he_41]; exact up_self
    have hF_43 : F_40 r0 = .inl (cs 16, n, .inl (va_cpy fv f ((nI a)).toNatClampNeg ((nI y)).toNatClampNeg ((nI (min (b - a) (n - y)))).toNatClampNeg)) := by rw [he_41, up_ne (ne_ty ht_2 hT_h0 (by simp))]; exact hF_36
    refine lv_aload_n hx hb dX0_addRange_72 rfl (lv_at hl 3 rfl) ?_
    refine lv_aload_n hx hb dX0_addRange_73 rfl (lv_at hl 3 rfl) ?_
    refine pg_get (ci := 0) (v := .int oo) (C := RX0) (T := TX0) (N := 3) hx hb hts it_0 hown hK hP hL_h0 hF_42 rfl 2 (by decide) (hts _ kt_11) (fun _ h9 => h9) rfl dX0_addRange_74 ?_
    refine lv_if_ne (tgt := 87) hx hb dX0_addRange_77 (by decide) (fun c_44 => ?_) (fun c_44 => ?_)
    ·
      refine lv_iconst (v := 1) hx hb dX0_addRange_87 (by decide) ?_
      refine lv_goto (tgt := 92) hx hb dX0_addRange_88 (by decide) ?_
      refine pg_put (ci := 0) (v := .int 1) (ty := .boolean) (C := RX0) (T := TX0) (N := 3) hx hb hts it_0 tyX0 tyX0_ok nmX0 hown hK hP hD hS hL_h0 hF_42 rfl 2 (by decide) (hts _ kt_11) (fun _ h9 => h9) rfl (by decide +kernel) (rfl) (rfl) (Nat.le_of_ble_eq_true rfl) dX0_addRange_92 (fun H locs hP hD hS => ?_)
      obtain ⟨F_45, he_46, hP, hD, hO, hR⟩ : ∃ G, G = va_up F_40 h0 (.inr (0, [.ref r0, .int (nI (y + (min (b - a) (n - y)))), .int 1])) ∧ va_P (dC, dI) vwCl (va_pl L G) H ∧ va_D A (va_pl L G) ∧ OK cs ty L G ∧ FR ty [ρ] F G := ⟨_, rfl, hP, hD, hO.up (sh.bytes hT_h0 ⟨(y + (min (b - a) (n - y))), 1, rfl, (by first | omega | assumption | exact Or.inl rfl | exact Or.inr rfl), (by first | omega | assumption | exact Or.inl rfl | exact Or.inr rfl)⟩), hR.up hT_h0 (by simp)⟩
      have hF_47 : F_45 h0 = .inr (0, [.ref r0, .int (nI (y + (min (b - a) (n - y)))), .int 1]) := by rw [he_46]; exact up_self
      have hF_48 : F_45 r0 = .inl (cs 16, n, .inl (va_cpy fv f ((nI a)).toNatClampNeg ((nI y)).toNatClampNeg ((nI (min (b - a) (n - y)))).toNatClampNeg)) := by rw [he_46, up_ne (ne_ty ht_2 hT_h0 (by simp))]; exact hF_43
      refine W.widen (k := 0) (n := 0) (by omega) (by omega) ?_
      exact W.vret hx hb hr (fun t ht hWm => ⟨⟨(), rfl, trivial, ⟨F_45, (y + (min (b - a) (n - y))), 1, (va_cpy fv f ((nI a)).toNatClampNeg ((nI y)).toNatClampNeg ((nI (min (b - a) (n - y)))).toNatClampNeg), QT.mk ht hP hD hO hR, hF_47, hF_48, (tga_rt hT hV hab rfl rfl (Or.inl ⟨rfl, Or.inl c_44⟩) (cpy_n (by omega) (by omega) (by omega)) (cpy_y (by omega) (by omega) (by omega)))⟩⟩, hS.F ht⟩) hS.2.2 dX0_addRange_95
    ·
      refine lv_iload hx hb dX0_addRange_80 (lv_at hl 0 rfl) ?_
      refine lv_iload hx hb dX0_addRange_82 (lv_at hl 1 rfl) ?_
      refine lv_icmp_ge (tgt := 91) hx hb dX0_addRange_84 (by decide) (fun c_49 => ?_) (fun c_49 => ?_)
      ·
        have hi_50 : (b - a) ≤ (min (b - a) (n - y)) := leN (N := (b - a)) c_49
        have hge : b - a ≤ (min (b - a) (n - y)) := (nI_leI (by omega) (by omega)).mp c_49
        refine lv_iconst (v := 0) hx hb dX0_addRange_91 (by decide) ?_
        refine pg_put (ci := 0) (v := .int 0) (ty := .boolean) (C := RX0) (T := TX0) (N := 3) hx hb hts it_0 tyX0 tyX0_ok nmX0 hown hK hP hD hS hL_h0 hF_42 rfl 2 (by decide) (hts _ kt_11) (fun _ h9 => h9) rfl (by decide +kernel) (rfl) (rfl) (Nat.le_of_ble_eq_true rfl) dX0_addRange_92 (fun H locs hP hD hS => ?_)
        obtain ⟨F_51, he_52, hP, hD, hO, hR⟩ : ∃ G, G = va_up F_40 h0 (.inr (0, [.ref r0, .int (nI (y + (min (b - a) (n - y)))), .int 0])) ∧ va_P (dC, dI) vwCl (va_pl L G) H ∧ va_D A (va_pl L G) ∧ OK cs ty L G ∧ FR ty [ρ] F G := ⟨_, rfl, hP, hD, hO.up (sh.bytes hT_h0 ⟨(y + (min (b - a) (n - y))), 0, rfl, (by first | omega | assumption | exact Or.inl rfl | exact Or.inr rfl), (by first | omega | assumption | exact Or.inl rfl | exact Or.inr rfl)⟩), hR.up hT_h0 (by simp)⟩
        have hF_53 : F_51 h0 = .inr (0, [.ref r0, .int (nI (y + (min (b - a) (n - y)))), .int 0]) := by rw [he_52]; exact up_self
        have hF_54 : F_51 r0 = .inl (cs 16, n, .inl (va_cpy fv f ((nI a)).toNatClampNeg ((nI y)).toNatClampNeg ((nI (min (b - a) (n - y)))).toNatClampNeg)) := by rw [he_52, up_ne (ne_ty ht_2 hT_h0 (by simp))]; exact hF_43
        refine W.widen (k := 0) (n := 0) (by omega) (by omega) ?_
        exact W.vret hx hb hr (fun t ht hWm => ⟨⟨(), rfl, trivial, ⟨F_51, (y + (min (b - a) (n - y))), 0, (va_cpy fv f ((nI a)).toNatClampNeg ((nI y)).toNatClampNeg ((nI (min (b - a) (n - y)))).toNatClampNeg), QT.mk ht hP hD hO hR, hF_53, hF_54, (tga_rt hT hV hab rfl rfl (Or.inr ⟨rfl, c_44, hge⟩) (cpy_n (by omega) (by omega) (by omega)) (cpy_y (by omega) (by omega) (by omega)))⟩⟩, hS.F ht⟩) hS.2.2 dX0_addRange_95
      ·
        have hi_55 : (min (b - a) (n - y)) < (b - a) := ltN (N := (b - a)) c_49
        have hge : (min (b - a) (n - y)) < b - a := Nat.not_le.mp (fun q => c_49 ((nI_leI (by omega) (by omega)).mpr q))
        refine lv_iconst (v := 1) hx hb dX0_addRange_87 (by decide) ?_
        refine lv_goto (tgt := 92) hx hb dX0_addRange_88 (by decide) ?_
        refine pg_put (ci := 0) (v := .int 1) (ty := .boolean) (C := RX0) (T := TX0) (N := 3) hx hb hts it_0 tyX0 tyX0_ok nmX0 hown hK hP hD hS hL_h0 hF_42 rfl 2 (by decide) (hts _ kt_11) (fun _ h9 => h9) rfl (by decide +kernel) (rfl) (rfl) (Nat.le_of_ble_eq_true rfl) dX0_addRange_92 (fun H locs hP hD hS => ?_)
        obtain ⟨F_56, he_57, hP, hD, hO, hR⟩ : ∃ G, G = va_up F_40 h0 (.inr (0, [.ref r0, .int (nI (y + (min (b - a) (n - y)))), .int 1])) ∧ va_P (dC, dI) vwCl (va_pl L G) H ∧ va_D A (va_pl L G) ∧ OK cs ty L G ∧ FR ty [ρ] F G := ⟨_, rfl, hP, hD, hO.up (sh.bytes hT_h0 ⟨(y + (min (b - a) (n - y))), 1, rfl, (by first | omega | assumption | exact Or.inl rfl | exact Or.inr rfl), (by first | omega | assumption | exact Or.inl rfl | exact Or.inr rfl)⟩), hR.up hT_h0 (by simp)⟩
        have hF_58 : F_56 h0 = .inr (0, [.ref r0, .int (nI (y + (min (b - a) (n - y)))), .int 1]) := by rw [he_57]; exact up_self
        have hF_59 : F_56 r0 = .inl (cs 16, n, .inl (va_cpy fv f ((nI a)).toNatClampNeg ((nI y)).toNatClampNeg ((nI (min (b - a) (n - y)))).toNatClampNeg)) := by rw [he_57, up_ne (ne_ty ht_2 hT_h0 (by simp))]; exact hF_43
        refine W.widen (k := 0) (n := 0) (by omega) (by omega) ?_
        exact W.vret hx hb hr (fun t ht hWm => ⟨⟨(), rfl, trivial, ⟨F_56, (y + (min (b - a) (n - y))), 1, (va_cpy fv f ((nI a)).toNatClampNeg ((nI y)).toNatClampNeg ((nI (min (b - a) (n - y)))).toNatClampNeg), QT.mk ht hP hD hO hR, hF_58, hF_59, (tga_rt hT hV hab rfl rfl (Or.inl ⟨rfl, Or.inr hge⟩) (cpy_n (by omega) (by omega) (by omega)) (cpy_y (by omega) (by omega) (by omega)))⟩⟩, hS.F ht⟩) hS.2.2 dX0_addRange_95
def DKM : List Nat := [68, 75, 73, 77, 49]
def RSA3 : List Nat := [114, 115, 97]
def kyT (d : ETY) : Nat → Nat := flT (TC d.2.2.2.2.2 d.2.2.2.2.1) 0 (d.2.2.2.2.1 - 0)
def kyY (d : ETY) : Nat := (flI (TC d.2.2.2.2.2 d.2.2.2.2.1) 0 (d.2.2.2.2.1 - 0)).length
noncomputable def kyP (T : Nat → Nat) (g : Nat → Nat → Nat) (n : Nat) : Nat → Nat := dcB T (tgA g (tgR T g [112] n)) 64
def KYB (T : Nat → Nat) (g : Nat → Nat → Nat) (n : Nat) : Prop := DCD T (tgA g (tgR T g [112] n)) (tgB g (tgR T g [112] n)) 64 ∧ (¬ TGE T g n [118] ∨ TGV T g n [118] DKM) ∧ (¬ TGE T g n [107] ∨ TGV T g n [107] RSA3) ∧ 128 ≤ kyP T g n 0 ∧ kyP T g n 63 % 2 = 1
def KYO (d : ETY) : Prop := ∃ gg, tgT (kyT d) (kyY d) = some gg ∧ KYB (kyT d) gg.2 gg.1
noncomputable def kyM (d : ETY) : Nat → Nat := match tgT (kyT d) (kyY d) with
  | none => fun _ => 0
  | some gg => kyP (kyT d) gg.2 gg.1
theorem kyM_e {d : ETY} {gg : TGG} (h : tgT (kyT d) (kyY d) = some gg) : kyM d = kyP (kyT d) gg.2 gg.1 := by
  unfold kyM
  rw [h]
theorem kyo_n {d : ETY} {gg : TGG} (h : tgT (kyT d) (kyY d) = some gg) (hn : ¬ KYB (kyT d) gg.2 gg.1) : ¬ KYO d := fun q => by
  obtain ⟨g2, q1, q2⟩ := q
  obtain rfl := Option.some.inj (h.symm.trans q1)
  exact hn q2
theorem kyo_0 {d : ETY} (h : tgT (kyT d) (kyY d) = none) : ¬ KYO d := fun q => by
  obtain ⟨g2, q1, q2⟩ := q
  exact nomatch h.symm.trans q1
theorem ky_1 : ∀ c, c < 256 → (nI c &&& 1 = 1 ↔ c % 2 = 1) := by decide +kernel
def HAU (D : Nat → ETY) (cn : Nat) (x : Int32) (U : List Nat) : Prop := HAS D cn x (ooU U) (yU U) (faU U)
def KYX (D : Nat → ETY) (cn : Nat) (U : List Nat) (gk : Nat) (r : Int32) : Prop := (HAU D cn 3 U ∧ r = 5) ∨ (¬ HAU D cn 3 U ∧ ¬ HAU D cn 0 U ∧ r = 6) ∨ (¬ HAU D cn 3 U ∧ gk < cn ∧ (D gk).1 = 0 ∧ SAMN (D gk) (ooU U) (yU U) (faU U) ∧ ¬ HAU D gk 0 U ∧ ((KYO (D gk) ∧ r = 2) ∨ (¬ KYO (D gk) ∧ r = 6)))
theorem kyx_2 {D : Nat → ETY} {cn : Nat} {U : List Nat} {gk : Nat} {r : Int32} (h : KYX D cn U gk r) (c : r = 2) : gk < cn ∧ KYO (D gk) := by
  rcases h with h | h | h
  · exact absurd (h.2.symm.trans c) (by decide)
  · exact absurd (h.2.2.symm.trans c) (by decide)
  · obtain ⟨-, h1, -, -, -, h2⟩ := h
    rcases h2 with h2 | h2
    · exact ⟨h1, h2.1⟩
    · exact absurd (h2.2.symm.trans c) (by decide)
theorem ftx_u {D : Nat → ETY} {cn : Nat} {oo r : Int32} {y : Nat} {fa : Nat → Int32} {U : List Nat} (h : TGA U 60 y oo fa) (hf : FTX D cn oo y fa r) : (r = (-1) ∧ ¬ HAU D cn 0 U) ∨ ∃ k, k < cn ∧ r = nI k ∧ (D k).1 = 0 ∧ SAMN (D k) (ooU U) (yU U) (faU U) ∧ ¬ HAU D k 0 U := by
  rcases hf with ⟨h1, h2⟩ | ⟨k, h1, h2, h3, h4, h5⟩
  · exact Or.inl ⟨h1, fun q => h2 ((has_u h).mpr q)⟩
  · have h6 : HAS D (k + 1) 0 oo y fa := ⟨k, by omega, h3, h4⟩
    obtain ⟨k2, q1, q2, q3⟩ := (has_u h).mp h6
    refine Or.inr ⟨k, h1, h2, h3, ?_, fun q => h5 ((has_u h).mpr q)⟩
    rcases Nat.lt_or_ge k2 k with w | w
    · exact absurd ((has_u h).mpr ⟨k2, w, q2, q3⟩) h5
    · rw [show k = k2 by omega]
      exact q3
set_option maxHeartbeats 4000000 in
set_option maxRecDepth 100000 in
theorem s_X7_readKey_e (l : Launch) (dC : Nat → ClassId) (dI : Nat → Nat → Nat) (cs : Nat → ClassId) (ty : TyM) (L : List Nat) (sz : Nat) (F : Nat → va_E) (h0 : Nat) (ρ : Nat) (d : Nat) (δ : Nat) (ea : Nat) (sl : Nat) (sx : Nat) (sy0 : Nat) (sy1 : Nat) (sy2 : Nat) (ke : Nat) (kx : Nat) (ky0 : Nat) (ky1 : Nat) (ky2 : Nat) (w0 : Nat) (w1 : Nat) (w2 : Nat) (w3 : Nat) (w4 : Nat) (w5 : Nat) (w6 : Nat) (w7 : Nat) (w8 : Nat) (tk : Nat) (hs : Nat) (ha : Nat) (hbb : Nat) (hcc : Nat) (pw : Nat) (px : Nat) (py : Nat) (pz : Nat) (pu : Nat) (rsx : Nat) (z : Nat) (nn : Nat) (f : Nat → Int32) (e0 : Nat → Int32) (e1 : Nat → Int32) (e2 : Nat → Int32) (gq : Nat → Nat → Nat) (v0 : Int32) (v1 : Int32) (rw0 : Nat) (rw1 : Nat) (rw4 : Nat) (rkx : Nat) (cn : Nat) (V : List Nat) (D : Nat → ETY) (hW : WT ty L) (hL_h0 : h0 ∈ L) (hT_h0 : ty h0 = (7, ρ, [d, δ, ea, sl, sx, sy0, sy1, sy2, ke, kx, ky0, ky1, ky2, w0, w1, w2, w3, w4, w5, w6, w7, w8, tk, hs, ha, hbb, hcc, pw, px, py, pz, pu])) (hL_sx : sx ∈ L) (hT_sx : ty sx = (0, ρ + 3, [rsx, 3000])) (hL_w0 : w0 ∈ L) (hT_w0 : ty w0 = (0, ρ + 82, [rw0, 60])) (hL_w1 : w1 ∈ L) (hT_w1 : ty w1 = (0, ρ + 83, [rw1, 60])) (hL_w4 : w4 ∈ L) (hT_w4 : ty w4 = (0, ρ + 86, [rw4, 64])) (hL_kx : kx ∈ L) (hT_kx : ty kx = (0, ρ + 5, [rkx, 700])) (hFs : F h0 = .inr (7, [.ref d, .ref sl, .ref ke, .ref w0, .ref w1, .ref w2, .ref w3, .ref w4, .ref w5, .ref w6, .ref w7, .ref w8, .ref tk, .ref hs, .ref pw, .int v0, .int v1])) (hFl : F sl = .inr (9, [.ref sx, .ref sy0, .ref sy1, .ref sy2, .int (nI nn)])) (hFx : F sx = .inr (0, [.ref rsx, .int (nI z), .int 0])) (hFr : F rsx = .inl (cs 16, 3000, .inl f)) (hFy0 : F sy0 = .inl (cs 16, 40, .inl e0)) (hFy1 : F sy1 = .inl (cs 16, 40, .inl e1)) (hFy2 : F sy2 = .inl (cs 16, 40, .inl e2)) (hzn : z ≤ 3000) (hcn : nn ≤ 40) (hhl : HLD e0 e1 e2 nn gq) (hTG : TGI z nn gq) (hNs : NMC (TC f z) (tgA gq (tgR (TC f z) gq [115] nn)) (tgB gq (tgR (TC f z) gq [115] nn)) = true) (hV : TXE cs F w0 60 V) (hFd : F d = .inr (2, [.ref ea, .int (nI cn)])) (hcnn : cn ≤ 40) (hDI : DIRC cs F ea cn D) (hdl : δ + 4 = ρ) : Met l yX7_readKey (.code yX7_readKey cX7_readKey 4 (some .int) :: tb) ({ frames := 8, cells := 0, slots := 0, locals := 176 }) (va_Pc [.ref h0] (PTE (dC, dI) cs ty L F sz [])) (va_Qi (fun (r : Int32) (gk : Nat) => KYX D cn (rgT (TC f z) (tgA gq (tgR (TC f z) gq [115] nn)) ((tgB gq (tgR (TC f z) gq [115] nn)) - (tgA gq (tgR (TC f z) gq [115] nn))) ++ [46, 95, 100, 111, 109, 97, 105, 110, 107, 101, 121, 46] ++ rgL V 0 (V.length - 0)) gk r) (fun (gk : Nat) T9 => ∃ F2 : Nat → va_E, ∃ fM : Nat → Int32, QT (dC, dI) cs ty L [ρ + 4, ρ + 5, ρ + 74, ρ + 75, ρ + 83, ρ + 86] F F2 (va_A (va_pl L F) sz) T9 ∧ (KYX D cn (rgT (TC f z) (tgA gq (tgR (TC f z) gq [115] nn)) ((tgB gq (tgR (TC f z) gq [115] nn)) - (tgA gq (tgR (TC f z) gq [115] nn))) ++ [46, 95, 100, 111, 109, 97, 105, 110, 107, 101, 121, 46] ++ rgL V 0 (V.length - 0)) gk 2 → F2 w4 = .inr (0, [.ref rw4, .int (nI 64), .int 0]) ∧ F2 rw4 = .inl (cs 16, 64, .inl fM) ∧ BYT (kyM (D gk)) 64 fM)) (va_A (va_pl L F) sz)) 0 0 (va_A (va_pl L F) sz) := by
  refine Met.ofW (cc := cX7_readKey) (maxL := 4) (ret := (some .int)) (by decide) rfl ?_
  intro p e s m args below meth c s₁ B hml hv
  obtain ⟨rfl, ⟨hsz, hP, hK, hD0, hE, hO⟩, hG, hX⟩ := hv
  have hx := B.exec
  have hb := B.bytes
  have hr := B.returns
  have hts : ∀ w ∈ tb, w.before _ s = true := fun w h => atoms_spec (ws := .code yX7_readKey cX7_readKey 4 (some .int) :: tb) B.pre w (List.mem_cons_of_mem _ h)
  have hown : s.vm.findClass RX7 = some m.cls := findClass_of_methodNamed B.named
  have hlocks := B.notSynchronized
  subst hsz
  have hD := hD0.self (sz := s.heap.size)
  generalize hAe : va_A (va_pl L F) s.heap.size = A at hD hG hX ⊢
  have hA : ∀ q : Nat, s.heap.size ≤ q → A q := fun q h => by rw [← hAe]; exact Or.inr h
  have hS : va_S A s.heap s.heap [] := va_S.rf
  have hR : FR ty [ρ + 4, ρ + 5, ρ + 74, ρ + 75, ρ + 83, ρ + 86] F F := FR.refl
  have hl := lv_entry ([.ref h0]) (n := 4) (Nat.le_of_ble_eq_true rfl)
  rw [lg_entry_eq]
  generalize (lg_sl ([.ref h0]) ++ List.replicate (4 - (lg_sl ([.ref h0])).length) Slot.unset).toArray = ls at hl ⊢
  have hl : lv_has ls 4 [(0, .ref h0)] := hl
  obtain ⟨hi_1, ht_2, hi_3, ht_4, hi_5, ht_6, _, _, _, _, hi_7, ⟨r_8, ht_9⟩, hi_10, ⟨r_11, ht_12⟩, _, _, hi_13, ⟨r_14, ht_15⟩, hi_16, ⟨r_17, ht_18⟩, hi_19, ⟨r_20, ht_21⟩, hi_22, ⟨r_23, ht_24⟩, hi_25, ht_26, hi_27, ht_28, hi_29, ht_30⟩ := hW.slr hL_h0 hT_h0
  obtain ⟨_, hi_31, hi_32, hi_33, _, ht_34, ht_35, ht_36⟩ := hW.tags hi_3 ht_4
  have ht_35 : ty sy1 = (24, ρ + 72, [40]) := ht_35
  have ht_36 : ty sy2 = (24, ρ + 73, [40]) := ht_36
  obtain ⟨hi_37, ht_38, hq_39⟩ := hW.bytes hL_sx hT_sx
  obtain ⟨hi_40, ht_41, hq_42⟩ := hW.bytes hL_w0 hT_w0
  obtain ⟨hi_43, ht_44, hq_45⟩ := hW.bytes hL_w1 hT_w1
  obtain ⟨hi_46, ht_47, hq_48⟩ := hW.bytes hL_w4 hT_w4
  obtain ⟨hi_49, ht_50, hq_51⟩ := hW.bytes hL_kx hT_kx
  obtain ⟨_, hi_52, hi_53, hi_54, _, ht_55, ht_56, ht_57⟩ := hW.tags hi_5 ht_6
  have ht_56 : ty ky1 = (24, ρ + 74, [40]) := ht_56
  have ht_57 : ty ky2 = (24, ρ + 75, [40]) := ht_57
  obtain ⟨hi_58, ht_59⟩ := hW.dir hi_1 ht_2
  obtain ⟨f_60, hF_61, hq_62⟩ := hO.rentry hi_58 ht_59
  have hO0 := hO
  have he0 := hF_61
  obtain ⟨zv, fv, hq1, hq2, hq3, hq4⟩ := hV.get hO hL_w0 hT_w0
  obtain rfl := hq3.1
  refine lv_aload_n hx hb dX7_readKey_0 rfl (lv_at hl 0 rfl) ?_
  refine pg_get (ci := 7) (v := .ref w1) (C := RX7) (T := TX7) (N := 17) hx hb hts it_7 hown hK hP hL_h0 hFs rfl 4 (by decide) (hts _ kt_366) (fun _ h9 => h9) rfl dX7_readKey_1 ?_
  have hFc := pg_free hD hS hA
  obtain ⟨z_63, o_64, hF_65, hq_66, hq_67⟩ := hO.bytes hL_w1 hT_w1
  refine va_callv (va_runV (As := []) (rest := []) ⟨hx, hb, hml, hown, hts⟩ (s_X0_clear l dC dI cs ty L s.heap.size F w1 (ρ + 83) rw1 60 hW hL_w1 hT_w1) ⟨callB_of 0 hts (gi kt_32) rfl rfl rfl (hts _ kt_1) (hts _ kt_361) (by decide +kernel) ⟨Nat.le_of_ble_eq_true rfl, Nat.le_of_ble_eq_true rfl⟩, (hts _ kt_34), (hts _ kt_35)⟩ ⟨fun a U g mk q => ⟨q.1, PT.calling q.2⟩, pg_recv hK hP hL_w1 hF_65 (q := (RX0, TX0, 3)) rfl, fun U hU hWm => ⟨rfl, PT.mk hU hWm hP hK hD hE hO⟩⟩ rfl rfl hl.1 rfl (lv_room (Nat.le_of_ble_eq_true rfl)) dX7_readKey_4 ⟨by show _ + 0 ≤ 0; omega, by show _ + 0 ≤ 0; omega⟩) hS (fun q _ h => hFc q h) hFc (fun u t H1 locs ht hvm hw hB hz1 hk1 hS => ?_)
  obtain ⟨F_69, hB1, hq_70⟩ := hB
  obtain ⟨hP, hD, hO, hR⟩ := QT.back hB1 ht hFc hR (fun q h => by simp only [List.mem_cons, List.not_mem_nil, or_false] at h ⊢; omega)
  have hF_71 : F_69 h0 = .inr (7, [.ref d, .ref sl, .ref ke, .ref w0, .ref w1, .ref w2, .ref w3, .ref w4, .ref w5, .ref w6, .ref w7, .ref w8, .ref tk, .ref hs, .ref pw, .int v0, .int v1]) := (hB1.2.2.2 h0 (by rw [hT_h0]; simp)).trans hFs
  have hF_72 : F_69 sl = .inr (9, [.ref sx, .ref sy0, .ref sy1, .ref sy2, .int (nI nn)]) := (hB1.2.2.2 sl (by rw [ht_4]; simp)).trans hFl
  have hF_73 : F_69 sx = .inr (0, [.ref rsx, .int (nI z), .int 0]) := (hB1.2.2.2 sx (by rw [hT_sx]; simp)).trans hFx
  have hF_74 : F_69 rsx = .inl (cs 16, 3000, .inl f) := (hB1.2.2.2 rsx (by rw [ht_38]; simp)).trans hFr
  have hF_75 : F_69 sy0 = .inl (cs 16, 40, .inl e0) := (hB1.2.2.2 sy0 (by rw [ht_34]; simp)).trans hFy0
  have hF_76 : F_69 sy1 = .inl (cs 16, 40, .inl e1) := (hB1.2.2.2 sy1 (by rw [ht_35]; simp)).trans hFy1
  have hF_77 : F_69 sy2 = .inl (cs 16, 40, .inl e2) := (hB1.2.2.2 sy2 (by rw [ht_36]; simp)).trans hFy2
  have hF_78 : F_69 d = .inr (2, [.ref ea, .int (nI cn)]) := (hB1.2.2.2 d (by rw [ht_2]; simp only [List.mem_cons, List.not_mem_nil, or_false]; omega)).trans hFd
  have hF_79 : F_69 ea = .inl (cs 21, 40, .inr (.inr (.inr (.inr f_60)))) := (hB1.2.2.2 ea (by rw [ht_59]; simp only [List.mem_cons, List.not_mem_nil, or_false]; omega)).trans hF_61
  have hF_80 : F_69 w0 = .inr (0, [.ref rw0, .int (nI V.length), .int 0]) := (hB1.2.2.2 w0 (by rw [hT_w0]; simp)).trans hq1
  have hF_81 : F_69 rw0 = .inl (cs 16, 60, .inl fv) := (hB1.2.2.2 rw0 (by rw [ht_41]; simp)).trans hq2
  generalize H1 = H at hP hS ⊢
  obtain ⟨f_82, hF_83⟩ := hO.ints hi_43 ht_44
  refine lv_aload_n hx hb dX7_readKey_7 rfl (lv_at hl 0 rfl) ?_
  refine pg_get (ci := 7) (v := .ref w1) (C := RX7) (T := TX7) (N := 17) hx hb hts it_7 hown hK hP hL_h0 hF_71 rfl 4 (by decide) (hts _ kt_366) (fun _ h9 => h9) rfl dX7_readKey_8 ?_
  refine lv_aload_n hx hb dX7_readKey_11 rfl (lv_at hl 0 rfl) ?_
  refine pg_get (ci := 7) (v := .ref sl) (C := RX7) (T := TX7) (N := 17) hx hb hts it_7 hown hK hP hL_h0 hF_71 rfl 1 (by decide) (hts _ kt_307) (fun _ h9 => h9) rfl dX7_readKey_12 ?_
  refine pg_getN (ci := 9) (v := .ref sx) (C := RX9) (T := TX9) (N := 5) hx hb hts it_9 hown hK hP hi_3 hF_72 rfl 0 (by decide) (hE.nest kn_7) (fun _ h9 => h9) rfl dX7_readKey_15 ?_
  refine lv_aload_n hx hb dX7_readKey_18 rfl (lv_at hl 0 rfl) ?_
  refine pg_get (ci := 7) (v := .ref sl) (C := RX7) (T := TX7) (N := 17) hx hb hts it_7 hown hK hP hL_h0 hF_71 rfl 1 (by decide) (hts _ kt_307) (fun _ h9 => h9) rfl dX7_readKey_19 ?_
  obtain ⟨q_84, v_85, hr_q_84, hXc_q_84⟩ := hG.2.2.2.2 ("PostGate$Sealer", 169, "s", [115]) (by decide +kernel)
  have hXc_q_84 : SXc q_84 v_85 1 (cct [115]) A s s.heap := hXc_q_84
  have hX_q_84 : SX q_84 v_85 1 A s s.heap := hXc_q_84.sx
  obtain ⟨xo_q_84, xc_q_84, xv_q_84, xt_q_84, xn_q_84⟩ := id hXc_q_84
  have hr_q_84 : vk_R "PostGate$Sealer" 169 "s" q_84 s := hr_q_84
  refine va_ldcS hx hb hown hr_q_84 dX7_readKey_22 ?_
  have hFc := pg_free hD hS hA
  refine va_calli (va_runV (As := [.ref q_84]) (rest := [.ref sx, .ref w1]) ⟨hx, hb, hml, hown, hts⟩ (s_X9_startOf_e l dC dI cs ty L H.size F_69 sl (ρ + 2) sx 3000 sy0 sy1 sy2 rsx z nn f e0 e1 e2 gq q_84 v_85 1 (cct [115]) ([115]) hW hi_3 ht_4 hL_sx hT_sx hF_72 hF_73 hF_74 hF_75 hF_76 hF_77 (hzn) (by omega) (hcn) (hhl) (hTG) (⟨rfl, by decide +kernel⟩)) ⟨callB_of 1 hts (gi kt_170) rfl rfl rfl (hts _ kt_164) (hts _ kt_318) (by decide +kernel) ⟨Nat.le_of_ble_eq_true rfl, Nat.le_of_ble_eq_true rfl⟩, (hts _ kt_172), (hts _ kt_173)⟩ ⟨fun a U g mk q => ⟨q.1, PTC.calling q.2⟩, pg_recv hK hP hi_3 hF_72 (q := (RX9, TX9, 5)) rfl, fun U hU hWm => ⟨rfl, PTC.mk hU hWm hP hK hD hE hO hG hXc_q_84 hS hFc⟩⟩ rfl rfl hl.1 rfl (lv_room (Nat.le_of_ble_eq_true rfl)) dX7_readKey_24 ⟨by show _ + 0 ≤ 0; omega, by show _ + 0 ≤ 0; omega⟩) hS (fun q _ h => hFc q h) hFc (fun r_86 u t H1 locs ht hvm hw hB hz1 hk1 hS => ?_)
  obtain ⟨F_87, hB1⟩ := hB
  obtain rfl : F_69 = F_87 := (funext (fun a => hB1.2.2.2 a List.not_mem_nil)).symm
  obtain ⟨hP, hD, hO, hR⟩ := QT.back hB1 ht hFc hR (fun q h => absurd h List.not_mem_nil)
  generalize H1 = H at hP hS ⊢
  have hw : r_86 = nI (tgA gq (tgR (TC f z) gq [115] nn)) := hw
  have hw_88 := hw
  have hq9 : r_86 = nI (tgA gq (tgR (TC f z) gq [115] nn)) := hw_88
  subst hq9
  refine lv_aload_n hx hb dX7_readKey_27 rfl (lv_at hl 0 rfl) ?_
  refine pg_get (ci := 7) (v := .ref sl) (C := RX7) (T := TX7) (N := 17) hx hb hts it_7 hown hK hP hL_h0 hF_71 rfl 1 (by decide) (hts _ kt_307) (fun _ h9 => h9) rfl dX7_readKey_28 ?_
  refine va_ldcS hx hb hown hr_q_84 dX7_readKey_31 ?_
  have hFc := pg_free hD hS hA
  refine va_calli (va_runV (As := [.ref q_84]) (rest := [.int (nI (tgA gq (tgR (TC f z) gq [115] nn))), .ref sx, .ref w1]) ⟨hx, hb, hml, hown, hts⟩ (s_X9_endOf_e l dC dI cs ty L H.size F_69 sl (ρ + 2) sx 3000 sy0 sy1 sy2 rsx z nn f e0 e1 e2 gq q_84 v_85 1 (cct [115]) ([115]) hW hi_3 ht_4 hL_sx hT_sx hF_72 hF_73 hF_74 hF_75 hF_76 hF_77 (hzn) (by omega) (hcn) (hhl) (hTG) (⟨rfl, by decide +kernel⟩)) ⟨callB_of 1 hts (gi kt_174) rfl rfl rfl (hts _ kt_164) (hts _ kt_319) (by decide +kernel) ⟨Nat.le_of_ble_eq_true rfl, Nat.le_of_ble_eq_true rfl⟩, (hts _ kt_176), (hts _ kt_177)⟩ ⟨fun a U g mk q => ⟨q.1, PTC.calling q.2⟩, pg_recv hK hP hi_3 hF_72 (q := (RX9, TX9, 5)) rfl, fun U hU hWm => ⟨rfl, PTC.mk hU hWm hP hK hD hE hO hG hXc_q_84 hS hFc⟩⟩ rfl rfl hl.1 rfl (lv_room (Nat.le_of_ble_eq_true rfl)) dX7_readKey_33 ⟨by show _ + 0 ≤ 0; omega, by show _ + 0 ≤ 0; omega⟩) hS (fun q _ h => hFc q h) hFc (fun r_89 u t H1 locs ht hvm hw hB hz1 hk1 hS => ?_)
  obtain ⟨F_90, hB1⟩ := hB
  obtain rfl : F_69 = F_90 := (funext (fun a => hB1.2.2.2 a List.not_mem_nil)).symm
  obtain ⟨hP, hD, hO, hR⟩ := QT.back hB1 ht hFc hR (fun q h => absurd h List.not_mem_nil)
  generalize H1 = H at hP hS ⊢
  have hw : r_89 = nI (tgB gq (tgR (TC f z) gq [115] nn)) := hw
  have hw_91 := hw
  have hq9 : r_89 = nI (tgB gq (tgR (TC f z) gq [115] nn)) := hw_91
  subst hq9
  obtain ⟨hab9, hbz9⟩ := tgAB (T := (TC f z)) (l := [115]) hTG
  have hFc := pg_free hD hS hA
  refine va_callv (va_runV (As := [.ref sx, .int (nI (tgA gq (tgR (TC f z) gq [115] nn))), .int (nI (tgB gq (tgR (TC f z) gq [115] nn)))]) (rest := []) ⟨hx, hb, hml, hown, hts⟩ (s_X0_addRange_q l dC dI cs ty L H.size F_69 w1 (ρ + 83) rw1 60 sx (ρ + 3) rsx 3000 0 z (tgA gq (tgR (TC f z) gq [115] nn)) (tgB gq (tgR (TC f z) gq [115] nn)) f_82 f (TC f z) 0 ([]) hW hL_w1 hT_w1 hL_sx hT_sx hq_70 hF_83 (by omega) (⟨rfl, rfl, fun j h => absurd h (Nat.not_lt_zero _)⟩) hF_73 hF_74 (by omega) (by omega) (hab9) (hbz9) (fun j h1 h2 => tc_nI (by omega) (nmc_cd hNs tc_or h1 h2))) ⟨callB_of 3 hts (gi kt_36) rfl rfl rfl (hts _ kt_1) (hts _ kt_365) (by decide +kernel) ⟨Nat.le_of_ble_eq_true rfl, Nat.le_of_ble_eq_true rfl⟩, (hts _ kt_38), (hts _ kt_39)⟩ ⟨fun a U g mk q => ⟨q.1, PT.calling q.2⟩, pg_recv hK hP hL_w1 hq_70 (q := (RX0, TX0, 3)) rfl, fun U hU hWm => ⟨rfl, PT.mk hU hWm hP hK hD hE hO⟩⟩ rfl rfl hl.1 rfl (lv_room (Nat.le_of_ble_eq_true rfl)) dX7_readKey_36 ⟨by show _ + 0 ≤ 0; omega, by show _ + 0 ≤ 0; omega⟩) hS (fun q _ h => hFc q h) hFc (fun u t H1 locs ht hvm hw hB hz1 hk1 hS => ?_)
  obtain ⟨F_93, y2_94, oo2_95, f2_96, hB1, hq_97, hq_98, hq_99⟩ := hB
  obtain ⟨hP, hD, hO, hR⟩ := QT.back hB1 ht hFc hR (fun q h => by simp only [List.mem_cons, List.not_mem_nil, or_false] at h ⊢; omega)
  have hF_100 : F_93 h0 = .inr (7, [.ref d, .ref sl, .ref ke, .ref w0, .ref w1, .ref w2, .ref w3, .ref w4, .ref w5, .ref w6, .ref w7, .ref w8, .ref tk, .ref hs, .ref pw, .int v0, .int v1]) := (hB1.2.2.2 h0 (by rw [hT_h0]; simp)).trans hF_71
  have hF_101 : F_93 sl = .inr (9, [.ref sx, .ref sy0, .ref sy1, .ref sy2, .int (nI nn)]) := (hB1.2.2.2 sl (by rw [ht_4]; simp)).trans hF_72
  have hF_102 : F_93 sx = .inr (0, [.ref rsx, .int (nI z), .int 0]) := (hB1.2.2.2 sx (by rw [hT_sx]; simp)).trans hF_73
  have hF_103 : F_93 rsx = .inl (cs 16, 3000, .inl f) := (hB1.2.2.2 rsx (by rw [ht_38]; simp)).trans hF_74
  have hF_104 : F_93 sy0 = .inl (cs 16, 40, .inl e0) := (hB1.2.2.2 sy0 (by rw [ht_34]; simp)).trans hF_75
  have hF_105 : F_93 sy1 = .inl (cs 16, 40, .inl e1) := (hB1.2.2.2 sy1 (by rw [ht_35]; simp)).trans hF_76
  have hF_106 : F_93 sy2 = .inl (cs 16, 40, .inl e2) := (hB1.2.2.2 sy2 (by rw [ht_36]; simp)).trans hF_77
  have hF_107 : F_93 d = .inr (2, [.ref ea, .int (nI cn)]) := (hB1.2.2.2 d (by rw [ht_2]; simp only [List.mem_cons, List.not_mem_nil, or_false]; omega)).trans hF_78
  have hF_108 : F_93 ea = .inl (cs 21, 40, .inr (.inr (.inr (.inr f_60)))) := (hB1.2.2.2 ea (by rw [ht_59]; simp only [List.mem_cons, List.not_mem_nil, or_false]; omega)).trans hF_79
  have hF_109 : F_93 w0 = .inr (0, [.ref rw0, .int (nI V.length), .int 0]) := (hB1.2.2.2 w0 (by rw [hT_w0]; simp)).trans hF_80
  have hF_110 : F_93 rw0 = .inl (cs 16, 60, .inl fv) := (hB1.2.2.2 rw0 (by rw [ht_41]; simp)).trans hF_81
  generalize H1 = H at hP hS ⊢
  refine lv_aload_n hx hb dX7_readKey_39 rfl (lv_at hl 0 rfl) ?_
  refine pg_get (ci := 7) (v := .ref w1) (C := RX7) (T := TX7) (N := 17) hx hb hts it_7 hown hK hP hL_h0 hF_100 rfl 4 (by decide) (hts _ kt_366) (fun _ h9 => h9) rfl dX7_readKey_40 ?_
  obtain ⟨q_111, v_112, hr_q_111, hXc_q_111⟩ := hG.2.2.2.2 ("PostGate$Sealer", 229, "._domainkey.", [46, 95, 100, 111, 109, 97, 105, 110, 107, 101, 121, 46]) (by decide +kernel)
  have hXc_q_111 : SXc q_111 v_112 12 (cct [46, 95, 100, 111, 109, 97, 105, 110, 107, 101, 121, 46]) A s s.heap := hXc_q_111
  have hX_q_111 : SX q_111 v_112 12 A s s.heap := hXc_q_111.sx
  obtain ⟨xo_q_111, xc_q_111, xv_q_111, xt_q_111, xn_q_111⟩ := id hXc_q_111
  have hr_q_111 : vk_R "PostGate$Sealer" 229 "._domainkey." q_111 s := hr_q_111
  refine va_ldcS hx hb hown hr_q_111 dX7_readKey_43 ?_
  have hFc := pg_free hD hS hA
  refine va_callv (va_runV (As := [.ref q_111]) (rest := []) ⟨hx, hb, hml, hown, hts⟩ (s_X0_addText_t l dC dI cs ty L H.size F_93 w1 (ρ + 83) rw1 60 q_111 v_112 12 (cct [46, 95, 100, 111, 109, 97, 105, 110, 107, 101, 121, 46]) y2_94 f2_96 oo2_95 ([] ++ rgT (TC f z) (tgA gq (tgR (TC f z) gq [115] nn)) ((tgB gq (tgR (TC f z) gq [115] nn)) - (tgA gq (tgR (TC f z) gq [115] nn)))) ([46, 95, 100, 111, 109, 97, 105, 110, 107, 101, 121, 46]) hW hL_w1 hT_w1 hq_97 hq_98 (by omega) (hq_99) (⟨rfl, by decide +kernel⟩)) ⟨callB_of 1 hts (gi kt_367) rfl rfl rfl (hts _ kt_1) (hts _ kt_368) (by decide +kernel) ⟨Nat.le_of_ble_eq_true rfl, Nat.le_of_ble_eq_true rfl⟩, (hts _ kt_369), (hts _ kt_370)⟩ ⟨fun a U g mk q => ⟨q.1, PTC.calling q.2⟩, pg_recv hK hP hL_w1 hq_97 (q := (RX0, TX0, 3)) rfl, fun U hU hWm => ⟨rfl, PTC.mk hU hWm hP hK hD hE hO hG hXc_q_111 hS hFc⟩⟩ rfl rfl hl.1 rfl (lv_room (Nat.le_of_ble_eq_true rfl)) dX7_readKey_45 ⟨by show _ + 0 ≤ 0; omega, by show _ + 0 ≤ 0; omega⟩) hS (fun q _ h => hFc q h) hFc (fun u t H1 locs ht hvm hw hB hz1 hk1 hS => ?_)
  obtain ⟨F_114, y2_115, oo2_116, f2_117, hB1, hq_118, hq_119, hq_120⟩ := hB
  obtain ⟨hP, hD, hO, hR⟩ := QT.back hB1 ht hFc hR (fun q h => by simp only [List.mem_cons, List.not_mem_nil, or_false] at h ⊢; omega)
  have hF_121 : F_114 h0 = .inr (7, [.ref d, .ref sl, .ref ke, .ref w0, .ref w1, .ref w2, .ref w3, .ref w4, .ref w5, .ref w6, .ref w7, .ref w8, .ref tk, .ref hs, .ref pw, .int v0, .int v1]) := (hB1.2.2.2 h0 (by rw [hT_h0]; simp)).trans hF_100
  have hF_122 : F_114 sl = .inr (9, [.ref sx, .ref sy0, .ref sy1, .ref sy2, .int (nI nn)]) := (hB1.2.2.2 sl (by rw [ht_4]; simp)).trans hF_101
  have hF_123 : F_114 sx = .inr (0, [.ref rsx, .int (nI z), .int 0]) := (hB1.2.2.2 sx (by rw [hT_sx]; simp)).trans hF_102
  have hF_124 : F_114 rsx = .inl (cs 16, 3000, .inl f) := (hB1.2.2.2 rsx (by rw [ht_38]; simp)).trans hF_103
  have hF_125 : F_114 sy0 = .inl (cs 16, 40, .inl e0) := (hB1.2.2.2 sy0 (by rw [ht_34]; simp)).trans hF_104
  have hF_126 : F_114 sy1 = .inl (cs 16, 40, .inl e1) := (hB1.2.2.2 sy1 (by rw [ht_35]; simp)).trans hF_105
  have hF_127 : F_114 sy2 = .inl (cs 16, 40, .inl e2) := (hB1.2.2.2 sy2 (by rw [ht_36]; simp)).trans hF_106
  have hF_128 : F_114 d = .inr (2, [.ref ea, .int (nI cn)]) := (hB1.2.2.2 d (by rw [ht_2]; simp only [List.mem_cons, List.not_mem_nil, or_false]; omega)).trans hF_107
  have hF_129 : F_114 ea = .inl (cs 21, 40, .inr (.inr (.inr (.inr f_60)))) := (hB1.2.2.2 ea (by rw [ht_59]; simp only [List.mem_cons, List.not_mem_nil, or_false]; omega)).trans hF_108
  have hF_130 : F_114 w0 = .inr (0, [.ref rw0, .int (nI V.length), .int 0]) := (hB1.2.2.2 w0 (by rw [hT_w0]; simp)).trans hF_109
  have hF_131 : F_114 rw0 = .inl (cs 16, 60, .inl fv) := (hB1.2.2.2 rw0 (by rw [ht_41]; simp)).trans hF_110
  generalize H1 = H at hP hS ⊢
  refine lv_aload_n hx hb dX7_readKey_48 rfl (lv_at hl 0 rfl) ?_
  refine pg_get (ci := 7) (v := .ref w1) (C := RX7) (T := TX7) (N := 17) hx hb hts it_7 hown hK hP hL_h0 hF_121 rfl 4 (by decide) (hts _ kt_366) (fun _ h9 => h9) rfl dX7_readKey_49 ?_
  refine lv_aload_n hx hb dX7_readKey_52 rfl (lv_at hl 0 rfl) ?_
  refine pg_get (ci := 7) (v := .ref w0) (C := RX7) (T := TX7) (N := 17) hx hb hts it_7 hown hK hP hL_h0 hF_121 rfl 3 (by decide) (hts _ kt_371) (fun _ h9 => h9) rfl dX7_readKey_53 ?_
  refine lv_iconst (v := 0) hx hb dX7_readKey_56 (by decide) ?_
  refine lv_aload_n hx hb dX7_readKey_57 rfl (lv_at hl 0 rfl) ?_
  refine pg_get (ci := 7) (v := .ref w0) (C := RX7) (T := TX7) (N := 17) hx hb hts it_7 hown hK hP hL_h0 hF_121 rfl 3 (by decide) (hts _ kt_371) (fun _ h9 => h9) rfl dX7_readKey_58 ?_
  refine pg_getN (ci := 0) (v := .int (nI V.length)) (C := RX0) (T := TX0) (N := 3) hx hb hts it_0 hown hK hP hL_w0 hF_130 rfl 1 (by decide) (hE.nest kn_11) (fun _ h9 => h9) rfl dX7_readKey_61 ?_
  refine W.eq (g2 := F0 m 64 ls [.int (nI V.length), .int (nI 0), .ref w0, .ref w1]) rfl ?_
  have hFc := pg_free hD hS hA
  refine va_callv (va_runV (As := [.ref w0, .int (nI 0), .int (nI V.length)]) (rest := []) ⟨hx, hb, hml, hown, hts⟩ (s_X0_addRange_t l dC dI cs ty L H.size F_114 w1 (ρ + 83) rw1 60 w0 (ρ + 82) rw0 60 y2_115 V.length 0 V.length f2_117 fv oo2_116 (([] ++ rgT (TC f z) (tgA gq (tgR (TC f z) gq [115] nn)) ((tgB gq (tgR (TC f z) gq [115] nn)) - (tgA gq (tgR (TC f z) gq [115] nn)))) ++ [46, 95, 100, 111, 109, 97, 105, 110, 107, 101, 121, 46]) V hW hL_w1 hT_w1 hL_w0 hT_w0 hq_118 hq_119 (by omega) (hq_120) hF_130 hF_131 (by omega) (by omega) (Nat.zero_le _) (Nat.le_refl _) (hq3)) ⟨callB_of 3 hts (gi kt_36) rfl rfl rfl (hts _ kt_1) (hts _ kt_365) (by decide +kernel) ⟨Nat.le_of_ble_eq_true rfl, Nat.le_of_ble_eq_true rfl⟩, (hts _ kt_38), (hts _ kt_39)⟩ ⟨fun a U g mk q => ⟨q.1, PT.calling q.2⟩, pg_recv hK hP hL_w1 hq_118 (q := (RX0, TX0, 3)) rfl, fun U hU hWm => ⟨rfl, PT.mk hU hWm hP hK hD hE hO⟩⟩ rfl rfl hl.1 rfl (lv_room (Nat.le_of_ble_eq_true rfl)) dX7_readKey_64 ⟨by show _ + 0 ≤ 0; omega, by show _ + 0 ≤ 0; omega⟩) hS (fun q _ h => hFc q h) hFc (fun u t H1 locs ht hvm hw hB hz1 hk1 hS => ?_)
  obtain ⟨F_133, y2_134, oo2_135, f2_136, hB1, hq_137, hq_138, hq_139⟩ := hB
  obtain ⟨hP, hD, hO, hR⟩ := QT.back hB1 ht hFc hR (fun q h => by simp only [List.mem_cons, List.not_mem_nil, or_false] at h ⊢; omega)
  have hF_140 : F_133 h0 = .inr (7, [.ref d, .ref sl, .ref ke, .ref w0, .ref w1, .ref w2, .ref w3, .ref w4, .ref w5, .ref w6, .ref w7, .ref w8, .ref tk, .ref hs, .ref pw, .int v0, .int v1]) := (hB1.2.2.2 h0 (by rw [hT_h0]; simp)).trans hF_121
  have hF_141 : F_133 sl = .inr (9, [.ref sx, .ref sy0, .ref sy1, .ref sy2, .int (nI nn)]) := (hB1.2.2.2 sl (by rw [ht_4]; simp)).trans hF_122
  have hF_142 : F_133 sx = .inr (0, [.ref rsx, .int (nI z), .int 0]) := (hB1.2.2.2 sx (by rw [hT_sx]; simp)).trans hF_123
  have hF_143 : F_133 rsx = .inl (cs 16, 3000, .inl f) := (hB1.2.2.2 rsx (by rw [ht_38]; simp)).trans hF_124
  have hF_144 : F_133 sy0 = .inl (cs 16, 40, .inl e0) := (hB1.2.2.2 sy0 (by rw [ht_34]; simp)).trans hF_125
  have hF_145 : F_133 sy1 = .inl (cs 16, 40, .inl e1) := (hB1.2.2.2 sy1 (by rw [ht_35]; simp)).trans hF_126
  have hF_146 : F_133 sy2 = .inl (cs 16, 40, .inl e2) := (hB1.2.2.2 sy2 (by rw [ht_36]; simp)).trans hF_127
  have hF_147 : F_133 d = .inr (2, [.ref ea, .int (nI cn)]) := (hB1.2.2.2 d (by rw [ht_2]; simp only [List.mem_cons, List.not_mem_nil, or_false]; omega)).trans hF_128
  have hF_148 : F_133 ea = .inl (cs 21, 40, .inr (.inr (.inr (.inr f_60)))) := (hB1.2.2.2 ea (by rw [ht_59]; simp only [List.mem_cons, List.not_mem_nil, or_false]; omega)).trans hF_129
  have hF_149 : F_133 w0 = .inr (0, [.ref rw0, .int (nI V.length), .int 0]) := (hB1.2.2.2 w0 (by rw [hT_w0]; simp)).trans hF_130
  have hF_150 : F_133 rw0 = .inl (cs 16, 60, .inl fv) := (hB1.2.2.2 rw0 (by rw [ht_41]; simp)).trans hF_131
  generalize H1 = H at hP hS ⊢
  have hTU : TGA (rgT (TC f z) (tgA gq (tgR (TC f z) gq [115] nn)) ((tgB gq (tgR (TC f z) gq [115] nn)) - (tgA gq (tgR (TC f z) gq [115] nn))) ++ [46, 95, 100, 111, 109, 97, 105, 110, 107, 101, 121, 46] ++ rgL V 0 (V.length - 0)) 60 y2_134 oo2_135 f2_136 := hq_139
  have hyy : y2_134 ≤ 60 := by have h9 := hTU.1; omega
  have hDI2 := DIRC.fr hDI hO0 hW hi_58 ht_59 hcnn hR (hF_148.trans he0.symm) (fun k hk => by simp only [List.mem_cons, List.not_mem_nil, or_false]; omega)
  refine lv_aload_n hx hb dX7_readKey_67 rfl (lv_at hl 0 rfl) ?_
  refine pg_get (ci := 7) (v := .ref d) (C := RX7) (T := TX7) (N := 17) hx hb hts it_7 hown hK hP hL_h0 hF_140 rfl 0 (by decide) (hts _ kt_372) (fun _ h9 => h9) rfl dX7_readKey_68 ?_
  refine lv_iconst (v := 3) hx hb dX7_readKey_71 (by decide) ?_
  refine lv_aload_n hx hb dX7_readKey_72 rfl (lv_at hl 0 rfl) ?_
  refine pg_get (ci := 7) (v := .ref w1) (C := RX7) (T := TX7) (N := 17) hx hb hts it_7 hown hK hP hL_h0 hF_140 rfl 4 (by decide) (hts _ kt_366) (fun _ h9 => h9) rfl dX7_readKey_73 ?_
  have hFc := pg_free hD hS hA
  refine va_calli (va_runV (As := [.int 3, .ref w1]) (rest := []) ⟨hx, hb, hml, hown, hts⟩ (s_X2_has_e l dC dI cs ty L H.size F_133 d δ ea w1 (ρ + 83) rw1 60 y2_134 cn f2_136 D 3 oo2_135 hW hi_1 ht_2 hL_w1 hT_w1 hF_147 (hcnn) hq_137 hq_138 (by omega) (by omega) (hDI2)) ⟨callB_of 2 hts (gi kt_373) rfl rfl rfl (hts _ kt_103) (hts _ kt_374) (by decide +kernel) ⟨Nat.le_of_ble_eq_true rfl, Nat.le_of_ble_eq_true rfl⟩, (hts _ kt_375), (hts _ kt_376)⟩ ⟨fun a U g mk q => ⟨q.1, PT.calling q.2⟩, pg_recv hK hP hi_1 hF_147 (q := (RX2, TX2, 2)) rfl, fun U hU hWm => ⟨rfl, PT.mk hU hWm hP hK hD hE hO⟩⟩ rfl rfl hl.1 rfl (lv_room (Nat.le_of_ble_eq_true rfl)) dX7_readKey_76 ⟨by show _ + 0 ≤ 0; omega, by show _ + 0 ≤ 0; omega⟩) hS (fun q _ h => hFc q h) hFc (fun r_151 u t H1 locs ht hvm hw hB hz1 hk1 hS => ?_)
  obtain ⟨F_152, hB1⟩ := hB
  obtain rfl : F_133 = F_152 := (funext (fun a => hB1.2.2.2 a List.not_mem_nil)).symm
  obtain ⟨hP, hD, hO, hR⟩ := QT.back hB1 ht hFc hR (fun q h => absurd h List.not_mem_nil)
  generalize H1 = H at hP hS ⊢
  have hw : (r_151 = 1 ∧ HAS D cn 3 oo2_135 y2_134 f2_136) ∨ (r_151 = 0 ∧ ¬ HAS D cn 3 oo2_135 y2_134 f2_136) := hw
  have hw_153 := hw
  refine lv_if_eq (tgt := 84) hx hb dX7_readKey_79 (by decide) (fun c_154 => ?_) (fun c_154 => ?_)
  ·
    have hH3 : ¬ HAU D cn 3 (rgT (TC f z) (tgA gq (tgR (TC f z) gq [115] nn)) ((tgB gq (tgR (TC f z) gq [115] nn)) - (tgA gq (tgR (TC f z) gq [115] nn))) ++ [46, 95, 100, 111, 109, 97, 105, 110, 107, 101, 121, 46] ++ rgL V 0 (V.length - 0)) := fun q => orp0 hw_153 c_154 ((has_u hTU).mpr q)
    refine lv_aload_n hx hb dX7_readKey_84 rfl (lv_at hl 0 rfl) ?_
    refine pg_get (ci := 7) (v := .ref d) (C := RX7) (T := TX7) (N := 17) hx hb hts it_7 hown hK hP hL_h0 hF_140 rfl 0 (by decide) (hts _ kt_372) (fun _ h9 => h9) rfl dX7_readKey_85 ?_
    refine lv_aload_n hx hb dX7_readKey_88 rfl (lv_at hl 0 rfl) ?_
    refine pg_get (ci := 7) (v := .ref w1) (C := RX7) (T := TX7) (N := 17) hx hb hts it_7 hown hK hP hL_h0 hF_140 rfl 4 (by decide) (hts _ kt_366) (fun _ h9 => h9) rfl dX7_readKey_89 ?_
    have hFc := pg_free hD hS hA
    refine va_calli (va_runV (As := [.ref w1]) (rest := []) ⟨hx, hb, hml, hown, hts⟩ (s_X2_firstText_e l dC dI cs ty L H.size F_133 d δ ea w1 (ρ + 83) rw1 60 y2_134 cn f2_136 D oo2_135 hW hi_1 ht_2 hL_w1 hT_w1 hF_147 (hcnn) hq_137 hq_138 (by omega) (by omega) (hDI2)) ⟨callB_of 1 hts (gi kt_377) rfl rfl rfl (hts _ kt_103) (hts _ kt_378) (by decide +kernel) ⟨Nat.le_of_ble_eq_true rfl, Nat.le_of_ble_eq_true rfl⟩, (hts _ kt_379), (hts _ kt_380)⟩ ⟨fun a U g mk q => ⟨q.1, PT.calling q.2⟩, pg_recv hK hP hi_1 hF_147 (q := (RX2, TX2, 2)) rfl, fun U hU hWm => ⟨rfl, PT.mk hU hWm hP hK hD hE hO⟩⟩ rfl rfl hl.1 rfl (lv_room (Nat.le_of_ble_eq_true rfl)) dX7_readKey_92 ⟨by show _ + 0 ≤ 0; omega, by show _ + 0 ≤ 0; omega⟩) hS (fun q _ h => hFc q h) hFc (fun r_155 u t H1 locs ht hvm hw hB hz1 hk1 hS => ?_)
    obtain ⟨F_156, hB1⟩ := hB
    obtain rfl : F_133 = F_156 := (funext (fun a => hB1.2.2.2 a List.not_mem_nil)).symm
    obtain ⟨hP, hD, hO, hR⟩ := QT.back hB1 ht hFc hR (fun q h => absurd h List.not_mem_nil)
    generalize H1 = H at hP hS ⊢
    have hw : FTX D cn oo2_135 y2_134 f2_136 r_155 := hw
    have hw_157 := hw
    refine lv_istore_n (lv' := [(1, .int r_155), (0, .ref h0)]) hx hb dX7_readKey_95 rfl hl (by decide) rfl (fun ls hl => ?_)
    refine lv_iload_n hx hb dX7_readKey_96 rfl (lv_at hl 0 rfl) ?_
    refine lv_if_ge (tgt := 103) hx hb dX7_readKey_97 (by decide) (fun c_158 => ?_) (fun c_158 => ?_)
    ·
      obtain ⟨jr, hjr, hje, hj0, hjs, hjn⟩ : ∃ k, k < cn ∧ r_155 = nI k ∧ (D k).1 = 0 ∧ SAMN (D k) (ooU (rgT (TC f z) (tgA gq (tgR (TC f z) gq [115] nn)) ((tgB gq (tgR (TC f z) gq [115] nn)) - (tgA gq (tgR (TC f z) gq [115] nn))) ++ [46, 95, 100, 111, 109, 97, 105, 110, 107, 101, 121, 46] ++ rgL V 0 (V.length - 0))) (yU (rgT (TC f z) (tgA gq (tgR (TC f z) gq [115] nn)) ((tgB gq (tgR (TC f z) gq [115] nn)) - (tgA gq (tgR (TC f z) gq [115] nn))) ++ [46, 95, 100, 111, 109, 97, 105, 110, 107, 101, 121, 46] ++ rgL V 0 (V.length - 0))) (faU (rgT (TC f z) (tgA gq (tgR (TC f z) gq [115] nn)) ((tgB gq (tgR (TC f z) gq [115] nn)) - (tgA gq (tgR (TC f z) gq [115] nn))) ++ [46, 95, 100, 111, 109, 97, 105, 110, 107, 101, 121, 46] ++ rgL V 0 (V.length - 0))) ∧ ¬ HAU D k 0 (rgT (TC f z) (tgA gq (tgR (TC f z) gq [115] nn)) ((tgB gq (tgR (TC f z) gq [115] nn)) - (tgA gq (tgR (TC f z) gq [115] nn))) ++ [46, 95, 100, 111, 109, 97, 105, 110, 107, 101, 121, 46] ++ rgL V 0 (V.length - 0)) := by rcases ftx_u hTU hw_157 with q | q; exact absurd (by rw [q.1]; decide) (Int32.not_lt.mpr c_158); exact q
      subst hje
      refine lv_aload_n hx hb dX7_readKey_103 rfl (lv_at hl 1 rfl) ?_
      refine pg_get (ci := 7) (v := .ref d) (C := RX7) (T := TX7) (N := 17) hx hb hts it_7 hown hK hP hL_h0 hF_140 rfl 0 (by decide) (hts _ kt_372) (fun _ h9 => h9) rfl dX7_readKey_104 ?_
      refine lv_iload_n hx hb dX7_readKey_107 rfl (lv_at hl 0 rfl) ?_
      have hFc := pg_free hD hS hA
      refine va_callr (va_runV (As := [.int (nI jr)]) (rest := []) ⟨hx, hb, hml, hown, hts⟩ (s_X2_valueAt_e l dC dI cs ty L H.size F_133 d δ ea jr cn D hW hi_1 ht_2 (hcnn) (hjr) (hDI2)) ⟨callB_of 1 hts (gi kt_381) rfl rfl rfl (hts _ kt_103) (hts _ kt_382) (by decide +kernel) ⟨Nat.le_of_ble_eq_true rfl, Nat.le_of_ble_eq_true rfl⟩, (hts _ kt_383), (hts _ kt_384)⟩ ⟨fun a U g mk q => ⟨q.1, PT.calling q.2⟩, pg_recv hK hP hi_1 hF_147 (q := (RX2, TX2, 2)) rfl, fun U hU hWm => ⟨rfl, PT.mk hU hWm hP hK hD hE hO⟩⟩ rfl rfl hl.1 rfl (lv_room (Nat.le_of_ble_eq_true rfl)) dX7_readKey_108 ⟨by show _ + 0 ≤ 0; omega, by show _ + 0 ≤ 0; omega⟩) hS (fun q _ h => hFc q h) hFc (fun u r_159 t H1 locs ht hvm hw hB hz1 hk1 hS => ?_)
      obtain ⟨F_160, vr_161, μ_162, hB1, hq_163, hq_164, hq_165⟩ := hB
      obtain rfl : F_133 = F_160 := (funext (fun a => hB1.2.2.2 a List.not_mem_nil)).symm
      obtain ⟨hP, hD, hO, hR⟩ := QT.back hB1 ht hFc hR (fun q h => absurd h List.not_mem_nil)
      generalize H1 = H at hP hS ⊢
      obtain ⟨hva1, hva2, hva3, hva4⟩ := hq_165
      obtain ⟨hi_166, ht_167, hq_168⟩ := hW.bytes hq_163 hq_164
      refine lv_astore_n (lv' := [(2, .ref r_159), (1, .int (nI jr)), (0, .ref h0)]) hx hb dX7_readKey_111 rfl hl (by decide) rfl (fun ls hl => ?_)
      refine lv_aload_n hx hb dX7_readKey_112 rfl (lv_at hl 2 rfl) ?_
      refine pg_get (ci := 7) (v := .ref ke) (C := RX7) (T := TX7) (N := 17) hx hb hts it_7 hown hK hP hL_h0 hF_140 rfl 2 (by decide) (hts _ kt_386) (fun _ h9 => h9) rfl dX7_readKey_113 ?_
      refine lv_aload_n hx hb dX7_readKey_116 rfl (lv_at hl 0 rfl) ?_
      refine lv_iconst (v := 0) hx hb dX7_readKey_117 (by decide) ?_
      refine lv_aload_n hx hb dX7_readKey_118 rfl (lv_at hl 0 rfl) ?_
      refine pg_getN (ci := 0) (v := .int (nI (D jr).2.2.2.2.1)) (C := RX0) (T := TX0) (N := 3) hx hb hts it_0 hown hK hP hq_163 hva1 rfl 1 (by decide) (hE.nest kn_11) (fun _ h9 => h9) rfl dX7_readKey_119 ?_
      refine W.eq (g2 := F0 m 122 ls [.int (nI (D jr).2.2.2.2.1), .int (nI 0), .ref r_159, .ref ke]) rfl ?_
      have hFc := pg_free hD hS hA
      obtain ⟨z_169, hF_170, hq_171⟩ := hO.tags hi_5 ht_6
      refine va_calli (va_runV (As := [.ref r_159, .int (nI 0), .int (nI (D jr).2.2.2.2.1)]) (rest := []) ⟨hx, hb, hml, hown, hts⟩ (s_X9_read_e l dC dI cs ty L H.size F_133 ke (ρ + 4) kx 700 ky0 ky1 ky2 r_159 μ_162 vr_161 700 rkx ((D jr).2.2.2.2.1) 0 ((D jr).2.2.2.2.1) ((D jr).2.2.2.2.2) hW hi_5 ht_6 hL_kx hT_kx hq_163 hq_164 hva1 hva2 (by omega) (by omega) (Nat.zero_le _) (Nat.le_refl _) (by omega) (by omega) (by omega) (by omega) (by omega) (by omega)) ⟨callB_of 3 hts (gi kt_330) rfl rfl rfl (hts _ kt_164) (hts _ kt_331) (by decide +kernel) ⟨Nat.le_of_ble_eq_true rfl, Nat.le_of_ble_eq_true rfl⟩, (hts _ kt_332), (hts _ kt_333)⟩ ⟨fun a U g mk q => ⟨q.1, PT.calling q.2⟩, pg_recv hK hP hi_5 hF_170 (q := (RX9, TX9, 5)) rfl, fun U hU hWm => ⟨rfl, PT.mk hU hWm hP hK hD hE hO⟩⟩ rfl rfl hl.1 rfl (lv_room (Nat.le_of_ble_eq_true rfl)) dX7_readKey_122 ⟨by show _ + 0 ≤ 0; omega, by show _ + 0 ≤ 0; omega⟩) hS (fun q _ h => hFc q h) hFc (fun r_173 gg_172 t H1 locs ht hvm hw hB hz1 hk1 hS => ?_)
      obtain ⟨F_174, p0_175, p1_176, p2_177, fc_178, hB1, hq_179, hq_180, hq_181, hq_182, hq_183, hq_184, hq_185, hq_186, hq_187⟩ := hB
      obtain ⟨hP, hD, hO, hR⟩ := QT.back hB1 ht hFc hR (fun q h => by simp only [List.mem_cons, List.not_mem_nil, or_false] at h ⊢; omega)
      have hF_188 : F_174 h0 = .inr (7, [.ref d, .ref sl, .ref ke, .ref w0, .ref w1, .ref w2, .ref w3, .ref w4, .ref w5, .ref w6, .ref w7, .ref w8, .ref tk, .ref hs, .ref pw, .int v0, .int v1]) := (hB1.2.2.2 h0 (by rw [hT_h0]; simp <;> omega)).trans hF_140
      have hF_189 : F_174 sl = .inr (9, [.ref sx, .ref sy0, .ref sy1, .ref sy2, .int (nI nn)]) := (hB1.2.2.2 sl (by rw [ht_4]; simp <;> omega)).trans hF_141
      have hF_190 : F_174 sx = .inr (0, [.ref rsx, .int (nI z), .int 0]) := (hB1.2.2.2 sx (by rw [hT_sx]; simp <;> omega)).trans hF_142
      have hF_191 : F_174 rsx = .inl (cs 16, 3000, .inl f) := (hB1.2.2.2 rsx (by rw [ht_38]; simp <;> omega)).trans hF_143
      have hF_192 : F_174 sy0 = .inl (cs 16, 40, .inl e0) := (hB1.2.2.2 sy0 (by rw [ht_34]; simp <;> omega)).trans hF_144
      have hF_193 : F_174 sy1 = .inl (cs 16, 40, .inl e1) := (hB1.2.2.2 sy1 (by rw [ht_35]; simp <;> omega)).trans hF_145
      have hF_194 : F_174 sy2 = .inl (cs 16, 40, .inl e2) := (hB1.2.2.2 sy2 (by rw [ht_36]; simp <;> omega)).trans hF_146
      have hF_195 : F_174 d = .inr (2, [.ref ea, .int (nI cn)]) := (hB1.2.2.2 d (by rw [ht_2]; simp only [List.mem_cons, List.not_mem_nil, or_false]; omega)).trans hF_147
      have hF_196 : F_174 ea = .inl (cs 21, 40, .inr (.inr (.inr (.inr f_60)))) := (hB1.2.2.2 ea (by rw [ht_59]; simp only [List.mem_cons, List.not_mem_nil, or_false]; omega)).trans hF_148
      have hF_197 : F_174 w0 = .inr (0, [.ref rw0, .int (nI V.length), .int 0]) := (hB1.2.2.2 w0 (by rw [hT_w0]; simp <;> omega)).trans hF_149
      have hF_198 : F_174 rw0 = .inl (cs 16, 60, .inl fv) := (hB1.2.2.2 rw0 (by rw [ht_41]; simp <;> omega)).trans hF_150
      have hF_199 : F_174 w1 = .inr (0, [.ref rw1, .int (nI y2_134), .int oo2_135]) := (hB1.2.2.2 w1 (by rw [hT_w1]; simp <;> omega)).trans hq_137
      have hF_200 : F_174 rw1 = .inl (cs 16, 60, .inl f2_136) := (hB1.2.2.2 rw1 (by rw [ht_44]; simp <;> omega)).trans hq_138
      have hF_201 : F_174 r_159 = .inr (0, [.ref vr_161, .int (nI (D jr).2.2.2.2.1), .int 0]) := (hB1.2.2.2 r_159 (by rw [hq_164]; simp only [List.mem_cons, List.not_mem_nil, or_false]; omega)).trans hva1
      have hF_202 : F_174 vr_161 = .inl (cs 16, 700, .inl ((D jr).2.2.2.2.2)) := (hB1.2.2.2 vr_161 (by rw [ht_167]; simp only [List.mem_cons, List.not_mem_nil, or_false]; omega)).trans hva2
      generalize H1 = H at hP hS ⊢
      have hw : TGX (flT (TC (D jr).2.2.2.2.2 (D jr).2.2.2.2.1) 0 ((D jr).2.2.2.2.1 - 0)) (flI (TC (D jr).2.2.2.2.2 (D jr).2.2.2.2.1) 0 ((D jr).2.2.2.2.1 - 0)).length r_173 gg_172 := hw
      have hw_203 := hw
      obtain ⟨hti1, hti2, hti3⟩ := hq_187
      have hRD : TGX (kyT (D jr)) (kyY (D jr)) r_173 gg_172 := hw_203
      refine lv_if_eq (tgt := 180) hx hb dX7_readKey_125 (by decide) (fun c_204 => ?_) (fun c_204 => ?_)
      ·
        have hgt : tgT (kyT (D jr)) (kyY (D jr)) = none := by rcases hRD with h9 | h9; exact absurd (h9.1.symm.trans c_204) (by decide); exact h9.2
        refine lv_iconst (v := 0) hx hb dX7_readKey_180 (by decide) ?_
        refine lv_istore_n (lv' := [(3, .int 0), (2, .ref r_159), (1, .int (nI jr)), (0, .ref h0)]) hx hb dX7_readKey_181 rfl hl (by decide) rfl (fun ls hl => ?_)
        refine lv_iload_n hx hb dX7_readKey_182 rfl (lv_at hl 0 rfl) ?_
        refine lv_if_eq (tgt := 219) hx hb dX7_readKey_183 (by decide) (fun c_205 => ?_) (fun c_205 => absurd (by decide) c_205)
        refine lv_bipush (v := 6) hx hb dX7_readKey_219 (by decide) ?_
        refine W.widen (k := 0) (n := 0) (by omega) (by omega) ?_
        exact W.iret (v := 6) hx hb hr (fun t ht hWm => ⟨⟨6, jr, rfl, (Or.inr (Or.inr ⟨hH3, hjr, hj0, hjs, hjn, Or.inr ⟨kyo_0 hgt, rfl⟩⟩)), ⟨F_174, (fun _ => 0), QT.mk ht hP hD hO hR, (fun q => absurd (kyx_2 q rfl).2 (kyo_0 hgt))⟩⟩, hS.F ht⟩) hS.2.2 dX7_readKey_221
      ·
        have hgt : tgT (kyT (D jr)) (kyY (D jr)) = some gg_172 := by rcases hRD with h9 | h9; exact h9.2; exact absurd h9.1 c_204
        refine lv_aload_n hx hb dX7_readKey_128 rfl (lv_at hl 2 rfl) ?_
        refine pg_get (ci := 7) (v := .ref ke) (C := RX7) (T := TX7) (N := 17) hx hb hts it_7 hown hK hP hL_h0 hF_188 rfl 2 (by decide) (hts _ kt_386) (fun _ h9 => h9) rfl dX7_readKey_129 ?_
        obtain ⟨q_206, v_207, hr_q_206, hXc_q_206⟩ := hG.2.2.2.2 ("PostGate$Sealer", 252, "p", [112]) (by decide +kernel)
        have hXc_q_206 : SXc q_206 v_207 1 (cct [112]) A s s.heap := hXc_q_206
        have hX_q_206 : SX q_206 v_207 1 A s s.heap := hXc_q_206.sx
        obtain ⟨xo_q_206, xc_q_206, xv_q_206, xt_q_206, xn_q_206⟩ := id hXc_q_206
        have hr_q_206 : vk_R "PostGate$Sealer" 252 "p" q_206 s := hr_q_206
        refine va_ldcS hx hb hown hr_q_206 dX7_readKey_132 ?_
        refine lv_aload_n hx hb dX7_readKey_134 rfl (lv_at hl 2 rfl) ?_
        refine pg_get (ci := 7) (v := .ref w4) (C := RX7) (T := TX7) (N := 17) hx hb hts it_7 hown hK hP hL_h0 hF_188 rfl 7 (by decide) (hts _ kt_385) (fun _ h9 => h9) rfl dX7_readKey_135 ?_
        refine lv_bipush (v := 64) hx hb dX7_readKey_138 (by decide) ?_
        refine W.eq (g2 := F0 m 140 ls [.int (nI 64), .ref w4, .ref q_206, .ref ke]) rfl ?_
        have hFc := pg_free hD hS hA
        refine va_calli (va_runV (As := [.ref q_206, .ref w4, .int (nI 64)]) (rest := []) ⟨hx, hb, hml, hown, hts⟩ (s_X9_decode_e l dC dI cs ty L H.size F_174 ke (ρ + 4) kx 700 ky0 ky1 ky2 rkx ((flI (TC (D jr).2.2.2.2.2 (D jr).2.2.2.2.1) 0 ((D jr).2.2.2.2.1 - 0)).length) gg_172.1 fc_178 p0_175 p1_176 p2_177 gg_172.2 q_206 v_207 1 (cct [112]) ([112]) w4 (ρ + 86) rw4 64 64 hW hi_5 ht_6 hL_kx hT_kx hL_w4 hT_w4 hq_179 hq_180 hq_181 hq_182 hq_183 hq_184 (hti3) (by omega) (hti2) (hq_186) (hti1) (⟨rfl, by decide +kernel⟩) (Or.inr rfl) (by omega) (by omega) (by omega)) ⟨callB_of 3 hts (gi kt_343) rfl rfl rfl (hts _ kt_164) (hts _ kt_344) (by decide +kernel) ⟨Nat.le_of_ble_eq_true rfl, Nat.le_of_ble_eq_true rfl⟩, (hts _ kt_345), (hts _ kt_346)⟩ ⟨fun a U g mk q => ⟨q.1, PTC.calling q.2⟩, pg_recv hK hP hi_5 hq_179 (q := (RX9, TX9, 5)) rfl, fun U hU hWm => ⟨rfl, PTC.mk hU hWm hP hK hD hE hO hG hXc_q_206 hS hFc⟩⟩ rfl rfl hl.1 rfl (lv_room (Nat.le_of_ble_eq_true rfl)) dX7_readKey_140 ⟨by show _ + 0 ≤ 0; omega, by show _ + 0 ≤ 0; omega⟩) hS (fun q _ h => hFc q h) hFc (fun r_209 gz_208 t H1 locs ht hvm hw hB hz1 hk1 hS => ?_)
        obtain ⟨F_210, f2_211, hB1, hq_212, hq_213, hq_214⟩ := hB
        obtain ⟨hP, hD, hO, hR⟩ := QT.back hB1 ht hFc hR (fun q h => by simp only [List.mem_cons, List.not_mem_nil, or_false] at h ⊢; omega)
        have hF_215 : F_210 h0 = .inr (7, [.ref d, .ref sl, .ref ke, .ref w0, .ref w1, .ref w2, .ref w3, .ref w4, .ref w5, .ref w6, .ref w7, .ref w8, .ref tk, .ref hs, .ref pw, .int v0, .int v1]) := (hB1.2.2.2 h0 (by rw [hT_h0]; simp)).trans hF_188
        have hF_216 : F_210 sl = .inr (9, [.ref sx, .ref sy0, .ref sy1, .ref sy2, .int (nI nn)]) := (hB1.2.2.2 sl (by rw [ht_4]; simp)).trans hF_189
        have hF_217 : F_210 sx = .inr (0, [.ref rsx, .int (nI z), .int 0]) := (hB1.2.2.2 sx (by rw [hT_sx]; simp)).trans hF_190
        have hF_218 : F_210 rsx = .inl (cs 16, 3000, .inl f) := (hB1.2.2.2 rsx (by rw [ht_38]; simp)).trans hF_191
        have hF_219 : F_210 sy0 = .inl (cs 16, 40, .inl e0) := (hB1.2.2.2 sy0 (by rw [ht_34]; simp)).trans hF_192
        have hF_220 : F_210 sy1 = .inl (cs 16, 40, .inl e1) := (hB1.2.2.2 sy1 (by rw [ht_35]; simp)).trans hF_193
        have hF_221 : F_210 sy2 = .inl (cs 16, 40, .inl e2) := (hB1.2.2.2 sy2 (by rw [ht_36]; simp)).trans hF_194
        have hF_222 : F_210 d = .inr (2, [.ref ea, .int (nI cn)]) := (hB1.2.2.2 d (by rw [ht_2]; simp only [List.mem_cons, List.not_mem_nil, or_false]; omega)).trans hF_195
        have hF_223 : F_210 ea = .inl (cs 21, 40, .inr (.inr (.inr (.inr f_60)))) := (hB1.2.2.2 ea (by rw [ht_59]; simp only [List.mem_cons, List.not_mem_nil, or_false]; omega)).trans hF_196
        have hF_224 : F_210 w0 = .inr (0, [.ref rw0, .int (nI V.length), .int 0]) := (hB1.2.2.2 w0 (by rw [hT_w0]; simp)).trans hF_197
        have hF_225 : F_210 rw0 = .inl (cs 16, 60, .inl fv) := (hB1.2.2.2 rw0 (by rw [ht_41]; simp)).trans hF_198
        have hF_226 : F_210 w1 = .inr (0, [.ref rw1, .int (nI y2_134), .int oo2_135]) := (hB1.2.2.2 w1 (by rw [hT_w1]; simp)).trans hF_199
        have hF_227 : F_210 rw1 = .inl (cs 16, 60, .inl f2_136) := (hB1.2.2.2 rw1 (by rw [ht_44]; simp)).trans hF_200
        have hF_228 : F_210 r_159 = .inr (0, [.ref vr_161, .int (nI (D jr).2.2.2.2.1), .int 0]) := (hB1.2.2.2 r_159 (by rw [hq_164]; simp only [List.mem_cons, List.not_mem_nil, or_false]; omega)).trans hF_201
        have hF_229 : F_210 vr_161 = .inl (cs 16, 700, .inl ((D jr).2.2.2.2.2)) := (hB1.2.2.2 vr_161 (by rw [ht_167]; simp only [List.mem_cons, List.not_mem_nil, or_false]; omega)).trans hF_202
        have hF_230 : F_210 ke = .inr (9, [.ref kx, .ref ky0, .ref ky1, .ref ky2, .int (nI gg_172.1)]) := (hB1.2.2.2 ke (by rw [ht_6]; simp)).trans hq_179
        have hF_231 : F_210 kx = .inr (0, [.ref rkx, .int (nI (flI (TC (D jr).2.2.2.2.2 (D jr).2.2.2.2.1) 0 ((D jr).2.2.2.2.1 - 0)).length), .int 0]) := (hB1.2.2.2 kx (by rw [hT_kx]; simp)).trans hq_180
        have hF_232 : F_210 rkx = .inl (cs 16, 700, .inl fc_178) := (hB1.2.2.2 rkx (by rw [ht_50]; simp)).trans hq_181
        have hF_233 : F_210 ky0 = .inl (cs 16, 40, .inl p0_175) := (hB1.2.2.2 ky0 (by rw [ht_55]; simp)).trans hq_182
        have hF_234 : F_210 ky1 = .inl (cs 16, 40, .inl p1_176) := (hB1.2.2.2 ky1 (by rw [ht_56]; simp)).trans hq_183
        have hF_235 : F_210 ky2 = .inl (cs 16, 40, .inl p2_177) := (hB1.2.2.2 ky2 (by rw [ht_57]; simp)).trans hq_184
        generalize H1 = H at hP hS ⊢
        have hw : (r_209 = 1 ∧ DCD (TC fc_178 (flI (TC (D jr).2.2.2.2.2 (D jr).2.2.2.2.1) 0 ((D jr).2.2.2.2.1 - 0)).length) (tgA gg_172.2 (tgR (TC fc_178 (flI (TC (D jr).2.2.2.2.2 (D jr).2.2.2.2.1) 0 ((D jr).2.2.2.2.1 - 0)).length) gg_172.2 [112] gg_172.1)) (tgB gg_172.2 (tgR (TC fc_178 (flI (TC (D jr).2.2.2.2.2 (D jr).2.2.2.2.1) 0 ((D jr).2.2.2.2.1 - 0)).length) gg_172.2 [112] gg_172.1)) 64 ∧ gz_208 = 64) ∨ (r_209 = 0 ∧ ¬ DCD (TC fc_178 (flI (TC (D jr).2.2.2.2.2 (D jr).2.2.2.2.1) 0 ((D jr).2.2.2.2.1 - 0)).length) (tgA gg_172.2 (tgR (TC fc_178 (flI (TC (D jr).2.2.2.2.2 (D jr).2.2.2.2.1) 0 ((D jr).2.2.2.2.1 - 0)).length) gg_172.2 [112] gg_172.1)) (tgB gg_172.2 (tgR (TC fc_178 (flI (TC (D jr).2.2.2.2.2 (D jr).2.2.2.2.1) 0 ((D jr).2.2.2.2.1 - 0)).length) gg_172.2 [112] gg_172.1)) 64) := hw
        have hw_236 := hw
        have hbM := hq_214
        refine lv_if_eq (tgt := 180) hx hb dX7_readKey_143 (by decide) (fun c_237 => ?_) (fun c_237 => ?_)
        ·
          refine lv_iconst (v := 0) hx hb dX7_readKey_180 (by decide) ?_
          refine lv_istore_n (lv' := [(3, .int 0), (2, .ref r_159), (1, .int (nI jr)), (0, .ref h0)]) hx hb dX7_readKey_181 rfl hl (by decide) rfl (fun ls hl => ?_)
          refine lv_iload_n hx hb dX7_readKey_182 rfl (lv_at hl 0 rfl) ?_
          refine lv_if_eq (tgt := 219) hx hb dX7_readKey_183 (by decide) (fun c_238 => ?_) (fun c_238 => absurd (by decide) c_238)
          refine lv_bipush (v := 6) hx hb dX7_readKey_219 (by decide) ?_
          refine W.widen (k := 0) (n := 0) (by omega) (by omega) ?_
          exact W.iret (v := 6) hx hb hr (fun t ht hWm => ⟨⟨6, jr, rfl, (Or.inr (Or.inr ⟨hH3, hjr, hj0, hjs, hjn, Or.inr ⟨kyo_n hgt (by have h9 := (show ¬ KYB (TC fc_178 (kyY (D jr))) gg_172.2 gg_172.1 from fun q => dce_n hw_236 c_237 q.1); rw [show TC fc_178 (kyY (D jr)) = (kyT (D jr)) from hq_185] at h9; exact h9), rfl⟩⟩)), ⟨F_210, f2_211, QT.mk ht hP hD hO hR, (fun q => absurd (kyx_2 q rfl).2 (kyo_n hgt (by have h9 := (show ¬ KYB (TC fc_178 (kyY (D jr))) gg_172.2 gg_172.1 from fun q => dce_n hw_236 c_237 q.1); rw [show TC fc_178 (kyY (D jr)) = (kyT (D jr)) from hq_185] at h9; exact h9)))⟩⟩, hS.F ht⟩) hS.2.2 dX7_readKey_221
        ·
          refine lv_aload_n hx hb dX7_readKey_146 rfl (lv_at hl 2 rfl) ?_
          refine pg_get (ci := 7) (v := .ref ke) (C := RX7) (T := TX7) (N := 17) hx hb hts it_7 hown hK hP hL_h0 hF_215 rfl 2 (by decide) (hts _ kt_386) (fun _ h9 => h9) rfl dX7_readKey_147 ?_
          obtain ⟨q_239, v_240, hr_q_239, hXc_q_239⟩ := hG.2.2.2.2 ("PostGate$Sealer", 154, "v", [118]) (by decide +kernel)
          have hXc_q_239 : SXc q_239 v_240 1 (cct [118]) A s s.heap := hXc_q_239
          have hX_q_239 : SX q_239 v_240 1 A s s.heap := hXc_q_239.sx
          obtain ⟨xo_q_239, xc_q_239, xv_q_239, xt_q_239, xn_q_239⟩ := id hXc_q_239
          have hr_q_239 : vk_R "PostGate$Sealer" 154 "v" q_239 s := hr_q_239
          refine va_ldcS hx hb hown hr_q_239 dX7_readKey_150 ?_
          obtain ⟨q_241, v_242, hr_q_241, hXc_q_241⟩ := hG.2.2.2.2 ("PostGate$Sealer", 254, "DKIM1", [68, 75, 73, 77, 49]) (by decide +kernel)
          have hXc_q_241 : SXc q_241 v_242 5 (cct [68, 75, 73, 77, 49]) A s s.heap := hXc_q_241
          have hX_q_241 : SX q_241 v_242 5 A s s.heap := hXc_q_241.sx
          obtain ⟨xo_q_241, xc_q_241, xv_q_241, xt_q_241, xn_q_241⟩ := id hXc_q_241
          have hr_q_241 : vk_R "PostGate$Sealer" 254 "DKIM1" q_241 s := hr_q_241
          refine va_ldcS hx hb hown hr_q_241 dX7_readKey_152 ?_
          have hFc := pg_free hD hS hA
          refine va_calli (va_runV (As := [.ref q_239, .ref q_241]) (rest := []) ⟨hx, hb, hml, hown, hts⟩ (s_X9_isOrMisses_e l dC dI cs ty L H.size F_210 ke (ρ + 4) kx 700 ky0 ky1 ky2 rkx ((flI (TC (D jr).2.2.2.2.2 (D jr).2.2.2.2.1) 0 ((D jr).2.2.2.2.1 - 0)).length) gg_172.1 fc_178 p0_175 p1_176 p2_177 gg_172.2 q_239 v_240 1 (cct [118]) q_241 v_242 5 (cct [68, 75, 73, 77, 49]) ([118]) DKM hW hi_5 ht_6 hL_kx hT_kx hF_230 hF_231 hF_232 hF_233 hF_234 hF_235 (hti3) (by omega) (hti2) (hq_186) (hti1) (⟨rfl, by decide +kernel⟩) (⟨rfl, by decide +kernel⟩)) ⟨callB_of 2 hts (gi kt_387) rfl rfl rfl (hts _ kt_164) (hts _ kt_388) (by decide +kernel) ⟨Nat.le_of_ble_eq_true rfl, Nat.le_of_ble_eq_true rfl⟩, (hts _ kt_389), (hts _ kt_390)⟩ ⟨fun a U g mk q => ⟨q.1, PTD.calling q.2⟩, pg_recv hK hP hi_5 hF_230 (q := (RX9, TX9, 5)) rfl, fun U hU hWm => ⟨rfl, PTD.mk hU hWm hP hK hD hE hO hG hXc_q_239 hXc_q_241 hS hFc⟩⟩ rfl rfl hl.1 rfl (lv_room (Nat.le_of_ble_eq_true rfl)) dX7_readKey_154 ⟨by show _ + 0 ≤ 0; omega, by show _ + 0 ≤ 0; omega⟩) hS (fun q _ h => hFc q h) hFc (fun r_243 u t H1 locs ht hvm hw hB hz1 hk1 hS => ?_)
          obtain ⟨F_244, hB1⟩ := hB
          obtain rfl : F_210 = F_244 := (funext (fun a => hB1.2.2.2 a List.not_mem_nil)).symm
          obtain ⟨hP, hD, hO, hR⟩ := QT.back hB1 ht hFc hR (fun q h => absurd h List.not_mem_nil)
          generalize H1 = H at hP hS ⊢
          have hw : (r_243 = 1 ∧ (¬ TGE (TC fc_178 (flI (TC (D jr).2.2.2.2.2 (D jr).2.2.2.2.1) 0 ((D jr).2.2.2.2.1 - 0)).length) gg_172.2 gg_172.1 [118] ∨ TGV (TC fc_178 (flI (TC (D jr).2.2.2.2.2 (D jr).2.2.2.2.1) 0 ((D jr).2.2.2.2.1 - 0)).length) gg_172.2 gg_172.1 [118] DKM)) ∨ (r_243 = 0 ∧ ¬ (¬ TGE (TC fc_178 (flI (TC (D jr).2.2.2.2.2 (D jr).2.2.2.2.1) 0 ((D jr).2.2.2.2.1 - 0)).length) gg_172.2 gg_172.1 [118] ∨ TGV (TC fc_178 (flI (TC (D jr).2.2.2.2.2 (D jr).2.2.2.2.1) 0 ((D jr).2.2.2.2.1 - 0)).length) gg_172.2 gg_172.1 [118] DKM)) := hw
          have hw_245 := hw
          refine lv_if_eq (tgt := 180) hx hb dX7_readKey_157 (by decide) (fun c_246 => ?_) (fun c_246 => ?_)
          ·
            refine lv_iconst (v := 0) hx hb dX7_readKey_180 (by decide) ?_
            refine lv_istore_n (lv' := [(3, .int 0), (2, .ref r_159), (1, .int (nI jr)), (0, .ref h0)]) hx hb dX7_readKey_181 rfl hl (by decide) rfl (fun ls hl => ?_)
            refine lv_iload_n hx hb dX7_readKey_182 rfl (lv_at hl 0 rfl) ?_
            refine lv_if_eq (tgt := 219) hx hb dX7_readKey_183 (by decide) (fun c_247 => ?_) (fun c_247 => absurd (by decide) c_247)
            refine lv_bipush (v := 6) hx hb dX7_readKey_219 (by decide) ?_
            refine W.widen (k := 0) (n := 0) (by omega) (by omega) ?_
            exact W.iret (v := 6) hx hb hr (fun t ht hWm => ⟨⟨6, jr, rfl, (Or.inr (Or.inr ⟨hH3, hjr, hj0, hjs, hjn, Or.inr ⟨kyo_n hgt (by have h9 := (show ¬ KYB (TC fc_178 (kyY (D jr))) gg_172.2 gg_172.1 from fun q => orp0 hw_245 c_246 q.2.1); rw [show TC fc_178 (kyY (D jr)) = (kyT (D jr)) from hq_185] at h9; exact h9), rfl⟩⟩)), ⟨F_210, f2_211, QT.mk ht hP hD hO hR, (fun q => absurd (kyx_2 q rfl).2 (kyo_n hgt (by have h9 := (show ¬ KYB (TC fc_178 (kyY (D jr))) gg_172.2 gg_172.1 from fun q => orp0 hw_245 c_246 q.2.1); rw [show TC fc_178 (kyY (D jr)) = (kyT (D jr)) from hq_185] at h9; exact h9)))⟩⟩, hS.F ht⟩) hS.2.2 dX7_readKey_221
          ·
            refine lv_aload_n hx hb dX7_readKey_160 rfl (lv_at hl 2 rfl) ?_
            refine pg_get (ci := 7) (v := .ref ke) (C := RX7) (T := TX7) (N := 17) hx hb hts it_7 hown hK hP hL_h0 hF_215 rfl 2 (by decide) (hts _ kt_386) (fun _ h9 => h9) rfl dX7_readKey_161 ?_
            obtain ⟨q_248, v_249, hr_q_248, hXc_q_248⟩ := hG.2.2.2.2 ("PostGate$Sealer", 259, "k", [107]) (by decide +kernel)
            have hXc_q_248 : SXc q_248 v_249 1 (cct [107]) A s s.heap := hXc_q_248
            have hX_q_248 : SX q_248 v_249 1 A s s.heap := hXc_q_248.sx
            obtain ⟨xo_q_248, xc_q_248, xv_q_248, xt_q_248, xn_q_248⟩ := id hXc_q_248
            have hr_q_248 : vk_R "PostGate$Sealer" 259 "k" q_248 s := hr_q_248
            refine va_ldcwS hx hb hown hr_q_248 dX7_readKey_164 ?_
            obtain ⟨q_250, v_251, hr_q_250, hXc_q_250⟩ := hG.2.2.2.2 ("PostGate$Sealer", 261, "rsa", [114, 115, 97]) (by decide +kernel)
            have hXc_q_250 : SXc q_250 v_251 3 (cct [114, 115, 97]) A s s.heap := hXc_q_250
            have hX_q_250 : SX q_250 v_251 3 A s s.heap := hXc_q_250.sx
            obtain ⟨xo_q_250, xc_q_250, xv_q_250, xt_q_250, xn_q_250⟩ := id hXc_q_250
            have hr_q_250 : vk_R "PostGate$Sealer" 261 "rsa" q_250 s := hr_q_250
            refine va_ldcwS hx hb hown hr_q_250 dX7_readKey_167 ?_
            have hFc := pg_free hD hS hA
            refine va_calli (va_runV (As := [.ref q_248, .ref q_250]) (rest := []) ⟨hx, hb, hml, hown, hts⟩ (s_X9_isOrMisses_e l dC dI cs ty L H.size F_210 ke (ρ + 4) kx 700 ky0 ky1 ky2 rkx ((flI (TC (D jr).2.2.2.2.2 (D jr).2.2.2.2.1) 0 ((D jr).2.2.2.2.1 - 0)).length) gg_172.1 fc_178 p0_175 p1_176 p2_177 gg_172.2 q_248 v_249 1 (cct [107]) q_250 v_251 3 (cct [114, 115, 97]) ([107]) RSA3 hW hi_5 ht_6 hL_kx hT_kx hF_230 hF_231 hF_232 hF_233 hF_234 hF_235 (hti3) (by omega) (hti2) (hq_186) (hti1) (⟨rfl, by decide +kernel⟩) (⟨rfl, by decide +kernel⟩)) ⟨callB_of 2 hts (gi kt_387) rfl rfl rfl (hts _ kt_164) (hts _ kt_388) (by decide +kernel) ⟨Nat.le_of_ble_eq_true rfl, Nat.le_of_ble_eq_true rfl⟩, (hts _ kt_389), (hts _ kt_390)⟩ ⟨fun a U g mk q => ⟨q.1, PTD.calling q.2⟩, pg_recv hK hP hi_5 hF_230 (q := (RX9, TX9, 5)) rfl, fun U hU hWm => ⟨rfl, PTD.mk hU hWm hP hK hD hE hO hG hXc_q_248 hXc_q_250 hS hFc⟩⟩ rfl rfl hl.1 rfl (lv_room (Nat.le_of_ble_eq_true rfl)) dX7_readKey_170 ⟨by show _ + 0 ≤ 0; omega, by show _ + 0 ≤ 0; omega⟩) hS (fun q _ h => hFc q h) hFc (fun r_252 u t H1 locs ht hvm hw hB hz1 hk1 hS => ?_)
            obtain ⟨F_253, hB1⟩ := hB
            obtain rfl : F_210 = F_253 := (funext (fun a => hB1.2.2.2 a List.not_mem_nil)).symm
            obtain ⟨hP, hD, hO, hR⟩ := QT.back hB1 ht hFc hR (fun q h => absurd h List.not_mem_nil)
            generalize H1 = H at hP hS ⊢
            have hw : (r_252 = 1 ∧ (¬ TGE (TC fc_178 (flI (TC (D jr).2.2.2.2.2 (D jr).2.2.2.2.1) 0 ((D jr).2.2.2.2.1 - 0)).length) gg_172.2 gg_172.1 [107] ∨ TGV (TC fc_178 (flI (TC (D jr).2.2.2.2.2 (D jr).2.2.2.2.1) 0 ((D jr).2.2.2.2.1 - 0)).length) gg_172.2 gg_172.1 [107] RSA3)) ∨ (r_252 = 0 ∧ ¬ (¬ TGE (TC fc_178 (flI (TC (D jr).2.2.2.2.2 (D jr).2.2.2.2.1) 0 ((D jr).2.2.2.2.1 - 0)).length) gg_172.2 gg_172.1 [107] ∨ TGV (TC fc_178 (flI (TC (D jr).2.2.2.2.2 (D jr).2.2.2.2.1) 0 ((D jr).2.2.2.2.1 - 0)).length) gg_172.2 gg_172.1 [107] RSA3)) := hw
            have hw_254 := hw
            refine lv_if_eq (tgt := 180) hx hb dX7_readKey_173 (by decide) (fun c_255 => ?_) (fun c_255 => ?_)
            ·
              refine lv_iconst (v := 0) hx hb dX7_readKey_180 (by decide) ?_
              refine lv_istore_n (lv' := [(3, .int 0), (2, .ref r_159), (1, .int (nI jr)), (0, .ref h0)]) hx hb dX7_readKey_181 rfl hl (by decide) rfl (fun ls hl => ?_)
              refine lv_iload_n hx hb dX7_readKey_182 rfl (lv_at hl 0 rfl) ?_
              refine lv_if_eq (tgt := 219) hx hb dX7_readKey_183 (by decide) (fun c_256 => ?_) (fun c_256 => absurd (by decide) c_256)
              refine lv_bipush (v := 6) hx hb dX7_readKey_219 (by decide) ?_
              refine W.widen (k := 0) (n := 0) (by omega) (by omega) ?_
              exact W.iret (v := 6) hx hb hr (fun t ht hWm => ⟨⟨6, jr, rfl, (Or.inr (Or.inr ⟨hH3, hjr, hj0, hjs, hjn, Or.inr ⟨kyo_n hgt (by have h9 := (show ¬ KYB (TC fc_178 (kyY (D jr))) gg_172.2 gg_172.1 from fun q => orp0 hw_254 c_255 q.2.2.1); rw [show TC fc_178 (kyY (D jr)) = (kyT (D jr)) from hq_185] at h9; exact h9), rfl⟩⟩)), ⟨F_210, f2_211, QT.mk ht hP hD hO hR, (fun q => absurd (kyx_2 q rfl).2 (kyo_n hgt (by have h9 := (show ¬ KYB (TC fc_178 (kyY (D jr))) gg_172.2 gg_172.1 from fun q => orp0 hw_254 c_255 q.2.2.1); rw [show TC fc_178 (kyY (D jr)) = (kyT (D jr)) from hq_185] at h9; exact h9)))⟩⟩, hS.F ht⟩) hS.2.2 dX7_readKey_221
            ·
              refine lv_iconst (v := 1) hx hb dX7_readKey_176 (by decide) ?_
              refine lv_goto (tgt := 181) hx hb dX7_readKey_177 (by decide) ?_
              refine lv_istore_n (lv' := [(3, .int 1), (2, .ref r_159), (1, .int (nI jr)), (0, .ref h0)]) hx hb dX7_readKey_181 rfl hl (by decide) rfl (fun ls hl => ?_)
              refine lv_iload_n hx hb dX7_readKey_182 rfl (lv_at hl 0 rfl) ?_
              refine lv_if_eq (tgt := 219) hx hb dX7_readKey_183 (by decide) (fun c_257 => absurd c_257 (by decide)) (fun c_257 => ?_)
              have hD9 := dce_y hw_236 c_237
              have hBM : BYT (kyP (TC fc_178 (kyY (D jr))) gg_172.2 gg_172.1) 64 f2_211 := hbM hD9.1
              have hF_258 : F_210 w4 = .inr (0, [.ref rw4, .int (nI 64), .int 0]) := by have h9 := hq_212; rw [hD9.2] at h9; exact h9
              refine lv_aload_n hx hb dX7_readKey_186 rfl (lv_at hl 3 rfl) ?_
              refine pg_get (ci := 7) (v := .ref w4) (C := RX7) (T := TX7) (N := 17) hx hb hts it_7 hown hK hP hL_h0 hF_215 rfl 7 (by decide) (hts _ kt_385) (fun _ h9 => h9) rfl dX7_readKey_187 ?_
              refine lv_iconst (v := 0) hx hb dX7_readKey_190 (by decide) ?_
              refine W.eq (g2 := F0 m 191 ls [.int (nI 0), .ref w4]) rfl ?_
              have hFc := pg_free hD hS hA
              refine va_calli (va_runV (As := [.int (nI 0)]) (rest := []) ⟨hx, hb, hml, hown, hts⟩ (s_X0_at_e l dC dI cs ty L H.size F_210 w4 (ρ + 86) rw4 64 64 0 f2_211 hW hL_w4 hT_w4 hF_258 hq_213 (by omega) (by omega) (by omega)) ⟨callB_of 1 hts (gi kt_21) rfl rfl rfl (hts _ kt_1) (hts _ kt_305) (by decide +kernel) ⟨Nat.le_of_ble_eq_true rfl, Nat.le_of_ble_eq_true rfl⟩, (hts _ kt_23), (hts _ kt_24)⟩ ⟨fun a U g mk q => ⟨q.1, PT.calling q.2⟩, pg_recv hK hP hL_w4 hF_258 (q := (RX0, TX0, 3)) rfl, fun U hU hWm => ⟨rfl, PT.mk hU hWm hP hK hD hE hO⟩⟩ rfl rfl hl.1 rfl (lv_room (Nat.le_of_ble_eq_true rfl)) dX7_readKey_191 ⟨by show _ + 0 ≤ 0; omega, by show _ + 0 ≤ 0; omega⟩) hS (fun q _ h => hFc q h) hFc (fun r_259 u t H1 locs ht hvm hw hB hz1 hk1 hS => ?_)
              obtain ⟨F_260, hB1⟩ := hB
              obtain rfl : F_210 = F_260 := (funext (fun a => hB1.2.2.2 a List.not_mem_nil)).symm
              obtain ⟨hP, hD, hO, hR⟩ := QT.back hB1 ht hFc hR (fun q h => absurd h List.not_mem_nil)
              generalize H1 = H at hP hS ⊢
              have hw : r_259 = f2_211 0 := hw
              have hw_261 := hw
              have hm0 : r_259 = nI ((kyP (TC fc_178 (kyY (D jr))) gg_172.2 gg_172.1) 0) := hw_261.trans (hBM 0 (by omega)).2
              have hkb0 : (kyP (TC fc_178 (kyY (D jr))) gg_172.2 gg_172.1) 0 < 256 := (hBM 0 (by omega)).1
              subst hm0
              refine lv_sipush (v := 128) hx hb dX7_readKey_194 (by decide) ?_
              refine lv_icmp_lt (tgt := 219) hx hb dX7_readKey_197 (by decide) (fun c_262 => ?_) (fun c_262 => ?_)
              ·
                have hi_263 : ((kyP (TC fc_178 (kyY (D jr))) gg_172.2 gg_172.1) 0) < 128 := ltN (N := 128) (Int32.not_le.mpr c_262)
                have h128 : ¬ 128 ≤ (kyP (TC fc_178 (kyY (D jr))) gg_172.2 gg_172.1) 0 := fun q => by have h9 := (nI_ltI (b := 128) (by have h8 := (hBM 0 (by omega)).1; omega) (by omega)).mp c_262; omega
                refine lv_bipush (v := 6) hx hb dX7_readKey_219 (by decide) ?_
                refine W.widen (k := 0) (n := 0) (by omega) (by omega) ?_
                exact W.iret (v := 6) hx hb hr (fun t ht hWm => ⟨⟨6, jr, rfl, (Or.inr (Or.inr ⟨hH3, hjr, hj0, hjs, hjn, Or.inr ⟨kyo_n hgt (by have h9 := (show ¬ KYB (TC fc_178 (kyY (D jr))) gg_172.2 gg_172.1 from fun q => h128 q.2.2.2.1); rw [show TC fc_178 (kyY (D jr)) = (kyT (D jr)) from hq_185] at h9; exact h9), rfl⟩⟩)), ⟨F_210, f2_211, QT.mk ht hP hD hO hR, (fun q => absurd (kyx_2 q rfl).2 (kyo_n hgt (by have h9 := (show ¬ KYB (TC fc_178 (kyY (D jr))) gg_172.2 gg_172.1 from fun q => h128 q.2.2.2.1); rw [show TC fc_178 (kyY (D jr)) = (kyT (D jr)) from hq_185] at h9; exact h9)))⟩⟩, hS.F ht⟩) hS.2.2 dX7_readKey_221
              ·
                have hi_264 : 128 ≤ ((kyP (TC fc_178 (kyY (D jr))) gg_172.2 gg_172.1) 0) := leN (N := 128) (Int32.not_lt.mp c_262)
                have h128 : 128 ≤ (kyP (TC fc_178 (kyY (D jr))) gg_172.2 gg_172.1) 0 := Nat.not_lt.mp (fun q => c_262 ((nI_ltI (b := 128) (by have h8 := (hBM 0 (by omega)).1; omega) (by omega)).mpr q))
                refine lv_aload_n hx hb dX7_readKey_200 rfl (lv_at hl 3 rfl) ?_
                refine pg_get (ci := 7) (v := .ref w4) (C := RX7) (T := TX7) (N := 17) hx hb hts it_7 hown hK hP hL_h0 hF_215 rfl 7 (by decide) (hts _ kt_385) (fun _ h9 => h9) rfl dX7_readKey_201 ?_
                refine lv_bipush (v := 63) hx hb dX7_readKey_204 (by decide) ?_
                refine W.eq (g2 := F0 m 206 ls [.int (nI 63), .ref w4]) rfl ?_
                have hFc := pg_free hD hS hA
                refine va_calli (va_runV (As := [.int (nI 63)]) (rest := []) ⟨hx, hb, hml, hown, hts⟩ (s_X0_at_e l dC dI cs ty L H.size F_210 w4 (ρ + 86) rw4 64 64 63 f2_211 hW hL_w4 hT_w4 hF_258 hq_213 (by omega) (by omega) (by omega)) ⟨callB_of 1 hts (gi kt_21) rfl rfl rfl (hts _ kt_1) (hts _ kt_305) (by decide +kernel) ⟨Nat.le_of_ble_eq_true rfl, Nat.le_of_ble_eq_true rfl⟩, (hts _ kt_23), (hts _ kt_24)⟩ ⟨fun a U g mk q => ⟨q.1, PT.calling q.2⟩, pg_recv hK hP hL_w4 hF_258 (q := (RX0, TX0, 3)) rfl, fun U hU hWm => ⟨rfl, PT.mk hU hWm hP hK hD hE hO⟩⟩ rfl rfl hl.1 rfl (lv_room (Nat.le_of_ble_eq_true rfl)) dX7_readKey_206 ⟨by show _ + 0 ≤ 0; omega, by show _ + 0 ≤ 0; omega⟩) hS (fun q _ h => hFc q h) hFc (fun r_265 u t H1 locs ht hvm hw hB hz1 hk1 hS => ?_)
                obtain ⟨F_266, hB1⟩ := hB
                obtain rfl : F_210 = F_266 := (funext (fun a => hB1.2.2.2 a List.not_mem_nil)).symm
                obtain ⟨hP, hD, hO, hR⟩ := QT.back hB1 ht hFc hR (fun q h => absurd h List.not_mem_nil)
                generalize H1 = H at hP hS ⊢
                have hw : r_265 = f2_211 63 := hw
                have hw_267 := hw
                have hm63 : r_265 = nI ((kyP (TC fc_178 (kyY (D jr))) gg_172.2 gg_172.1) 63) := hw_267.trans (hBM 63 (by omega)).2
                have hkb63 : (kyP (TC fc_178 (kyY (D jr))) gg_172.2 gg_172.1) 63 < 256 := (hBM 63 (by omega)).1
                subst hm63
                refine lv_iconst (v := 1) hx hb dX7_readKey_209 (by decide) ?_
                refine lv_iand hx hb dX7_readKey_210 ?_
                refine lv_topi (fun x_268 ex_268 => ?_)
                obtain rfl : x_268 = (nI ((kyP (TC fc_178 (kyY (D jr))) gg_172.2 gg_172.1) 63) &&& 1) := ex_268.trans (rfl)
                refine lv_iconst (v := 1) hx hb dX7_readKey_211 (by decide) ?_
                refine lv_icmp_ne (tgt := 219) hx hb dX7_readKey_212 (by decide) (fun c_269 => ?_) (fun c_269 => ?_)
                ·
                  have hodd : ¬ (kyP (TC fc_178 (kyY (D jr))) gg_172.2 gg_172.1) 63 % 2 = 1 := fun q => c_269 ((ky_1 _ (hBM 63 (by omega)).1).mpr q)
                  refine lv_bipush (v := 6) hx hb dX7_readKey_219 (by decide) ?_
                  refine W.widen (k := 0) (n := 0) (by omega) (by omega) ?_
                  exact W.iret (v := 6) hx hb hr (fun t ht hWm => ⟨⟨6, jr, rfl, (Or.inr (Or.inr ⟨hH3, hjr, hj0, hjs, hjn, Or.inr ⟨kyo_n hgt (by have h9 := (show ¬ KYB (TC fc_178 (kyY (D jr))) gg_172.2 gg_172.1 from fun q => hodd q.2.2.2.2); rw [show TC fc_178 (kyY (D jr)) = (kyT (D jr)) from hq_185] at h9; exact h9), rfl⟩⟩)), ⟨F_210, f2_211, QT.mk ht hP hD hO hR, (fun q => absurd (kyx_2 q rfl).2 (kyo_n hgt (by have h9 := (show ¬ KYB (TC fc_178 (kyY (D jr))) gg_172.2 gg_172.1 from fun q => hodd q.2.2.2.2); rw [show TC fc_178 (kyY (D jr)) = (kyT (D jr)) from hq_185] at h9; exact h9)))⟩⟩, hS.F ht⟩) hS.2.2 dX7_readKey_221
                ·
                  have hodd : (kyP (TC fc_178 (kyY (D jr))) gg_172.2 gg_172.1) 63 % 2 = 1 := (ky_1 _ (hBM 63 (by omega)).1).mp c_269
                  refine lv_iconst (v := 2) hx hb dX7_readKey_215 (by decide) ?_
                  refine lv_goto (tgt := 221) hx hb dX7_readKey_216 (by decide) ?_
                  refine W.widen (k := 0) (n := 0) (by omega) (by omega) ?_
                  exact W.iret (v := 2) hx hb hr (fun t ht hWm => ⟨⟨2, jr, rfl, (Or.inr (Or.inr ⟨hH3, hjr, hj0, hjs, hjn, Or.inl ⟨⟨_, hgt, (by have h9 := (show KYB (TC fc_178 (kyY (D jr))) gg_172.2 gg_172.1 from ⟨hD9.1, orp1 hw_245 c_246, orp1 hw_254 c_255, h128, hodd⟩); rw [show TC fc_178 (kyY (D jr)) = (kyT (D jr)) from hq_185] at h9; exact h9)⟩, rfl⟩⟩)), ⟨F_210, f2_211, QT.mk ht hP hD hO hR, (fun _ => ⟨hF_258, hq_213, (by rw [kyM_e hgt]; have h9 := hBM; rw [show TC fc_178 (kyY (D jr)) = (kyT (D jr)) from hq_185] at h9; exact h9)⟩)⟩⟩, hS.F ht⟩) hS.2.2 dX7_readKey_221
    ·
      have hH0 : ¬ HAU D cn 0 (rgT (TC f z) (tgA gq (tgR (TC f z) gq [115] nn)) ((tgB gq (tgR (TC f z) gq [115] nn)) - (tgA gq (tgR (TC f z) gq [115] nn))) ++ [46, 95, 100, 111, 109, 97, 105, 110, 107, 101, 121, 46] ++ rgL V 0 (V.length - 0)) := by rcases ftx_u hTU hw_157 with q | q; exact q.2; obtain ⟨k, k1, k2, -⟩ := q; exact absurd (by rw [k2]; exact Int32.not_lt.mp (nI_pos (by omega))) c_158
      refine lv_bipush (v := 6) hx hb dX7_readKey_100 (by decide) ?_
      refine W.widen (k := 0) (n := 0) (by omega) (by omega) ?_
      exact W.iret (v := 6) hx hb hr (fun t ht hWm => ⟨⟨6, 0, rfl, (Or.inr (Or.inl ⟨hH3, hH0, rfl⟩)), ⟨F_133, (fun _ => 0), QT.mk ht hP hD hO hR, (fun q => absurd (show HAU D cn 0 (rgT (TC f z) (tgA gq (tgR (TC f z) gq [115] nn)) ((tgB gq (tgR (TC f z) gq [115] nn)) - (tgA gq (tgR (TC f z) gq [115] nn))) ++ [46, 95, 100, 111, 109, 97, 105, 110, 107, 101, 121, 46] ++ rgL V 0 (V.length - 0)) from by obtain ⟨q1, -⟩ := kyx_2 q rfl; rcases q with q | q | q; exact absurd q.2 (by decide); exact absurd q.2.2 (by decide); exact ⟨0, q1, q.2.2.1, q.2.2.2.1⟩) hH0)⟩⟩, hS.F ht⟩) hS.2.2 dX7_readKey_102
  ·
    have hH3 : HAU D cn 3 (rgT (TC f z) (tgA gq (tgR (TC f z) gq [115] nn)) ((tgB gq (tgR (TC f z) gq [115] nn)) - (tgA gq (tgR (TC f z) gq [115] nn))) ++ [46, 95, 100, 111, 109, 97, 105, 110, 107, 101, 121, 46] ++ rgL V 0 (V.length - 0)) := (has_u hTU).mp (orp1 hw_153 c_154)
    refine lv_iconst (v := 5) hx hb dX7_readKey_82 (by decide) ?_
    refine W.widen (k := 0) (n := 0) (by omega) (by omega) ?_
    exact W.iret (v := 5) hx hb hr (fun t ht hWm => ⟨⟨5, 0, rfl, (Or.inl ⟨hH3, rfl⟩), ⟨F_133, (fun _ => 0), QT.mk ht hP hD hO hR, (fun q => absurd hH3 (by rcases q with q | q | q; exact absurd q.2 (by decide); exact q.1; exact q.1))⟩⟩, hS.F ht⟩) hS.2.2 dX7_readKey_83
