theorem rvl_len9 (T : Nat → Nat) : ∀ (k i : Nat) (x w : Int32), (rvl T k i x w).length ≤ k + (if w = 0 then 0 else 1) := by
  intro k
  induction k with
  | zero => intro i x w; exact Nat.zero_le _
  | succ k ih =>
    intro i x w
    rw [rvl_s]
    have a1 := ih (i + 1) x w
    have a2 := ih (i + 1) x x
    have a3 := ih (i + 1) 1 0
    rw [if_pos rfl] at a3
    by_cases c0 : T i = 0
    · rw [if_pos c0]
      omega
    rw [if_neg c0]
    by_cases c1 : T i = 1
    · rw [if_pos c1]
      have a4 : (if x = 0 then 0 else 1) ≤ 1 := by split <;> omega
      omega
    rw [if_neg c1, List.length_append, List.length_cons]
    by_cases c2 : w = 0
    · rw [if_pos c2, if_pos c2]
      show 0 + _ ≤ _
      omega
    · rw [if_neg c2, if_neg c2]
      show 1 + _ ≤ _
      omega
theorem FPL_len9 {T : Nat → Nat} {x : Int32} {b c d : Nat} (h1 : b < c) (h2 : c < d) : (FPL T x b c d).length ≤ d - b := by
  by_cases h : x = 0
  · rw [FPL_s h, rng_len]
    omega
  · rw [FPL_r h, List.length_append, len1, rng_len]
    have a1 := rvl_len9 T (d - (c + 1)) (c + 1) 0 0
    rw [if_pos rfl] at a1
    omega
def PFR (T : Nat → Nat) (n : Nat) (gb gc gd : Nat → Nat) (x1 x2 r : Int32) : Prop := (¬ (¬ x1 < 0 ∧ x1 < nI n) ∧ r = (-2)) ∨ ∃ j, j < n ∧ x1 = nI j ∧ r = nI (FPL T x2 (gb j) (gc j) (gd j)).length
set_option maxHeartbeats 4000000 in
set_option maxRecDepth 100000 in
theorem s_X11_plainField_c (l : Launch) (dC : Nat → ClassId) (dI : Nat → Nat → Nat) (cs : Nat → ClassId) (ty : TyM) (L : List Nat) (sz : Nat) (F : Nat → va_E) (h0 : Nat) (ρ : Nat) (ta : Nat) (ou : Nat) (di : Nat) (ea : Nat) (ck : Nat) (sl : Nat) (po : Nat) (hs : Nat) (le : Nat) (x : Nat) (y0 : Nat) (y1 : Nat) (y2 : Nat) (sp : Nat) (rx : Nat) (ro : Nat) (nn : Nat) (zm : Nat) (μ : Nat) (f : Nat → Int32) (e0 : Nat → Int32) (e1 : Nat → Int32) (e2 : Nat → Int32) (gb : Nat → Nat) (gc : Nat → Nat) (gd : Nat → Nat) (bb : Int32) (oo : Int32) (x1 : Int32) (x2 : Int32) (zo : Nat) (fo : Nat → Int32) (hW : WT ty L) (hL_h0 : h0 ∈ L) (hT_h0 : ty h0 = (11, ρ, [ta, ou, di, ea, ck, sl, po, hs])) (hL_ou : ou ∈ L) (hT_ou : ty ou = (0, ρ + 2, [ro, 3000])) (hL_le : le ∈ L) (hT_le : ty le = (4, μ, [x, y0, y1, y2])) (hL_x : x ∈ L) (hT_x : ty x = (0, μ + 1, [rx, 3000])) (hF0 : F h0 = .inr (11, [.ref ta, .ref ou, .ref di, .ref ck, .ref sl, .ref po, .ref hs, .ref le, .ref sp])) (hFe : F le = .inr (4, [.ref x, .ref y0, .ref y1, .ref y2, .int (nI nn), .int bb])) (hFx : F x = .inr (0, [.ref rx, .int (nI zm), .int oo])) (hFr : F rx = .inl (cs 16, 3000, .inl f)) (hFy0 : F y0 = .inl (cs 16, 20, .inl e0)) (hFy1 : F y1 = .inl (cs 16, 20, .inl e1)) (hFy2 : F y2 = .inl (cs 16, 20, .inl e2)) (hn20 : nn ≤ 20) (hz3 : zm ≤ 3000) (hmu : μ = ρ + 20 ∨ μ = ρ + 30) (hpos : ∀ j, j < nn → e0 j = nI (gb j) ∧ e1 j = nI (gc j) ∧ e2 j = nI (gd j) ∧ gb j < gc j ∧ gc j < gd j ∧ gd j ≤ zm) (hFo0 : F ou = .inr (0, [.ref ro, .int (nI zo), .int 0])) (hFq0 : F ro = .inl (cs 16, 3000, .inl fo)) (hzo : zo ≤ 3000) : Met l yX11_plainField (.code yX11_plainField cX11_plainField 3 (some .int) :: tb) ({ frames := 3, cells := 0, slots := 0, locals := 100 }) (va_Pc [.ref h0, .int x1, .int x2] (PT (dC, dI) cs ty L F sz)) (va_Qi (fun (r : Int32) (c2 : Nat) => PFR (clf f) nn gb gc gd x1 x2 r) (fun (c2 : Nat) T9 => ∃ F2 : Nat → va_E, ∃ f2 : Nat → Int32, QT (dC, dI) cs ty L [ρ + 2] F F2 (va_A (va_pl L F) sz) T9 ∧ F2 ou = .inr (0, [.ref ro, .int (nI c2), .int 0]) ∧ F2 ro = .inl (cs 16, 3000, .inl f2) ∧ ((¬ (¬ x1 < 0 ∧ x1 < nI nn) ∧ c2 = zo ∧ f2 = fo) ∨ (∃ j, j < nn ∧ x1 = nI j ∧ c2 = (FPL (clf f) x2 (gb j) (gc j) (gd j)).length ∧ OUTS f f2 (FPL (clf f) x2 (gb j) (gc j) (gd j)))) ∧ c2 ≤ 3000) (va_A (va_pl L F) sz)) 0 0 (va_A (va_pl L F) sz) := by
  refine Met.ofW (cc := cX11_plainField) (maxL := 3) (ret := (some .int)) (by decide) rfl ?_
  intro p e s m args below meth c s₁ B hml hv
  obtain ⟨rfl, hsz, hP, hK, hD0, hE, hO⟩ := hv
  have hx := B.exec
  have hb := B.bytes
  have hr := B.returns
  have hts : ∀ w ∈ tb, w.before _ s = true := fun w h => atoms_spec (ws := .code yX11_plainField cX11_plainField 3 (some .int) :: tb) B.pre w (List.mem_cons_of_mem _ h)
  have hown : s.vm.findClass RX11 = some m.cls := findClass_of_methodNamed B.named
  have hlocks := B.notSynchronized
  subst hsz
  have hD := hD0.self (sz := s.heap.size)
  generalize hAe : va_A (va_pl L F) s.heap.size = A at hD ⊢
  have hA : ∀ q : Nat, s.heap.size ≤ q → A q := fun q h => by rw [← hAe]; exact Or.inr h
  have hS : va_S A s.heap s.heap [] := va_S.rf
  have hR : FR ty [ρ + 2] F F := FR.refl
  have hl := lv_entry ([.ref h0, .int x1, .int x2]) (n := 3) (Nat.le_of_ble_eq_true rfl)
  rw [lg_entry_eq]
  generalize (lg_sl ([.ref h0, .int x1, .int x2]) ++ List.replicate (3 - (lg_sl ([.ref h0, .int x1, .int x2])).length) Slot.unset).toArray = ls at hl ⊢
  have hl : lv_has ls 3 [(0, .ref h0), (1, .int x1), (2, .int x2)] := hl
  obtain ⟨hi_1, ⟨r_2, ht_3⟩, _, _, hi_4, ht_5, hi_6, ⟨w0_7, w1_8, w2_9, w3_10, nm_11, te_12, ht_13⟩, hi_14, ⟨l1_15, lx_16, ly0_17, ly1_18, ly2_19, k1_20, kx_21, ky0_22, ky1_23, ky2_24, w0_25, w1_26, w2_27, w3_28, w4_29, w5_30, w6_31, w7_32, w8_33, tk_34, h1_35, hx_36, hy_37, hw_38, pw_39, px_40, py_41, pz_42, pu_43, ht_44⟩, hi_45, ⟨w0_46, w1_47, rc_48, rx_49, ry0_50, ry1_51, ry2_52, ht_53⟩, hi_54, ⟨hx_55, hy_56, hw_57, ht_58⟩⟩ := hW.gate hL_h0 hT_h0
  obtain ⟨_, hi_59, hi_60, hi_61, _, ht_62, ht_63, ht_64⟩ := hW.msg hL_le hT_le
  obtain ⟨hi_65, ht_66, hq_67⟩ := hW.bytes hL_x hT_x
  obtain ⟨hi_68, ht_69, hq_70⟩ := hW.bytes hL_ou hT_ou
  refine lv_iload_n hx hb dX11_plainField_0 rfl (lv_at hl 1 rfl) ?_
  refine lv_if_lt (tgt := 15) hx hb dX11_plainField_1 (by decide) (fun c_71 => ?_) (fun c_71 => ?_)
  ·
    refine lv_bipush (v := (-2)) hx hb dX11_plainField_15 (by decide) ?_
    refine W.widen (k := 0) (n := 0) (by omega) (by omega) ?_
    exact W.iret (v := (-2)) hx hb hr (fun t ht hWm => ⟨⟨(-2), zo, rfl, (Or.inl ⟨fun q => q.1 c_71, rfl⟩), ⟨F, fo, QT.mk ht hP hD hO hR, hFo0, hFq0, (Or.inl ⟨fun q => q.1 c_71, rfl, rfl⟩), hzo⟩⟩, hS.F ht⟩) hS.2.2 dX11_plainField_17
  ·
    refine lv_iload_n hx hb dX11_plainField_4 rfl (lv_at hl 1 rfl) ?_
    refine lv_aload_n hx hb dX11_plainField_5 rfl (lv_at hl 0 rfl) ?_
    refine pg_get (ci := 11) (v := .ref le) (C := RX11) (T := TX11) (N := 9) hx hb hts it_11 hown hK hP hL_h0 hF0 rfl 7 (by decide) (hts _ kt_518) (fun _ h9 => h9) rfl dX11_plainField_6 ?_
    refine pg_getN (ci := 4) (v := .int (nI nn)) (C := RX4) (T := TX4) (N := 6) hx hb hts it_4 hown hK hP hL_le hFe rfl 4 (by decide) (hE.nest kn_20) (fun _ h9 => h9) rfl dX11_plainField_9 ?_
    refine lv_icmp_lt (tgt := 18) hx hb dX11_plainField_12 (by decide) (fun c_72 => ?_) (fun c_72 => ?_)
    ·
      obtain ⟨jk, hjk0, rfl⟩ := nI_of c_71
      have hjk : jk < nn := (nI_ltI hjk0 (by omega)).mp c_72
      obtain ⟨q1, q2, q3, q4, q5, q6⟩ := hpos jk hjk
      refine lv_aload_n hx hb dX11_plainField_18 rfl (lv_at hl 0 rfl) ?_
      refine pg_get (ci := 11) (v := .ref ou) (C := RX11) (T := TX11) (N := 9) hx hb hts it_11 hown hK hP hL_h0 hF0 rfl 1 (by decide) (hts _ kt_526) (fun _ h9 => h9) rfl dX11_plainField_19 ?_
      have hFc := pg_free hD hS hA
      refine va_callv (va_runV (As := []) (rest := []) ⟨hx, hb, hml, hown, hts⟩ (s_X0_clear l dC dI cs ty L s.heap.size F ou (ρ + 2) ro 3000 hW hL_ou hT_ou) ⟨callB_of 0 hts (gi kt_32) rfl rfl rfl (hts _ kt_1) (hts _ kt_527) (by decide +kernel) ⟨Nat.le_of_ble_eq_true rfl, Nat.le_of_ble_eq_true rfl⟩, (hts _ kt_34), (hts _ kt_35)⟩ ⟨fun a U g mk q => ⟨q.1, PT.calling q.2⟩, pg_recv hK hP hL_ou hFo0 (q := (RX0, TX0, 3)) rfl, fun U hU hWm => ⟨rfl, PT.mk hU hWm hP hK hD hE hO⟩⟩ rfl rfl hl.1 rfl (lv_room (Nat.le_of_ble_eq_true rfl)) dX11_plainField_22 ⟨by show _ + 0 ≤ 0; omega, by show _ + 0 ≤ 0; omega⟩) hS (fun q _ h => hFc q h) hFc (fun u t H1 locs ht hvm hw hB hz1 hk1 hS => ?_)
      obtain ⟨F_74, hB1, hq_75⟩ := hB
      obtain ⟨hP, hD, hO, hR⟩ := QT.back hB1 ht hFc hR (fun q h => by simp only [List.mem_cons, List.not_mem_nil, or_false] at h ⊢; omega)
      have hF_76 : F_74 h0 = .inr (11, [.ref ta, .ref ou, .ref di, .ref ck, .ref sl, .ref po, .ref hs, .ref le, .ref sp]) := (hB1.2.2.2 h0 (by rw [hT_h0]; simp)).trans hF0
      have hF_77 : F_74 le = .inr (4, [.ref x, .ref y0, .ref y1, .ref y2, .int (nI nn), .int bb]) := (hB1.2.2.2 le (by rw [hT_le]; simp only [List.mem_cons, List.not_mem_nil, or_false]; omega)).trans hFe
      have hF_78 : F_74 x = .inr (0, [.ref rx, .int (nI zm), .int oo]) := (hB1.2.2.2 x (by rw [hT_x]; simp only [List.mem_cons, List.not_mem_nil, or_false]; omega)).trans hFx
      have hF_79 : F_74 rx = .inl (cs 16, 3000, .inl f) := (hB1.2.2.2 rx (by rw [ht_66]; simp only [List.mem_cons, List.not_mem_nil, or_false]; omega)).trans hFr
      have hF_80 : F_74 y0 = .inl (cs 16, 20, .inl e0) := (hB1.2.2.2 y0 (by rw [ht_62]; simp only [List.mem_cons, List.not_mem_nil, or_false]; omega)).trans hFy0
      have hF_81 : F_74 y1 = .inl (cs 16, 20, .inl e1) := (hB1.2.2.2 y1 (by rw [ht_63]; simp only [List.mem_cons, List.not_mem_nil, or_false]; omega)).trans hFy1
      have hF_82 : F_74 y2 = .inl (cs 16, 20, .inl e2) := (hB1.2.2.2 y2 (by rw [ht_64]; simp only [List.mem_cons, List.not_mem_nil, or_false]; omega)).trans hFy2
      generalize H1 = H at hP hS ⊢
      refine lv_aload_n hx hb dX11_plainField_25 rfl (lv_at hl 0 rfl) ?_
      refine pg_get (ci := 11) (v := .ref le) (C := RX11) (T := TX11) (N := 9) hx hb hts it_11 hown hK hP hL_h0 hF_76 rfl 7 (by decide) (hts _ kt_518) (fun _ h9 => h9) rfl dX11_plainField_26 ?_
      refine lv_aload_n hx hb dX11_plainField_29 rfl (lv_at hl 0 rfl) ?_
      refine pg_get (ci := 11) (v := .ref ou) (C := RX11) (T := TX11) (N := 9) hx hb hts it_11 hown hK hP hL_h0 hF_76 rfl 1 (by decide) (hts _ kt_526) (fun _ h9 => h9) rfl dX11_plainField_30 ?_
      refine lv_iload_n hx hb dX11_plainField_33 rfl (lv_at hl 1 rfl) ?_
      refine lv_iload_n hx hb dX11_plainField_34 rfl (lv_at hl 2 rfl) ?_
      refine lv_iconst (v := 0) hx hb dX11_plainField_35 (by decide) ?_
      refine lv_iconst (v := 0) hx hb dX11_plainField_36 (by decide) ?_
      obtain ⟨f_83, hF_84⟩ := hO.ints hi_68 ht_69
      have hFc := pg_free hD hS hA
      refine va_callv (va_runV (As := [.ref ou, .int (nI jk), .int x2, .int 0, .int 0]) (rest := []) ⟨hx, hb, hml, hown, hts⟩ (s_X4_addFieldWithout_e l dC dI cs ty L H.size F_74 le μ x y0 y1 y2 ou (ρ + 2) ro 3000 rx zm nn jk (gb jk) (gc jk) (gd jk) f e0 e1 e2 f_83 bb oo x2 hW hL_le hT_le hL_x hT_x hL_ou hT_ou hF_77 hF_78 hF_79 hF_81 hF_82 hF_80 hq_75 hF_84 (by omega) (by omega) (q4) (q5) (q6) (by omega) (by omega) (by omega) (by omega) (q1) (q2) (q3)) ⟨callB_of 5 hts (gi kt_417) rfl rfl rfl (hts _ kt_211) (hts _ kt_529) (by decide +kernel) ⟨Nat.le_of_ble_eq_true rfl, Nat.le_of_ble_eq_true rfl⟩, (hts _ kt_419), (hts _ kt_420)⟩ ⟨fun a U g mk q => ⟨q.1, PT.calling q.2⟩, pg_recv hK hP hL_le hF_77 (q := (RX4, TX4, 6)) rfl, fun U hU hWm => ⟨rfl, PT.mk hU hWm hP hK hD hE hO⟩⟩ rfl rfl hl.1 rfl (lv_room (Nat.le_of_ble_eq_true rfl)) dX11_plainField_37 ⟨by show _ + 0 ≤ 0; omega, by show _ + 0 ≤ 0; omega⟩) hS (fun q _ h => hFc q h) hFc (fun u t H1 locs ht hvm hw hB hz1 hk1 hS => ?_)
      obtain ⟨F_86, fo2_87, hB1, hq_88, hq_89, hq_90⟩ := hB
      obtain ⟨hP, hD, hO, hR⟩ := QT.back hB1 ht hFc hR (fun q h => by simp only [List.mem_cons, List.not_mem_nil, or_false] at h ⊢; omega)
      have hF_91 : F_86 h0 = .inr (11, [.ref ta, .ref ou, .ref di, .ref ck, .ref sl, .ref po, .ref hs, .ref le, .ref sp]) := (hB1.2.2.2 h0 (by rw [hT_h0]; simp)).trans hF_76
      have hF_92 : F_86 le = .inr (4, [.ref x, .ref y0, .ref y1, .ref y2, .int (nI nn), .int bb]) := (hB1.2.2.2 le (by rw [hT_le]; simp only [List.mem_cons, List.not_mem_nil, or_false]; omega)).trans hF_77
      have hF_93 : F_86 x = .inr (0, [.ref rx, .int (nI zm), .int oo]) := (hB1.2.2.2 x (by rw [hT_x]; simp only [List.mem_cons, List.not_mem_nil, or_false]; omega)).trans hF_78
      have hF_94 : F_86 rx = .inl (cs 16, 3000, .inl f) := (hB1.2.2.2 rx (by rw [ht_66]; simp only [List.mem_cons, List.not_mem_nil, or_false]; omega)).trans hF_79
      have hF_95 : F_86 y0 = .inl (cs 16, 20, .inl e0) := (hB1.2.2.2 y0 (by rw [ht_62]; simp only [List.mem_cons, List.not_mem_nil, or_false]; omega)).trans hF_80
      have hF_96 : F_86 y1 = .inl (cs 16, 20, .inl e1) := (hB1.2.2.2 y1 (by rw [ht_63]; simp only [List.mem_cons, List.not_mem_nil, or_false]; omega)).trans hF_81
      have hF_97 : F_86 y2 = .inl (cs 16, 20, .inl e2) := (hB1.2.2.2 y2 (by rw [ht_64]; simp only [List.mem_cons, List.not_mem_nil, or_false]; omega)).trans hF_82
      generalize H1 = H at hP hS ⊢
      refine lv_aload_n hx hb dX11_plainField_40 rfl (lv_at hl 0 rfl) ?_
      refine pg_get (ci := 11) (v := .ref ou) (C := RX11) (T := TX11) (N := 9) hx hb hts it_11 hown hK hP hL_h0 hF_91 rfl 1 (by decide) (hts _ kt_526) (fun _ h9 => h9) rfl dX11_plainField_41 ?_
      refine pg_getN (ci := 0) (v := .int (nI (FPL (clf f) x2 (gb jk) (gc jk) (gd jk)).length)) (C := RX0) (T := TX0) (N := 3) hx hb hts it_0 hown hK hP hL_ou hq_88 rfl 1 (by decide) (hE.nest kn_17) (fun _ h9 => h9) rfl dX11_plainField_44 ?_
      refine W.widen (k := 0) (n := 0) (by omega) (by omega) ?_
      exact W.iret (v := (nI (FPL (clf f) x2 (gb jk) (gc jk) (gd jk)).length)) hx hb hr (fun t ht hWm => ⟨⟨(nI (FPL (clf f) x2 (gb jk) (gc jk) (gd jk)).length), (FPL (clf f) x2 (gb jk) (gc jk) (gd jk)).length, rfl, (Or.inr ⟨jk, hjk, rfl, rfl⟩), ⟨F_86, fo2_87, QT.mk ht hP hD hO hR, hq_88, hq_89, (Or.inr ⟨jk, hjk, rfl, rfl, hq_90⟩), (by have h9 := FPL_len9 (T := clf f) (x := x2) q4 q5; omega)⟩⟩, hS.F ht⟩) hS.2.2 dX11_plainField_47
    ·
      refine lv_bipush (v := (-2)) hx hb dX11_plainField_15 (by decide) ?_
      refine W.widen (k := 0) (n := 0) (by omega) (by omega) ?_
      exact W.iret (v := (-2)) hx hb hr (fun t ht hWm => ⟨⟨(-2), zo, rfl, (Or.inl ⟨fun q => c_72 q.2, rfl⟩), ⟨F, fo, QT.mk ht hP hD hO hR, hFo0, hFq0, (Or.inl ⟨fun q => c_72 q.2, rfl, rfl⟩), hzo⟩⟩, hS.F ht⟩) hS.2.2 dX11_plainField_17
set_option maxHeartbeats 4000000 in
set_option maxRecDepth 100000 in
theorem s_X11_house_c (l : Launch) (dC : Nat → ClassId) (dI : Nat → Nat → Nat) (cs : Nat → ClassId) (ty : TyM) (L : List Nat) (sz : Nat) (F : Nat → va_E) (h0 : Nat) (ρ : Nat) (ta : Nat) (ou : Nat) (di : Nat) (ea : Nat) (ck : Nat) (sl : Nat) (po : Nat) (hs : Nat) (zt : Nat) (rt : Nat) (cn : Nat) (f : Nat → Int32) (ro : Nat) (D : Nat → ETY) (zo : Nat) (fo : Nat → Int32) (hW : WT ty L) (hL_h0 : h0 ∈ L) (hT_h0 : ty h0 = (11, ρ, [ta, ou, di, ea, ck, sl, po, hs])) (hL_ta : ta ∈ L) (hT_ta : ty ta = (0, ρ + 1, [rt, 3000])) (hL_ou : ou ∈ L) (hT_ou : ty ou = (0, ρ + 2, [ro, 3000])) (hFt : F ta = .inr (0, [.ref rt, .int (nI zt), .int 0])) (hFr : F rt = .inl (cs 16, 3000, .inl f)) (hzt : zt ≤ 3000) (hFd : F di = .inr (2, [.ref ea, .int (nI cn)])) (hcn : cn ≤ 40) (hDI : DIRC cs F ea cn D) (hFo0 : F ou = .inr (0, [.ref ro, .int (nI zo), .int 0])) (hFq0 : F ro = .inl (cs 16, 3000, .inl fo)) (hzo : zo ≤ 3000) : Met l yX11_house (.code yX11_house cX11_house 1 (some .int) :: tb) ({ frames := 3, cells := 0, slots := 0, locals := 74 }) (va_Pc [.ref h0] (PT (dC, dI) cs ty L F sz)) (va_Qi (fun (r : Int32) (c2 : Nat) => r = HSA f zt D cn) (fun (c2 : Nat) T9 => ∃ F2 : Nat → va_E, ∃ f2 : Nat → Int32, QT (dC, dI) cs ty L [ρ + 1, ρ + 2] F F2 (va_A (va_pl L F) sz) T9 ∧ F2 ta = .inr (0, [.ref rt, .int (nI 0), .int 0]) ∧ F2 ou = .inr (0, [.ref ro, .int (nI c2), .int 0]) ∧ F2 ro = .inl (cs 16, 3000, .inl f2) ∧ ((¬ NM f 0 zt = true ∧ c2 = zo ∧ f2 = fo) ∨ (NM f 0 zt = true ∧ c2 = zt - HST (UND f zt) f zt D cn ∧ ∀ j, j < c2 → f2 j = f (HST (UND f zt) f zt D cn + j))) ∧ c2 ≤ 3000) (va_A (va_pl L F) sz)) 0 0 (va_A (va_pl L F) sz) := by
  refine Met.ofW (cc := cX11_house) (maxL := 1) (ret := (some .int)) (by decide) rfl ?_
  intro p e s m args below meth c s₁ B hml hv
  obtain ⟨rfl, hsz, hP, hK, hD0, hE, hO⟩ := hv
  have hx := B.exec
  have hb := B.bytes
  have hr := B.returns
  have hts : ∀ w ∈ tb, w.before _ s = true := fun w h => atoms_spec (ws := .code yX11_house cX11_house 1 (some .int) :: tb) B.pre w (List.mem_cons_of_mem _ h)
  have hown : s.vm.findClass RX11 = some m.cls := findClass_of_methodNamed B.named
  have hlocks := B.notSynchronized
  subst hsz
  have hD := hD0.self (sz := s.heap.size)
  generalize hAe : va_A (va_pl L F) s.heap.size = A at hD ⊢
  have hA : ∀ q : Nat, s.heap.size ≤ q → A q := fun q h => by rw [← hAe]; exact Or.inr h
  have hS : va_S A s.heap s.heap [] := va_S.rf
  have hR : FR ty [ρ + 1, ρ + 2] F F := FR.refl
  have hl := lv_entry ([.ref h0]) (n := 1) (Nat.le_of_ble_eq_true rfl)
  rw [lg_entry_eq]
  generalize (lg_sl ([.ref h0]) ++ List.replicate (1 - (lg_sl ([.ref h0])).length) Slot.unset).toArray = ls at hl ⊢
  have hl : lv_has ls 1 [(0, .ref h0)] := hl
  obtain ⟨_, _, _, _, hi_1, ht_2, hi_3, ⟨w0_4, w1_5, w2_6, w3_7, nm_8, te_9, ht_10⟩, hi_11, ⟨l1_12, lx_13, ly0_14, ly1_15, ly2_16, k1_17, kx_18, ky0_19, ky1_20, ky2_21, w0_22, w1_23, w2_24, w3_25, w4_26, w5_27, w6_28, w7_29, w8_30, tk_31, h1_32, hx_33, hy_34, hw_35, pw_36, px_37, py_38, pz_39, pu_40, ht_41⟩, hi_42, ⟨w0_43, w1_44, rc_45, rx_46, ry0_47, ry1_48, ry2_49, ht_50⟩, hi_51, ⟨hx_52, hy_53, hw_54, ht_55⟩⟩ := hW.gate hL_h0 hT_h0
  obtain ⟨hi_56, ht_57⟩ := hW.dir hi_1 ht_2
  obtain ⟨hi_58, ht_59, hq_60⟩ := hW.bytes hL_ou hT_ou
  refine lv_aload_n hx hb dX11_house_0 rfl (lv_at hl 0 rfl) ?_
  obtain ⟨le_61, sp_62, μ_63, ν_64, hF_65, hq_66, hq_67, hq_68, hq_69, hq_70, hq_71⟩ := hO.gate hL_h0 hT_h0
  obtain ⟨x_72, y0_73, y1_74, y2_75, ht_76⟩ := id hq_67
  obtain ⟨x_77, y0_78, y1_79, y2_80, ht_81⟩ := id hq_69
  refine pg_get (ci := 11) (v := .ref ta) (C := RX11) (T := TX11) (N := 9) hx hb hts it_11 hown hK hP hL_h0 hF_65 rfl 0 (by decide) (hts _ kt_509) (fun _ h9 => h9) rfl dX11_house_1 ?_
  refine lv_iconst (v := 0) hx hb dX11_house_4 (by decide) ?_
  refine lv_aload_n hx hb dX11_house_5 rfl (lv_at hl 0 rfl) ?_
  refine pg_get (ci := 11) (v := .ref ta) (C := RX11) (T := TX11) (N := 9) hx hb hts it_11 hown hK hP hL_h0 hF_65 rfl 0 (by decide) (hts _ kt_509) (fun _ h9 => h9) rfl dX11_house_6 ?_
  obtain ⟨hi_82, ht_83, hq_84⟩ := hW.bytes hL_ta hT_ta
  refine pg_getN (ci := 0) (v := .int (nI zt)) (C := RX0) (T := TX0) (N := 3) hx hb hts it_0 hown hK hP hL_ta hFt rfl 1 (by decide) (hE.nest kn_17) (fun _ h9 => h9) rfl dX11_house_9 ?_
  refine W.eq (g2 := F0 m 12 ls [.int (nI zt), .int (nI 0), .ref ta]) rfl ?_
  have hFc := pg_free hD hS hA
  refine va_calli (va_runV (As := [.int (nI 0), .int (nI zt)]) (rest := []) ⟨hx, hb, hml, hown, hts⟩ (s_X0_isName_e l dC dI cs ty L s.heap.size F ta (ρ + 1) rt 3000 zt 0 zt f hW hL_ta hT_ta hFt hFr (by omega) (by omega) (Nat.zero_le _) (Nat.le_refl _)) ⟨callB_of 2 hts (gi kt_108) rfl rfl rfl (hts _ kt_1) (hts _ kt_530) (by decide +kernel) ⟨Nat.le_of_ble_eq_true rfl, Nat.le_of_ble_eq_true rfl⟩, (hts _ kt_110), (hts _ kt_111)⟩ ⟨fun a U g mk q => ⟨q.1, PT.calling q.2⟩, pg_recv hK hP hL_ta hFt (q := (RX0, TX0, 3)) rfl, fun U hU hWm => ⟨rfl, PT.mk hU hWm hP hK hD hE hO⟩⟩ rfl rfl hl.1 rfl (lv_room (Nat.le_of_ble_eq_true rfl)) dX11_house_12 ⟨by show _ + 0 ≤ 0; omega, by show _ + 0 ≤ 0; omega⟩) hS (fun q _ h => hFc q h) hFc (fun r_85 u t H1 locs ht hvm hw hB hz1 hk1 hS => ?_)
  obtain ⟨F_86, hB1⟩ := hB
  obtain rfl : F = F_86 := (funext (fun a => hB1.2.2.2 a List.not_mem_nil)).symm
  obtain ⟨hP, hD, hO, hR⟩ := QT.back hB1 ht hFc hR (fun q h => absurd h List.not_mem_nil)
  generalize H1 = H at hP hS ⊢
  have hw : r_85 = (if NM f 0 zt = true then 1 else 0) := hw
  have hw_87 := hw
  refine lv_if_ne (tgt := 27) hx hb dX11_house_15 (by decide) (fun c_88 => ?_) (fun c_88 => ?_)
  ·
    refine lv_aload_n hx hb dX11_house_27 rfl (lv_at hl 0 rfl) ?_
    refine pg_get (ci := 11) (v := .ref ou) (C := RX11) (T := TX11) (N := 9) hx hb hts it_11 hown hK hP hL_h0 hF_65 rfl 1 (by decide) (hts _ kt_526) (fun _ h9 => h9) rfl dX11_house_28 ?_
    have hO5 := hO
    have hFc := pg_free hD hS hA
    refine va_callv (va_runV (As := []) (rest := []) ⟨hx, hb, hml, hown, hts⟩ (s_X0_clear l dC dI cs ty L H.size F ou (ρ + 2) ro 3000 hW hL_ou hT_ou) ⟨callB_of 0 hts (gi kt_32) rfl rfl rfl (hts _ kt_1) (hts _ kt_527) (by decide +kernel) ⟨Nat.le_of_ble_eq_true rfl, Nat.le_of_ble_eq_true rfl⟩, (hts _ kt_34), (hts _ kt_35)⟩ ⟨fun a U g mk q => ⟨q.1, PT.calling q.2⟩, pg_recv hK hP hL_ou hFo0 (q := (RX0, TX0, 3)) rfl, fun U hU hWm => ⟨rfl, PT.mk hU hWm hP hK hD hE hO⟩⟩ rfl rfl hl.1 rfl (lv_room (Nat.le_of_ble_eq_true rfl)) dX11_house_31 ⟨by show _ + 0 ≤ 0; omega, by show _ + 0 ≤ 0; omega⟩) hS (fun q _ h => hFc q h) hFc (fun u t H1 locs ht hvm hw hB hz1 hk1 hS => ?_)
    obtain ⟨F_90, hB1, hq_91⟩ := hB
    obtain ⟨hP, hD, hO, hR⟩ := QT.back hB1 ht hFc hR (fun q h => by simp only [List.mem_cons, List.not_mem_nil, or_false] at h ⊢; omega)
    have hF_92 : F_90 ta = .inr (0, [.ref rt, .int (nI zt), .int 0]) := (hB1.2.2.2 ta (by rw [hT_ta]; simp)).trans hFt
    have hF_93 : F_90 rt = .inl (cs 16, 3000, .inl f) := (hB1.2.2.2 rt (by rw [ht_83]; simp)).trans hFr
    have hF_94 : F_90 di = .inr (2, [.ref ea, .int (nI cn)]) := (hB1.2.2.2 di (by rw [ht_2]; simp)).trans hFd
    have hF_95 : F_90 h0 = .inr (11, [.ref ta, .ref ou, .ref di, .ref ck, .ref sl, .ref po, .ref hs, .ref le_61, .ref sp_62]) := (hB1.2.2.2 h0 (by rw [hT_h0]; simp)).trans hF_65
    generalize H1 = H at hP hS ⊢
    have hDI5 := DIRC.fr hDI hO5 hW hi_56 ht_57 hcn hB1.2.2.2 (hB1.2.2.2 _ (by rw [ht_57]; simp)) (fun k hk => by simp only [List.mem_cons, List.not_mem_nil, or_false]; omega)
    refine lv_aload_n hx hb dX11_house_34 rfl (lv_at hl 0 rfl) ?_
    refine pg_get (ci := 11) (v := .ref ou) (C := RX11) (T := TX11) (N := 9) hx hb hts it_11 hown hK hP hL_h0 hF_95 rfl 1 (by decide) (hts _ kt_526) (fun _ h9 => h9) rfl dX11_house_35 ?_
    refine lv_aload_n hx hb dX11_house_38 rfl (lv_at hl 0 rfl) ?_
    refine pg_get (ci := 11) (v := .ref ta) (C := RX11) (T := TX11) (N := 9) hx hb hts it_11 hown hK hP hL_h0 hF_95 rfl 0 (by decide) (hts _ kt_509) (fun _ h9 => h9) rfl dX11_house_39 ?_
    refine lv_aload_n hx hb dX11_house_42 rfl (lv_at hl 0 rfl) ?_
    refine pg_get (ci := 11) (v := .ref di) (C := RX11) (T := TX11) (N := 9) hx hb hts it_11 hown hK hP hL_h0 hF_95 rfl 2 (by decide) (hts _ kt_512) (fun _ h9 => h9) rfl dX11_house_43 ?_
    refine lv_aload_n hx hb dX11_house_46 rfl (lv_at hl 0 rfl) ?_
    refine pg_get (ci := 11) (v := .ref ta) (C := RX11) (T := TX11) (N := 9) hx hb hts it_11 hown hK hP hL_h0 hF_95 rfl 0 (by decide) (hts _ kt_509) (fun _ h9 => h9) rfl dX11_house_47 ?_
    have hFc := pg_free hD hS hA
    refine va_calli (va_runV (As := [.ref ta]) (rest := [.ref ta, .ref ou]) ⟨hx, hb, hml, hown, hts⟩ (s_X2_houseStart_e l dC dI cs ty L H.size F_90 di (ρ + 3) ea ta (ρ + 1) rt 3000 zt cn f D hW hi_1 ht_2 hL_ta hT_ta hF_94 (by omega) hF_92 hF_93 (by omega) (by omega) (hDI5)) ⟨callB_of 1 hts (gi kt_102) rfl rfl rfl (hts _ kt_103) (hts _ kt_531) (by decide +kernel) ⟨Nat.le_of_ble_eq_true rfl, Nat.le_of_ble_eq_true rfl⟩, (hts _ kt_105), (hts _ kt_106)⟩ ⟨fun a U g mk q => ⟨q.1, PT.calling q.2⟩, pg_recv hK hP hi_1 hF_94 (q := (RX2, TX2, 2)) rfl, fun U hU hWm => ⟨rfl, PT.mk hU hWm hP hK hD hE hO⟩⟩ rfl rfl hl.1 rfl (lv_room (Nat.le_of_ble_eq_true rfl)) dX11_house_50 ⟨by show _ + 0 ≤ 0; omega, by show _ + 0 ≤ 0; omega⟩) hS (fun q _ h => hFc q h) hFc (fun r_96 u t H1 locs ht hvm hw hB hz1 hk1 hS => ?_)
    obtain ⟨F_97, hB1⟩ := hB
    obtain rfl : F_90 = F_97 := (funext (fun a => hB1.2.2.2 a List.not_mem_nil)).symm
    obtain ⟨hP, hD, hO, hR⟩ := QT.back hB1 ht hFc hR (fun q h => absurd h List.not_mem_nil)
    generalize H1 = H at hP hS ⊢
    have hw : r_96 = nI (HST (UND f zt) f zt D cn) := hw
    have hw_98 := hw
    subst hw_98
    refine lv_aload_n hx hb dX11_house_53 rfl (lv_at hl 0 rfl) ?_
    refine pg_get (ci := 11) (v := .ref ta) (C := RX11) (T := TX11) (N := 9) hx hb hts it_11 hown hK hP hL_h0 hF_95 rfl 0 (by decide) (hts _ kt_509) (fun _ h9 => h9) rfl dX11_house_54 ?_
    refine pg_getN (ci := 0) (v := .int (nI zt)) (C := RX0) (T := TX0) (N := 3) hx hb hts it_0 hown hK hP hL_ta hF_92 rfl 1 (by decide) (hE.nest kn_17) (fun _ h9 => h9) rfl dX11_house_57 ?_
    have hFc := pg_free hD hS hA
    refine va_callv (va_runV (As := [.ref ta, .int (nI (HST (UND f zt) f zt D cn)), .int (nI zt)]) (rest := []) ⟨hx, hb, hml, hown, hts⟩ (s_X0_addRange_e l dC dI cs ty L H.size F_90 ou (ρ + 2) ro 3000 ta (ρ + 1) rt 3000 zt (HST (UND f zt) f zt D cn) zt f hW hL_ou hT_ou hL_ta hT_ta hq_91 hF_92 hF_93 (by omega) (by omega) (by omega) (hst_le) (Nat.le_refl _) (by omega)) ⟨callB_of 3 hts (gi kt_36) rfl rfl rfl (hts _ kt_1) (hts _ kt_532) (by decide +kernel) ⟨Nat.le_of_ble_eq_true rfl, Nat.le_of_ble_eq_true rfl⟩, (hts _ kt_38), (hts _ kt_39)⟩ ⟨fun a U g mk q => ⟨q.1, PT.calling q.2⟩, pg_recv hK hP hL_ou hq_91 (q := (RX0, TX0, 3)) rfl, fun U hU hWm => ⟨rfl, PT.mk hU hWm hP hK hD hE hO⟩⟩ rfl rfl hl.1 rfl (lv_room (Nat.le_of_ble_eq_true rfl)) dX11_house_60 ⟨by show _ + 0 ≤ 0; omega, by show _ + 0 ≤ 0; omega⟩) hS (fun q _ h => hFc q h) hFc (fun u t H1 locs ht hvm hw hB hz1 hk1 hS => ?_)
    obtain ⟨F_100, fc_101, hB1, hq_102, hq_103, hq_104⟩ := hB
    obtain ⟨hP, hD, hO, hR⟩ := QT.back hB1 ht hFc hR (fun q h => by simp only [List.mem_cons, List.not_mem_nil, or_false] at h ⊢; omega)
    have hF_105 : F_100 ta = .inr (0, [.ref rt, .int (nI zt), .int 0]) := (hB1.2.2.2 ta (by rw [hT_ta]; simp)).trans hF_92
    have hF_106 : F_100 rt = .inl (cs 16, 3000, .inl f) := (hB1.2.2.2 rt (by rw [ht_83]; simp)).trans hF_93
    have hF_107 : F_100 di = .inr (2, [.ref ea, .int (nI cn)]) := (hB1.2.2.2 di (by rw [ht_2]; simp)).trans hF_94
    have hF_108 : F_100 h0 = .inr (11, [.ref ta, .ref ou, .ref di, .ref ck, .ref sl, .ref po, .ref hs, .ref le_61, .ref sp_62]) := (hB1.2.2.2 h0 (by rw [hT_h0]; simp)).trans hF_95
    generalize H1 = H at hP hS ⊢
    refine lv_aload_n hx hb dX11_house_63 rfl (lv_at hl 0 rfl) ?_
    refine pg_get (ci := 11) (v := .ref ta) (C := RX11) (T := TX11) (N := 9) hx hb hts it_11 hown hK hP hL_h0 hF_108 rfl 0 (by decide) (hts _ kt_509) (fun _ h9 => h9) rfl dX11_house_64 ?_
    have hFc := pg_free hD hS hA
    refine va_callv (va_runV (As := []) (rest := []) ⟨hx, hb, hml, hown, hts⟩ (s_X0_clear l dC dI cs ty L H.size F_100 ta (ρ + 1) rt 3000 hW hL_ta hT_ta) ⟨callB_of 0 hts (gi kt_32) rfl rfl rfl (hts _ kt_1) (hts _ kt_527) (by decide +kernel) ⟨Nat.le_of_ble_eq_true rfl, Nat.le_of_ble_eq_true rfl⟩, (hts _ kt_34), (hts _ kt_35)⟩ ⟨fun a U g mk q => ⟨q.1, PT.calling q.2⟩, pg_recv hK hP hL_ta hF_105 (q := (RX0, TX0, 3)) rfl, fun U hU hWm => ⟨rfl, PT.mk hU hWm hP hK hD hE hO⟩⟩ rfl rfl hl.1 rfl (lv_room (Nat.le_of_ble_eq_true rfl)) dX11_house_67 ⟨by show _ + 0 ≤ 0; omega, by show _ + 0 ≤ 0; omega⟩) hS (fun q _ h => hFc q h) hFc (fun u t H1 locs ht hvm hw hB hz1 hk1 hS => ?_)
    obtain ⟨F_110, hB1, hq_111⟩ := hB
    obtain ⟨hP, hD, hO, hR⟩ := QT.back hB1 ht hFc hR (fun q h => by simp only [List.mem_cons, List.not_mem_nil, or_false] at h ⊢; omega)
    have hF_112 : F_110 di = .inr (2, [.ref ea, .int (nI cn)]) := (hB1.2.2.2 di (by rw [ht_2]; simp)).trans hF_107
    have hF_113 : F_110 h0 = .inr (11, [.ref ta, .ref ou, .ref di, .ref ck, .ref sl, .ref po, .ref hs, .ref le_61, .ref sp_62]) := (hB1.2.2.2 h0 (by rw [hT_h0]; simp)).trans hF_108
    have hF_114 : F_110 ou = .inr (0, [.ref ro, .int (nI (zt - (HST (UND f zt) f zt D cn))), .int 0]) := (hB1.2.2.2 ou (by rw [hT_ou]; simp)).trans hq_102
    have hF_115 : F_110 ro = .inl (cs 16, 3000, .inl fc_101) := (hB1.2.2.2 ro (by rw [ht_59]; simp)).trans hq_103
    generalize H1 = H at hP hS ⊢
    refine lv_aload_n hx hb dX11_house_70 rfl (lv_at hl 0 rfl) ?_
    refine pg_get (ci := 11) (v := .ref ou) (C := RX11) (T := TX11) (N := 9) hx hb hts it_11 hown hK hP hL_h0 hF_113 rfl 1 (by decide) (hts _ kt_526) (fun _ h9 => h9) rfl dX11_house_71 ?_
    refine pg_getN (ci := 0) (v := .int (nI (zt - (HST (UND f zt) f zt D cn)))) (C := RX0) (T := TX0) (N := 3) hx hb hts it_0 hown hK hP hL_ou hF_114 rfl 1 (by decide) (hE.nest kn_17) (fun _ h9 => h9) rfl dX11_house_74 ?_
    refine W.widen (k := 0) (n := 0) (by omega) (by omega) ?_
    exact W.iret (v := (nI (zt - (HST (UND f zt) f zt D cn)))) hx hb hr (fun t ht hWm => ⟨⟨(nI (zt - (HST (UND f zt) f zt D cn))), (zt - HST (UND f zt) f zt D cn), rfl, ((if_pos (ifb1 hw_87 c_88)).symm), ⟨F_110, fc_101, QT.mk ht hP hD hO hR, hq_111, hF_114, hF_115, (Or.inr ⟨ifb1 hw_87 c_88, rfl, hq_104⟩), (by omega)⟩⟩, hS.F ht⟩) hS.2.2 dX11_house_77
  ·
    refine lv_aload_n hx hb dX11_house_18 rfl (lv_at hl 0 rfl) ?_
    refine pg_get (ci := 11) (v := .ref ta) (C := RX11) (T := TX11) (N := 9) hx hb hts it_11 hown hK hP hL_h0 hF_65 rfl 0 (by decide) (hts _ kt_509) (fun _ h9 => h9) rfl dX11_house_19 ?_
    have hFc := pg_free hD hS hA
    refine va_callv (va_runV (As := []) (rest := []) ⟨hx, hb, hml, hown, hts⟩ (s_X0_clear l dC dI cs ty L H.size F ta (ρ + 1) rt 3000 hW hL_ta hT_ta) ⟨callB_of 0 hts (gi kt_32) rfl rfl rfl (hts _ kt_1) (hts _ kt_527) (by decide +kernel) ⟨Nat.le_of_ble_eq_true rfl, Nat.le_of_ble_eq_true rfl⟩, (hts _ kt_34), (hts _ kt_35)⟩ ⟨fun a U g mk q => ⟨q.1, PT.calling q.2⟩, pg_recv hK hP hL_ta hFt (q := (RX0, TX0, 3)) rfl, fun U hU hWm => ⟨rfl, PT.mk hU hWm hP hK hD hE hO⟩⟩ rfl rfl hl.1 rfl (lv_room (Nat.le_of_ble_eq_true rfl)) dX11_house_22 ⟨by show _ + 0 ≤ 0; omega, by show _ + 0 ≤ 0; omega⟩) hS (fun q _ h => hFc q h) hFc (fun u t H1 locs ht hvm hw hB hz1 hk1 hS => ?_)
    obtain ⟨F_117, hB1, hq_118⟩ := hB
    obtain ⟨hP, hD, hO, hR⟩ := QT.back hB1 ht hFc hR (fun q h => by simp only [List.mem_cons, List.not_mem_nil, or_false] at h ⊢; omega)
    have hF_119 : F_117 di = .inr (2, [.ref ea, .int (nI cn)]) := (hB1.2.2.2 di (by rw [ht_2]; simp)).trans hFd
    have hF_120 : F_117 ou = .inr (0, [.ref ro, .int (nI zo), .int 0]) := (hB1.2.2.2 ou (by rw [hT_ou]; simp)).trans hFo0
    have hF_121 : F_117 ro = .inl (cs 16, 3000, .inl fo) := (hB1.2.2.2 ro (by rw [ht_59]; simp)).trans hFq0
    have hF_122 : F_117 h0 = .inr (11, [.ref ta, .ref ou, .ref di, .ref ck, .ref sl, .ref po, .ref hs, .ref le_61, .ref sp_62]) := (hB1.2.2.2 h0 (by rw [hT_h0]; simp)).trans hF_65
    generalize H1 = H at hP hS ⊢
    refine lv_iconst (v := (-1)) hx hb dX11_house_25 (by decide) ?_
    refine W.widen (k := 0) (n := 0) (by omega) (by omega) ?_
    exact W.iret (v := (-1)) hx hb hr (fun t ht hWm => ⟨⟨(-1), zo, rfl, ((if_neg (ifb0 hw_87 c_88)).symm), ⟨F_117, fo, QT.mk ht hP hD hO hR, hq_118, hF_120, hF_121, (Or.inl ⟨ifb0 hw_87 c_88, rfl, rfl⟩), hzo⟩⟩, hS.F ht⟩) hS.2.2 dX11_house_26
def BDC (E : Nat × Nat → Int32) (T : Nat → Nat) (x : Int32) (b z N : Nat) (fo : Nat → Int32) : Prop := ∃ q, STL (blx T x (z - b) b 0 ++ [(2, 10)]) q ∧ ((q = 0 ∧ x = 0 ∧ N = 1 ∧ fo 0 = E (2, 10)) ∨ (¬ (q = 0 ∧ x = 0) ∧ N = q ∧ ∀ (j : Nat) (y : Nat × Nat), j < q → (blx T x (z - b) b 0 ++ [(2, 10)])[j]? = some y → fo j = E y))
theorem bdc_le {E : Nat × Nat → Int32} {T : Nat → Nat} {x : Int32} {b z N : Nat} {fo : Nat → Int32} (h : BDC E T x b z N fo) : N ≤ z - b + 1 := by
  obtain ⟨q, a1, a2⟩ := h
  have h9 := blx_len T x (z - b) b 0
  rw [if_pos rfl] at h9
  have h8 := a1.1
  rw [len1] at h8
  rcases a2 with ⟨c1, c2, c3, c4⟩ | ⟨c1, c2, c3⟩ <;> omega
set_option maxHeartbeats 4000000 in
set_option maxRecDepth 100000 in
theorem s_X4_addBody_c (l : Launch) (dC : Nat → ClassId) (dI : Nat → Nat → Nat) (cs : Nat → ClassId) (ty : TyM) (L : List Nat) (sz : Nat) (F : Nat → va_E) (h0 : Nat) (ρ : Nat) (tx : Nat) (y0 : Nat) (y1 : Nat) (y2 : Nat) (g1 : Nat) (σ : Nat) (r1 : Nat) (n1 : Nat) (rx : Nat) (zm : Nat) (nn : Nat) (bs : Nat) (f : Nat → Int32) (fo : Nat → Int32) (oo : Int32) (x2 : Int32) (hW : WT ty L) (hL_h0 : h0 ∈ L) (hT_h0 : ty h0 = (4, ρ, [tx, y0, y1, y2])) (hL_tx : tx ∈ L) (hT_tx : ty tx = (0, ρ + 1, [rx, 3000])) (hL_g1 : g1 ∈ L) (hT_g1 : ty g1 = (0, σ, [r1, n1])) (hF0 : F h0 = .inr (4, [.ref tx, .ref y0, .ref y1, .ref y2, .int (nI nn), .int (nI bs)])) (hFx : F tx = .inr (0, [.ref rx, .int (nI zm), .int oo])) (hFr : F rx = .inl (cs 16, 3000, .inl f)) (hFg : F g1 = .inr (0, [.ref r1, .int (nI 0), .int 0])) (hFo : F r1 = .inl (cs 16, n1, .inl fo)) (hbz : bs ≤ zm) (hz3 : zm ≤ 3000) (hroom : zm - bs + 1 ≤ n1) (hn9 : n1 ≤ 10000) (hfar : ρ + 10 ≤ σ ∨ σ + 10 ≤ ρ) : Met l yX4_addBody (.code yX4_addBody cX4_addBody 4 none :: tb) ({ frames := 2, cells := 0, slots := 0, locals := 74 }) (va_Pc [.ref h0, .ref g1, .int x2] (PT (dC, dI) cs ty L F sz)) (va_Qv (fun _ : Unit => True) (fun _ T9 => ∃ F2 : Nat → va_E, ∃ NN : Nat, ∃ fo2 : Nat → Int32, QT (dC, dI) cs ty L [σ] F F2 (va_A (va_pl L F) sz) T9 ∧ F2 g1 = .inr (0, [.ref r1, .int (nI NN), .int 0]) ∧ BDN (clf f) x2 bs zm (nI NN) ∧ F2 r1 = .inl (cs 16, n1, .inl fo2) ∧ BDC (evs f) (clf f) x2 bs zm NN fo2) (va_A (va_pl L F) sz)) 0 0 (va_A (va_pl L F) sz) := by
  refine Met.ofW (cc := cX4_addBody) (maxL := 4) (ret := none) (by decide) rfl ?_
  intro p e s m args below meth c s₁ B hml hv
  obtain ⟨rfl, hsz, hP, hK, hD0, hE, hO⟩ := hv
  have hx := B.exec
  have hb := B.bytes
  have hr := B.returns
  have hts : ∀ w ∈ tb, w.before _ s = true := fun w h => atoms_spec (ws := .code yX4_addBody cX4_addBody 4 none :: tb) B.pre w (List.mem_cons_of_mem _ h)
  have hown : s.vm.findClass RX4 = some m.cls := findClass_of_methodNamed B.named
  have hlocks := B.notSynchronized
  subst hsz
  have hD := hD0.self (sz := s.heap.size)
  generalize hAe : va_A (va_pl L F) s.heap.size = A at hD ⊢
  have hA : ∀ q : Nat, s.heap.size ≤ q → A q := fun q h => by rw [← hAe]; exact Or.inr h
  have hS : va_S A s.heap s.heap [] := va_S.rf
  have hR : FR ty [σ] F F := FR.refl
  have hl := lv_entry ([.ref h0, .ref g1, .int x2]) (n := 4) (Nat.le_of_ble_eq_true rfl)
  rw [lg_entry_eq]
  generalize (lg_sl ([.ref h0, .ref g1, .int x2]) ++ List.replicate (4 - (lg_sl ([.ref h0, .ref g1, .int x2])).length) Slot.unset).toArray = ls at hl ⊢
  have hl : lv_has ls 4 [(0, .ref h0), (1, .ref g1), (2, .int x2)] := hl
  obtain ⟨_, hi_1, hi_2, hi_3, _, ht_4, ht_5, ht_6⟩ := hW.msg hL_h0 hT_h0
  obtain ⟨hi_7, ht_8, hq_9⟩ := hW.bytes hL_tx hT_tx
  obtain ⟨hi_10, ht_11, hq_12⟩ := hW.bytes hL_g1 hT_g1
  obtain ⟨LL, hLL⟩ : ∃ w, w = blx (clf f) x2 (zm - bs) bs 0 := ⟨_, rfl⟩
  have hlen : LL.length ≤ zm - bs := by rw [hLL]; have h9 := blx_len (clf f) x2 (zm - bs) bs 0; rw [if_pos rfl] at h9; exact h9
  refine lv_iload_n hx hb dX4_addBody_0 rfl (lv_at hl 2 rfl) ?_
  refine lv_if_eq (tgt := 12) hx hb dX4_addBody_1 (by decide) (fun c_13 => ?_) (fun c_13 => ?_)
  ·
    refine lv_aload_n hx hb dX4_addBody_12 rfl (lv_at hl 1 rfl) ?_
    refine lv_aload_n hx hb dX4_addBody_13 rfl (lv_at hl 0 rfl) ?_
    refine pg_get (ci := 4) (v := .ref tx) (C := RX4) (T := TX4) (N := 6) hx hb hts it_4 hown hK hP hL_h0 hF0 rfl 0 (by decide) (hts _ kt_207) (fun _ h9 => h9) rfl dX4_addBody_14 ?_
    refine lv_aload_n hx hb dX4_addBody_17 rfl (lv_at hl 0 rfl) ?_
    refine pg_get (ci := 4) (v := .int (nI bs)) (C := RX4) (T := TX4) (N := 6) hx hb hts it_4 hown hK hP hL_h0 hF0 rfl 5 (by decide) (hts _ kt_225) (fun _ h9 => h9) rfl dX4_addBody_18 ?_
    refine lv_aload_n hx hb dX4_addBody_21 rfl (lv_at hl 0 rfl) ?_
    refine pg_get (ci := 4) (v := .ref tx) (C := RX4) (T := TX4) (N := 6) hx hb hts it_4 hown hK hP hL_h0 hF0 rfl 0 (by decide) (hts _ kt_207) (fun _ h9 => h9) rfl dX4_addBody_22 ?_
    refine pg_getN (ci := 0) (v := .int (nI zm)) (C := RX0) (T := TX0) (N := 3) hx hb hts it_0 hown hK hP hL_tx hFx rfl 1 (by decide) (hE.nest kn_6) (fun _ h9 => h9) rfl dX4_addBody_25 ?_
    have hFc := pg_free hD hS hA
    refine va_callv (va_runV (As := [.ref tx, .int (nI bs), .int (nI zm)]) (rest := []) ⟨hx, hb, hml, hown, hts⟩ (s_X0_addRange_o l dC dI cs ty L s.heap.size F g1 σ r1 n1 tx (ρ + 1) rx 3000 zm bs zm f oo hW hL_g1 hT_g1 hL_tx hT_tx hFg hFx hFr (by omega) (by omega) (by omega) (hbz) (Nat.le_refl _) (by omega)) ⟨callB_of 3 hts (gi kt_36) rfl rfl rfl (hts _ kt_1) (hts _ kt_231) (by decide +kernel) ⟨Nat.le_of_ble_eq_true rfl, Nat.le_of_ble_eq_true rfl⟩, (hts _ kt_38), (hts _ kt_39)⟩ ⟨fun a U g mk q => ⟨q.1, PT.calling q.2⟩, pg_recv hK hP hL_g1 hFg (q := (RX0, TX0, 3)) rfl, fun U hU hWm => ⟨rfl, PT.mk hU hWm hP hK hD hE hO⟩⟩ rfl rfl hl.1 rfl (lv_room (Nat.le_of_ble_eq_true rfl)) dX4_addBody_28 ⟨by show _ + 0 ≤ 0; omega, by show _ + 0 ≤ 0; omega⟩) hS (fun q _ h => hFc q h) hFc (fun u t H1 locs ht hvm hw hB hz1 hk1 hS => ?_)
    obtain ⟨F_15, fc_16, hB1, hq_17, hq_18, hq_19⟩ := hB
    obtain ⟨hP, hD, hO, hR⟩ := QT.back hB1 ht hFc hR (fun q h => by simp only [List.mem_cons, List.not_mem_nil, or_false] at h ⊢; omega)
    have hF_20 : F_15 h0 = .inr (4, [.ref tx, .ref y0, .ref y1, .ref y2, .int (nI nn), .int (nI bs)]) := (hB1.2.2.2 h0 (by rw [hT_h0]; simp only [List.mem_cons, List.not_mem_nil, or_false]; omega)).trans hF0
    have hF_21 : F_15 tx = .inr (0, [.ref rx, .int (nI zm), .int oo]) := (hB1.2.2.2 tx (by rw [hT_tx]; simp only [List.mem_cons, List.not_mem_nil, or_false]; omega)).trans hFx
    have hF_22 : F_15 rx = .inl (cs 16, 3000, .inl f) := (hB1.2.2.2 rx (by rw [ht_8]; simp only [List.mem_cons, List.not_mem_nil, or_false]; omega)).trans hFr
    generalize H1 = H at hP hS ⊢
    obtain ⟨hun_23a, hun_23b, hun_23c⟩ := bl_un c_13 (zm - bs) bs fc_16 hq_19
    rw [← hLL] at hun_23a hun_23b hun_23c
    have hF_24 : F_15 g1 = .inr (0, [.ref r1, .int (nI LL.length), .int 0]) := by rw [hun_23c]; exact hq_17
    refine lv_aload_n hx hb dX4_addBody_31 rfl (lv_at hl 1 rfl) ?_
    refine pg_getN (ci := 0) (v := .int (nI LL.length)) (C := RX0) (T := TX0) (N := 3) hx hb hts it_0 hown hK hP hL_g1 hF_24 rfl 1 (by decide) (hE.nest kn_6) (fun _ h9 => h9) rfl dX4_addBody_32 ?_
    refine lv_if_le (tgt := 59) hx hb dX4_addBody_35 (by decide) (fun c_25 => ?_) (fun c_25 => ?_)
    ·
      have hl0 : LL.length = 0 := by have h9 : LL.length ≤ 0 := (nI_leI (b := 0) (by omega) (by omega)).mp c_25; omega
      have hWl : LL.length ≤ zm - bs + 1 := by omega
      have hend : LL.length = 0 ∨ fc_16 (LL.length - 1) = 10 := Or.inl hl0
      refine lv_aload_n hx hb dX4_addBody_59 rfl (lv_at hl 1 rfl) ?_
      refine pg_getN (ci := 0) (v := .int (nI LL.length)) (C := RX0) (T := TX0) (N := 3) hx hb hts it_0 hown hK hP hL_g1 hF_24 rfl 1 (by decide) (hE.nest kn_6) (fun _ h9 => h9) rfl dX4_addBody_60 ?_
      refine lv_istore_n (lv' := [(3, .int (nI LL.length)), (0, .ref h0), (1, .ref g1), (2, .int x2)]) hx hb dX4_addBody_63 rfl hl (by decide) rfl (fun ls hl => ?_)
      refine W.widen (k := 0) (n := 0) (by omega) (by omega) ?_
      have hF_28 : F h0 = .inr (4, [.ref tx, .ref y0, .ref y1, .ref y2, .int (nI nn), .int (nI bs)]) := (hR h0 (by rw [hT_h0]; simp only [List.mem_cons, List.not_mem_nil, or_false]; omega)).symm.trans hF_20
      have hF_29 : F tx = .inr (0, [.ref rx, .int (nI zm), .int oo]) := (hR tx (by rw [hT_tx]; simp only [List.mem_cons, List.not_mem_nil, or_false]; omega)).symm.trans hF_21
      have hF_30 : F rx = .inl (cs 16, 3000, .inl f) := (hR rx (by rw [ht_8]; simp only [List.mem_cons, List.not_mem_nil, or_false]; omega)).symm.trans hF_22
      refine pl_loop (σ := Nat) A (dC, dI) cs ty L [σ] F 64 4 (fun ke => [(3, .int (nI ke)), (0, .ref h0), (1, .ref g1), (2, .int x2)]) (fun ke => []) (fun ke FF => ke ≤ LL.length ∧ (∀ j, ke ≤ j → j < LL.length → fc_16 j = 10) ∧ (ke = 0 ∨ fc_16 (ke - 1) = 10) ∧ FF g1 = .inr (0, [.ref r1, .int (nI LL.length), .int 0]) ∧ FF r1 = .inl (cs 16, n1, .inl fc_16)) (fun ke => ke) ?_ LL.length F_15 (⟨Nat.le_refl _, fun j h1 h2 => by omega, hend, hF_24, hq_18⟩) hO hR _ _ hP hD hS ls (lv_sub hl [0, 1, 2, 3] rfl)
      rintro ke F_27 hv_31 hO hR ih_32 H locs hP hD hS ls hl
      have hl : lv_has ls 4 [(3, .int (nI ke)), (0, .ref h0), (1, .ref g1), (2, .int x2)] := hl
      have hv_31 : ke ≤ LL.length ∧ (∀ j, ke ≤ j → j < LL.length → fc_16 j = 10) ∧ (ke = 0 ∨ fc_16 (ke - 1) = 10) ∧ F_27 g1 = .inr (0, [.ref r1, .int (nI LL.length), .int 0]) ∧ F_27 r1 = .inl (cs 16, n1, .inl fc_16) := hv_31
      refine W.eq (g2 := F0 m 64 ls []) rfl ?_
      have hF_33 : F_27 h0 = .inr (4, [.ref tx, .ref y0, .ref y1, .ref y2, .int (nI nn), .int (nI bs)]) := (hR h0 (by rw [hT_h0]; simp only [List.mem_cons, List.not_mem_nil, or_false]; omega)).trans hF_28
      have hF_34 : F_27 tx = .inr (0, [.ref rx, .int (nI zm), .int oo]) := (hR tx (by rw [hT_tx]; simp only [List.mem_cons, List.not_mem_nil, or_false]; omega)).trans hF_29
      have hF_35 : F_27 rx = .inl (cs 16, 3000, .inl f) := (hR rx (by rw [ht_8]; simp only [List.mem_cons, List.not_mem_nil, or_false]; omega)).trans hF_30
      obtain ⟨hv1, hv2, hv3, hN1, hN2⟩ := id hv_31
      refine lv_iload_n hx hb dX4_addBody_64 rfl (lv_at hl 0 rfl) ?_
      refine lv_if_le (tgt := 103) hx hb dX4_addBody_65 (by decide) (fun c_36 => ?_) (fun c_36 => ?_)
      ·
        have hk0 : ke = 0 := by have h9 : ke ≤ 0 := (nI_leI (b := 0) (by omega) (by omega)).mp c_36; omega
        have hst := stl_v hun_23a hun_23b hv1 hv2 (Or.inl hk0)
        have hst := hst.nl
        rw [hLL] at hst
        refine lv_aload_n hx hb dX4_addBody_103 rfl (lv_at hl 2 rfl) ?_
        refine lv_iload_n hx hb dX4_addBody_104 rfl (lv_at hl 0 rfl) ?_
        have hFc := pg_free hD hS hA
        refine va_callv (va_runV (As := [.int (nI ke)]) (rest := []) ⟨hx, hb, hml, hown, hts⟩ (s_X0_cut_e l dC dI cs ty L H.size F_27 g1 σ r1 n1 LL.length ke fc_16 hW hL_g1 hT_g1 hN1 hN2 (hv1) (by omega) (by omega)) ⟨callB_of 1 hts (gi kt_236) rfl rfl rfl (hts _ kt_1) (hts _ kt_237) (by decide +kernel) ⟨Nat.le_of_ble_eq_true rfl, Nat.le_of_ble_eq_true rfl⟩, (hts _ kt_238), (hts _ kt_239)⟩ ⟨fun a U g mk q => ⟨q.1, PT.calling q.2⟩, pg_recv hK hP hL_g1 hN1 (q := (RX0, TX0, 3)) rfl, fun U hU hWm => ⟨rfl, PT.mk hU hWm hP hK hD hE hO⟩⟩ rfl rfl hl.1 rfl (lv_room (Nat.le_of_ble_eq_true rfl)) dX4_addBody_105 ⟨by show _ + 0 ≤ 0; omega, by show _ + 0 ≤ 0; omega⟩) hS (fun q _ h => hFc q h) hFc (fun u t H1 locs ht hvm hw hB hz1 hk1 hS => ?_)
        obtain ⟨F_39, hB1, hq_40, hq_41⟩ := hB
        obtain ⟨hP, hD, hO, hR⟩ := QT.back hB1 ht hFc hR (fun q h => by simp only [List.mem_cons, List.not_mem_nil, or_false] at h ⊢; omega)
        have hF_42 : F_39 h0 = .inr (4, [.ref tx, .ref y0, .ref y1, .ref y2, .int (nI nn), .int (nI bs)]) := (hB1.2.2.2 h0 (by rw [hT_h0]; simp only [List.mem_cons, List.not_mem_nil, or_false]; omega)).trans hF_33
        have hF_43 : F_39 tx = .inr (0, [.ref rx, .int (nI zm), .int oo]) := (hB1.2.2.2 tx (by rw [hT_tx]; simp only [List.mem_cons, List.not_mem_nil, or_false]; omega)).trans hF_34
        have hF_44 : F_39 rx = .inl (cs 16, 3000, .inl f) := (hB1.2.2.2 rx (by rw [ht_8]; simp only [List.mem_cons, List.not_mem_nil, or_false]; omega)).trans hF_35
        generalize H1 = H at hP hS ⊢
        refine lv_iload_n hx hb dX4_addBody_108 rfl (lv_at hl 0 rfl) ?_
        refine lv_if_ne (tgt := 122) hx hb dX4_addBody_109 (by decide) (fun c_45 => absurd (by rw [hk0]; rfl) c_45) (fun c_45 => ?_)
        refine lv_iload_n hx hb dX4_addBody_112 rfl (lv_at hl 3 rfl) ?_
        refine lv_if_ne (tgt := 122) hx hb dX4_addBody_113 (by decide) (fun c_46 => ?_) (fun c_46 => ?_)
        ·
          refine W.widen (k := 0) (n := 0) (by omega) (by omega) ?_
          exact W.vret hx hb hr (fun t ht hWm => ⟨⟨(), rfl, trivial, ⟨F_39, ke, fc_16, QT.mk ht hP hD hO hR, hq_40, (bdn_n hst (fun q => c_46 q.2)), hq_41, ⟨ke, hst, Or.inr ⟨(fun q => c_46 q.2), rfl, (fun j y hj hy => hun_23a j y (by rw [List.getElem?_append_left (by rw [← hLL]; omega), ← hLL] at hy; exact hy))⟩⟩⟩⟩, hS.F ht⟩) hS.2.2 dX4_addBody_122
        ·
          refine lv_aload_n hx hb dX4_addBody_116 rfl (lv_at hl 2 rfl) ?_
          refine lv_bipush (v := 10) hx hb dX4_addBody_117 (by decide) ?_
          have hFc := pg_free hD hS hA
          refine va_callv (va_runV (As := [.int 10]) (rest := []) ⟨hx, hb, hml, hown, hts⟩ (s_X0_add_e l dC dI cs ty L H.size F_39 g1 σ r1 n1 ke fc_16 10 hW hL_g1 hT_g1 hq_40 hq_41 (by omega) (by omega)) ⟨callB_of 1 hts (gi kt_13) rfl rfl rfl (hts _ kt_1) (hts _ kt_230) (by decide +kernel) ⟨Nat.le_of_ble_eq_true rfl, Nat.le_of_ble_eq_true rfl⟩, (hts _ kt_15), (hts _ kt_16)⟩ ⟨fun a U g mk q => ⟨q.1, PT.calling q.2⟩, pg_recv hK hP hL_g1 hq_40 (q := (RX0, TX0, 3)) rfl, fun U hU hWm => ⟨rfl, PT.mk hU hWm hP hK hD hE hO⟩⟩ rfl rfl hl.1 rfl (lv_room (Nat.le_of_ble_eq_true rfl)) dX4_addBody_119 ⟨by show _ + 0 ≤ 0; omega, by show _ + 0 ≤ 0; omega⟩) hS (fun q _ h => hFc q h) hFc (fun u t H1 locs ht hvm hw hB hz1 hk1 hS => ?_)
          obtain ⟨F_48, hB1, hq_49, hq_50⟩ := hB
          obtain ⟨hP, hD, hO, hR⟩ := QT.back hB1 ht hFc hR (fun q h => by simp only [List.mem_cons, List.not_mem_nil, or_false] at h ⊢; omega)
          have hF_51 : F_48 h0 = .inr (4, [.ref tx, .ref y0, .ref y1, .ref y2, .int (nI nn), .int (nI bs)]) := (hB1.2.2.2 h0 (by rw [hT_h0]; simp only [List.mem_cons, List.not_mem_nil, or_false]; omega)).trans hF_42
          have hF_52 : F_48 tx = .inr (0, [.ref rx, .int (nI zm), .int oo]) := (hB1.2.2.2 tx (by rw [hT_tx]; simp only [List.mem_cons, List.not_mem_nil, or_false]; omega)).trans hF_43
          have hF_53 : F_48 rx = .inl (cs 16, 3000, .inl f) := (hB1.2.2.2 rx (by rw [ht_8]; simp only [List.mem_cons, List.not_mem_nil, or_false]; omega)).trans hF_44
          generalize H1 = H at hP hS ⊢
          refine W.widen (k := 0) (n := 0) (by omega) (by omega) ?_
          exact W.vret hx hb hr (fun t ht hWm => ⟨⟨(), rfl, trivial, ⟨F_48, 1, (upd fc_16 ke 10), QT.mk ht hP hD hO hR, (by have h9 := hq_49; rw [hk0] at h9; exact h9), (bdn_0 hst hk0 c_46), hq_50, ⟨ke, hst, Or.inl ⟨hk0, c_46, rfl, (by rw [hk0]; exact updc_at)⟩⟩⟩⟩, hS.F ht⟩) hS.2.2 dX4_addBody_122
      ·
        have hkp : 0 < ke := posN c_36
        refine lv_aload_n hx hb dX4_addBody_68 rfl (lv_at hl 2 rfl) ?_
        refine lv_iload_n hx hb dX4_addBody_69 rfl (lv_at hl 0 rfl) ?_
        refine lv_iconst (v := 1) hx hb dX4_addBody_70 (by decide) ?_
        refine lv_isub hx hb dX4_addBody_71 ?_
        refine lv_topi (fun x_55 ex_55 => ?_)
        obtain rfl : x_55 = (nI (ke - 1)) := ex_55.trans (pk_sub (b := 1) (by omega))
        have hFc := pg_free hD hS hA
        refine va_calli (va_runV (As := [.int (nI (ke - 1))]) (rest := []) ⟨hx, hb, hml, hown, hts⟩ (s_X0_at_o l dC dI cs ty L H.size F_27 g1 σ r1 n1 LL.length (ke - 1) fc_16 0 hW hL_g1 hT_g1 hN1 hN2 (by omega) (by omega) (by omega)) ⟨callB_of 1 hts (gi kt_21) rfl rfl rfl (hts _ kt_1) (hts _ kt_199) (by decide +kernel) ⟨Nat.le_of_ble_eq_true rfl, Nat.le_of_ble_eq_true rfl⟩, (hts _ kt_23), (hts _ kt_24)⟩ ⟨fun a U g mk q => ⟨q.1, PT.calling q.2⟩, pg_recv hK hP hL_g1 hN1 (q := (RX0, TX0, 3)) rfl, fun U hU hWm => ⟨rfl, PT.mk hU hWm hP hK hD hE hO⟩⟩ rfl rfl hl.1 rfl (lv_room (Nat.le_of_ble_eq_true rfl)) dX4_addBody_72 ⟨by show _ + 0 ≤ 0; omega, by show _ + 0 ≤ 0; omega⟩) hS (fun q _ h => hFc q h) hFc (fun r_56 u t H1 locs ht hvm hw hB hz1 hk1 hS => ?_)
        obtain ⟨F_57, hB1⟩ := hB
        obtain rfl : F_27 = F_57 := (funext (fun a => hB1.2.2.2 a List.not_mem_nil)).symm
        obtain ⟨hP, hD, hO, hR⟩ := QT.back hB1 ht hFc hR (fun q h => absurd h List.not_mem_nil)
        generalize H1 = H at hP hS ⊢
        have hw : r_56 = fc_16 (ke - 1) := hw
        have hw_58 := hw
        subst hw_58
        refine lv_bipush (v := 10) hx hb dX4_addBody_75 (by decide) ?_
        refine lv_icmp_ne (tgt := 103) hx hb dX4_addBody_77 (by decide) (fun c_59 => absurd (hv3.resolve_left (by omega)) c_59) (fun c_59 => ?_)
        refine lv_iload_n hx hb dX4_addBody_80 rfl (lv_at hl 0 rfl) ?_
        refine lv_iconst (v := 1) hx hb dX4_addBody_81 (by decide) ?_
        refine lv_icmp_eq (tgt := 97) hx hb dX4_addBody_82 (by decide) (fun c_60 => ?_) (fun c_60 => ?_)
        ·
          have hk1 : ke = 1 := (nI_eq (b := 1) (by omega) (by omega)).mp c_60
          refine lv_iinc (v := (nI (ke - 1))) (lv' := [(3, .int (nI (ke - 1))), (0, .ref h0), (1, .ref g1), (2, .int x2)]) hx hb dX4_addBody_97 hl (k := 0) rfl (m1N (by omega)) (by decide) rfl (fun ls hl => ?_)
          refine lv_goto (tgt := 64) hx hb dX4_addBody_100 (by decide) ?_
          refine W.widen (k := 0) (n := 0) (by omega) (by omega) ?_
          exact ih_32 (ke - 1) F_27 (⟨by omega, fun j h1 h2 => by rcases Nat.lt_or_ge j ke with q | q; rw [show j = ke - 1 by omega]; exact hv3.resolve_left (by omega); exact hv2 j q h2, Or.inl (by omega), hN1, hN2⟩) (by show (ke - 1) < ke; omega) hO hR _ _ hP hD hS ls (lv_sub hl [0, 1, 2, 3] rfl)
        ·
          have hk2 : 2 ≤ ke := by have h9 : ke ≠ 1 := fun q => c_60 (by rw [q]; rfl); omega
          refine lv_aload_n hx hb dX4_addBody_85 rfl (lv_at hl 2 rfl) ?_
          refine lv_iload_n hx hb dX4_addBody_86 rfl (lv_at hl 0 rfl) ?_
          refine lv_iconst (v := 2) hx hb dX4_addBody_87 (by decide) ?_
          refine lv_isub hx hb dX4_addBody_88 ?_
          refine lv_topi (fun x_63 ex_63 => ?_)
          obtain rfl : x_63 = (nI (ke - 2)) := ex_63.trans (pk_sub (b := 2) (by omega))
          have hFc := pg_free hD hS hA
          refine va_calli (va_runV (As := [.int (nI (ke - 2))]) (rest := []) ⟨hx, hb, hml, hown, hts⟩ (s_X0_at_o l dC dI cs ty L H.size F_27 g1 σ r1 n1 LL.length (ke - 2) fc_16 0 hW hL_g1 hT_g1 hN1 hN2 (by omega) (by omega) (by omega)) ⟨callB_of 1 hts (gi kt_21) rfl rfl rfl (hts _ kt_1) (hts _ kt_199) (by decide +kernel) ⟨Nat.le_of_ble_eq_true rfl, Nat.le_of_ble_eq_true rfl⟩, (hts _ kt_23), (hts _ kt_24)⟩ ⟨fun a U g mk q => ⟨q.1, PT.calling q.2⟩, pg_recv hK hP hL_g1 hN1 (q := (RX0, TX0, 3)) rfl, fun U hU hWm => ⟨rfl, PT.mk hU hWm hP hK hD hE hO⟩⟩ rfl rfl hl.1 rfl (lv_room (Nat.le_of_ble_eq_true rfl)) dX4_addBody_89 ⟨by show _ + 0 ≤ 0; omega, by show _ + 0 ≤ 0; omega⟩) hS (fun q _ h => hFc q h) hFc (fun r_64 u t H1 locs ht hvm hw hB hz1 hk1 hS => ?_)
          obtain ⟨F_65, hB1⟩ := hB
          obtain rfl : F_27 = F_65 := (funext (fun a => hB1.2.2.2 a List.not_mem_nil)).symm
          obtain ⟨hP, hD, hO, hR⟩ := QT.back hB1 ht hFc hR (fun q h => absurd h List.not_mem_nil)
          generalize H1 = H at hP hS ⊢
          have hw : r_64 = fc_16 (ke - 2) := hw
          have hw_66 := hw
          subst hw_66
          refine lv_bipush (v := 10) hx hb dX4_addBody_92 (by decide) ?_
          refine lv_icmp_ne (tgt := 103) hx hb dX4_addBody_94 (by decide) (fun c_67 => ?_) (fun c_67 => ?_)
          ·
            have hst := stl_v hun_23a hun_23b hv1 hv2 (Or.inr ⟨hk2, hv3.resolve_left (by omega), c_67⟩)
            have hst := hst.nl
            rw [hLL] at hst
            refine lv_aload_n hx hb dX4_addBody_103 rfl (lv_at hl 2 rfl) ?_
            refine lv_iload_n hx hb dX4_addBody_104 rfl (lv_at hl 0 rfl) ?_
            have hFc := pg_free hD hS hA
            refine va_callv (va_runV (As := [.int (nI ke)]) (rest := []) ⟨hx, hb, hml, hown, hts⟩ (s_X0_cut_e l dC dI cs ty L H.size F_27 g1 σ r1 n1 LL.length ke fc_16 hW hL_g1 hT_g1 hN1 hN2 (hv1) (by omega) (by omega)) ⟨callB_of 1 hts (gi kt_236) rfl rfl rfl (hts _ kt_1) (hts _ kt_237) (by decide +kernel) ⟨Nat.le_of_ble_eq_true rfl, Nat.le_of_ble_eq_true rfl⟩, (hts _ kt_238), (hts _ kt_239)⟩ ⟨fun a U g mk q => ⟨q.1, PT.calling q.2⟩, pg_recv hK hP hL_g1 hN1 (q := (RX0, TX0, 3)) rfl, fun U hU hWm => ⟨rfl, PT.mk hU hWm hP hK hD hE hO⟩⟩ rfl rfl hl.1 rfl (lv_room (Nat.le_of_ble_eq_true rfl)) dX4_addBody_105 ⟨by show _ + 0 ≤ 0; omega, by show _ + 0 ≤ 0; omega⟩) hS (fun q _ h => hFc q h) hFc (fun u t H1 locs ht hvm hw hB hz1 hk1 hS => ?_)
            obtain ⟨F_69, hB1, hq_70, hq_71⟩ := hB
            obtain ⟨hP, hD, hO, hR⟩ := QT.back hB1 ht hFc hR (fun q h => by simp only [List.mem_cons, List.not_mem_nil, or_false] at h ⊢; omega)
            have hF_72 : F_69 h0 = .inr (4, [.ref tx, .ref y0, .ref y1, .ref y2, .int (nI nn), .int (nI bs)]) := (hB1.2.2.2 h0 (by rw [hT_h0]; simp only [List.mem_cons, List.not_mem_nil, or_false]; omega)).trans hF_33
            have hF_73 : F_69 tx = .inr (0, [.ref rx, .int (nI zm), .int oo]) := (hB1.2.2.2 tx (by rw [hT_tx]; simp only [List.mem_cons, List.not_mem_nil, or_false]; omega)).trans hF_34
            have hF_74 : F_69 rx = .inl (cs 16, 3000, .inl f) := (hB1.2.2.2 rx (by rw [ht_8]; simp only [List.mem_cons, List.not_mem_nil, or_false]; omega)).trans hF_35
            generalize H1 = H at hP hS ⊢
            refine lv_iload_n hx hb dX4_addBody_108 rfl (lv_at hl 0 rfl) ?_
            refine lv_if_ne (tgt := 122) hx hb dX4_addBody_109 (by decide) (fun c_75 => ?_) (fun c_75 => absurd c_75 (fun q => absurd ((nI_eq (b := 0) (by omega) (by omega)).mp q) (by omega)))
            refine W.widen (k := 0) (n := 0) (by omega) (by omega) ?_
            exact W.vret hx hb hr (fun t ht hWm => ⟨⟨(), rfl, trivial, ⟨F_69, ke, fc_16, QT.mk ht hP hD hO hR, hq_70, (bdn_n hst (fun q => by have q1 := q.1; omega)), hq_71, ⟨ke, hst, Or.inr ⟨(fun q => by have q1 := q.1; omega), rfl, (fun j y hj hy => hun_23a j y (by rw [List.getElem?_append_left (by rw [← hLL]; omega), ← hLL] at hy; exact hy))⟩⟩⟩⟩, hS.F ht⟩) hS.2.2 dX4_addBody_122
          ·
            refine lv_iinc (v := (nI (ke - 1))) (lv' := [(3, .int (nI (ke - 1))), (0, .ref h0), (1, .ref g1), (2, .int x2)]) hx hb dX4_addBody_97 hl (k := 0) rfl (m1N (by omega)) (by decide) rfl (fun ls hl => ?_)
            refine lv_goto (tgt := 64) hx hb dX4_addBody_100 (by decide) ?_
            refine W.widen (k := 0) (n := 0) (by omega) (by omega) ?_
            exact ih_32 (ke - 1) F_27 (⟨by omega, fun j h1 h2 => by rcases Nat.lt_or_ge j ke with q | q; rw [show j = ke - 1 by omega]; exact hv3.resolve_left (by omega); exact hv2 j q h2, Or.inr (by rw [show ke - 1 - 1 = ke - 2 by omega]; exact c_67), hN1, hN2⟩) (by show (ke - 1) < ke; omega) hO hR _ _ hP hD hS ls (lv_sub hl [0, 1, 2, 3] rfl)
    ·
      have hlp : 0 < LL.length := posN c_25
      refine lv_aload_n hx hb dX4_addBody_38 rfl (lv_at hl 1 rfl) ?_
      refine lv_aload_n hx hb dX4_addBody_39 rfl (lv_at hl 1 rfl) ?_
      refine pg_getN (ci := 0) (v := .int (nI LL.length)) (C := RX0) (T := TX0) (N := 3) hx hb hts it_0 hown hK hP hL_g1 hF_24 rfl 1 (by decide) (hE.nest kn_6) (fun _ h9 => h9) rfl dX4_addBody_40 ?_
      refine lv_iconst (v := 1) hx hb dX4_addBody_43 (by decide) ?_
      refine lv_isub hx hb dX4_addBody_44 ?_
      refine lv_topi (fun x_77 ex_77 => ?_)
      obtain rfl : x_77 = (nI (LL.length - 1)) := ex_77.trans (pk_sub (b := 1) (by omega))
      have hFc := pg_free hD hS hA
      refine va_calli (va_runV (As := [.int (nI (LL.length - 1))]) (rest := []) ⟨hx, hb, hml, hown, hts⟩ (s_X0_at_o l dC dI cs ty L H.size F_15 g1 σ r1 n1 LL.length (LL.length - 1) fc_16 0 hW hL_g1 hT_g1 hF_24 hq_18 (by omega) (by omega) (by omega)) ⟨callB_of 1 hts (gi kt_21) rfl rfl rfl (hts _ kt_1) (hts _ kt_199) (by decide +kernel) ⟨Nat.le_of_ble_eq_true rfl, Nat.le_of_ble_eq_true rfl⟩, (hts _ kt_23), (hts _ kt_24)⟩ ⟨fun a U g mk q => ⟨q.1, PT.calling q.2⟩, pg_recv hK hP hL_g1 hF_24 (q := (RX0, TX0, 3)) rfl, fun U hU hWm => ⟨rfl, PT.mk hU hWm hP hK hD hE hO⟩⟩ rfl rfl hl.1 rfl (lv_room (Nat.le_of_ble_eq_true rfl)) dX4_addBody_45 ⟨by show _ + 0 ≤ 0; omega, by show _ + 0 ≤ 0; omega⟩) hS (fun q _ h => hFc q h) hFc (fun r_78 u t H1 locs ht hvm hw hB hz1 hk1 hS => ?_)
      obtain ⟨F_79, hB1⟩ := hB
      obtain rfl : F_15 = F_79 := (funext (fun a => hB1.2.2.2 a List.not_mem_nil)).symm
      obtain ⟨hP, hD, hO, hR⟩ := QT.back hB1 ht hFc hR (fun q h => absurd h List.not_mem_nil)
      generalize H1 = H at hP hS ⊢
      have hw : r_78 = fc_16 (LL.length - 1) := hw
      have hw_80 := hw
      subst hw_80
      refine lv_bipush (v := 10) hx hb dX4_addBody_48 (by decide) ?_
      refine lv_icmp_eq (tgt := 59) hx hb dX4_addBody_50 (by decide) (fun c_81 => ?_) (fun c_81 => ?_)
      ·
        have hWl : LL.length ≤ zm - bs + 1 := by omega
        have hend : LL.length = 0 ∨ fc_16 (LL.length - 1) = 10 := Or.inr c_81
        refine lv_aload_n hx hb dX4_addBody_59 rfl (lv_at hl 1 rfl) ?_
        refine pg_getN (ci := 0) (v := .int (nI LL.length)) (C := RX0) (T := TX0) (N := 3) hx hb hts it_0 hown hK hP hL_g1 hF_24 rfl 1 (by decide) (hE.nest kn_6) (fun _ h9 => h9) rfl dX4_addBody_60 ?_
        refine lv_istore_n (lv' := [(3, .int (nI LL.length)), (0, .ref h0), (1, .ref g1), (2, .int x2)]) hx hb dX4_addBody_63 rfl hl (by decide) rfl (fun ls hl => ?_)
        refine W.widen (k := 0) (n := 0) (by omega) (by omega) ?_
        have hF_83 : F h0 = .inr (4, [.ref tx, .ref y0, .ref y1, .ref y2, .int (nI nn), .int (nI bs)]) := (hR h0 (by rw [hT_h0]; simp only [List.mem_cons, List.not_mem_nil, or_false]; omega)).symm.trans hF_20
        have hF_84 : F tx = .inr (0, [.ref rx, .int (nI zm), .int oo]) := (hR tx (by rw [hT_tx]; simp only [List.mem_cons, List.not_mem_nil, or_false]; omega)).symm.trans hF_21
        have hF_85 : F rx = .inl (cs 16, 3000, .inl f) := (hR rx (by rw [ht_8]; simp only [List.mem_cons, List.not_mem_nil, or_false]; omega)).symm.trans hF_22
        refine pl_loop (σ := Nat) A (dC, dI) cs ty L [σ] F 64 4 (fun ke => [(3, .int (nI ke)), (0, .ref h0), (1, .ref g1), (2, .int x2)]) (fun ke => []) (fun ke FF => ke ≤ LL.length ∧ (∀ j, ke ≤ j → j < LL.length → fc_16 j = 10) ∧ (ke = 0 ∨ fc_16 (ke - 1) = 10) ∧ FF g1 = .inr (0, [.ref r1, .int (nI LL.length), .int 0]) ∧ FF r1 = .inl (cs 16, n1, .inl fc_16)) (fun ke => ke) ?_ LL.length F_15 (⟨Nat.le_refl _, fun j h1 h2 => by omega, hend, hF_24, hq_18⟩) hO hR _ _ hP hD hS ls (lv_sub hl [0, 1, 2, 3] rfl)
        rintro ke F_82 hv_86 hO hR ih_87 H locs hP hD hS ls hl
        have hl : lv_has ls 4 [(3, .int (nI ke)), (0, .ref h0), (1, .ref g1), (2, .int x2)] := hl
        have hv_86 : ke ≤ LL.length ∧ (∀ j, ke ≤ j → j < LL.length → fc_16 j = 10) ∧ (ke = 0 ∨ fc_16 (ke - 1) = 10) ∧ F_82 g1 = .inr (0, [.ref r1, .int (nI LL.length), .int 0]) ∧ F_82 r1 = .inl (cs 16, n1, .inl fc_16) := hv_86
        refine W.eq (g2 := F0 m 64 ls []) rfl ?_
        have hF_88 : F_82 h0 = .inr (4, [.ref tx, .ref y0, .ref y1, .ref y2, .int (nI nn), .int (nI bs)]) := (hR h0 (by rw [hT_h0]; simp only [List.mem_cons, List.not_mem_nil, or_false]; omega)).trans hF_83
        have hF_89 : F_82 tx = .inr (0, [.ref rx, .int (nI zm), .int oo]) := (hR tx (by rw [hT_tx]; simp only [List.mem_cons, List.not_mem_nil, or_false]; omega)).trans hF_84
        have hF_90 : F_82 rx = .inl (cs 16, 3000, .inl f) := (hR rx (by rw [ht_8]; simp only [List.mem_cons, List.not_mem_nil, or_false]; omega)).trans hF_85
        obtain ⟨hv1, hv2, hv3, hN1, hN2⟩ := id hv_86
        refine lv_iload_n hx hb dX4_addBody_64 rfl (lv_at hl 0 rfl) ?_
        refine lv_if_le (tgt := 103) hx hb dX4_addBody_65 (by decide) (fun c_91 => ?_) (fun c_91 => ?_)
        ·
          have hk0 : ke = 0 := by have h9 : ke ≤ 0 := (nI_leI (b := 0) (by omega) (by omega)).mp c_91; omega
          have hst := stl_v hun_23a hun_23b hv1 hv2 (Or.inl hk0)
          have hst := hst.nl
          rw [hLL] at hst
          refine lv_aload_n hx hb dX4_addBody_103 rfl (lv_at hl 2 rfl) ?_
          refine lv_iload_n hx hb dX4_addBody_104 rfl (lv_at hl 0 rfl) ?_
          have hFc := pg_free hD hS hA
          refine va_callv (va_runV (As := [.int (nI ke)]) (rest := []) ⟨hx, hb, hml, hown, hts⟩ (s_X0_cut_e l dC dI cs ty L H.size F_82 g1 σ r1 n1 LL.length ke fc_16 hW hL_g1 hT_g1 hN1 hN2 (hv1) (by omega) (by omega)) ⟨callB_of 1 hts (gi kt_236) rfl rfl rfl (hts _ kt_1) (hts _ kt_237) (by decide +kernel) ⟨Nat.le_of_ble_eq_true rfl, Nat.le_of_ble_eq_true rfl⟩, (hts _ kt_238), (hts _ kt_239)⟩ ⟨fun a U g mk q => ⟨q.1, PT.calling q.2⟩, pg_recv hK hP hL_g1 hN1 (q := (RX0, TX0, 3)) rfl, fun U hU hWm => ⟨rfl, PT.mk hU hWm hP hK hD hE hO⟩⟩ rfl rfl hl.1 rfl (lv_room (Nat.le_of_ble_eq_true rfl)) dX4_addBody_105 ⟨by show _ + 0 ≤ 0; omega, by show _ + 0 ≤ 0; omega⟩) hS (fun q _ h => hFc q h) hFc (fun u t H1 locs ht hvm hw hB hz1 hk1 hS => ?_)
          obtain ⟨F_94, hB1, hq_95, hq_96⟩ := hB
          obtain ⟨hP, hD, hO, hR⟩ := QT.back hB1 ht hFc hR (fun q h => by simp only [List.mem_cons, List.not_mem_nil, or_false] at h ⊢; omega)
          have hF_97 : F_94 h0 = .inr (4, [.ref tx, .ref y0, .ref y1, .ref y2, .int (nI nn), .int (nI bs)]) := (hB1.2.2.2 h0 (by rw [hT_h0]; simp only [List.mem_cons, List.not_mem_nil, or_false]; omega)).trans hF_88
          have hF_98 : F_94 tx = .inr (0, [.ref rx, .int (nI zm), .int oo]) := (hB1.2.2.2 tx (by rw [hT_tx]; simp only [List.mem_cons, List.not_mem_nil, or_false]; omega)).trans hF_89
          have hF_99 : F_94 rx = .inl (cs 16, 3000, .inl f) := (hB1.2.2.2 rx (by rw [ht_8]; simp only [List.mem_cons, List.not_mem_nil, or_false]; omega)).trans hF_90
          generalize H1 = H at hP hS ⊢
          refine lv_iload_n hx hb dX4_addBody_108 rfl (lv_at hl 0 rfl) ?_
          refine lv_if_ne (tgt := 122) hx hb dX4_addBody_109 (by decide) (fun c_100 => absurd (by rw [hk0]; rfl) c_100) (fun c_100 => ?_)
          refine lv_iload_n hx hb dX4_addBody_112 rfl (lv_at hl 3 rfl) ?_
          refine lv_if_ne (tgt := 122) hx hb dX4_addBody_113 (by decide) (fun c_101 => ?_) (fun c_101 => ?_)
          ·
            refine W.widen (k := 0) (n := 0) (by omega) (by omega) ?_
            exact W.vret hx hb hr (fun t ht hWm => ⟨⟨(), rfl, trivial, ⟨F_94, ke, fc_16, QT.mk ht hP hD hO hR, hq_95, (bdn_n hst (fun q => c_101 q.2)), hq_96, ⟨ke, hst, Or.inr ⟨(fun q => c_101 q.2), rfl, (fun j y hj hy => hun_23a j y (by rw [List.getElem?_append_left (by rw [← hLL]; omega), ← hLL] at hy; exact hy))⟩⟩⟩⟩, hS.F ht⟩) hS.2.2 dX4_addBody_122
          ·
            refine lv_aload_n hx hb dX4_addBody_116 rfl (lv_at hl 2 rfl) ?_
            refine lv_bipush (v := 10) hx hb dX4_addBody_117 (by decide) ?_
            have hFc := pg_free hD hS hA
            refine va_callv (va_runV (As := [.int 10]) (rest := []) ⟨hx, hb, hml, hown, hts⟩ (s_X0_add_e l dC dI cs ty L H.size F_94 g1 σ r1 n1 ke fc_16 10 hW hL_g1 hT_g1 hq_95 hq_96 (by omega) (by omega)) ⟨callB_of 1 hts (gi kt_13) rfl rfl rfl (hts _ kt_1) (hts _ kt_230) (by decide +kernel) ⟨Nat.le_of_ble_eq_true rfl, Nat.le_of_ble_eq_true rfl⟩, (hts _ kt_15), (hts _ kt_16)⟩ ⟨fun a U g mk q => ⟨q.1, PT.calling q.2⟩, pg_recv hK hP hL_g1 hq_95 (q := (RX0, TX0, 3)) rfl, fun U hU hWm => ⟨rfl, PT.mk hU hWm hP hK hD hE hO⟩⟩ rfl rfl hl.1 rfl (lv_room (Nat.le_of_ble_eq_true rfl)) dX4_addBody_119 ⟨by show _ + 0 ≤ 0; omega, by show _ + 0 ≤ 0; omega⟩) hS (fun q _ h => hFc q h) hFc (fun u t H1 locs ht hvm hw hB hz1 hk1 hS => ?_)
            obtain ⟨F_103, hB1, hq_104, hq_105⟩ := hB
            obtain ⟨hP, hD, hO, hR⟩ := QT.back hB1 ht hFc hR (fun q h => by simp only [List.mem_cons, List.not_mem_nil, or_false] at h ⊢; omega)
            have hF_106 : F_103 h0 = .inr (4, [.ref tx, .ref y0, .ref y1, .ref y2, .int (nI nn), .int (nI bs)]) := (hB1.2.2.2 h0 (by rw [hT_h0]; simp only [List.mem_cons, List.not_mem_nil, or_false]; omega)).trans hF_97
            have hF_107 : F_103 tx = .inr (0, [.ref rx, .int (nI zm), .int oo]) := (hB1.2.2.2 tx (by rw [hT_tx]; simp only [List.mem_cons, List.not_mem_nil, or_false]; omega)).trans hF_98
            have hF_108 : F_103 rx = .inl (cs 16, 3000, .inl f) := (hB1.2.2.2 rx (by rw [ht_8]; simp only [List.mem_cons, List.not_mem_nil, or_false]; omega)).trans hF_99
            generalize H1 = H at hP hS ⊢
            refine W.widen (k := 0) (n := 0) (by omega) (by omega) ?_
            exact W.vret hx hb hr (fun t ht hWm => ⟨⟨(), rfl, trivial, ⟨F_103, 1, (upd fc_16 ke 10), QT.mk ht hP hD hO hR, (by have h9 := hq_104; rw [hk0] at h9; exact h9), (bdn_0 hst hk0 c_101), hq_105, ⟨ke, hst, Or.inl ⟨hk0, c_101, rfl, (by rw [hk0]; exact updc_at)⟩⟩⟩⟩, hS.F ht⟩) hS.2.2 dX4_addBody_122
        ·
          have hkp : 0 < ke := posN c_91
          refine lv_aload_n hx hb dX4_addBody_68 rfl (lv_at hl 2 rfl) ?_
          refine lv_iload_n hx hb dX4_addBody_69 rfl (lv_at hl 0 rfl) ?_
          refine lv_iconst (v := 1) hx hb dX4_addBody_70 (by decide) ?_
          refine lv_isub hx hb dX4_addBody_71 ?_
          refine lv_topi (fun x_110 ex_110 => ?_)
          obtain rfl : x_110 = (nI (ke - 1)) := ex_110.trans (pk_sub (b := 1) (by omega))
          have hFc := pg_free hD hS hA
          refine va_calli (va_runV (As := [.int (nI (ke - 1))]) (rest := []) ⟨hx, hb, hml, hown, hts⟩ (s_X0_at_o l dC dI cs ty L H.size F_82 g1 σ r1 n1 LL.length (ke - 1) fc_16 0 hW hL_g1 hT_g1 hN1 hN2 (by omega) (by omega) (by omega)) ⟨callB_of 1 hts (gi kt_21) rfl rfl rfl (hts _ kt_1) (hts _ kt_199) (by decide +kernel) ⟨Nat.le_of_ble_eq_true rfl, Nat.le_of_ble_eq_true rfl⟩, (hts _ kt_23), (hts _ kt_24)⟩ ⟨fun a U g mk q => ⟨q.1, PT.calling q.2⟩, pg_recv hK hP hL_g1 hN1 (q := (RX0, TX0, 3)) rfl, fun U hU hWm => ⟨rfl, PT.mk hU hWm hP hK hD hE hO⟩⟩ rfl rfl hl.1 rfl (lv_room (Nat.le_of_ble_eq_true rfl)) dX4_addBody_72 ⟨by show _ + 0 ≤ 0; omega, by show _ + 0 ≤ 0; omega⟩) hS (fun q _ h => hFc q h) hFc (fun r_111 u t H1 locs ht hvm hw hB hz1 hk1 hS => ?_)
          obtain ⟨F_112, hB1⟩ := hB
          obtain rfl : F_82 = F_112 := (funext (fun a => hB1.2.2.2 a List.not_mem_nil)).symm
          obtain ⟨hP, hD, hO, hR⟩ := QT.back hB1 ht hFc hR (fun q h => absurd h List.not_mem_nil)
          generalize H1 = H at hP hS ⊢
          have hw : r_111 = fc_16 (ke - 1) := hw
          have hw_113 := hw
          subst hw_113
          refine lv_bipush (v := 10) hx hb dX4_addBody_75 (by decide) ?_
          refine lv_icmp_ne (tgt := 103) hx hb dX4_addBody_77 (by decide) (fun c_114 => absurd (hv3.resolve_left (by omega)) c_114) (fun c_114 => ?_)
          refine lv_iload_n hx hb dX4_addBody_80 rfl (lv_at hl 0 rfl) ?_
          refine lv_iconst (v := 1) hx hb dX4_addBody_81 (by decide) ?_
          refine lv_icmp_eq (tgt := 97) hx hb dX4_addBody_82 (by decide) (fun c_115 => ?_) (fun c_115 => ?_)
          ·
            have hk1 : ke = 1 := (nI_eq (b := 1) (by omega) (by omega)).mp c_115
            refine lv_iinc (v := (nI (ke - 1))) (lv' := [(3, .int (nI (ke - 1))), (0, .ref h0), (1, .ref g1), (2, .int x2)]) hx hb dX4_addBody_97 hl (k := 0) rfl (m1N (by omega)) (by decide) rfl (fun ls hl => ?_)
            refine lv_goto (tgt := 64) hx hb dX4_addBody_100 (by decide) ?_
            refine W.widen (k := 0) (n := 0) (by omega) (by omega) ?_
            exact ih_87 (ke - 1) F_82 (⟨by omega, fun j h1 h2 => by rcases Nat.lt_or_ge j ke with q | q; rw [show j = ke - 1 by omega]; exact hv3.resolve_left (by omega); exact hv2 j q h2, Or.inl (by omega), hN1, hN2⟩) (by show (ke - 1) < ke; omega) hO hR _ _ hP hD hS ls (lv_sub hl [0, 1, 2, 3] rfl)
          ·
            have hk2 : 2 ≤ ke := by have h9 : ke ≠ 1 := fun q => c_115 (by rw [q]; rfl); omega
            refine lv_aload_n hx hb dX4_addBody_85 rfl (lv_at hl 2 rfl) ?_
            refine lv_iload_n hx hb dX4_addBody_86 rfl (lv_at hl 0 rfl) ?_
            refine lv_iconst (v := 2) hx hb dX4_addBody_87 (by decide) ?_
            refine lv_isub hx hb dX4_addBody_88 ?_
            refine lv_topi (fun x_118 ex_118 => ?_)
            obtain rfl : x_118 = (nI (ke - 2)) := ex_118.trans (pk_sub (b := 2) (by omega))
            have hFc := pg_free hD hS hA
            refine va_calli (va_runV (As := [.int (nI (ke - 2))]) (rest := []) ⟨hx, hb, hml, hown, hts⟩ (s_X0_at_o l dC dI cs ty L H.size F_82 g1 σ r1 n1 LL.length (ke - 2) fc_16 0 hW hL_g1 hT_g1 hN1 hN2 (by omega) (by omega) (by omega)) ⟨callB_of 1 hts (gi kt_21) rfl rfl rfl (hts _ kt_1) (hts _ kt_199) (by decide +kernel) ⟨Nat.le_of_ble_eq_true rfl, Nat.le_of_ble_eq_true rfl⟩, (hts _ kt_23), (hts _ kt_24)⟩ ⟨fun a U g mk q => ⟨q.1, PT.calling q.2⟩, pg_recv hK hP hL_g1 hN1 (q := (RX0, TX0, 3)) rfl, fun U hU hWm => ⟨rfl, PT.mk hU hWm hP hK hD hE hO⟩⟩ rfl rfl hl.1 rfl (lv_room (Nat.le_of_ble_eq_true rfl)) dX4_addBody_89 ⟨by show _ + 0 ≤ 0; omega, by show _ + 0 ≤ 0; omega⟩) hS (fun q _ h => hFc q h) hFc (fun r_119 u t H1 locs ht hvm hw hB hz1 hk1 hS => ?_)
            obtain ⟨F_120, hB1⟩ := hB
            obtain rfl : F_82 = F_120 := (funext (fun a => hB1.2.2.2 a List.not_mem_nil)).symm
            obtain ⟨hP, hD, hO, hR⟩ := QT.back hB1 ht hFc hR (fun q h => absurd h List.not_mem_nil)
            generalize H1 = H at hP hS ⊢
            have hw : r_119 = fc_16 (ke - 2) := hw
            have hw_121 := hw
            subst hw_121
            refine lv_bipush (v := 10) hx hb dX4_addBody_92 (by decide) ?_
            refine lv_icmp_ne (tgt := 103) hx hb dX4_addBody_94 (by decide) (fun c_122 => ?_) (fun c_122 => ?_)
            ·
              have hst := stl_v hun_23a hun_23b hv1 hv2 (Or.inr ⟨hk2, hv3.resolve_left (by omega), c_122⟩)
              have hst := hst.nl
              rw [hLL] at hst
              refine lv_aload_n hx hb dX4_addBody_103 rfl (lv_at hl 2 rfl) ?_
              refine lv_iload_n hx hb dX4_addBody_104 rfl (lv_at hl 0 rfl) ?_
              have hFc := pg_free hD hS hA
              refine va_callv (va_runV (As := [.int (nI ke)]) (rest := []) ⟨hx, hb, hml, hown, hts⟩ (s_X0_cut_e l dC dI cs ty L H.size F_82 g1 σ r1 n1 LL.length ke fc_16 hW hL_g1 hT_g1 hN1 hN2 (hv1) (by omega) (by omega)) ⟨callB_of 1 hts (gi kt_236) rfl rfl rfl (hts _ kt_1) (hts _ kt_237) (by decide +kernel) ⟨Nat.le_of_ble_eq_true rfl, Nat.le_of_ble_eq_true rfl⟩, (hts _ kt_238), (hts _ kt_239)⟩ ⟨fun a U g mk q => ⟨q.1, PT.calling q.2⟩, pg_recv hK hP hL_g1 hN1 (q := (RX0, TX0, 3)) rfl, fun U hU hWm => ⟨rfl, PT.mk hU hWm hP hK hD hE hO⟩⟩ rfl rfl hl.1 rfl (lv_room (Nat.le_of_ble_eq_true rfl)) dX4_addBody_105 ⟨by show _ + 0 ≤ 0; omega, by show _ + 0 ≤ 0; omega⟩) hS (fun q _ h => hFc q h) hFc (fun u t H1 locs ht hvm hw hB hz1 hk1 hS => ?_)
              obtain ⟨F_124, hB1, hq_125, hq_126⟩ := hB
              obtain ⟨hP, hD, hO, hR⟩ := QT.back hB1 ht hFc hR (fun q h => by simp only [List.mem_cons, List.not_mem_nil, or_false] at h ⊢; omega)
              have hF_127 : F_124 h0 = .inr (4, [.ref tx, .ref y0, .ref y1, .ref y2, .int (nI nn), .int (nI bs)]) := (hB1.2.2.2 h0 (by rw [hT_h0]; simp only [List.mem_cons, List.not_mem_nil, or_false]; omega)).trans hF_88
              have hF_128 : F_124 tx = .inr (0, [.ref rx, .int (nI zm), .int oo]) := (hB1.2.2.2 tx (by rw [hT_tx]; simp only [List.mem_cons, List.not_mem_nil, or_false]; omega)).trans hF_89
              have hF_129 : F_124 rx = .inl (cs 16, 3000, .inl f) := (hB1.2.2.2 rx (by rw [ht_8]; simp only [List.mem_cons, List.not_mem_nil, or_false]; omega)).trans hF_90
              generalize H1 = H at hP hS ⊢
              refine lv_iload_n hx hb dX4_addBody_108 rfl (lv_at hl 0 rfl) ?_
              refine lv_if_ne (tgt := 122) hx hb dX4_addBody_109 (by decide) (fun c_130 => ?_) (fun c_130 => absurd c_130 (fun q => absurd ((nI_eq (b := 0) (by omega) (by omega)).mp q) (by omega)))
              refine W.widen (k := 0) (n := 0) (by omega) (by omega) ?_
              exact W.vret hx hb hr (fun t ht hWm => ⟨⟨(), rfl, trivial, ⟨F_124, ke, fc_16, QT.mk ht hP hD hO hR, hq_125, (bdn_n hst (fun q => by have q1 := q.1; omega)), hq_126, ⟨ke, hst, Or.inr ⟨(fun q => by have q1 := q.1; omega), rfl, (fun j y hj hy => hun_23a j y (by rw [List.getElem?_append_left (by rw [← hLL]; omega), ← hLL] at hy; exact hy))⟩⟩⟩⟩, hS.F ht⟩) hS.2.2 dX4_addBody_122
            ·
              refine lv_iinc (v := (nI (ke - 1))) (lv' := [(3, .int (nI (ke - 1))), (0, .ref h0), (1, .ref g1), (2, .int x2)]) hx hb dX4_addBody_97 hl (k := 0) rfl (m1N (by omega)) (by decide) rfl (fun ls hl => ?_)
              refine lv_goto (tgt := 64) hx hb dX4_addBody_100 (by decide) ?_
              refine W.widen (k := 0) (n := 0) (by omega) (by omega) ?_
              exact ih_87 (ke - 1) F_82 (⟨by omega, fun j h1 h2 => by rcases Nat.lt_or_ge j ke with q | q; rw [show j = ke - 1 by omega]; exact hv3.resolve_left (by omega); exact hv2 j q h2, Or.inr (by rw [show ke - 1 - 1 = ke - 2 by omega]; exact c_122), hN1, hN2⟩) (by show (ke - 1) < ke; omega) hO hR _ _ hP hD hS ls (lv_sub hl [0, 1, 2, 3] rfl)
      ·
        refine lv_aload_n hx hb dX4_addBody_53 rfl (lv_at hl 1 rfl) ?_
        refine lv_bipush (v := 10) hx hb dX4_addBody_54 (by decide) ?_
        have hFc := pg_free hD hS hA
        refine va_callv (va_runV (As := [.int 10]) (rest := []) ⟨hx, hb, hml, hown, hts⟩ (s_X0_add_e l dC dI cs ty L H.size F_15 g1 σ r1 n1 LL.length fc_16 10 hW hL_g1 hT_g1 hF_24 hq_18 (by omega) (by omega)) ⟨callB_of 1 hts (gi kt_13) rfl rfl rfl (hts _ kt_1) (hts _ kt_230) (by decide +kernel) ⟨Nat.le_of_ble_eq_true rfl, Nat.le_of_ble_eq_true rfl⟩, (hts _ kt_15), (hts _ kt_16)⟩ ⟨fun a U g mk q => ⟨q.1, PT.calling q.2⟩, pg_recv hK hP hL_g1 hF_24 (q := (RX0, TX0, 3)) rfl, fun U hU hWm => ⟨rfl, PT.mk hU hWm hP hK hD hE hO⟩⟩ rfl rfl hl.1 rfl (lv_room (Nat.le_of_ble_eq_true rfl)) dX4_addBody_56 ⟨by show _ + 0 ≤ 0; omega, by show _ + 0 ≤ 0; omega⟩) hS (fun q _ h => hFc q h) hFc (fun u t H1 locs ht hvm hw hB hz1 hk1 hS => ?_)
        obtain ⟨F_132, hB1, hq_133, hq_134⟩ := hB
        obtain ⟨hP, hD, hO, hR⟩ := QT.back hB1 ht hFc hR (fun q h => by simp only [List.mem_cons, List.not_mem_nil, or_false] at h ⊢; omega)
        have hF_135 : F_132 h0 = .inr (4, [.ref tx, .ref y0, .ref y1, .ref y2, .int (nI nn), .int (nI bs)]) := (hB1.2.2.2 h0 (by rw [hT_h0]; simp only [List.mem_cons, List.not_mem_nil, or_false]; omega)).trans hF_20
        have hF_136 : F_132 tx = .inr (0, [.ref rx, .int (nI zm), .int oo]) := (hB1.2.2.2 tx (by rw [hT_tx]; simp only [List.mem_cons, List.not_mem_nil, or_false]; omega)).trans hF_21
        have hF_137 : F_132 rx = .inl (cs 16, 3000, .inl f) := (hB1.2.2.2 rx (by rw [ht_8]; simp only [List.mem_cons, List.not_mem_nil, or_false]; omega)).trans hF_22
        generalize H1 = H at hP hS ⊢
        have hou_138 := OUTS.add (y := (2, 10)) hun_23a (show (10 : Int32) = evs f (2, 10) from rfl)
        have hwf_139 := WFS.add (y := (2, 10)) hun_23b (Or.inl rfl)
        have hF_140 : F_132 g1 = .inr (0, [.ref r1, .int (nI (LL ++ [(2, 10)]).length), .int 0]) := by rw [len1]; exact hq_133
        have hWl : (LL ++ [(2, 10)]).length ≤ zm - bs + 1 := by rw [len1]; omega
        have hend : (LL ++ [(2, 10)]).length = 0 ∨ (upd fc_16 LL.length 10) ((LL ++ [(2, 10)]).length - 1) = 10 := Or.inr (by rw [len1, Nat.add_sub_cancel]; exact updc_at)
        refine lv_aload_n hx hb dX4_addBody_59 rfl (lv_at hl 1 rfl) ?_
        refine pg_getN (ci := 0) (v := .int (nI (LL ++ [(2, 10)]).length)) (C := RX0) (T := TX0) (N := 3) hx hb hts it_0 hown hK hP hL_g1 hF_140 rfl 1 (by decide) (hE.nest kn_6) (fun _ h9 => h9) rfl dX4_addBody_60 ?_
        refine lv_istore_n (lv' := [(3, .int (nI (LL ++ [(2, 10)]).length)), (0, .ref h0), (1, .ref g1), (2, .int x2)]) hx hb dX4_addBody_63 rfl hl (by decide) rfl (fun ls hl => ?_)
        refine W.widen (k := 0) (n := 0) (by omega) (by omega) ?_
        have hF_142 : F h0 = .inr (4, [.ref tx, .ref y0, .ref y1, .ref y2, .int (nI nn), .int (nI bs)]) := (hR h0 (by rw [hT_h0]; simp only [List.mem_cons, List.not_mem_nil, or_false]; omega)).symm.trans hF_135
        have hF_143 : F tx = .inr (0, [.ref rx, .int (nI zm), .int oo]) := (hR tx (by rw [hT_tx]; simp only [List.mem_cons, List.not_mem_nil, or_false]; omega)).symm.trans hF_136
        have hF_144 : F rx = .inl (cs 16, 3000, .inl f) := (hR rx (by rw [ht_8]; simp only [List.mem_cons, List.not_mem_nil, or_false]; omega)).symm.trans hF_137
        refine pl_loop (σ := Nat) A (dC, dI) cs ty L [σ] F 64 4 (fun ke => [(3, .int (nI ke)), (0, .ref h0), (1, .ref g1), (2, .int x2)]) (fun ke => []) (fun ke FF => ke ≤ (LL ++ [(2, 10)]).length ∧ (∀ j, ke ≤ j → j < (LL ++ [(2, 10)]).length → (upd fc_16 LL.length 10) j = 10) ∧ (ke = 0 ∨ (upd fc_16 LL.length 10) (ke - 1) = 10) ∧ FF g1 = .inr (0, [.ref r1, .int (nI (LL ++ [(2, 10)]).length), .int 0]) ∧ FF r1 = .inl (cs 16, n1, .inl (upd fc_16 LL.length 10))) (fun ke => ke) ?_ ((LL ++ [(2, 10)]).length) F_132 (⟨Nat.le_refl _, fun j h1 h2 => by omega, hend, hF_140, hq_134⟩) hO hR _ _ hP hD hS ls (lv_sub hl [0, 1, 2, 3] rfl)
        rintro ke F_141 hv_145 hO hR ih_146 H locs hP hD hS ls hl
        have hl : lv_has ls 4 [(3, .int (nI ke)), (0, .ref h0), (1, .ref g1), (2, .int x2)] := hl
        have hv_145 : ke ≤ (LL ++ [(2, 10)]).length ∧ (∀ j, ke ≤ j → j < (LL ++ [(2, 10)]).length → (upd fc_16 LL.length 10) j = 10) ∧ (ke = 0 ∨ (upd fc_16 LL.length 10) (ke - 1) = 10) ∧ F_141 g1 = .inr (0, [.ref r1, .int (nI (LL ++ [(2, 10)]).length), .int 0]) ∧ F_141 r1 = .inl (cs 16, n1, .inl (upd fc_16 LL.length 10)) := hv_145
        refine W.eq (g2 := F0 m 64 ls []) rfl ?_
        have hF_147 : F_141 h0 = .inr (4, [.ref tx, .ref y0, .ref y1, .ref y2, .int (nI nn), .int (nI bs)]) := (hR h0 (by rw [hT_h0]; simp only [List.mem_cons, List.not_mem_nil, or_false]; omega)).trans hF_142
        have hF_148 : F_141 tx = .inr (0, [.ref rx, .int (nI zm), .int oo]) := (hR tx (by rw [hT_tx]; simp only [List.mem_cons, List.not_mem_nil, or_false]; omega)).trans hF_143
        have hF_149 : F_141 rx = .inl (cs 16, 3000, .inl f) := (hR rx (by rw [ht_8]; simp only [List.mem_cons, List.not_mem_nil, or_false]; omega)).trans hF_144
        obtain ⟨hv1, hv2, hv3, hN1, hN2⟩ := id hv_145
        refine lv_iload_n hx hb dX4_addBody_64 rfl (lv_at hl 0 rfl) ?_
        refine lv_if_le (tgt := 103) hx hb dX4_addBody_65 (by decide) (fun c_150 => ?_) (fun c_150 => ?_)
        ·
          have hk0 : ke = 0 := by have h9 : ke ≤ 0 := (nI_leI (b := 0) (by omega) (by omega)).mp c_150; omega
          have hst := stl_v hou_138 hwf_139 hv1 hv2 (Or.inl hk0)
          rw [hLL] at hst
          refine lv_aload_n hx hb dX4_addBody_103 rfl (lv_at hl 2 rfl) ?_
          refine lv_iload_n hx hb dX4_addBody_104 rfl (lv_at hl 0 rfl) ?_
          have hFc := pg_free hD hS hA
          refine va_callv (va_runV (As := [.int (nI ke)]) (rest := []) ⟨hx, hb, hml, hown, hts⟩ (s_X0_cut_e l dC dI cs ty L H.size F_141 g1 σ r1 n1 ((LL ++ [(2, 10)]).length) ke (upd fc_16 LL.length 10) hW hL_g1 hT_g1 hN1 hN2 (hv1) (by omega) (by omega)) ⟨callB_of 1 hts (gi kt_236) rfl rfl rfl (hts _ kt_1) (hts _ kt_237) (by decide +kernel) ⟨Nat.le_of_ble_eq_true rfl, Nat.le_of_ble_eq_true rfl⟩, (hts _ kt_238), (hts _ kt_239)⟩ ⟨fun a U g mk q => ⟨q.1, PT.calling q.2⟩, pg_recv hK hP hL_g1 hN1 (q := (RX0, TX0, 3)) rfl, fun U hU hWm => ⟨rfl, PT.mk hU hWm hP hK hD hE hO⟩⟩ rfl rfl hl.1 rfl (lv_room (Nat.le_of_ble_eq_true rfl)) dX4_addBody_105 ⟨by show _ + 0 ≤ 0; omega, by show _ + 0 ≤ 0; omega⟩) hS (fun q _ h => hFc q h) hFc (fun u t H1 locs ht hvm hw hB hz1 hk1 hS => ?_)
          obtain ⟨F_153, hB1, hq_154, hq_155⟩ := hB
          obtain ⟨hP, hD, hO, hR⟩ := QT.back hB1 ht hFc hR (fun q h => by simp only [List.mem_cons, List.not_mem_nil, or_false] at h ⊢; omega)
          have hF_156 : F_153 h0 = .inr (4, [.ref tx, .ref y0, .ref y1, .ref y2, .int (nI nn), .int (nI bs)]) := (hB1.2.2.2 h0 (by rw [hT_h0]; simp only [List.mem_cons, List.not_mem_nil, or_false]; omega)).trans hF_147
          have hF_157 : F_153 tx = .inr (0, [.ref rx, .int (nI zm), .int oo]) := (hB1.2.2.2 tx (by rw [hT_tx]; simp only [List.mem_cons, List.not_mem_nil, or_false]; omega)).trans hF_148
          have hF_158 : F_153 rx = .inl (cs 16, 3000, .inl f) := (hB1.2.2.2 rx (by rw [ht_8]; simp only [List.mem_cons, List.not_mem_nil, or_false]; omega)).trans hF_149
          generalize H1 = H at hP hS ⊢
          refine lv_iload_n hx hb dX4_addBody_108 rfl (lv_at hl 0 rfl) ?_
          refine lv_if_ne (tgt := 122) hx hb dX4_addBody_109 (by decide) (fun c_159 => absurd (by rw [hk0]; rfl) c_159) (fun c_159 => ?_)
          refine lv_iload_n hx hb dX4_addBody_112 rfl (lv_at hl 3 rfl) ?_
          refine lv_if_ne (tgt := 122) hx hb dX4_addBody_113 (by decide) (fun c_160 => ?_) (fun c_160 => ?_)
          ·
            refine W.widen (k := 0) (n := 0) (by omega) (by omega) ?_
            exact W.vret hx hb hr (fun t ht hWm => ⟨⟨(), rfl, trivial, ⟨F_153, ke, (upd fc_16 LL.length 10), QT.mk ht hP hD hO hR, hq_154, (bdn_n hst (fun q => c_160 q.2)), hq_155, ⟨ke, hst, Or.inr ⟨(fun q => c_160 q.2), rfl, (fun j y hj hy => hou_138 j y (by rw [hLL]; exact hy))⟩⟩⟩⟩, hS.F ht⟩) hS.2.2 dX4_addBody_122
          ·
            refine lv_aload_n hx hb dX4_addBody_116 rfl (lv_at hl 2 rfl) ?_
            refine lv_bipush (v := 10) hx hb dX4_addBody_117 (by decide) ?_
            have hFc := pg_free hD hS hA
            refine va_callv (va_runV (As := [.int 10]) (rest := []) ⟨hx, hb, hml, hown, hts⟩ (s_X0_add_e l dC dI cs ty L H.size F_153 g1 σ r1 n1 ke (upd fc_16 LL.length 10) 10 hW hL_g1 hT_g1 hq_154 hq_155 (by omega) (by omega)) ⟨callB_of 1 hts (gi kt_13) rfl rfl rfl (hts _ kt_1) (hts _ kt_230) (by decide +kernel) ⟨Nat.le_of_ble_eq_true rfl, Nat.le_of_ble_eq_true rfl⟩, (hts _ kt_15), (hts _ kt_16)⟩ ⟨fun a U g mk q => ⟨q.1, PT.calling q.2⟩, pg_recv hK hP hL_g1 hq_154 (q := (RX0, TX0, 3)) rfl, fun U hU hWm => ⟨rfl, PT.mk hU hWm hP hK hD hE hO⟩⟩ rfl rfl hl.1 rfl (lv_room (Nat.le_of_ble_eq_true rfl)) dX4_addBody_119 ⟨by show _ + 0 ≤ 0; omega, by show _ + 0 ≤ 0; omega⟩) hS (fun q _ h => hFc q h) hFc (fun u t H1 locs ht hvm hw hB hz1 hk1 hS => ?_)
            obtain ⟨F_162, hB1, hq_163, hq_164⟩ := hB
            obtain ⟨hP, hD, hO, hR⟩ := QT.back hB1 ht hFc hR (fun q h => by simp only [List.mem_cons, List.not_mem_nil, or_false] at h ⊢; omega)
            have hF_165 : F_162 h0 = .inr (4, [.ref tx, .ref y0, .ref y1, .ref y2, .int (nI nn), .int (nI bs)]) := (hB1.2.2.2 h0 (by rw [hT_h0]; simp only [List.mem_cons, List.not_mem_nil, or_false]; omega)).trans hF_156
            have hF_166 : F_162 tx = .inr (0, [.ref rx, .int (nI zm), .int oo]) := (hB1.2.2.2 tx (by rw [hT_tx]; simp only [List.mem_cons, List.not_mem_nil, or_false]; omega)).trans hF_157
            have hF_167 : F_162 rx = .inl (cs 16, 3000, .inl f) := (hB1.2.2.2 rx (by rw [ht_8]; simp only [List.mem_cons, List.not_mem_nil, or_false]; omega)).trans hF_158
            generalize H1 = H at hP hS ⊢
            refine W.widen (k := 0) (n := 0) (by omega) (by omega) ?_
            exact W.vret hx hb hr (fun t ht hWm => ⟨⟨(), rfl, trivial, ⟨F_162, 1, (upd (upd fc_16 LL.length 10) ke 10), QT.mk ht hP hD hO hR, (by have h9 := hq_163; rw [hk0] at h9; exact h9), (bdn_0 hst hk0 c_160), hq_164, ⟨ke, hst, Or.inl ⟨hk0, c_160, rfl, (by rw [hk0]; exact updc_at)⟩⟩⟩⟩, hS.F ht⟩) hS.2.2 dX4_addBody_122
        ·
          have hkp : 0 < ke := posN c_150
          refine lv_aload_n hx hb dX4_addBody_68 rfl (lv_at hl 2 rfl) ?_
          refine lv_iload_n hx hb dX4_addBody_69 rfl (lv_at hl 0 rfl) ?_
          refine lv_iconst (v := 1) hx hb dX4_addBody_70 (by decide) ?_
          refine lv_isub hx hb dX4_addBody_71 ?_
          refine lv_topi (fun x_169 ex_169 => ?_)
          obtain rfl : x_169 = (nI (ke - 1)) := ex_169.trans (pk_sub (b := 1) (by omega))
          have hFc := pg_free hD hS hA
          refine va_calli (va_runV (As := [.int (nI (ke - 1))]) (rest := []) ⟨hx, hb, hml, hown, hts⟩ (s_X0_at_o l dC dI cs ty L H.size F_141 g1 σ r1 n1 ((LL ++ [(2, 10)]).length) (ke - 1) (upd fc_16 LL.length 10) 0 hW hL_g1 hT_g1 hN1 hN2 (by omega) (by omega) (by omega)) ⟨callB_of 1 hts (gi kt_21) rfl rfl rfl (hts _ kt_1) (hts _ kt_199) (by decide +kernel) ⟨Nat.le_of_ble_eq_true rfl, Nat.le_of_ble_eq_true rfl⟩, (hts _ kt_23), (hts _ kt_24)⟩ ⟨fun a U g mk q => ⟨q.1, PT.calling q.2⟩, pg_recv hK hP hL_g1 hN1 (q := (RX0, TX0, 3)) rfl, fun U hU hWm => ⟨rfl, PT.mk hU hWm hP hK hD hE hO⟩⟩ rfl rfl hl.1 rfl (lv_room (Nat.le_of_ble_eq_true rfl)) dX4_addBody_72 ⟨by show _ + 0 ≤ 0; omega, by show _ + 0 ≤ 0; omega⟩) hS (fun q _ h => hFc q h) hFc (fun r_170 u t H1 locs ht hvm hw hB hz1 hk1 hS => ?_)
          obtain ⟨F_171, hB1⟩ := hB
          obtain rfl : F_141 = F_171 := (funext (fun a => hB1.2.2.2 a List.not_mem_nil)).symm
          obtain ⟨hP, hD, hO, hR⟩ := QT.back hB1 ht hFc hR (fun q h => absurd h List.not_mem_nil)
          generalize H1 = H at hP hS ⊢
          have hw : r_170 = (upd fc_16 LL.length 10) (ke - 1) := hw
          have hw_172 := hw
          subst hw_172
          refine lv_bipush (v := 10) hx hb dX4_addBody_75 (by decide) ?_
          refine lv_icmp_ne (tgt := 103) hx hb dX4_addBody_77 (by decide) (fun c_173 => absurd (hv3.resolve_left (by omega)) c_173) (fun c_173 => ?_)
          refine lv_iload_n hx hb dX4_addBody_80 rfl (lv_at hl 0 rfl) ?_
          refine lv_iconst (v := 1) hx hb dX4_addBody_81 (by decide) ?_
          refine lv_icmp_eq (tgt := 97) hx hb dX4_addBody_82 (by decide) (fun c_174 => ?_) (fun c_174 => ?_)
          ·
            have hk1 : ke = 1 := (nI_eq (b := 1) (by omega) (by omega)).mp c_174
            refine lv_iinc (v := (nI (ke - 1))) (lv' := [(3, .int (nI (ke - 1))), (0, .ref h0), (1, .ref g1), (2, .int x2)]) hx hb dX4_addBody_97 hl (k := 0) rfl (m1N (by omega)) (by decide) rfl (fun ls hl => ?_)
            refine lv_goto (tgt := 64) hx hb dX4_addBody_100 (by decide) ?_
            refine W.widen (k := 0) (n := 0) (by omega) (by omega) ?_
            exact ih_146 (ke - 1) F_141 (⟨by omega, fun j h1 h2 => by rcases Nat.lt_or_ge j ke with q | q; rw [show j = ke - 1 by omega]; exact hv3.resolve_left (by omega); exact hv2 j q h2, Or.inl (by omega), hN1, hN2⟩) (by show (ke - 1) < ke; omega) hO hR _ _ hP hD hS ls (lv_sub hl [0, 1, 2, 3] rfl)
          ·
            have hk2 : 2 ≤ ke := by have h9 : ke ≠ 1 := fun q => c_174 (by rw [q]; rfl); omega
            refine lv_aload_n hx hb dX4_addBody_85 rfl (lv_at hl 2 rfl) ?_
            refine lv_iload_n hx hb dX4_addBody_86 rfl (lv_at hl 0 rfl) ?_
            refine lv_iconst (v := 2) hx hb dX4_addBody_87 (by decide) ?_
            refine lv_isub hx hb dX4_addBody_88 ?_
            refine lv_topi (fun x_177 ex_177 => ?_)
            obtain rfl : x_177 = (nI (ke - 2)) := ex_177.trans (pk_sub (b := 2) (by omega))
            have hFc := pg_free hD hS hA
            refine va_calli (va_runV (As := [.int (nI (ke - 2))]) (rest := []) ⟨hx, hb, hml, hown, hts⟩ (s_X0_at_o l dC dI cs ty L H.size F_141 g1 σ r1 n1 ((LL ++ [(2, 10)]).length) (ke - 2) (upd fc_16 LL.length 10) 0 hW hL_g1 hT_g1 hN1 hN2 (by omega) (by omega) (by omega)) ⟨callB_of 1 hts (gi kt_21) rfl rfl rfl (hts _ kt_1) (hts _ kt_199) (by decide +kernel) ⟨Nat.le_of_ble_eq_true rfl, Nat.le_of_ble_eq_true rfl⟩, (hts _ kt_23), (hts _ kt_24)⟩ ⟨fun a U g mk q => ⟨q.1, PT.calling q.2⟩, pg_recv hK hP hL_g1 hN1 (q := (RX0, TX0, 3)) rfl, fun U hU hWm => ⟨rfl, PT.mk hU hWm hP hK hD hE hO⟩⟩ rfl rfl hl.1 rfl (lv_room (Nat.le_of_ble_eq_true rfl)) dX4_addBody_89 ⟨by show _ + 0 ≤ 0; omega, by show _ + 0 ≤ 0; omega⟩) hS (fun q _ h => hFc q h) hFc (fun r_178 u t H1 locs ht hvm hw hB hz1 hk1 hS => ?_)
            obtain ⟨F_179, hB1⟩ := hB
            obtain rfl : F_141 = F_179 := (funext (fun a => hB1.2.2.2 a List.not_mem_nil)).symm
            obtain ⟨hP, hD, hO, hR⟩ := QT.back hB1 ht hFc hR (fun q h => absurd h List.not_mem_nil)
            generalize H1 = H at hP hS ⊢
            have hw : r_178 = (upd fc_16 LL.length 10) (ke - 2) := hw
            have hw_180 := hw
            subst hw_180
            refine lv_bipush (v := 10) hx hb dX4_addBody_92 (by decide) ?_
            refine lv_icmp_ne (tgt := 103) hx hb dX4_addBody_94 (by decide) (fun c_181 => ?_) (fun c_181 => ?_)
            ·
              have hst := stl_v hou_138 hwf_139 hv1 hv2 (Or.inr ⟨hk2, hv3.resolve_left (by omega), c_181⟩)
              rw [hLL] at hst
              refine lv_aload_n hx hb dX4_addBody_103 rfl (lv_at hl 2 rfl) ?_
              refine lv_iload_n hx hb dX4_addBody_104 rfl (lv_at hl 0 rfl) ?_
              have hFc := pg_free hD hS hA
              refine va_callv (va_runV (As := [.int (nI ke)]) (rest := []) ⟨hx, hb, hml, hown, hts⟩ (s_X0_cut_e l dC dI cs ty L H.size F_141 g1 σ r1 n1 ((LL ++ [(2, 10)]).length) ke (upd fc_16 LL.length 10) hW hL_g1 hT_g1 hN1 hN2 (hv1) (by omega) (by omega)) ⟨callB_of 1 hts (gi kt_236) rfl rfl rfl (hts _ kt_1) (hts _ kt_237) (by decide +kernel) ⟨Nat.le_of_ble_eq_true rfl, Nat.le_of_ble_eq_true rfl⟩, (hts _ kt_238), (hts _ kt_239)⟩ ⟨fun a U g mk q => ⟨q.1, PT.calling q.2⟩, pg_recv hK hP hL_g1 hN1 (q := (RX0, TX0, 3)) rfl, fun U hU hWm => ⟨rfl, PT.mk hU hWm hP hK hD hE hO⟩⟩ rfl rfl hl.1 rfl (lv_room (Nat.le_of_ble_eq_true rfl)) dX4_addBody_105 ⟨by show _ + 0 ≤ 0; omega, by show _ + 0 ≤ 0; omega⟩) hS (fun q _ h => hFc q h) hFc (fun u t H1 locs ht hvm hw hB hz1 hk1 hS => ?_)
              obtain ⟨F_183, hB1, hq_184, hq_185⟩ := hB
              obtain ⟨hP, hD, hO, hR⟩ := QT.back hB1 ht hFc hR (fun q h => by simp only [List.mem_cons, List.not_mem_nil, or_false] at h ⊢; omega)
              have hF_186 : F_183 h0 = .inr (4, [.ref tx, .ref y0, .ref y1, .ref y2, .int (nI nn), .int (nI bs)]) := (hB1.2.2.2 h0 (by rw [hT_h0]; simp only [List.mem_cons, List.not_mem_nil, or_false]; omega)).trans hF_147
              have hF_187 : F_183 tx = .inr (0, [.ref rx, .int (nI zm), .int oo]) := (hB1.2.2.2 tx (by rw [hT_tx]; simp only [List.mem_cons, List.not_mem_nil, or_false]; omega)).trans hF_148
              have hF_188 : F_183 rx = .inl (cs 16, 3000, .inl f) := (hB1.2.2.2 rx (by rw [ht_8]; simp only [List.mem_cons, List.not_mem_nil, or_false]; omega)).trans hF_149
              generalize H1 = H at hP hS ⊢
              refine lv_iload_n hx hb dX4_addBody_108 rfl (lv_at hl 0 rfl) ?_
              refine lv_if_ne (tgt := 122) hx hb dX4_addBody_109 (by decide) (fun c_189 => ?_) (fun c_189 => absurd c_189 (fun q => absurd ((nI_eq (b := 0) (by omega) (by omega)).mp q) (by omega)))
              refine W.widen (k := 0) (n := 0) (by omega) (by omega) ?_
              exact W.vret hx hb hr (fun t ht hWm => ⟨⟨(), rfl, trivial, ⟨F_183, ke, (upd fc_16 LL.length 10), QT.mk ht hP hD hO hR, hq_184, (bdn_n hst (fun q => by have q1 := q.1; omega)), hq_185, ⟨ke, hst, Or.inr ⟨(fun q => by have q1 := q.1; omega), rfl, (fun j y hj hy => hou_138 j y (by rw [hLL]; exact hy))⟩⟩⟩⟩, hS.F ht⟩) hS.2.2 dX4_addBody_122
            ·
              refine lv_iinc (v := (nI (ke - 1))) (lv' := [(3, .int (nI (ke - 1))), (0, .ref h0), (1, .ref g1), (2, .int x2)]) hx hb dX4_addBody_97 hl (k := 0) rfl (m1N (by omega)) (by decide) rfl (fun ls hl => ?_)
              refine lv_goto (tgt := 64) hx hb dX4_addBody_100 (by decide) ?_
              refine W.widen (k := 0) (n := 0) (by omega) (by omega) ?_
              exact ih_146 (ke - 1) F_141 (⟨by omega, fun j h1 h2 => by rcases Nat.lt_or_ge j ke with q | q; rw [show j = ke - 1 by omega]; exact hv3.resolve_left (by omega); exact hv2 j q h2, Or.inr (by rw [show ke - 1 - 1 = ke - 2 by omega]; exact c_181), hN1, hN2⟩) (by show (ke - 1) < ke; omega) hO hR _ _ hP hD hS ls (lv_sub hl [0, 1, 2, 3] rfl)
  ·
    refine lv_aload_n hx hb dX4_addBody_4 rfl (lv_at hl 0 rfl) ?_
    refine lv_aload_n hx hb dX4_addBody_5 rfl (lv_at hl 1 rfl) ?_
    have hFc := pg_free hD hS hA
    refine va_callv (va_runV (As := [.ref g1]) (rest := []) ⟨hx, hb, hml, hown, hts⟩ (s_X4_addRelaxedLines_e l dC dI cs ty L s.heap.size F h0 ρ tx y0 y1 y2 g1 σ r1 n1 rx zm nn bs f fo oo LL x2 hW hL_h0 hT_h0 hL_tx hT_tx hL_g1 hT_g1 hF0 hFx hFr hFg hFo (by omega) (by omega) (by omega) (by omega) (hfar) (c_13) (hLL)) ⟨callB_of 1 hts (gi kt_240) rfl rfl rfl (hts _ kt_211) (hts _ kt_241) (by decide +kernel) ⟨Nat.le_of_ble_eq_true rfl, Nat.le_of_ble_eq_true rfl⟩, (hts _ kt_242), (hts _ kt_243)⟩ ⟨fun a U g mk q => ⟨q.1, PT.calling q.2⟩, pg_recv hK hP hL_h0 hF0 (q := (RX4, TX4, 6)) rfl, fun U hU hWm => ⟨rfl, PT.mk hU hWm hP hK hD hE hO⟩⟩ rfl rfl hl.1 rfl (lv_room (Nat.le_of_ble_eq_true rfl)) dX4_addBody_6 ⟨by show _ + 0 ≤ 0; omega, by show _ + 0 ≤ 0; omega⟩) hS (fun q _ h => hFc q h) hFc (fun u t H1 locs ht hvm hw hB hz1 hk1 hS => ?_)
    obtain ⟨F_191, fo2_192, hB1, hq_193, hq_194, hq_195, hq_196⟩ := hB
    obtain ⟨hP, hD, hO, hR⟩ := QT.back hB1 ht hFc hR (fun q h => by simp only [List.mem_cons, List.not_mem_nil, or_false] at h ⊢; omega)
    have hF_197 : F_191 h0 = .inr (4, [.ref tx, .ref y0, .ref y1, .ref y2, .int (nI nn), .int (nI bs)]) := (hB1.2.2.2 h0 (by rw [hT_h0]; simp only [List.mem_cons, List.not_mem_nil, or_false]; omega)).trans hF0
    have hF_198 : F_191 tx = .inr (0, [.ref rx, .int (nI zm), .int oo]) := (hB1.2.2.2 tx (by rw [hT_tx]; simp only [List.mem_cons, List.not_mem_nil, or_false]; omega)).trans hFx
    have hF_199 : F_191 rx = .inl (cs 16, 3000, .inl f) := (hB1.2.2.2 rx (by rw [ht_8]; simp only [List.mem_cons, List.not_mem_nil, or_false]; omega)).trans hFr
    generalize H1 = H at hP hS ⊢
    refine lv_goto (tgt := 31) hx hb dX4_addBody_9 (by decide) ?_
    refine lv_aload_n hx hb dX4_addBody_31 rfl (lv_at hl 1 rfl) ?_
    refine pg_getN (ci := 0) (v := .int (nI LL.length)) (C := RX0) (T := TX0) (N := 3) hx hb hts it_0 hown hK hP hL_g1 hq_193 rfl 1 (by decide) (hE.nest kn_6) (fun _ h9 => h9) rfl dX4_addBody_32 ?_
    refine lv_if_le (tgt := 59) hx hb dX4_addBody_35 (by decide) (fun c_200 => ?_) (fun c_200 => ?_)
    ·
      have hl0 : LL.length = 0 := by have h9 : LL.length ≤ 0 := (nI_leI (b := 0) (by omega) (by omega)).mp c_200; omega
      have hWl : LL.length ≤ zm - bs + 1 := by omega
      have hend : LL.length = 0 ∨ fo2_192 (LL.length - 1) = 10 := Or.inl hl0
      refine lv_aload_n hx hb dX4_addBody_59 rfl (lv_at hl 1 rfl) ?_
      refine pg_getN (ci := 0) (v := .int (nI LL.length)) (C := RX0) (T := TX0) (N := 3) hx hb hts it_0 hown hK hP hL_g1 hq_193 rfl 1 (by decide) (hE.nest kn_6) (fun _ h9 => h9) rfl dX4_addBody_60 ?_
      refine lv_istore_n (lv' := [(3, .int (nI LL.length)), (0, .ref h0), (1, .ref g1), (2, .int x2)]) hx hb dX4_addBody_63 rfl hl (by decide) rfl (fun ls hl => ?_)
      refine W.widen (k := 0) (n := 0) (by omega) (by omega) ?_
      have hF_203 : F h0 = .inr (4, [.ref tx, .ref y0, .ref y1, .ref y2, .int (nI nn), .int (nI bs)]) := (hR h0 (by rw [hT_h0]; simp only [List.mem_cons, List.not_mem_nil, or_false]; omega)).symm.trans hF_197
      have hF_204 : F tx = .inr (0, [.ref rx, .int (nI zm), .int oo]) := (hR tx (by rw [hT_tx]; simp only [List.mem_cons, List.not_mem_nil, or_false]; omega)).symm.trans hF_198
      have hF_205 : F rx = .inl (cs 16, 3000, .inl f) := (hR rx (by rw [ht_8]; simp only [List.mem_cons, List.not_mem_nil, or_false]; omega)).symm.trans hF_199
      refine pl_loop (σ := Nat) A (dC, dI) cs ty L [σ] F 64 4 (fun ke => [(3, .int (nI ke)), (0, .ref h0), (1, .ref g1), (2, .int x2)]) (fun ke => []) (fun ke FF => ke ≤ LL.length ∧ (∀ j, ke ≤ j → j < LL.length → fo2_192 j = 10) ∧ (ke = 0 ∨ fo2_192 (ke - 1) = 10) ∧ FF g1 = .inr (0, [.ref r1, .int (nI LL.length), .int 0]) ∧ FF r1 = .inl (cs 16, n1, .inl fo2_192)) (fun ke => ke) ?_ LL.length F_191 (⟨Nat.le_refl _, fun j h1 h2 => by omega, hend, hq_193, hq_194⟩) hO hR _ _ hP hD hS ls (lv_sub hl [0, 1, 2, 3] rfl)
      rintro ke F_202 hv_206 hO hR ih_207 H locs hP hD hS ls hl
      have hl : lv_has ls 4 [(3, .int (nI ke)), (0, .ref h0), (1, .ref g1), (2, .int x2)] := hl
      have hv_206 : ke ≤ LL.length ∧ (∀ j, ke ≤ j → j < LL.length → fo2_192 j = 10) ∧ (ke = 0 ∨ fo2_192 (ke - 1) = 10) ∧ F_202 g1 = .inr (0, [.ref r1, .int (nI LL.length), .int 0]) ∧ F_202 r1 = .inl (cs 16, n1, .inl fo2_192) := hv_206
      refine W.eq (g2 := F0 m 64 ls []) rfl ?_
      have hF_208 : F_202 h0 = .inr (4, [.ref tx, .ref y0, .ref y1, .ref y2, .int (nI nn), .int (nI bs)]) := (hR h0 (by rw [hT_h0]; simp only [List.mem_cons, List.not_mem_nil, or_false]; omega)).trans hF_203
      have hF_209 : F_202 tx = .inr (0, [.ref rx, .int (nI zm), .int oo]) := (hR tx (by rw [hT_tx]; simp only [List.mem_cons, List.not_mem_nil, or_false]; omega)).trans hF_204
      have hF_210 : F_202 rx = .inl (cs 16, 3000, .inl f) := (hR rx (by rw [ht_8]; simp only [List.mem_cons, List.not_mem_nil, or_false]; omega)).trans hF_205
      obtain ⟨hv1, hv2, hv3, hN1, hN2⟩ := id hv_206
      refine lv_iload_n hx hb dX4_addBody_64 rfl (lv_at hl 0 rfl) ?_
      refine lv_if_le (tgt := 103) hx hb dX4_addBody_65 (by decide) (fun c_211 => ?_) (fun c_211 => ?_)
      ·
        have hk0 : ke = 0 := by have h9 : ke ≤ 0 := (nI_leI (b := 0) (by omega) (by omega)).mp c_211; omega
        have hst := stl_v hq_195 hq_196 hv1 hv2 (Or.inl hk0)
        have hst := hst.nl
        rw [hLL] at hst
        refine lv_aload_n hx hb dX4_addBody_103 rfl (lv_at hl 2 rfl) ?_
        refine lv_iload_n hx hb dX4_addBody_104 rfl (lv_at hl 0 rfl) ?_
        have hFc := pg_free hD hS hA
        refine va_callv (va_runV (As := [.int (nI ke)]) (rest := []) ⟨hx, hb, hml, hown, hts⟩ (s_X0_cut_e l dC dI cs ty L H.size F_202 g1 σ r1 n1 LL.length ke fo2_192 hW hL_g1 hT_g1 hN1 hN2 (hv1) (by omega) (by omega)) ⟨callB_of 1 hts (gi kt_236) rfl rfl rfl (hts _ kt_1) (hts _ kt_237) (by decide +kernel) ⟨Nat.le_of_ble_eq_true rfl, Nat.le_of_ble_eq_true rfl⟩, (hts _ kt_238), (hts _ kt_239)⟩ ⟨fun a U g mk q => ⟨q.1, PT.calling q.2⟩, pg_recv hK hP hL_g1 hN1 (q := (RX0, TX0, 3)) rfl, fun U hU hWm => ⟨rfl, PT.mk hU hWm hP hK hD hE hO⟩⟩ rfl rfl hl.1 rfl (lv_room (Nat.le_of_ble_eq_true rfl)) dX4_addBody_105 ⟨by show _ + 0 ≤ 0; omega, by show _ + 0 ≤ 0; omega⟩) hS (fun q _ h => hFc q h) hFc (fun u t H1 locs ht hvm hw hB hz1 hk1 hS => ?_)
        obtain ⟨F_214, hB1, hq_215, hq_216⟩ := hB
        obtain ⟨hP, hD, hO, hR⟩ := QT.back hB1 ht hFc hR (fun q h => by simp only [List.mem_cons, List.not_mem_nil, or_false] at h ⊢; omega)
        have hF_217 : F_214 h0 = .inr (4, [.ref tx, .ref y0, .ref y1, .ref y2, .int (nI nn), .int (nI bs)]) := (hB1.2.2.2 h0 (by rw [hT_h0]; simp only [List.mem_cons, List.not_mem_nil, or_false]; omega)).trans hF_208
        have hF_218 : F_214 tx = .inr (0, [.ref rx, .int (nI zm), .int oo]) := (hB1.2.2.2 tx (by rw [hT_tx]; simp only [List.mem_cons, List.not_mem_nil, or_false]; omega)).trans hF_209
        have hF_219 : F_214 rx = .inl (cs 16, 3000, .inl f) := (hB1.2.2.2 rx (by rw [ht_8]; simp only [List.mem_cons, List.not_mem_nil, or_false]; omega)).trans hF_210
        generalize H1 = H at hP hS ⊢
        refine lv_iload_n hx hb dX4_addBody_108 rfl (lv_at hl 0 rfl) ?_
        refine lv_if_ne (tgt := 122) hx hb dX4_addBody_109 (by decide) (fun c_220 => absurd (by rw [hk0]; rfl) c_220) (fun c_220 => ?_)
        refine lv_iload_n hx hb dX4_addBody_112 rfl (lv_at hl 3 rfl) ?_
        refine lv_if_ne (tgt := 122) hx hb dX4_addBody_113 (by decide) (fun c_221 => ?_) (fun c_221 => ?_)
        ·
          refine W.widen (k := 0) (n := 0) (by omega) (by omega) ?_
          exact W.vret hx hb hr (fun t ht hWm => ⟨⟨(), rfl, trivial, ⟨F_214, ke, fo2_192, QT.mk ht hP hD hO hR, hq_215, (bdn_n hst (fun q => c_221 q.2)), hq_216, ⟨ke, hst, Or.inr ⟨(fun q => c_221 q.2), rfl, (fun j y hj hy => hq_195 j y (by rw [List.getElem?_append_left (by rw [← hLL]; omega), ← hLL] at hy; exact hy))⟩⟩⟩⟩, hS.F ht⟩) hS.2.2 dX4_addBody_122
        ·
          refine lv_aload_n hx hb dX4_addBody_116 rfl (lv_at hl 2 rfl) ?_
          refine lv_bipush (v := 10) hx hb dX4_addBody_117 (by decide) ?_
          have hFc := pg_free hD hS hA
          refine va_callv (va_runV (As := [.int 10]) (rest := []) ⟨hx, hb, hml, hown, hts⟩ (s_X0_add_e l dC dI cs ty L H.size F_214 g1 σ r1 n1 ke fo2_192 10 hW hL_g1 hT_g1 hq_215 hq_216 (by omega) (by omega)) ⟨callB_of 1 hts (gi kt_13) rfl rfl rfl (hts _ kt_1) (hts _ kt_230) (by decide +kernel) ⟨Nat.le_of_ble_eq_true rfl, Nat.le_of_ble_eq_true rfl⟩, (hts _ kt_15), (hts _ kt_16)⟩ ⟨fun a U g mk q => ⟨q.1, PT.calling q.2⟩, pg_recv hK hP hL_g1 hq_215 (q := (RX0, TX0, 3)) rfl, fun U hU hWm => ⟨rfl, PT.mk hU hWm hP hK hD hE hO⟩⟩ rfl rfl hl.1 rfl (lv_room (Nat.le_of_ble_eq_true rfl)) dX4_addBody_119 ⟨by show _ + 0 ≤ 0; omega, by show _ + 0 ≤ 0; omega⟩) hS (fun q _ h => hFc q h) hFc (fun u t H1 locs ht hvm hw hB hz1 hk1 hS => ?_)
          obtain ⟨F_223, hB1, hq_224, hq_225⟩ := hB
          obtain ⟨hP, hD, hO, hR⟩ := QT.back hB1 ht hFc hR (fun q h => by simp only [List.mem_cons, List.not_mem_nil, or_false] at h ⊢; omega)
          have hF_226 : F_223 h0 = .inr (4, [.ref tx, .ref y0, .ref y1, .ref y2, .int (nI nn), .int (nI bs)]) := (hB1.2.2.2 h0 (by rw [hT_h0]; simp only [List.mem_cons, List.not_mem_nil, or_false]; omega)).trans hF_217
          have hF_227 : F_223 tx = .inr (0, [.ref rx, .int (nI zm), .int oo]) := (hB1.2.2.2 tx (by rw [hT_tx]; simp only [List.mem_cons, List.not_mem_nil, or_false]; omega)).trans hF_218
          have hF_228 : F_223 rx = .inl (cs 16, 3000, .inl f) := (hB1.2.2.2 rx (by rw [ht_8]; simp only [List.mem_cons, List.not_mem_nil, or_false]; omega)).trans hF_219
          generalize H1 = H at hP hS ⊢
          refine W.widen (k := 0) (n := 0) (by omega) (by omega) ?_
          exact W.vret hx hb hr (fun t ht hWm => ⟨⟨(), rfl, trivial, ⟨F_223, 1, (upd fo2_192 ke 10), QT.mk ht hP hD hO hR, (by have h9 := hq_224; rw [hk0] at h9; exact h9), (bdn_0 hst hk0 c_221), hq_225, ⟨ke, hst, Or.inl ⟨hk0, c_221, rfl, (by rw [hk0]; exact updc_at)⟩⟩⟩⟩, hS.F ht⟩) hS.2.2 dX4_addBody_122
      ·
        have hkp : 0 < ke := posN c_211
        refine lv_aload_n hx hb dX4_addBody_68 rfl (lv_at hl 2 rfl) ?_
        refine lv_iload_n hx hb dX4_addBody_69 rfl (lv_at hl 0 rfl) ?_
        refine lv_iconst (v := 1) hx hb dX4_addBody_70 (by decide) ?_
        refine lv_isub hx hb dX4_addBody_71 ?_
        refine lv_topi (fun x_230 ex_230 => ?_)
        obtain rfl : x_230 = (nI (ke - 1)) := ex_230.trans (pk_sub (b := 1) (by omega))
        have hFc := pg_free hD hS hA
        refine va_calli (va_runV (As := [.int (nI (ke - 1))]) (rest := []) ⟨hx, hb, hml, hown, hts⟩ (s_X0_at_o l dC dI cs ty L H.size F_202 g1 σ r1 n1 LL.length (ke - 1) fo2_192 0 hW hL_g1 hT_g1 hN1 hN2 (by omega) (by omega) (by omega)) ⟨callB_of 1 hts (gi kt_21) rfl rfl rfl (hts _ kt_1) (hts _ kt_199) (by decide +kernel) ⟨Nat.le_of_ble_eq_true rfl, Nat.le_of_ble_eq_true rfl⟩, (hts _ kt_23), (hts _ kt_24)⟩ ⟨fun a U g mk q => ⟨q.1, PT.calling q.2⟩, pg_recv hK hP hL_g1 hN1 (q := (RX0, TX0, 3)) rfl, fun U hU hWm => ⟨rfl, PT.mk hU hWm hP hK hD hE hO⟩⟩ rfl rfl hl.1 rfl (lv_room (Nat.le_of_ble_eq_true rfl)) dX4_addBody_72 ⟨by show _ + 0 ≤ 0; omega, by show _ + 0 ≤ 0; omega⟩) hS (fun q _ h => hFc q h) hFc (fun r_231 u t H1 locs ht hvm hw hB hz1 hk1 hS => ?_)
        obtain ⟨F_232, hB1⟩ := hB
        obtain rfl : F_202 = F_232 := (funext (fun a => hB1.2.2.2 a List.not_mem_nil)).symm
        obtain ⟨hP, hD, hO, hR⟩ := QT.back hB1 ht hFc hR (fun q h => absurd h List.not_mem_nil)
        generalize H1 = H at hP hS ⊢
        have hw : r_231 = fo2_192 (ke - 1) := hw
        have hw_233 := hw
        subst hw_233
        refine lv_bipush (v := 10) hx hb dX4_addBody_75 (by decide) ?_
        refine lv_icmp_ne (tgt := 103) hx hb dX4_addBody_77 (by decide) (fun c_234 => absurd (hv3.resolve_left (by omega)) c_234) (fun c_234 => ?_)
        refine lv_iload_n hx hb dX4_addBody_80 rfl (lv_at hl 0 rfl) ?_
        refine lv_iconst (v := 1) hx hb dX4_addBody_81 (by decide) ?_
        refine lv_icmp_eq (tgt := 97) hx hb dX4_addBody_82 (by decide) (fun c_235 => ?_) (fun c_235 => ?_)
        ·
          have hk1 : ke = 1 := (nI_eq (b := 1) (by omega) (by omega)).mp c_235
          refine lv_iinc (v := (nI (ke - 1))) (lv' := [(3, .int (nI (ke - 1))), (0, .ref h0), (1, .ref g1), (2, .int x2)]) hx hb dX4_addBody_97 hl (k := 0) rfl (m1N (by omega)) (by decide) rfl (fun ls hl => ?_)
          refine lv_goto (tgt := 64) hx hb dX4_addBody_100 (by decide) ?_
          refine W.widen (k := 0) (n := 0) (by omega) (by omega) ?_
          exact ih_207 (ke - 1) F_202 (⟨by omega, fun j h1 h2 => by rcases Nat.lt_or_ge j ke with q | q; rw [show j = ke - 1 by omega]; exact hv3.resolve_left (by omega); exact hv2 j q h2, Or.inl (by omega), hN1, hN2⟩) (by show (ke - 1) < ke; omega) hO hR _ _ hP hD hS ls (lv_sub hl [0, 1, 2, 3] rfl)
        ·
          have hk2 : 2 ≤ ke := by have h9 : ke ≠ 1 := fun q => c_235 (by rw [q]; rfl); omega
          refine lv_aload_n hx hb dX4_addBody_85 rfl (lv_at hl 2 rfl) ?_
          refine lv_iload_n hx hb dX4_addBody_86 rfl (lv_at hl 0 rfl) ?_
          refine lv_iconst (v := 2) hx hb dX4_addBody_87 (by decide) ?_
          refine lv_isub hx hb dX4_addBody_88 ?_
          refine lv_topi (fun x_238 ex_238 => ?_)
          obtain rfl : x_238 = (nI (ke - 2)) := ex_238.trans (pk_sub (b := 2) (by omega))
          have hFc := pg_free hD hS hA
          refine va_calli (va_runV (As := [.int (nI (ke - 2))]) (rest := []) ⟨hx, hb, hml, hown, hts⟩ (s_X0_at_o l dC dI cs ty L H.size F_202 g1 σ r1 n1 LL.length (ke - 2) fo2_192 0 hW hL_g1 hT_g1 hN1 hN2 (by omega) (by omega) (by omega)) ⟨callB_of 1 hts (gi kt_21) rfl rfl rfl (hts _ kt_1) (hts _ kt_199) (by decide +kernel) ⟨Nat.le_of_ble_eq_true rfl, Nat.le_of_ble_eq_true rfl⟩, (hts _ kt_23), (hts _ kt_24)⟩ ⟨fun a U g mk q => ⟨q.1, PT.calling q.2⟩, pg_recv hK hP hL_g1 hN1 (q := (RX0, TX0, 3)) rfl, fun U hU hWm => ⟨rfl, PT.mk hU hWm hP hK hD hE hO⟩⟩ rfl rfl hl.1 rfl (lv_room (Nat.le_of_ble_eq_true rfl)) dX4_addBody_89 ⟨by show _ + 0 ≤ 0; omega, by show _ + 0 ≤ 0; omega⟩) hS (fun q _ h => hFc q h) hFc (fun r_239 u t H1 locs ht hvm hw hB hz1 hk1 hS => ?_)
          obtain ⟨F_240, hB1⟩ := hB
          obtain rfl : F_202 = F_240 := (funext (fun a => hB1.2.2.2 a List.not_mem_nil)).symm
          obtain ⟨hP, hD, hO, hR⟩ := QT.back hB1 ht hFc hR (fun q h => absurd h List.not_mem_nil)
          generalize H1 = H at hP hS ⊢
          have hw : r_239 = fo2_192 (ke - 2) := hw
          have hw_241 := hw
          subst hw_241
          refine lv_bipush (v := 10) hx hb dX4_addBody_92 (by decide) ?_
          refine lv_icmp_ne (tgt := 103) hx hb dX4_addBody_94 (by decide) (fun c_242 => ?_) (fun c_242 => ?_)
          ·
            have hst := stl_v hq_195 hq_196 hv1 hv2 (Or.inr ⟨hk2, hv3.resolve_left (by omega), c_242⟩)
            have hst := hst.nl
            rw [hLL] at hst
            refine lv_aload_n hx hb dX4_addBody_103 rfl (lv_at hl 2 rfl) ?_
            refine lv_iload_n hx hb dX4_addBody_104 rfl (lv_at hl 0 rfl) ?_
            have hFc := pg_free hD hS hA
            refine va_callv (va_runV (As := [.int (nI ke)]) (rest := []) ⟨hx, hb, hml, hown, hts⟩ (s_X0_cut_e l dC dI cs ty L H.size F_202 g1 σ r1 n1 LL.length ke fo2_192 hW hL_g1 hT_g1 hN1 hN2 (hv1) (by omega) (by omega)) ⟨callB_of 1 hts (gi kt_236) rfl rfl rfl (hts _ kt_1) (hts _ kt_237) (by decide +kernel) ⟨Nat.le_of_ble_eq_true rfl, Nat.le_of_ble_eq_true rfl⟩, (hts _ kt_238), (hts _ kt_239)⟩ ⟨fun a U g mk q => ⟨q.1, PT.calling q.2⟩, pg_recv hK hP hL_g1 hN1 (q := (RX0, TX0, 3)) rfl, fun U hU hWm => ⟨rfl, PT.mk hU hWm hP hK hD hE hO⟩⟩ rfl rfl hl.1 rfl (lv_room (Nat.le_of_ble_eq_true rfl)) dX4_addBody_105 ⟨by show _ + 0 ≤ 0; omega, by show _ + 0 ≤ 0; omega⟩) hS (fun q _ h => hFc q h) hFc (fun u t H1 locs ht hvm hw hB hz1 hk1 hS => ?_)
            obtain ⟨F_244, hB1, hq_245, hq_246⟩ := hB
            obtain ⟨hP, hD, hO, hR⟩ := QT.back hB1 ht hFc hR (fun q h => by simp only [List.mem_cons, List.not_mem_nil, or_false] at h ⊢; omega)
            have hF_247 : F_244 h0 = .inr (4, [.ref tx, .ref y0, .ref y1, .ref y2, .int (nI nn), .int (nI bs)]) := (hB1.2.2.2 h0 (by rw [hT_h0]; simp only [List.mem_cons, List.not_mem_nil, or_false]; omega)).trans hF_208
            have hF_248 : F_244 tx = .inr (0, [.ref rx, .int (nI zm), .int oo]) := (hB1.2.2.2 tx (by rw [hT_tx]; simp only [List.mem_cons, List.not_mem_nil, or_false]; omega)).trans hF_209
            have hF_249 : F_244 rx = .inl (cs 16, 3000, .inl f) := (hB1.2.2.2 rx (by rw [ht_8]; simp only [List.mem_cons, List.not_mem_nil, or_false]; omega)).trans hF_210
            generalize H1 = H at hP hS ⊢
            refine lv_iload_n hx hb dX4_addBody_108 rfl (lv_at hl 0 rfl) ?_
            refine lv_if_ne (tgt := 122) hx hb dX4_addBody_109 (by decide) (fun c_250 => ?_) (fun c_250 => absurd c_250 (fun q => absurd ((nI_eq (b := 0) (by omega) (by omega)).mp q) (by omega)))
            refine W.widen (k := 0) (n := 0) (by omega) (by omega) ?_
            exact W.vret hx hb hr (fun t ht hWm => ⟨⟨(), rfl, trivial, ⟨F_244, ke, fo2_192, QT.mk ht hP hD hO hR, hq_245, (bdn_n hst (fun q => by have q1 := q.1; omega)), hq_246, ⟨ke, hst, Or.inr ⟨(fun q => by have q1 := q.1; omega), rfl, (fun j y hj hy => hq_195 j y (by rw [List.getElem?_append_left (by rw [← hLL]; omega), ← hLL] at hy; exact hy))⟩⟩⟩⟩, hS.F ht⟩) hS.2.2 dX4_addBody_122
          ·
            refine lv_iinc (v := (nI (ke - 1))) (lv' := [(3, .int (nI (ke - 1))), (0, .ref h0), (1, .ref g1), (2, .int x2)]) hx hb dX4_addBody_97 hl (k := 0) rfl (m1N (by omega)) (by decide) rfl (fun ls hl => ?_)
            refine lv_goto (tgt := 64) hx hb dX4_addBody_100 (by decide) ?_
            refine W.widen (k := 0) (n := 0) (by omega) (by omega) ?_
            exact ih_207 (ke - 1) F_202 (⟨by omega, fun j h1 h2 => by rcases Nat.lt_or_ge j ke with q | q; rw [show j = ke - 1 by omega]; exact hv3.resolve_left (by omega); exact hv2 j q h2, Or.inr (by rw [show ke - 1 - 1 = ke - 2 by omega]; exact c_242), hN1, hN2⟩) (by show (ke - 1) < ke; omega) hO hR _ _ hP hD hS ls (lv_sub hl [0, 1, 2, 3] rfl)
    ·
      have hlp : 0 < LL.length := posN c_200
      refine lv_aload_n hx hb dX4_addBody_38 rfl (lv_at hl 1 rfl) ?_
      refine lv_aload_n hx hb dX4_addBody_39 rfl (lv_at hl 1 rfl) ?_
      refine pg_getN (ci := 0) (v := .int (nI LL.length)) (C := RX0) (T := TX0) (N := 3) hx hb hts it_0 hown hK hP hL_g1 hq_193 rfl 1 (by decide) (hE.nest kn_6) (fun _ h9 => h9) rfl dX4_addBody_40 ?_
      refine lv_iconst (v := 1) hx hb dX4_addBody_43 (by decide) ?_
      refine lv_isub hx hb dX4_addBody_44 ?_
      refine lv_topi (fun x_252 ex_252 => ?_)
      obtain rfl : x_252 = (nI (LL.length - 1)) := ex_252.trans (pk_sub (b := 1) (by omega))
      have hFc := pg_free hD hS hA
      refine va_calli (va_runV (As := [.int (nI (LL.length - 1))]) (rest := []) ⟨hx, hb, hml, hown, hts⟩ (s_X0_at_o l dC dI cs ty L H.size F_191 g1 σ r1 n1 LL.length (LL.length - 1) fo2_192 0 hW hL_g1 hT_g1 hq_193 hq_194 (by omega) (by omega) (by omega)) ⟨callB_of 1 hts (gi kt_21) rfl rfl rfl (hts _ kt_1) (hts _ kt_199) (by decide +kernel) ⟨Nat.le_of_ble_eq_true rfl, Nat.le_of_ble_eq_true rfl⟩, (hts _ kt_23), (hts _ kt_24)⟩ ⟨fun a U g mk q => ⟨q.1, PT.calling q.2⟩, pg_recv hK hP hL_g1 hq_193 (q := (RX0, TX0, 3)) rfl, fun U hU hWm => ⟨rfl, PT.mk hU hWm hP hK hD hE hO⟩⟩ rfl rfl hl.1 rfl (lv_room (Nat.le_of_ble_eq_true rfl)) dX4_addBody_45 ⟨by show _ + 0 ≤ 0; omega, by show _ + 0 ≤ 0; omega⟩) hS (fun q _ h => hFc q h) hFc (fun r_253 u t H1 locs ht hvm hw hB hz1 hk1 hS => ?_)
      obtain ⟨F_254, hB1⟩ := hB
      obtain rfl : F_191 = F_254 := (funext (fun a => hB1.2.2.2 a List.not_mem_nil)).symm
      obtain ⟨hP, hD, hO, hR⟩ := QT.back hB1 ht hFc hR (fun q h => absurd h List.not_mem_nil)
      generalize H1 = H at hP hS ⊢
      have hw : r_253 = fo2_192 (LL.length - 1) := hw
      have hw_255 := hw
      subst hw_255
      refine lv_bipush (v := 10) hx hb dX4_addBody_48 (by decide) ?_
      refine lv_icmp_eq (tgt := 59) hx hb dX4_addBody_50 (by decide) (fun c_256 => ?_) (fun c_256 => ?_)
      ·
        have hWl : LL.length ≤ zm - bs + 1 := by omega
        have hend : LL.length = 0 ∨ fo2_192 (LL.length - 1) = 10 := Or.inr c_256
        refine lv_aload_n hx hb dX4_addBody_59 rfl (lv_at hl 1 rfl) ?_
        refine pg_getN (ci := 0) (v := .int (nI LL.length)) (C := RX0) (T := TX0) (N := 3) hx hb hts it_0 hown hK hP hL_g1 hq_193 rfl 1 (by decide) (hE.nest kn_6) (fun _ h9 => h9) rfl dX4_addBody_60 ?_
        refine lv_istore_n (lv' := [(3, .int (nI LL.length)), (0, .ref h0), (1, .ref g1), (2, .int x2)]) hx hb dX4_addBody_63 rfl hl (by decide) rfl (fun ls hl => ?_)
        refine W.widen (k := 0) (n := 0) (by omega) (by omega) ?_
        have hF_258 : F h0 = .inr (4, [.ref tx, .ref y0, .ref y1, .ref y2, .int (nI nn), .int (nI bs)]) := (hR h0 (by rw [hT_h0]; simp only [List.mem_cons, List.not_mem_nil, or_false]; omega)).symm.trans hF_197
        have hF_259 : F tx = .inr (0, [.ref rx, .int (nI zm), .int oo]) := (hR tx (by rw [hT_tx]; simp only [List.mem_cons, List.not_mem_nil, or_false]; omega)).symm.trans hF_198
        have hF_260 : F rx = .inl (cs 16, 3000, .inl f) := (hR rx (by rw [ht_8]; simp only [List.mem_cons, List.not_mem_nil, or_false]; omega)).symm.trans hF_199
        refine pl_loop (σ := Nat) A (dC, dI) cs ty L [σ] F 64 4 (fun ke => [(3, .int (nI ke)), (0, .ref h0), (1, .ref g1), (2, .int x2)]) (fun ke => []) (fun ke FF => ke ≤ LL.length ∧ (∀ j, ke ≤ j → j < LL.length → fo2_192 j = 10) ∧ (ke = 0 ∨ fo2_192 (ke - 1) = 10) ∧ FF g1 = .inr (0, [.ref r1, .int (nI LL.length), .int 0]) ∧ FF r1 = .inl (cs 16, n1, .inl fo2_192)) (fun ke => ke) ?_ LL.length F_191 (⟨Nat.le_refl _, fun j h1 h2 => by omega, hend, hq_193, hq_194⟩) hO hR _ _ hP hD hS ls (lv_sub hl [0, 1, 2, 3] rfl)
        rintro ke F_257 hv_261 hO hR ih_262 H locs hP hD hS ls hl
        have hl : lv_has ls 4 [(3, .int (nI ke)), (0, .ref h0), (1, .ref g1), (2, .int x2)] := hl
        have hv_261 : ke ≤ LL.length ∧ (∀ j, ke ≤ j → j < LL.length → fo2_192 j = 10) ∧ (ke = 0 ∨ fo2_192 (ke - 1) = 10) ∧ F_257 g1 = .inr (0, [.ref r1, .int (nI LL.length), .int 0]) ∧ F_257 r1 = .inl (cs 16, n1, .inl fo2_192) := hv_261
        refine W.eq (g2 := F0 m 64 ls []) rfl ?_
        have hF_263 : F_257 h0 = .inr (4, [.ref tx, .ref y0, .ref y1, .ref y2, .int (nI nn), .int (nI bs)]) := (hR h0 (by rw [hT_h0]; simp only [List.mem_cons, List.not_mem_nil, or_false]; omega)).trans hF_258
        have hF_264 : F_257 tx = .inr (0, [.ref rx, .int (nI zm), .int oo]) := (hR tx (by rw [hT_tx]; simp only [List.mem_cons, List.not_mem_nil, or_false]; omega)).trans hF_259
        have hF_265 : F_257 rx = .inl (cs 16, 3000, .inl f) := (hR rx (by rw [ht_8]; simp only [List.mem_cons, List.not_mem_nil, or_false]; omega)).trans hF_260
        obtain ⟨hv1, hv2, hv3, hN1, hN2⟩ := id hv_261
        refine lv_iload_n hx hb dX4_addBody_64 rfl (lv_at hl 0 rfl) ?_
        refine lv_if_le (tgt := 103) hx hb dX4_addBody_65 (by decide) (fun c_266 => ?_) (fun c_266 => ?_)
        ·
          have hk0 : ke = 0 := by have h9 : ke ≤ 0 := (nI_leI (b := 0) (by omega) (by omega)).mp c_266; omega
          have hst := stl_v hq_195 hq_196 hv1 hv2 (Or.inl hk0)
          have hst := hst.nl
          rw [hLL] at hst
          refine lv_aload_n hx hb dX4_addBody_103 rfl (lv_at hl 2 rfl) ?_
          refine lv_iload_n hx hb dX4_addBody_104 rfl (lv_at hl 0 rfl) ?_
          have hFc := pg_free hD hS hA
          refine va_callv (va_runV (As := [.int (nI ke)]) (rest := []) ⟨hx, hb, hml, hown, hts⟩ (s_X0_cut_e l dC dI cs ty L H.size F_257 g1 σ r1 n1 LL.length ke fo2_192 hW hL_g1 hT_g1 hN1 hN2 (hv1) (by omega) (by omega)) ⟨callB_of 1 hts (gi kt_236) rfl rfl rfl (hts _ kt_1) (hts _ kt_237) (by decide +kernel) ⟨Nat.le_of_ble_eq_true rfl, Nat.le_of_ble_eq_true rfl⟩, (hts _ kt_238), (hts _ kt_239)⟩ ⟨fun a U g mk q => ⟨q.1, PT.calling q.2⟩, pg_recv hK hP hL_g1 hN1 (q := (RX0, TX0, 3)) rfl, fun U hU hWm => ⟨rfl, PT.mk hU hWm hP hK hD hE hO⟩⟩ rfl rfl hl.1 rfl (lv_room (Nat.le_of_ble_eq_true rfl)) dX4_addBody_105 ⟨by show _ + 0 ≤ 0; omega, by show _ + 0 ≤ 0; omega⟩) hS (fun q _ h => hFc q h) hFc (fun u t H1 locs ht hvm hw hB hz1 hk1 hS => ?_)
          obtain ⟨F_269, hB1, hq_270, hq_271⟩ := hB
          obtain ⟨hP, hD, hO, hR⟩ := QT.back hB1 ht hFc hR (fun q h => by simp only [List.mem_cons, List.not_mem_nil, or_false] at h ⊢; omega)
          have hF_272 : F_269 h0 = .inr (4, [.ref tx, .ref y0, .ref y1, .ref y2, .int (nI nn), .int (nI bs)]) := (hB1.2.2.2 h0 (by rw [hT_h0]; simp only [List.mem_cons, List.not_mem_nil, or_false]; omega)).trans hF_263
          have hF_273 : F_269 tx = .inr (0, [.ref rx, .int (nI zm), .int oo]) := (hB1.2.2.2 tx (by rw [hT_tx]; simp only [List.mem_cons, List.not_mem_nil, or_false]; omega)).trans hF_264
          have hF_274 : F_269 rx = .inl (cs 16, 3000, .inl f) := (hB1.2.2.2 rx (by rw [ht_8]; simp only [List.mem_cons, List.not_mem_nil, or_false]; omega)).trans hF_265
          generalize H1 = H at hP hS ⊢
          refine lv_iload_n hx hb dX4_addBody_108 rfl (lv_at hl 0 rfl) ?_
          refine lv_if_ne (tgt := 122) hx hb dX4_addBody_109 (by decide) (fun c_275 => absurd (by rw [hk0]; rfl) c_275) (fun c_275 => ?_)
          refine lv_iload_n hx hb dX4_addBody_112 rfl (lv_at hl 3 rfl) ?_
          refine lv_if_ne (tgt := 122) hx hb dX4_addBody_113 (by decide) (fun c_276 => ?_) (fun c_276 => ?_)
          ·
            refine W.widen (k := 0) (n := 0) (by omega) (by omega) ?_
            exact W.vret hx hb hr (fun t ht hWm => ⟨⟨(), rfl, trivial, ⟨F_269, ke, fo2_192, QT.mk ht hP hD hO hR, hq_270, (bdn_n hst (fun q => c_276 q.2)), hq_271, ⟨ke, hst, Or.inr ⟨(fun q => c_276 q.2), rfl, (fun j y hj hy => hq_195 j y (by rw [List.getElem?_append_left (by rw [← hLL]; omega), ← hLL] at hy; exact hy))⟩⟩⟩⟩, hS.F ht⟩) hS.2.2 dX4_addBody_122
          ·
            refine lv_aload_n hx hb dX4_addBody_116 rfl (lv_at hl 2 rfl) ?_
            refine lv_bipush (v := 10) hx hb dX4_addBody_117 (by decide) ?_
            have hFc := pg_free hD hS hA
            refine va_callv (va_runV (As := [.int 10]) (rest := []) ⟨hx, hb, hml, hown, hts⟩ (s_X0_add_e l dC dI cs ty L H.size F_269 g1 σ r1 n1 ke fo2_192 10 hW hL_g1 hT_g1 hq_270 hq_271 (by omega) (by omega)) ⟨callB_of 1 hts (gi kt_13) rfl rfl rfl (hts _ kt_1) (hts _ kt_230) (by decide +kernel) ⟨Nat.le_of_ble_eq_true rfl, Nat.le_of_ble_eq_true rfl⟩, (hts _ kt_15), (hts _ kt_16)⟩ ⟨fun a U g mk q => ⟨q.1, PT.calling q.2⟩, pg_recv hK hP hL_g1 hq_270 (q := (RX0, TX0, 3)) rfl, fun U hU hWm => ⟨rfl, PT.mk hU hWm hP hK hD hE hO⟩⟩ rfl rfl hl.1 rfl (lv_room (Nat.le_of_ble_eq_true rfl)) dX4_addBody_119 ⟨by show _ + 0 ≤ 0; omega, by show _ + 0 ≤ 0; omega⟩) hS (fun q _ h => hFc q h) hFc (fun u t H1 locs ht hvm hw hB hz1 hk1 hS => ?_)
            obtain ⟨F_278, hB1, hq_279, hq_280⟩ := hB
            obtain ⟨hP, hD, hO, hR⟩ := QT.back hB1 ht hFc hR (fun q h => by simp only [List.mem_cons, List.not_mem_nil, or_false] at h ⊢; omega)
            have hF_281 : F_278 h0 = .inr (4, [.ref tx, .ref y0, .ref y1, .ref y2, .int (nI nn), .int (nI bs)]) := (hB1.2.2.2 h0 (by rw [hT_h0]; simp only [List.mem_cons, List.not_mem_nil, or_false]; omega)).trans hF_272
            have hF_282 : F_278 tx = .inr (0, [.ref rx, .int (nI zm), .int oo]) := (hB1.2.2.2 tx (by rw [hT_tx]; simp only [List.mem_cons, List.not_mem_nil, or_false]; omega)).trans hF_273
            have hF_283 : F_278 rx = .inl (cs 16, 3000, .inl f) := (hB1.2.2.2 rx (by rw [ht_8]; simp only [List.mem_cons, List.not_mem_nil, or_false]; omega)).trans hF_274
            generalize H1 = H at hP hS ⊢
            refine W.widen (k := 0) (n := 0) (by omega) (by omega) ?_
            exact W.vret hx hb hr (fun t ht hWm => ⟨⟨(), rfl, trivial, ⟨F_278, 1, (upd fo2_192 ke 10), QT.mk ht hP hD hO hR, (by have h9 := hq_279; rw [hk0] at h9; exact h9), (bdn_0 hst hk0 c_276), hq_280, ⟨ke, hst, Or.inl ⟨hk0, c_276, rfl, (by rw [hk0]; exact updc_at)⟩⟩⟩⟩, hS.F ht⟩) hS.2.2 dX4_addBody_122
        ·
          have hkp : 0 < ke := posN c_266
          refine lv_aload_n hx hb dX4_addBody_68 rfl (lv_at hl 2 rfl) ?_
          refine lv_iload_n hx hb dX4_addBody_69 rfl (lv_at hl 0 rfl) ?_
          refine lv_iconst (v := 1) hx hb dX4_addBody_70 (by decide) ?_
          refine lv_isub hx hb dX4_addBody_71 ?_
          refine lv_topi (fun x_285 ex_285 => ?_)
          obtain rfl : x_285 = (nI (ke - 1)) := ex_285.trans (pk_sub (b := 1) (by omega))
          have hFc := pg_free hD hS hA
          refine va_calli (va_runV (As := [.int (nI (ke - 1))]) (rest := []) ⟨hx, hb, hml, hown, hts⟩ (s_X0_at_o l dC dI cs ty L H.size F_257 g1 σ r1 n1 LL.length (ke - 1) fo2_192 0 hW hL_g1 hT_g1 hN1 hN2 (by omega) (by omega) (by omega)) ⟨callB_of 1 hts (gi kt_21) rfl rfl rfl (hts _ kt_1) (hts _ kt_199) (by decide +kernel) ⟨Nat.le_of_ble_eq_true rfl, Nat.le_of_ble_eq_true rfl⟩, (hts _ kt_23), (hts _ kt_24)⟩ ⟨fun a U g mk q => ⟨q.1, PT.calling q.2⟩, pg_recv hK hP hL_g1 hN1 (q := (RX0, TX0, 3)) rfl, fun U hU hWm => ⟨rfl, PT.mk hU hWm hP hK hD hE hO⟩⟩ rfl rfl hl.1 rfl (lv_room (Nat.le_of_ble_eq_true rfl)) dX4_addBody_72 ⟨by show _ + 0 ≤ 0; omega, by show _ + 0 ≤ 0; omega⟩) hS (fun q _ h => hFc q h) hFc (fun r_286 u t H1 locs ht hvm hw hB hz1 hk1 hS => ?_)
          obtain ⟨F_287, hB1⟩ := hB
          obtain rfl : F_257 = F_287 := (funext (fun a => hB1.2.2.2 a List.not_mem_nil)).symm
          obtain ⟨hP, hD, hO, hR⟩ := QT.back hB1 ht hFc hR (fun q h => absurd h List.not_mem_nil)
          generalize H1 = H at hP hS ⊢
          have hw : r_286 = fo2_192 (ke - 1) := hw
          have hw_288 := hw
          subst hw_288
          refine lv_bipush (v := 10) hx hb dX4_addBody_75 (by decide) ?_
          refine lv_icmp_ne (tgt := 103) hx hb dX4_addBody_77 (by decide) (fun c_289 => absurd (hv3.resolve_left (by omega)) c_289) (fun c_289 => ?_)
          refine lv_iload_n hx hb dX4_addBody_80 rfl (lv_at hl 0 rfl) ?_
          refine lv_iconst (v := 1) hx hb dX4_addBody_81 (by decide) ?_
          refine lv_icmp_eq (tgt := 97) hx hb dX4_addBody_82 (by decide) (fun c_290 => ?_) (fun c_290 => ?_)
          ·
            have hk1 : ke = 1 := (nI_eq (b := 1) (by omega) (by omega)).mp c_290
            refine lv_iinc (v := (nI (ke - 1))) (lv' := [(3, .int (nI (ke - 1))), (0, .ref h0), (1, .ref g1), (2, .int x2)]) hx hb dX4_addBody_97 hl (k := 0) rfl (m1N (by omega)) (by decide) rfl (fun ls hl => ?_)
            refine lv_goto (tgt := 64) hx hb dX4_addBody_100 (by decide) ?_
            refine W.widen (k := 0) (n := 0) (by omega) (by omega) ?_
            exact ih_262 (ke - 1) F_257 (⟨by omega, fun j h1 h2 => by rcases Nat.lt_or_ge j ke with q | q; rw [show j = ke - 1 by omega]; exact hv3.resolve_left (by omega); exact hv2 j q h2, Or.inl (by omega), hN1, hN2⟩) (by show (ke - 1) < ke; omega) hO hR _ _ hP hD hS ls (lv_sub hl [0, 1, 2, 3] rfl)
          ·
            have hk2 : 2 ≤ ke := by have h9 : ke ≠ 1 := fun q => c_290 (by rw [q]; rfl); omega
            refine lv_aload_n hx hb dX4_addBody_85 rfl (lv_at hl 2 rfl) ?_
            refine lv_iload_n hx hb dX4_addBody_86 rfl (lv_at hl 0 rfl) ?_
            refine lv_iconst (v := 2) hx hb dX4_addBody_87 (by decide) ?_
            refine lv_isub hx hb dX4_addBody_88 ?_
            refine lv_topi (fun x_293 ex_293 => ?_)
            obtain rfl : x_293 = (nI (ke - 2)) := ex_293.trans (pk_sub (b := 2) (by omega))
            have hFc := pg_free hD hS hA
            refine va_calli (va_runV (As := [.int (nI (ke - 2))]) (rest := []) ⟨hx, hb, hml, hown, hts⟩ (s_X0_at_o l dC dI cs ty L H.size F_257 g1 σ r1 n1 LL.length (ke - 2) fo2_192 0 hW hL_g1 hT_g1 hN1 hN2 (by omega) (by omega) (by omega)) ⟨callB_of 1 hts (gi kt_21) rfl rfl rfl (hts _ kt_1) (hts _ kt_199) (by decide +kernel) ⟨Nat.le_of_ble_eq_true rfl, Nat.le_of_ble_eq_true rfl⟩, (hts _ kt_23), (hts _ kt_24)⟩ ⟨fun a U g mk q => ⟨q.1, PT.calling q.2⟩, pg_recv hK hP hL_g1 hN1 (q := (RX0, TX0, 3)) rfl, fun U hU hWm => ⟨rfl, PT.mk hU hWm hP hK hD hE hO⟩⟩ rfl rfl hl.1 rfl (lv_room (Nat.le_of_ble_eq_true rfl)) dX4_addBody_89 ⟨by show _ + 0 ≤ 0; omega, by show _ + 0 ≤ 0; omega⟩) hS (fun q _ h => hFc q h) hFc (fun r_294 u t H1 locs ht hvm hw hB hz1 hk1 hS => ?_)
            obtain ⟨F_295, hB1⟩ := hB
            obtain rfl : F_257 = F_295 := (funext (fun a => hB1.2.2.2 a List.not_mem_nil)).symm
            obtain ⟨hP, hD, hO, hR⟩ := QT.back hB1 ht hFc hR (fun q h => absurd h List.not_mem_nil)
            generalize H1 = H at hP hS ⊢
            have hw : r_294 = fo2_192 (ke - 2) := hw
            have hw_296 := hw
            subst hw_296
            refine lv_bipush (v := 10) hx hb dX4_addBody_92 (by decide) ?_
            refine lv_icmp_ne (tgt := 103) hx hb dX4_addBody_94 (by decide) (fun c_297 => ?_) (fun c_297 => ?_)
            ·
              have hst := stl_v hq_195 hq_196 hv1 hv2 (Or.inr ⟨hk2, hv3.resolve_left (by omega), c_297⟩)
              have hst := hst.nl
              rw [hLL] at hst
              refine lv_aload_n hx hb dX4_addBody_103 rfl (lv_at hl 2 rfl) ?_
              refine lv_iload_n hx hb dX4_addBody_104 rfl (lv_at hl 0 rfl) ?_
              have hFc := pg_free hD hS hA
              refine va_callv (va_runV (As := [.int (nI ke)]) (rest := []) ⟨hx, hb, hml, hown, hts⟩ (s_X0_cut_e l dC dI cs ty L H.size F_257 g1 σ r1 n1 LL.length ke fo2_192 hW hL_g1 hT_g1 hN1 hN2 (hv1) (by omega) (by omega)) ⟨callB_of 1 hts (gi kt_236) rfl rfl rfl (hts _ kt_1) (hts _ kt_237) (by decide +kernel) ⟨Nat.le_of_ble_eq_true rfl, Nat.le_of_ble_eq_true rfl⟩, (hts _ kt_238), (hts _ kt_239)⟩ ⟨fun a U g mk q => ⟨q.1, PT.calling q.2⟩, pg_recv hK hP hL_g1 hN1 (q := (RX0, TX0, 3)) rfl, fun U hU hWm => ⟨rfl, PT.mk hU hWm hP hK hD hE hO⟩⟩ rfl rfl hl.1 rfl (lv_room (Nat.le_of_ble_eq_true rfl)) dX4_addBody_105 ⟨by show _ + 0 ≤ 0; omega, by show _ + 0 ≤ 0; omega⟩) hS (fun q _ h => hFc q h) hFc (fun u t H1 locs ht hvm hw hB hz1 hk1 hS => ?_)
              obtain ⟨F_299, hB1, hq_300, hq_301⟩ := hB
              obtain ⟨hP, hD, hO, hR⟩ := QT.back hB1 ht hFc hR (fun q h => by simp only [List.mem_cons, List.not_mem_nil, or_false] at h ⊢; omega)
              have hF_302 : F_299 h0 = .inr (4, [.ref tx, .ref y0, .ref y1, .ref y2, .int (nI nn), .int (nI bs)]) := (hB1.2.2.2 h0 (by rw [hT_h0]; simp only [List.mem_cons, List.not_mem_nil, or_false]; omega)).trans hF_263
              have hF_303 : F_299 tx = .inr (0, [.ref rx, .int (nI zm), .int oo]) := (hB1.2.2.2 tx (by rw [hT_tx]; simp only [List.mem_cons, List.not_mem_nil, or_false]; omega)).trans hF_264
              have hF_304 : F_299 rx = .inl (cs 16, 3000, .inl f) := (hB1.2.2.2 rx (by rw [ht_8]; simp only [List.mem_cons, List.not_mem_nil, or_false]; omega)).trans hF_265
              generalize H1 = H at hP hS ⊢
              refine lv_iload_n hx hb dX4_addBody_108 rfl (lv_at hl 0 rfl) ?_
              refine lv_if_ne (tgt := 122) hx hb dX4_addBody_109 (by decide) (fun c_305 => ?_) (fun c_305 => absurd c_305 (fun q => absurd ((nI_eq (b := 0) (by omega) (by omega)).mp q) (by omega)))
              refine W.widen (k := 0) (n := 0) (by omega) (by omega) ?_
              exact W.vret hx hb hr (fun t ht hWm => ⟨⟨(), rfl, trivial, ⟨F_299, ke, fo2_192, QT.mk ht hP hD hO hR, hq_300, (bdn_n hst (fun q => by have q1 := q.1; omega)), hq_301, ⟨ke, hst, Or.inr ⟨(fun q => by have q1 := q.1; omega), rfl, (fun j y hj hy => hq_195 j y (by rw [List.getElem?_append_left (by rw [← hLL]; omega), ← hLL] at hy; exact hy))⟩⟩⟩⟩, hS.F ht⟩) hS.2.2 dX4_addBody_122
            ·
              refine lv_iinc (v := (nI (ke - 1))) (lv' := [(3, .int (nI (ke - 1))), (0, .ref h0), (1, .ref g1), (2, .int x2)]) hx hb dX4_addBody_97 hl (k := 0) rfl (m1N (by omega)) (by decide) rfl (fun ls hl => ?_)
              refine lv_goto (tgt := 64) hx hb dX4_addBody_100 (by decide) ?_
              refine W.widen (k := 0) (n := 0) (by omega) (by omega) ?_
              exact ih_262 (ke - 1) F_257 (⟨by omega, fun j h1 h2 => by rcases Nat.lt_or_ge j ke with q | q; rw [show j = ke - 1 by omega]; exact hv3.resolve_left (by omega); exact hv2 j q h2, Or.inr (by rw [show ke - 1 - 1 = ke - 2 by omega]; exact c_297), hN1, hN2⟩) (by show (ke - 1) < ke; omega) hO hR _ _ hP hD hS ls (lv_sub hl [0, 1, 2, 3] rfl)
      ·
        refine lv_aload_n hx hb dX4_addBody_53 rfl (lv_at hl 1 rfl) ?_
        refine lv_bipush (v := 10) hx hb dX4_addBody_54 (by decide) ?_
        have hFc := pg_free hD hS hA
        refine va_callv (va_runV (As := [.int 10]) (rest := []) ⟨hx, hb, hml, hown, hts⟩ (s_X0_add_e l dC dI cs ty L H.size F_191 g1 σ r1 n1 LL.length fo2_192 10 hW hL_g1 hT_g1 hq_193 hq_194 (by omega) (by omega)) ⟨callB_of 1 hts (gi kt_13) rfl rfl rfl (hts _ kt_1) (hts _ kt_230) (by decide +kernel) ⟨Nat.le_of_ble_eq_true rfl, Nat.le_of_ble_eq_true rfl⟩, (hts _ kt_15), (hts _ kt_16)⟩ ⟨fun a U g mk q => ⟨q.1, PT.calling q.2⟩, pg_recv hK hP hL_g1 hq_193 (q := (RX0, TX0, 3)) rfl, fun U hU hWm => ⟨rfl, PT.mk hU hWm hP hK hD hE hO⟩⟩ rfl rfl hl.1 rfl (lv_room (Nat.le_of_ble_eq_true rfl)) dX4_addBody_56 ⟨by show _ + 0 ≤ 0; omega, by show _ + 0 ≤ 0; omega⟩) hS (fun q _ h => hFc q h) hFc (fun u t H1 locs ht hvm hw hB hz1 hk1 hS => ?_)
        obtain ⟨F_307, hB1, hq_308, hq_309⟩ := hB
        obtain ⟨hP, hD, hO, hR⟩ := QT.back hB1 ht hFc hR (fun q h => by simp only [List.mem_cons, List.not_mem_nil, or_false] at h ⊢; omega)
        have hF_310 : F_307 h0 = .inr (4, [.ref tx, .ref y0, .ref y1, .ref y2, .int (nI nn), .int (nI bs)]) := (hB1.2.2.2 h0 (by rw [hT_h0]; simp only [List.mem_cons, List.not_mem_nil, or_false]; omega)).trans hF_197
        have hF_311 : F_307 tx = .inr (0, [.ref rx, .int (nI zm), .int oo]) := (hB1.2.2.2 tx (by rw [hT_tx]; simp only [List.mem_cons, List.not_mem_nil, or_false]; omega)).trans hF_198
        have hF_312 : F_307 rx = .inl (cs 16, 3000, .inl f) := (hB1.2.2.2 rx (by rw [ht_8]; simp only [List.mem_cons, List.not_mem_nil, or_false]; omega)).trans hF_199
        generalize H1 = H at hP hS ⊢
        have hou_313 := OUTS.add (y := (2, 10)) hq_195 (show (10 : Int32) = evs f (2, 10) from rfl)
        have hwf_314 := WFS.add (y := (2, 10)) hq_196 (Or.inl rfl)
        have hF_315 : F_307 g1 = .inr (0, [.ref r1, .int (nI (LL ++ [(2, 10)]).length), .int 0]) := by rw [len1]; exact hq_308
        have hWl : (LL ++ [(2, 10)]).length ≤ zm - bs + 1 := by rw [len1]; omega
        have hend : (LL ++ [(2, 10)]).length = 0 ∨ (upd fo2_192 LL.length 10) ((LL ++ [(2, 10)]).length - 1) = 10 := Or.inr (by rw [len1, Nat.add_sub_cancel]; exact updc_at)
        refine lv_aload_n hx hb dX4_addBody_59 rfl (lv_at hl 1 rfl) ?_
        refine pg_getN (ci := 0) (v := .int (nI (LL ++ [(2, 10)]).length)) (C := RX0) (T := TX0) (N := 3) hx hb hts it_0 hown hK hP hL_g1 hF_315 rfl 1 (by decide) (hE.nest kn_6) (fun _ h9 => h9) rfl dX4_addBody_60 ?_
        refine lv_istore_n (lv' := [(3, .int (nI (LL ++ [(2, 10)]).length)), (0, .ref h0), (1, .ref g1), (2, .int x2)]) hx hb dX4_addBody_63 rfl hl (by decide) rfl (fun ls hl => ?_)
        refine W.widen (k := 0) (n := 0) (by omega) (by omega) ?_
        have hF_317 : F h0 = .inr (4, [.ref tx, .ref y0, .ref y1, .ref y2, .int (nI nn), .int (nI bs)]) := (hR h0 (by rw [hT_h0]; simp only [List.mem_cons, List.not_mem_nil, or_false]; omega)).symm.trans hF_310
        have hF_318 : F tx = .inr (0, [.ref rx, .int (nI zm), .int oo]) := (hR tx (by rw [hT_tx]; simp only [List.mem_cons, List.not_mem_nil, or_false]; omega)).symm.trans hF_311
        have hF_319 : F rx = .inl (cs 16, 3000, .inl f) := (hR rx (by rw [ht_8]; simp only [List.mem_cons, List.not_mem_nil, or_false]; omega)).symm.trans hF_312
        refine pl_loop (σ := Nat) A (dC, dI) cs ty L [σ] F 64 4 (fun ke => [(3, .int (nI ke)), (0, .ref h0), (1, .ref g1), (2, .int x2)]) (fun ke => []) (fun ke FF => ke ≤ (LL ++ [(2, 10)]).length ∧ (∀ j, ke ≤ j → j < (LL ++ [(2, 10)]).length → (upd fo2_192 LL.length 10) j = 10) ∧ (ke = 0 ∨ (upd fo2_192 LL.length 10) (ke - 1) = 10) ∧ FF g1 = .inr (0, [.ref r1, .int (nI (LL ++ [(2, 10)]).length), .int 0]) ∧ FF r1 = .inl (cs 16, n1, .inl (upd fo2_192 LL.length 10))) (fun ke => ke) ?_ ((LL ++ [(2, 10)]).length) F_307 (⟨Nat.le_refl _, fun j h1 h2 => by omega, hend, hF_315, hq_309⟩) hO hR _ _ hP hD hS ls (lv_sub hl [0, 1, 2, 3] rfl)
        rintro ke F_316 hv_320 hO hR ih_321 H locs hP hD hS ls hl
        have hl : lv_has ls 4 [(3, .int (nI ke)), (0, .ref h0), (1, .ref g1), (2, .int x2)] := hl
        have hv_320 : ke ≤ (LL ++ [(2, 10)]).length ∧ (∀ j, ke ≤ j → j < (LL ++ [(2, 10)]).length → (upd fo2_192 LL.length 10) j = 10) ∧ (ke = 0 ∨ (upd fo2_192 LL.length 10) (ke - 1) = 10) ∧ F_316 g1 = .inr (0, [.ref r1, .int (nI (LL ++ [(2, 10)]).length), .int 0]) ∧ F_316 r1 = .inl (cs 16, n1, .inl (upd fo2_192 LL.length 10)) := hv_320
        refine W.eq (g2 := F0 m 64 ls []) rfl ?_
        have hF_322 : F_316 h0 = .inr (4, [.ref tx, .ref y0, .ref y1, .ref y2, .int (nI nn), .int (nI bs)]) := (hR h0 (by rw [hT_h0]; simp only [List.mem_cons, List.not_mem_nil, or_false]; omega)).trans hF_317
        have hF_323 : F_316 tx = .inr (0, [.ref rx, .int (nI zm), .int oo]) := (hR tx (by rw [hT_tx]; simp only [List.mem_cons, List.not_mem_nil, or_false]; omega)).trans hF_318
        have hF_324 : F_316 rx = .inl (cs 16, 3000, .inl f) := (hR rx (by rw [ht_8]; simp only [List.mem_cons, List.not_mem_nil, or_false]; omega)).trans hF_319
        obtain ⟨hv1, hv2, hv3, hN1, hN2⟩ := id hv_320
        refine lv_iload_n hx hb dX4_addBody_64 rfl (lv_at hl 0 rfl) ?_
        refine lv_if_le (tgt := 103) hx hb dX4_addBody_65 (by decide) (fun c_325 => ?_) (fun c_325 => ?_)
        ·
          have hk0 : ke = 0 := by have h9 : ke ≤ 0 := (nI_leI (b := 0) (by omega) (by omega)).mp c_325; omega
          have hst := stl_v hou_313 hwf_314 hv1 hv2 (Or.inl hk0)
          rw [hLL] at hst
          refine lv_aload_n hx hb dX4_addBody_103 rfl (lv_at hl 2 rfl) ?_
          refine lv_iload_n hx hb dX4_addBody_104 rfl (lv_at hl 0 rfl) ?_
          have hFc := pg_free hD hS hA
          refine va_callv (va_runV (As := [.int (nI ke)]) (rest := []) ⟨hx, hb, hml, hown, hts⟩ (s_X0_cut_e l dC dI cs ty L H.size F_316 g1 σ r1 n1 ((LL ++ [(2, 10)]).length) ke (upd fo2_192 LL.length 10) hW hL_g1 hT_g1 hN1 hN2 (hv1) (by omega) (by omega)) ⟨callB_of 1 hts (gi kt_236) rfl rfl rfl (hts _ kt_1) (hts _ kt_237) (by decide +kernel) ⟨Nat.le_of_ble_eq_true rfl, Nat.le_of_ble_eq_true rfl⟩, (hts _ kt_238), (hts _ kt_239)⟩ ⟨fun a U g mk q => ⟨q.1, PT.calling q.2⟩, pg_recv hK hP hL_g1 hN1 (q := (RX0, TX0, 3)) rfl, fun U hU hWm => ⟨rfl, PT.mk hU hWm hP hK hD hE hO⟩⟩ rfl rfl hl.1 rfl (lv_room (Nat.le_of_ble_eq_true rfl)) dX4_addBody_105 ⟨by show _ + 0 ≤ 0; omega, by show _ + 0 ≤ 0; omega⟩) hS (fun q _ h => hFc q h) hFc (fun u t H1 locs ht hvm hw hB hz1 hk1 hS => ?_)
          obtain ⟨F_328, hB1, hq_329, hq_330⟩ := hB
          obtain ⟨hP, hD, hO, hR⟩ := QT.back hB1 ht hFc hR (fun q h => by simp only [List.mem_cons, List.not_mem_nil, or_false] at h ⊢; omega)
          have hF_331 : F_328 h0 = .inr (4, [.ref tx, .ref y0, .ref y1, .ref y2, .int (nI nn), .int (nI bs)]) := (hB1.2.2.2 h0 (by rw [hT_h0]; simp only [List.mem_cons, List.not_mem_nil, or_false]; omega)).trans hF_322
          have hF_332 : F_328 tx = .inr (0, [.ref rx, .int (nI zm), .int oo]) := (hB1.2.2.2 tx (by rw [hT_tx]; simp only [List.mem_cons, List.not_mem_nil, or_false]; omega)).trans hF_323
          have hF_333 : F_328 rx = .inl (cs 16, 3000, .inl f) := (hB1.2.2.2 rx (by rw [ht_8]; simp only [List.mem_cons, List.not_mem_nil, or_false]; omega)).trans hF_324
          generalize H1 = H at hP hS ⊢
          refine lv_iload_n hx hb dX4_addBody_108 rfl (lv_at hl 0 rfl) ?_
          refine lv_if_ne (tgt := 122) hx hb dX4_addBody_109 (by decide) (fun c_334 => absurd (by rw [hk0]; rfl) c_334) (fun c_334 => ?_)
          refine lv_iload_n hx hb dX4_addBody_112 rfl (lv_at hl 3 rfl) ?_
          refine lv_if_ne (tgt := 122) hx hb dX4_addBody_113 (by decide) (fun c_335 => ?_) (fun c_335 => ?_)
          ·
            refine W.widen (k := 0) (n := 0) (by omega) (by omega) ?_
            exact W.vret hx hb hr (fun t ht hWm => ⟨⟨(), rfl, trivial, ⟨F_328, ke, (upd fo2_192 LL.length 10), QT.mk ht hP hD hO hR, hq_329, (bdn_n hst (fun q => c_335 q.2)), hq_330, ⟨ke, hst, Or.inr ⟨(fun q => c_335 q.2), rfl, (fun j y hj hy => hou_313 j y (by rw [hLL]; exact hy))⟩⟩⟩⟩, hS.F ht⟩) hS.2.2 dX4_addBody_122
          ·
            refine lv_aload_n hx hb dX4_addBody_116 rfl (lv_at hl 2 rfl) ?_
            refine lv_bipush (v := 10) hx hb dX4_addBody_117 (by decide) ?_
            have hFc := pg_free hD hS hA
            refine va_callv (va_runV (As := [.int 10]) (rest := []) ⟨hx, hb, hml, hown, hts⟩ (s_X0_add_e l dC dI cs ty L H.size F_328 g1 σ r1 n1 ke (upd fo2_192 LL.length 10) 10 hW hL_g1 hT_g1 hq_329 hq_330 (by omega) (by omega)) ⟨callB_of 1 hts (gi kt_13) rfl rfl rfl (hts _ kt_1) (hts _ kt_230) (by decide +kernel) ⟨Nat.le_of_ble_eq_true rfl, Nat.le_of_ble_eq_true rfl⟩, (hts _ kt_15), (hts _ kt_16)⟩ ⟨fun a U g mk q => ⟨q.1, PT.calling q.2⟩, pg_recv hK hP hL_g1 hq_329 (q := (RX0, TX0, 3)) rfl, fun U hU hWm => ⟨rfl, PT.mk hU hWm hP hK hD hE hO⟩⟩ rfl rfl hl.1 rfl (lv_room (Nat.le_of_ble_eq_true rfl)) dX4_addBody_119 ⟨by show _ + 0 ≤ 0; omega, by show _ + 0 ≤ 0; omega⟩) hS (fun q _ h => hFc q h) hFc (fun u t H1 locs ht hvm hw hB hz1 hk1 hS => ?_)
            obtain ⟨F_337, hB1, hq_338, hq_339⟩ := hB
            obtain ⟨hP, hD, hO, hR⟩ := QT.back hB1 ht hFc hR (fun q h => by simp only [List.mem_cons, List.not_mem_nil, or_false] at h ⊢; omega)
            have hF_340 : F_337 h0 = .inr (4, [.ref tx, .ref y0, .ref y1, .ref y2, .int (nI nn), .int (nI bs)]) := (hB1.2.2.2 h0 (by rw [hT_h0]; simp only [List.mem_cons, List.not_mem_nil, or_false]; omega)).trans hF_331
            have hF_341 : F_337 tx = .inr (0, [.ref rx, .int (nI zm), .int oo]) := (hB1.2.2.2 tx (by rw [hT_tx]; simp only [List.mem_cons, List.not_mem_nil, or_false]; omega)).trans hF_332
            have hF_342 : F_337 rx = .inl (cs 16, 3000, .inl f) := (hB1.2.2.2 rx (by rw [ht_8]; simp only [List.mem_cons, List.not_mem_nil, or_false]; omega)).trans hF_333
            generalize H1 = H at hP hS ⊢
            refine W.widen (k := 0) (n := 0) (by omega) (by omega) ?_
            exact W.vret hx hb hr (fun t ht hWm => ⟨⟨(), rfl, trivial, ⟨F_337, 1, (upd (upd fo2_192 LL.length 10) ke 10), QT.mk ht hP hD hO hR, (by have h9 := hq_338; rw [hk0] at h9; exact h9), (bdn_0 hst hk0 c_335), hq_339, ⟨ke, hst, Or.inl ⟨hk0, c_335, rfl, (by rw [hk0]; exact updc_at)⟩⟩⟩⟩, hS.F ht⟩) hS.2.2 dX4_addBody_122
        ·
          have hkp : 0 < ke := posN c_325
          refine lv_aload_n hx hb dX4_addBody_68 rfl (lv_at hl 2 rfl) ?_
          refine lv_iload_n hx hb dX4_addBody_69 rfl (lv_at hl 0 rfl) ?_
          refine lv_iconst (v := 1) hx hb dX4_addBody_70 (by decide) ?_
          refine lv_isub hx hb dX4_addBody_71 ?_
          refine lv_topi (fun x_344 ex_344 => ?_)
          obtain rfl : x_344 = (nI (ke - 1)) := ex_344.trans (pk_sub (b := 1) (by omega))
          have hFc := pg_free hD hS hA
          refine va_calli (va_runV (As := [.int (nI (ke - 1))]) (rest := []) ⟨hx, hb, hml, hown, hts⟩ (s_X0_at_o l dC dI cs ty L H.size F_316 g1 σ r1 n1 ((LL ++ [(2, 10)]).length) (ke - 1) (upd fo2_192 LL.length 10) 0 hW hL_g1 hT_g1 hN1 hN2 (by omega) (by omega) (by omega)) ⟨callB_of 1 hts (gi kt_21) rfl rfl rfl (hts _ kt_1) (hts _ kt_199) (by decide +kernel) ⟨Nat.le_of_ble_eq_true rfl, Nat.le_of_ble_eq_true rfl⟩, (hts _ kt_23), (hts _ kt_24)⟩ ⟨fun a U g mk q => ⟨q.1, PT.calling q.2⟩, pg_recv hK hP hL_g1 hN1 (q := (RX0, TX0, 3)) rfl, fun U hU hWm => ⟨rfl, PT.mk hU hWm hP hK hD hE hO⟩⟩ rfl rfl hl.1 rfl (lv_room (Nat.le_of_ble_eq_true rfl)) dX4_addBody_72 ⟨by show _ + 0 ≤ 0; omega, by show _ + 0 ≤ 0; omega⟩) hS (fun q _ h => hFc q h) hFc (fun r_345 u t H1 locs ht hvm hw hB hz1 hk1 hS => ?_)
          obtain ⟨F_346, hB1⟩ := hB
          obtain rfl : F_316 = F_346 := (funext (fun a => hB1.2.2.2 a List.not_mem_nil)).symm
          obtain ⟨hP, hD, hO, hR⟩ := QT.back hB1 ht hFc hR (fun q h => absurd h List.not_mem_nil)
          generalize H1 = H at hP hS ⊢
          have hw : r_345 = (upd fo2_192 LL.length 10) (ke - 1) := hw
          have hw_347 := hw
          subst hw_347
          refine lv_bipush (v := 10) hx hb dX4_addBody_75 (by decide) ?_
          refine lv_icmp_ne (tgt := 103) hx hb dX4_addBody_77 (by decide) (fun c_348 => absurd (hv3.resolve_left (by omega)) c_348) (fun c_348 => ?_)
          refine lv_iload_n hx hb dX4_addBody_80 rfl (lv_at hl 0 rfl) ?_
          refine lv_iconst (v := 1) hx hb dX4_addBody_81 (by decide) ?_
          refine lv_icmp_eq (tgt := 97) hx hb dX4_addBody_82 (by decide) (fun c_349 => ?_) (fun c_349 => ?_)
          ·
            have hk1 : ke = 1 := (nI_eq (b := 1) (by omega) (by omega)).mp c_349
            refine lv_iinc (v := (nI (ke - 1))) (lv' := [(3, .int (nI (ke - 1))), (0, .ref h0), (1, .ref g1), (2, .int x2)]) hx hb dX4_addBody_97 hl (k := 0) rfl (m1N (by omega)) (by decide) rfl (fun ls hl => ?_)
            refine lv_goto (tgt := 64) hx hb dX4_addBody_100 (by decide) ?_
            refine W.widen (k := 0) (n := 0) (by omega) (by omega) ?_
            exact ih_321 (ke - 1) F_316 (⟨by omega, fun j h1 h2 => by rcases Nat.lt_or_ge j ke with q | q; rw [show j = ke - 1 by omega]; exact hv3.resolve_left (by omega); exact hv2 j q h2, Or.inl (by omega), hN1, hN2⟩) (by show (ke - 1) < ke; omega) hO hR _ _ hP hD hS ls (lv_sub hl [0, 1, 2, 3] rfl)
          ·
            have hk2 : 2 ≤ ke := by have h9 : ke ≠ 1 := fun q => c_349 (by rw [q]; rfl); omega
            refine lv_aload_n hx hb dX4_addBody_85 rfl (lv_at hl 2 rfl) ?_
            refine lv_iload_n hx hb dX4_addBody_86 rfl (lv_at hl 0 rfl) ?_
            refine lv_iconst (v := 2) hx hb dX4_addBody_87 (by decide) ?_
            refine lv_isub hx hb dX4_addBody_88 ?_
            refine lv_topi (fun x_352 ex_352 => ?_)
            obtain rfl : x_352 = (nI (ke - 2)) := ex_352.trans (pk_sub (b := 2) (by omega))
            have hFc := pg_free hD hS hA
            refine va_calli (va_runV (As := [.int (nI (ke - 2))]) (rest := []) ⟨hx, hb, hml, hown, hts⟩ (s_X0_at_o l dC dI cs ty L H.size F_316 g1 σ r1 n1 ((LL ++ [(2, 10)]).length) (ke - 2) (upd fo2_192 LL.length 10) 0 hW hL_g1 hT_g1 hN1 hN2 (by omega) (by omega) (by omega)) ⟨callB_of 1 hts (gi kt_21) rfl rfl rfl (hts _ kt_1) (hts _ kt_199) (by decide +kernel) ⟨Nat.le_of_ble_eq_true rfl, Nat.le_of_ble_eq_true rfl⟩, (hts _ kt_23), (hts _ kt_24)⟩ ⟨fun a U g mk q => ⟨q.1, PT.calling q.2⟩, pg_recv hK hP hL_g1 hN1 (q := (RX0, TX0, 3)) rfl, fun U hU hWm => ⟨rfl, PT.mk hU hWm hP hK hD hE hO⟩⟩ rfl rfl hl.1 rfl (lv_room (Nat.le_of_ble_eq_true rfl)) dX4_addBody_89 ⟨by show _ + 0 ≤ 0; omega, by show _ + 0 ≤ 0; omega⟩) hS (fun q _ h => hFc q h) hFc (fun r_353 u t H1 locs ht hvm hw hB hz1 hk1 hS => ?_)
            obtain ⟨F_354, hB1⟩ := hB
            obtain rfl : F_316 = F_354 := (funext (fun a => hB1.2.2.2 a List.not_mem_nil)).symm
            obtain ⟨hP, hD, hO, hR⟩ := QT.back hB1 ht hFc hR (fun q h => absurd h List.not_mem_nil)
            generalize H1 = H at hP hS ⊢
            have hw : r_353 = (upd fo2_192 LL.length 10) (ke - 2) := hw
            have hw_355 := hw
            subst hw_355
            refine lv_bipush (v := 10) hx hb dX4_addBody_92 (by decide) ?_
            refine lv_icmp_ne (tgt := 103) hx hb dX4_addBody_94 (by decide) (fun c_356 => ?_) (fun c_356 => ?_)
            ·
              have hst := stl_v hou_313 hwf_314 hv1 hv2 (Or.inr ⟨hk2, hv3.resolve_left (by omega), c_356⟩)
              rw [hLL] at hst
              refine lv_aload_n hx hb dX4_addBody_103 rfl (lv_at hl 2 rfl) ?_
              refine lv_iload_n hx hb dX4_addBody_104 rfl (lv_at hl 0 rfl) ?_
              have hFc := pg_free hD hS hA
              refine va_callv (va_runV (As := [.int (nI ke)]) (rest := []) ⟨hx, hb, hml, hown, hts⟩ (s_X0_cut_e l dC dI cs ty L H.size F_316 g1 σ r1 n1 ((LL ++ [(2, 10)]).length) ke (upd fo2_192 LL.length 10) hW hL_g1 hT_g1 hN1 hN2 (hv1) (by omega) (by omega)) ⟨callB_of 1 hts (gi kt_236) rfl rfl rfl (hts _ kt_1) (hts _ kt_237) (by decide +kernel) ⟨Nat.le_of_ble_eq_true rfl, Nat.le_of_ble_eq_true rfl⟩, (hts _ kt_238), (hts _ kt_239)⟩ ⟨fun a U g mk q => ⟨q.1, PT.calling q.2⟩, pg_recv hK hP hL_g1 hN1 (q := (RX0, TX0, 3)) rfl, fun U hU hWm => ⟨rfl, PT.mk hU hWm hP hK hD hE hO⟩⟩ rfl rfl hl.1 rfl (lv_room (Nat.le_of_ble_eq_true rfl)) dX4_addBody_105 ⟨by show _ + 0 ≤ 0; omega, by show _ + 0 ≤ 0; omega⟩) hS (fun q _ h => hFc q h) hFc (fun u t H1 locs ht hvm hw hB hz1 hk1 hS => ?_)
              obtain ⟨F_358, hB1, hq_359, hq_360⟩ := hB
              obtain ⟨hP, hD, hO, hR⟩ := QT.back hB1 ht hFc hR (fun q h => by simp only [List.mem_cons, List.not_mem_nil, or_false] at h ⊢; omega)
              have hF_361 : F_358 h0 = .inr (4, [.ref tx, .ref y0, .ref y1, .ref y2, .int (nI nn), .int (nI bs)]) := (hB1.2.2.2 h0 (by rw [hT_h0]; simp only [List.mem_cons, List.not_mem_nil, or_false]; omega)).trans hF_322
              have hF_362 : F_358 tx = .inr (0, [.ref rx, .int (nI zm), .int oo]) := (hB1.2.2.2 tx (by rw [hT_tx]; simp only [List.mem_cons, List.not_mem_nil, or_false]; omega)).trans hF_323
              have hF_363 : F_358 rx = .inl (cs 16, 3000, .inl f) := (hB1.2.2.2 rx (by rw [ht_8]; simp only [List.mem_cons, List.not_mem_nil, or_false]; omega)).trans hF_324
              generalize H1 = H at hP hS ⊢
              refine lv_iload_n hx hb dX4_addBody_108 rfl (lv_at hl 0 rfl) ?_
              refine lv_if_ne (tgt := 122) hx hb dX4_addBody_109 (by decide) (fun c_364 => ?_) (fun c_364 => absurd c_364 (fun q => absurd ((nI_eq (b := 0) (by omega) (by omega)).mp q) (by omega)))
              refine W.widen (k := 0) (n := 0) (by omega) (by omega) ?_
              exact W.vret hx hb hr (fun t ht hWm => ⟨⟨(), rfl, trivial, ⟨F_358, ke, (upd fo2_192 LL.length 10), QT.mk ht hP hD hO hR, hq_359, (bdn_n hst (fun q => by have q1 := q.1; omega)), hq_360, ⟨ke, hst, Or.inr ⟨(fun q => by have q1 := q.1; omega), rfl, (fun j y hj hy => hou_313 j y (by rw [hLL]; exact hy))⟩⟩⟩⟩, hS.F ht⟩) hS.2.2 dX4_addBody_122
            ·
              refine lv_iinc (v := (nI (ke - 1))) (lv' := [(3, .int (nI (ke - 1))), (0, .ref h0), (1, .ref g1), (2, .int x2)]) hx hb dX4_addBody_97 hl (k := 0) rfl (m1N (by omega)) (by decide) rfl (fun ls hl => ?_)
              refine lv_goto (tgt := 64) hx hb dX4_addBody_100 (by decide) ?_
              refine W.widen (k := 0) (n := 0) (by omega) (by omega) ?_
              exact ih_321 (ke - 1) F_316 (⟨by omega, fun j h1 h2 => by rcases Nat.lt_or_ge j ke with q | q; rw [show j = ke - 1 by omega]; exact hv3.resolve_left (by omega); exact hv2 j q h2, Or.inr (by rw [show ke - 1 - 1 = ke - 2 by omega]; exact c_356), hN1, hN2⟩) (by show (ke - 1) < ke; omega) hO hR _ _ hP hD hS ls (lv_sub hl [0, 1, 2, 3] rfl)
set_option maxHeartbeats 4000000 in
set_option maxRecDepth 100000 in
theorem s_X11_plainBody_c (l : Launch) (dC : Nat → ClassId) (dI : Nat → Nat → Nat) (cs : Nat → ClassId) (ty : TyM) (L : List Nat) (sz : Nat) (F : Nat → va_E) (h0 : Nat) (ρ : Nat) (ta : Nat) (ou : Nat) (di : Nat) (ea : Nat) (ck : Nat) (sl : Nat) (po : Nat) (hs : Nat) (le : Nat) (x : Nat) (y0 : Nat) (y1 : Nat) (y2 : Nat) (sp : Nat) (rx : Nat) (ro : Nat) (nn : Nat) (zm : Nat) (μ : Nat) (bs : Nat) (f : Nat → Int32) (bb : Int32) (oo : Int32) (x1 : Int32) (zo : Nat) (fo : Nat → Int32) (hW : WT ty L) (hL_h0 : h0 ∈ L) (hT_h0 : ty h0 = (11, ρ, [ta, ou, di, ea, ck, sl, po, hs])) (hL_ou : ou ∈ L) (hT_ou : ty ou = (0, ρ + 2, [ro, 3000])) (hL_le : le ∈ L) (hT_le : ty le = (4, μ, [x, y0, y1, y2])) (hL_x : x ∈ L) (hT_x : ty x = (0, μ + 1, [rx, 3000])) (hF0 : F h0 = .inr (11, [.ref ta, .ref ou, .ref di, .ref ck, .ref sl, .ref po, .ref hs, .ref le, .ref sp])) (hFe : F le = .inr (4, [.ref x, .ref y0, .ref y1, .ref y2, .int (nI nn), .int bb])) (hFx : F x = .inr (0, [.ref rx, .int (nI zm), .int oo])) (hFr : F rx = .inl (cs 16, 3000, .inl f)) (hn20 : nn ≤ 20) (hz3 : zm ≤ 3000) (hmu : μ = ρ + 20 ∨ μ = ρ + 30) (hbs : nn = 0 ∨ (bb = nI bs ∧ bs ≤ zm ∧ zm ≤ 2000)) (hFo0 : F ou = .inr (0, [.ref ro, .int (nI zo), .int 0])) (hFq0 : F ro = .inl (cs 16, 3000, .inl fo)) (hzo : zo ≤ 3000) : Met l yX11_plainBody (.code yX11_plainBody cX11_plainBody 2 (some .int) :: tb) ({ frames := 3, cells := 0, slots := 0, locals := 97 }) (va_Pc [.ref h0, .int x1] (PT (dC, dI) cs ty L F sz)) (va_Qi (fun (r : Int32) (c2 : Nat) => PBR (clf f) nn bs zm x1 r) (fun (c2 : Nat) T9 => ∃ F2 : Nat → va_E, ∃ f2 : Nat → Int32, QT (dC, dI) cs ty L [ρ + 2] F F2 (va_A (va_pl L F) sz) T9 ∧ F2 ou = .inr (0, [.ref ro, .int (nI c2), .int 0]) ∧ F2 ro = .inl (cs 16, 3000, .inl f2) ∧ ((nn = 0 ∧ c2 = zo ∧ f2 = fo) ∨ (¬ nn = 0 ∧ BDC (evs f) (clf f) x1 bs zm c2 f2)) ∧ c2 ≤ 3000) (va_A (va_pl L F) sz)) 0 0 (va_A (va_pl L F) sz) := by
  refine Met.ofW (cc := cX11_plainBody) (maxL := 2) (ret := (some .int)) (by decide) rfl ?_
  intro p e s m args below meth c s₁ B hml hv
  obtain ⟨rfl, hsz, hP, hK, hD0, hE, hO⟩ := hv
  have hx := B.exec
  have hb := B.bytes
  have hr := B.returns
  have hts : ∀ w ∈ tb, w.before _ s = true := fun w h => atoms_spec (ws := .code yX11_plainBody cX11_plainBody 2 (some .int) :: tb) B.pre w (List.mem_cons_of_mem _ h)
  have hown : s.vm.findClass RX11 = some m.cls := findClass_of_methodNamed B.named
  have hlocks := B.notSynchronized
  subst hsz
  have hD := hD0.self (sz := s.heap.size)
  generalize hAe : va_A (va_pl L F) s.heap.size = A at hD ⊢
  have hA : ∀ q : Nat, s.heap.size ≤ q → A q := fun q h => by rw [← hAe]; exact Or.inr h
  have hS : va_S A s.heap s.heap [] := va_S.rf
  have hR : FR ty [ρ + 2] F F := FR.refl
  have hl := lv_entry ([.ref h0, .int x1]) (n := 2) (Nat.le_of_ble_eq_true rfl)
  rw [lg_entry_eq]
  generalize (lg_sl ([.ref h0, .int x1]) ++ List.replicate (2 - (lg_sl ([.ref h0, .int x1])).length) Slot.unset).toArray = ls at hl ⊢
  have hl : lv_has ls 2 [(0, .ref h0), (1, .int x1)] := hl
  obtain ⟨hi_1, ⟨r_2, ht_3⟩, _, _, hi_4, ht_5, hi_6, ⟨w0_7, w1_8, w2_9, w3_10, nm_11, te_12, ht_13⟩, hi_14, ⟨l1_15, lx_16, ly0_17, ly1_18, ly2_19, k1_20, kx_21, ky0_22, ky1_23, ky2_24, w0_25, w1_26, w2_27, w3_28, w4_29, w5_30, w6_31, w7_32, w8_33, tk_34, h1_35, hx_36, hy_37, hw_38, pw_39, px_40, py_41, pz_42, pu_43, ht_44⟩, hi_45, ⟨w0_46, w1_47, rc_48, rx_49, ry0_50, ry1_51, ry2_52, ht_53⟩, hi_54, ⟨hx_55, hy_56, hw_57, ht_58⟩⟩ := hW.gate hL_h0 hT_h0
  obtain ⟨_, hi_59, hi_60, hi_61, _, ht_62, ht_63, ht_64⟩ := hW.msg hL_le hT_le
  obtain ⟨hi_65, ht_66, hq_67⟩ := hW.bytes hL_x hT_x
  obtain ⟨hi_68, ht_69, hq_70⟩ := hW.bytes hL_ou hT_ou
  refine lv_aload_n hx hb dX11_plainBody_0 rfl (lv_at hl 0 rfl) ?_
  refine pg_get (ci := 11) (v := .ref le) (C := RX11) (T := TX11) (N := 9) hx hb hts it_11 hown hK hP hL_h0 hF0 rfl 7 (by decide) (hts _ kt_518) (fun _ h9 => h9) rfl dX11_plainBody_1 ?_
  refine pg_getN (ci := 4) (v := .int (nI nn)) (C := RX4) (T := TX4) (N := 6) hx hb hts it_4 hown hK hP hL_le hFe rfl 4 (by decide) (hE.nest kn_20) (fun _ h9 => h9) rfl dX11_plainBody_4 ?_
  refine lv_if_ne (tgt := 13) hx hb dX11_plainBody_7 (by decide) (fun c_71 => ?_) (fun c_71 => ?_)
  ·
    have hnn : ¬ nn = 0 := fun q => c_71 (by rw [q]; rfl)
    obtain ⟨q1, q2, q3⟩ := hbs.resolve_left hnn
    subst q1
    refine lv_aload_n hx hb dX11_plainBody_13 rfl (lv_at hl 0 rfl) ?_
    refine pg_get (ci := 11) (v := .ref ou) (C := RX11) (T := TX11) (N := 9) hx hb hts it_11 hown hK hP hL_h0 hF0 rfl 1 (by decide) (hts _ kt_526) (fun _ h9 => h9) rfl dX11_plainBody_14 ?_
    have hFc := pg_free hD hS hA
    refine va_callv (va_runV (As := []) (rest := []) ⟨hx, hb, hml, hown, hts⟩ (s_X0_clear l dC dI cs ty L s.heap.size F ou (ρ + 2) ro 3000 hW hL_ou hT_ou) ⟨callB_of 0 hts (gi kt_32) rfl rfl rfl (hts _ kt_1) (hts _ kt_527) (by decide +kernel) ⟨Nat.le_of_ble_eq_true rfl, Nat.le_of_ble_eq_true rfl⟩, (hts _ kt_34), (hts _ kt_35)⟩ ⟨fun a U g mk q => ⟨q.1, PT.calling q.2⟩, pg_recv hK hP hL_ou hFo0 (q := (RX0, TX0, 3)) rfl, fun U hU hWm => ⟨rfl, PT.mk hU hWm hP hK hD hE hO⟩⟩ rfl rfl hl.1 rfl (lv_room (Nat.le_of_ble_eq_true rfl)) dX11_plainBody_17 ⟨by show _ + 0 ≤ 0; omega, by show _ + 0 ≤ 0; omega⟩) hS (fun q _ h => hFc q h) hFc (fun u t H1 locs ht hvm hw hB hz1 hk1 hS => ?_)
    obtain ⟨F_74, hB1, hq_75⟩ := hB
    obtain ⟨hP, hD, hO, hR⟩ := QT.back hB1 ht hFc hR (fun q h => by simp only [List.mem_cons, List.not_mem_nil, or_false] at h ⊢; omega)
    have hF_76 : F_74 h0 = .inr (11, [.ref ta, .ref ou, .ref di, .ref ck, .ref sl, .ref po, .ref hs, .ref le, .ref sp]) := (hB1.2.2.2 h0 (by rw [hT_h0]; simp)).trans hF0
    have hF_77 : F_74 le = .inr (4, [.ref x, .ref y0, .ref y1, .ref y2, .int (nI nn), .int (nI bs)]) := (hB1.2.2.2 le (by rw [hT_le]; simp only [List.mem_cons, List.not_mem_nil, or_false]; omega)).trans hFe
    have hF_78 : F_74 x = .inr (0, [.ref rx, .int (nI zm), .int oo]) := (hB1.2.2.2 x (by rw [hT_x]; simp only [List.mem_cons, List.not_mem_nil, or_false]; omega)).trans hFx
    have hF_79 : F_74 rx = .inl (cs 16, 3000, .inl f) := (hB1.2.2.2 rx (by rw [ht_66]; simp only [List.mem_cons, List.not_mem_nil, or_false]; omega)).trans hFr
    generalize H1 = H at hP hS ⊢
    refine lv_aload_n hx hb dX11_plainBody_20 rfl (lv_at hl 0 rfl) ?_
    refine pg_get (ci := 11) (v := .ref le) (C := RX11) (T := TX11) (N := 9) hx hb hts it_11 hown hK hP hL_h0 hF_76 rfl 7 (by decide) (hts _ kt_518) (fun _ h9 => h9) rfl dX11_plainBody_21 ?_
    refine lv_aload_n hx hb dX11_plainBody_24 rfl (lv_at hl 0 rfl) ?_
    refine pg_get (ci := 11) (v := .ref ou) (C := RX11) (T := TX11) (N := 9) hx hb hts it_11 hown hK hP hL_h0 hF_76 rfl 1 (by decide) (hts _ kt_526) (fun _ h9 => h9) rfl dX11_plainBody_25 ?_
    refine lv_iload_n hx hb dX11_plainBody_28 rfl (lv_at hl 1 rfl) ?_
    obtain ⟨f_80, hF_81⟩ := hO.ints hi_68 ht_69
    have hFc := pg_free hD hS hA
    refine va_callv (va_runV (As := [.ref ou, .int x1]) (rest := []) ⟨hx, hb, hml, hown, hts⟩ (s_X4_addBody_c l dC dI cs ty L H.size F_74 le μ x y0 y1 y2 ou (ρ + 2) ro 3000 rx zm nn bs f f_80 oo x1 hW hL_le hT_le hL_x hT_x hL_ou hT_ou hF_77 hF_78 hF_79 hq_75 hF_81 (q2) (by omega) (by omega) (by omega) (by omega)) ⟨callB_of 2 hts (gi kt_392) rfl rfl rfl (hts _ kt_211) (hts _ kt_528) (by decide +kernel) ⟨Nat.le_of_ble_eq_true rfl, Nat.le_of_ble_eq_true rfl⟩, (hts _ kt_394), (hts _ kt_395)⟩ ⟨fun a U g mk q => ⟨q.1, PT.calling q.2⟩, pg_recv hK hP hL_le hF_77 (q := (RX4, TX4, 6)) rfl, fun U hU hWm => ⟨rfl, PT.mk hU hWm hP hK hD hE hO⟩⟩ rfl rfl hl.1 rfl (lv_room (Nat.le_of_ble_eq_true rfl)) dX11_plainBody_29 ⟨by show _ + 0 ≤ 0; omega, by show _ + 0 ≤ 0; omega⟩) hS (fun q _ h => hFc q h) hFc (fun u t H1 locs ht hvm hw hB hz1 hk1 hS => ?_)
    obtain ⟨F_83, NN_84, fo2_85, hB1, hq_86, hq_87, hq_88, hq_89⟩ := hB
    obtain ⟨hP, hD, hO, hR⟩ := QT.back hB1 ht hFc hR (fun q h => by simp only [List.mem_cons, List.not_mem_nil, or_false] at h ⊢; omega)
    have hF_90 : F_83 h0 = .inr (11, [.ref ta, .ref ou, .ref di, .ref ck, .ref sl, .ref po, .ref hs, .ref le, .ref sp]) := (hB1.2.2.2 h0 (by rw [hT_h0]; simp)).trans hF_76
    have hF_91 : F_83 le = .inr (4, [.ref x, .ref y0, .ref y1, .ref y2, .int (nI nn), .int (nI bs)]) := (hB1.2.2.2 le (by rw [hT_le]; simp only [List.mem_cons, List.not_mem_nil, or_false]; omega)).trans hF_77
    have hF_92 : F_83 x = .inr (0, [.ref rx, .int (nI zm), .int oo]) := (hB1.2.2.2 x (by rw [hT_x]; simp only [List.mem_cons, List.not_mem_nil, or_false]; omega)).trans hF_78
    have hF_93 : F_83 rx = .inl (cs 16, 3000, .inl f) := (hB1.2.2.2 rx (by rw [ht_66]; simp only [List.mem_cons, List.not_mem_nil, or_false]; omega)).trans hF_79
    generalize H1 = H at hP hS ⊢
    refine lv_aload_n hx hb dX11_plainBody_32 rfl (lv_at hl 0 rfl) ?_
    refine pg_get (ci := 11) (v := .ref ou) (C := RX11) (T := TX11) (N := 9) hx hb hts it_11 hown hK hP hL_h0 hF_90 rfl 1 (by decide) (hts _ kt_526) (fun _ h9 => h9) rfl dX11_plainBody_33 ?_
    refine pg_getN (ci := 0) (v := .int (nI NN_84)) (C := RX0) (T := TX0) (N := 3) hx hb hts it_0 hown hK hP hL_ou hq_86 rfl 1 (by decide) (hE.nest kn_17) (fun _ h9 => h9) rfl dX11_plainBody_36 ?_
    refine W.widen (k := 0) (n := 0) (by omega) (by omega) ?_
    exact W.iret (v := (nI NN_84)) hx hb hr (fun t ht hWm => ⟨⟨(nI NN_84), NN_84, rfl, (Or.inr ⟨hnn, hq_87⟩), ⟨F_83, fo2_85, QT.mk ht hP hD hO hR, hq_86, hq_88, (Or.inr ⟨hnn, hq_89⟩), (by have h9 := bdc_le hq_89; omega)⟩⟩, hS.F ht⟩) hS.2.2 dX11_plainBody_39
  ·
    have hnn : nn = 0 := (nI_eq (b := 0) (by omega) (by omega)).mp c_71
    refine lv_bipush (v := (-2)) hx hb dX11_plainBody_10 (by decide) ?_
    refine W.widen (k := 0) (n := 0) (by omega) (by omega) ?_
    exact W.iret (v := (-2)) hx hb hr (fun t ht hWm => ⟨⟨(-2), zo, rfl, (Or.inl ⟨hnn, rfl⟩), ⟨F, fo, QT.mk ht hP hD hO hR, hFo0, hFq0, (Or.inl ⟨hnn, rfl, rfl⟩), hzo⟩⟩, hS.F ht⟩) hS.2.2 dX11_plainBody_12
