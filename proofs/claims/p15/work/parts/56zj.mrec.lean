theorem otq_i {d : ETY} {oo : Int32} {y : Nat} {fa : Nat → Int32} (h0 : d.1 = 0) (h1 : SAMN d oo y fa) (h : ISW (TC d.2.2.2.2.2 d.2.2.2.2.1) 0 d.2.2.2.2.1 6 SPF) : OTQ d oo y fa 6 SPF := ⟨h0, h1, ⟨Nat.le_of_eq h.1, h.2⟩, Or.inl (by have h9 := h.1; omega)⟩
theorem otq_b {d : ETY} {oo : Int32} {y : Nat} {fa : Nat → Int32} (h0 : d.1 = 0) (h1 : SAMN d oo y fa) (h : BGW (TC d.2.2.2.2.2 d.2.2.2.2.1) 0 d.2.2.2.2.1 7 [118, 61, 115, 112, 102, 49, 32]) : OTQ d oo y fa 6 SPF := by
  have h9 := h.1
  refine ⟨h0, h1, ⟨by omega, fun i hi => ?_⟩, Or.inr ?_⟩
  · have hi6 : i < 6 := hi
    rw [h.2 i (by show i < 7; omega)]
    have hd : ∀ i, i < 6 → ([118, 61, 115, 112, 102, 49, 32] : List Nat).getD i 0 = SPF.getD i 0 := by decide
    exact hd i hi6
  · have h8 : TC d.2.2.2.2.2 d.2.2.2.2.1 (0 + 6) = 32 := h.2 6 (by decide)
    exact h8
theorem otq_n {d : ETY} {oo : Int32} {y : Nat} {fa : Nat → Int32} (h1 : ¬ ISW (TC d.2.2.2.2.2 d.2.2.2.2.1) 0 d.2.2.2.2.1 6 SPF) (h2 : ¬ BGW (TC d.2.2.2.2.2 d.2.2.2.2.1) 0 d.2.2.2.2.1 7 [118, 61, 115, 112, 102, 49, 32]) : ¬ OTQ d oo y fa 6 SPF := by
  rintro ⟨-, -, ⟨q1, q2⟩, q3⟩
  rcases Nat.lt_or_ge 6 d.2.2.2.2.1 with c | c
  · refine h2 ⟨by omega, fun i hi => ?_⟩
    have hi7 : i < 7 := hi
    by_cases e : i = 6
    · subst e
      exact q3.resolve_left (by omega)
    · rw [q2 i (by show i < 6; omega)]
      have hd : ∀ i, i < 6 → SPF.getD i 0 = ([118, 61, 115, 112, 102, 49, 32] : List Nat).getD i 0 := by decide
      exact hd i (by omega)
  · exact h1 ⟨by omega, q2⟩
theorem tgm_of {V : List Nat} {z : Nat} {f : Nat → Int32} (h : SRC V z f) (hz : z ≤ 61) : TGM V z f := ⟨by have h9 := h.1; omega, h.2.1⟩
set_option maxHeartbeats 4000000 in
set_option maxRecDepth 100000 in
theorem s_X15_recordOf_x (l : Launch) (dC : Nat → ClassId) (dI : Nat → Nat → Nat) (cs : Nat → ClassId) (ty : TyM) (gm : Nat → Nat → Nat) (L : List Nat) (sz : Nat) (F : Nat → va_E) (h0 : Nat) (ρ : Nat) (ta : Nat) (ou : Nat) (so : Nat) (ad : Nat) (na : Nat) (va : Nat) (lc : Nat) (dm : Nat) (tg : Nat) (pe : Nat) (ml : Nat) (bg : Nat) (co : Nat) (sp : Nat) (nb0 : Nat) (nb1 : Nat) (nb2 : Nat) (pl : Nat) (se : Nat) (ke : Nat) (wi : Nat) (hs : Nat) (mo : Nat) (po : Nat) (nu : Nat) (pr : Nat) (sq : Nat) (xa : Nat) (sa : Nat) (n64 : Nat) (m64 : Nat) (ex : Nat) (wh : Nat) (sd : Nat) (tk : Nat) (hd : Nat) (ak : Nat) (ho : Nat) (ot : Nat) (sx : Nat) (s0 : Nat) (s1 : Nat) (s2 : Nat) (nf : Nat) (bd : Nat) (mm : Nat) (zo : Nat) (fm : Nat) (sn : Nat) (hg : Nat) (gc : Nat) (gv : Nat) (ze : Nat) (zt : Nat) (g1 : Nat) (σ : Nat) (r1 : Nat) (n1 : Nat) (y : Nat) (hf : Nat → Int32) (U : List Nat) (D : Nat → ETY) (hW : WTm ty gm L) (hL_h0 : h0 ∈ L) (hT_h0 : ty h0 = (15, ρ, [ta, ou, so, ad, na, va, lc, dm, tg, pe, ml, bg, co, sp, nb0, nb1, nb2, pl, se, ke, wi, hs, mo, po, nu, pr, sq, xa, sa, n64, m64, ex, wh, sd, tk, hd, ak, ho, ot, sx, s0, s1, s2, nf, bd, mm, zo, fm, sn, hg, gc, gv, ze, zt])) (hL_g1 : g1 ∈ L) (hT_g1 : ty g1 = (14, σ, [r1, n1])) (hF1 : F g1 = .inr (14, [.ref r1, .int (nI y)])) (hFr1 : F r1 = .inl (cs 17, n1, .inl hf)) (hyn : y ≤ n1) (hTU : TGM U y hf) (hDM : DIRM cs F so ad na va ze D) : Met l yX15_recordOf (.code yX15_recordOf cX15_recordOf 5 (some .int) :: tb) ({ frames := 6, cells := 0, slots := 0, locals := 132 }) (va_Pc [.ref h0, .ref g1] (PTEm (dC, dI) cs ty gm L F sz [])) (va_Qi (fun (r : Int32) (_ : Unit) => r = otw D (ooU U) (yU U) (faU U) 6 SPF ze) (fun _ T9 => ∃ F2 : Nat → va_E, QTm (dC, dI) cs ty gm L [] F F2 (va_A (va_pl L F) sz) T9) (va_A (va_pl L F) sz)) 0 0 (va_A (va_pl L F) sz) := by
  refine Met.ofW (cc := cX15_recordOf) (maxL := 5) (ret := (some .int)) (by decide) rfl ?_
  intro p e s m args below meth c s₁ B hml hv
  obtain ⟨rfl, ⟨hsz, hP, hK, hD0, hE, hO⟩, hG, hX⟩ := hv
  have hx := B.exec
  have hb := B.bytes
  have hr := B.returns
  have hts : ∀ w ∈ tb, w.before _ s = true := fun w h => atoms_spec (ws := .code yX15_recordOf cX15_recordOf 5 (some .int) :: tb) B.pre w (List.mem_cons_of_mem _ h)
  have hown : s.vm.findClass RX15 = some m.cls := findClass_of_methodNamed B.named
  have hlocks := B.notSynchronized
  subst hsz
  have hD := hD0.self (sz := s.heap.size)
  generalize hAe : va_A (va_pl L F) s.heap.size = A at hD hG hX ⊢
  have hA : ∀ q : Nat, s.heap.size ≤ q → A q := fun q h => by rw [← hAe]; exact Or.inr h
  have hS : va_S A s.heap s.heap [] := va_S.rf
  have hR : FR ty [] F F := FR.refl
  have hl := lv_entry ([.ref h0, .ref g1]) (n := 5) (Nat.le_of_ble_eq_true rfl)
  rw [lg_entry_eq]
  generalize (lg_sl ([.ref h0, .ref g1]) ++ List.replicate (5 - (lg_sl ([.ref h0, .ref g1])).length) Slot.unset).toArray = ls at hl ⊢
  have hl : lv_has ls 5 [(0, .ref h0), (1, .ref g1)] := hl
  obtain ⟨hq_23, hq_24, hq_25, hq_26, hq_27, hgO, hgA, hgB, hq_28⟩ := hW.sc hL_h0 hT_h0
  obtain ⟨v14_29, v15_30, v17_31, v18_32, v19_33, v20_34, v21_35, v22_36, v33_37, v52_38, v53_39, v54_40, hF_41, hq_42, hq_43, hq_44, hq_45, hq_46⟩ := hO.mod hL_h0 hT_h0
  obtain ⟨hi_47, ht_48, hq_49⟩ := hW.txt hL_g1 hT_g1
  obtain ⟨fs, fd, fn, fv, hd1, hd2, hd3, hd4, hd5⟩ := id hDM
  obtain ⟨hi_50, ht_51⟩ := hW.f_na hL_h0 hT_h0
  obtain ⟨f_52, hF_53, hq_54⟩ := hO.rtxj hi_50 ht_51
  obtain rfl : f_52 = fn := by have e9 := hF_53.symm.trans hd3; simpa using e9
  obtain ⟨hi_55, ht_56⟩ := hW.f_va hL_h0 hT_h0
  obtain ⟨f_57, hF_58, hq_59⟩ := hO.rtxj hi_55 ht_56
  obtain rfl : f_57 = fv := by have e9 := hF_58.symm.trans hd4; simpa using e9
  refine lv_iconst (v := (-1)) hx hb dX15_recordOf_0 (by decide) ?_
  refine lv_istore_n (lv' := [(2, .int (-1)), (0, .ref h0), (1, .ref g1)]) hx hb dX15_recordOf_1 rfl hl (by decide) rfl (fun ls hl => ?_)
  refine lv_iconst (v := 0) hx hb dX15_recordOf_2 (by decide) ?_
  refine lv_istore_n (lv' := [(3, .int 0), (2, .int (-1)), (0, .ref h0), (1, .ref g1)]) hx hb dX15_recordOf_3 rfl hl (by decide) rfl (fun ls hl => ?_)
  refine W.widen (k := 0) (n := 0) (by omega) (by omega) ?_
  refine pl_loopm (σ := Nat × Int32) A (dC, dI) cs ty gm L [] F 4 5 (fun (j, w2) => [(3, .int (nI j)), (2, .int w2), (0, .ref h0), (1, .ref g1)]) (fun (j, w2) => []) (fun (j, w2) _ => j ≤ ze ∧ w2 = otw D (ooU U) (yU U) (faU U) 6 SPF j ∧ (w2 = (-1) ∨ ¬ w2 < 0)) (fun (j, w2) => ze - j) ?_ (0, (-1)) F (⟨Nat.zero_le _, rfl, Or.inl rfl⟩) hO hR _ _ hP hD hS ls (lv_sub hl [0, 1, 2, 3] rfl)
  rintro ⟨j, w2⟩ F_60 hv_61 hO hR ih_62 H locs hP hD hS ls hl
  have hl : lv_has ls 5 [(3, .int (nI j)), (2, .int w2), (0, .ref h0), (1, .ref g1)] := hl
  have hv_61 : j ≤ ze ∧ w2 = otw D (ooU U) (yU U) (faU U) 6 SPF j ∧ (w2 = (-1) ∨ ¬ w2 < 0) := hv_61
  refine W.eq (g2 := F0 m 4 ls []) rfl ?_
  obtain rfl : F = F_60 := (funext (fun a => hR a List.not_mem_nil)).symm
  obtain ⟨hv1, hv2, hv3⟩ := hv_61
  refine lv_iload_n hx hb dX15_recordOf_4 rfl (lv_at hl 0 rfl) ?_
  refine lv_aload_n hx hb dX15_recordOf_5 rfl (lv_at hl 2 rfl) ?_
  refine pg_get (ci := 15) (v := .int (nI ze)) (C := RX15) (T := TX15) (N := 59) hx hb hts it_15 hown hK hP hL_h0 hF_41 rfl 3 (by decide) (hts _ kt_724) (fun _ h9 => h9) rfl dX15_recordOf_6 ?_
  refine lv_icmp_ge (tgt := 91) hx hb dX15_recordOf_9 (by decide) (fun c_63 => ?_) (fun c_63 => ?_)
  ·
    have hi_64 : ze ≤ j := leN (N := ze) c_63
    refine lv_iload_n hx hb dX15_recordOf_91 rfl (lv_at hl 1 rfl) ?_
    refine W.widen (k := 0) (n := 0) (by omega) (by omega) ?_
    exact W.iret (v := w2) hx hb hr (fun t ht hWm => ⟨⟨w2, (), rfl, (by rw [show ze = j by omega]; exact hv2), ⟨F, QTm.mk ht hP hD hO hR⟩⟩, hS.F ht⟩) hS.2.2 dX15_recordOf_92
  ·
    have hi_65 : j < ze := ltN (N := ze) c_63
    refine lv_aload_n hx hb dX15_recordOf_12 rfl (lv_at hl 2 rfl) ?_
    refine lv_iload_n hx hb dX15_recordOf_13 rfl (lv_at hl 0 rfl) ?_
    refine lv_iconst (v := 0) hx hb dX15_recordOf_14 (by decide) ?_
    refine lv_aload_n hx hb dX15_recordOf_15 rfl (lv_at hl 3 rfl) ?_
    obtain ⟨hq_66, hq_67⟩ := hW.octs hi_47 ht_48
    have hFc := pg_free hD hS hA
    refine va_calli (va_runV (As := [.int (nI j), .int 0, .ref g1]) (rest := []) ⟨hx, hb, hml, hown, hts⟩ (s_X15_isOf_x l dC dI cs ty gm L H.size F h0 ρ ta ou so ad na va lc dm tg pe ml bg co sp nb0 nb1 nb2 pl se ke wi hs mo po nu pr sq xa sa n64 m64 ex wh sd tk hd ak ho ot sx s0 s1 s2 nf bd mm zo fm sn hg gc gv ze zt j g1 σ r1 n1 y hf U D 0 hW hL_h0 hT_h0 hL_g1 hT_g1 hF1 hFr1 (hyn) (hTU) (by omega) (hDM)) ⟨callB_of 3 hts (gi kt_725) rfl rfl rfl (hts _ kt_669) (hts _ kt_726) (by decide +kernel) ⟨Nat.le_of_ble_eq_true rfl, Nat.le_of_ble_eq_true rfl⟩, (hts _ kt_727), (hts _ kt_728)⟩ ⟨fun a U g mk q => ⟨q.1, PTm.calling q.2⟩, pg_recv hK hP hL_h0 hF_41 (q := (RX15, TX15, 59)) rfl, fun U hU hWm => ⟨rfl, PTm.mk hU hWm hP hK hD hE hO⟩⟩ rfl rfl hl.1 rfl (lv_room (Nat.le_of_ble_eq_true rfl)) dX15_recordOf_16 ⟨by show _ + 0 ≤ 0; omega, by show _ + 0 ≤ 0; omega⟩) hS (fun q _ h => hFc q h) hFc (fun r_68 u t H1 locs ht hvm hw hB hz1 hk1 hS => ?_)
    obtain ⟨F_69, hB1⟩ := hB
    obtain rfl : F = F_69 := (funext (fun a => hB1.2.2.2 a List.not_mem_nil)).symm
    obtain ⟨hP, hD, hO, hR⟩ := QTm.back hB1 ht hFc hR (fun q h => absurd h List.not_mem_nil)
    generalize H1 = H at hP hS ⊢
    have hw : ((r_68 = 1 ∧ ((D j).1 = 0 ∧ SAMN (D j) (ooU U) (yU U) (faU U))) ∨ (r_68 = 0 ∧ ¬ ((D j).1 = 0 ∧ SAMN (D j) (ooU U) (yU U) (faU U)))) := hw
    have hw_70 := hw
    refine lv_if_ne (tgt := 25) hx hb dX15_recordOf_19 (by decide) (fun c_71 => ?_) (fun c_71 => ?_)
    ·
      refine lv_aload_n hx hb dX15_recordOf_25 rfl (lv_at hl 2 rfl) ?_
      refine pg_get (ci := 15) (v := .ref va) (C := RX15) (T := TX15) (N := 59) hx hb hts it_15 hown hK hP hL_h0 hF_41 rfl 8 (by decide) (hts _ kt_732) (fun _ h9 => h9) rfl dX15_recordOf_26 ?_
      refine lv_iload_n hx hb dX15_recordOf_29 rfl (lv_at hl 0 rfl) ?_
      obtain ⟨b_72, r_73, hbf_74, hi_75, ht_76⟩ := hq_59 j (by omega)
      refine pg_aald (r := b_72) hx hb hK hP hi_55 7 hF_58 rfl (vp_in_nI (by omega) (by omega)) (show f_57 ((nI j) : Int32).toNatClampNeg = _ from by rw [show ((nI j) : Int32) = nI j from rfl, nI_clamp (by omega)]; exact hbf_74) dX15_recordOf_30 ?_
      obtain ⟨hen1a, hen1b, hen1c⟩ := ENM.get (hd5 j (by omega)).2.2.2 hbf_74 hO hi_75 ht_76
      obtain ⟨hi_77, ht_78, hq_79⟩ := hW.txt hi_75 ht_76
      refine lv_astore (lv' := [(4, .ref b_72), (3, .int (nI j)), (2, .int w2), (0, .ref h0), (1, .ref g1)]) hx hb dX15_recordOf_31 hl (by decide) rfl (fun ls hl => ?_)
      refine W.widen (k := 0) (n := 0) (by omega) (by omega) ?_
      refine pl_cutm (σ := Unit) A (dC, dI) cs ty gm L [] F 76 5 (fun u0 => [(4, .ref b_72), (3, .int (nI j)), (2, .int w2), (0, .ref h0), (1, .ref g1)]) (fun u0 => []) (fun u0 _ => OTQ (D j) (ooU U) (yU U) (faU U) 6 SPF) ?_ (fun jn_80 => ?_)
      ·
        rintro u0 F_81 hv_82 hO hR H locs hP hD hS ls hl
        have hl : lv_has ls 5 [(4, .ref b_72), (3, .int (nI j)), (2, .int w2), (0, .ref h0), (1, .ref g1)] := hl
        have hv_82 : OTQ (D j) (ooU U) (yU U) (faU U) 6 SPF := hv_82
        refine W.eq (g2 := F0 m 76 ls []) rfl ?_
        obtain rfl : F = F_81 := (funext (fun a => hR a List.not_mem_nil)).symm
        have hOQ := hv_82
        refine lv_iload_n hx hb dX15_recordOf_76 rfl (lv_at hl 2 rfl) ?_
        refine lv_if_lt (tgt := 83) hx hb dX15_recordOf_77 (by decide) (fun c_83 => ?_) (fun c_83 => ?_)
        ·
          refine lv_iload_n hx hb dX15_recordOf_83 rfl (lv_at hl 1 rfl) ?_
          refine lv_istore_n (lv' := [(2, .int (nI j)), (4, .ref b_72), (3, .int (nI j)), (0, .ref h0), (1, .ref g1)]) hx hb dX15_recordOf_84 rfl hl (by decide) rfl (fun ls hl => ?_)
          refine lv_iinc (v := (nI (j + 1))) (lv' := [(3, .int (nI (j + 1))), (2, .int (nI j)), (4, .ref b_72), (0, .ref h0), (1, .ref g1)]) hx hb dX15_recordOf_85 hl (k := 2) rfl (nI_1 _) (by decide) rfl (fun ls hl => ?_)
          refine lv_goto (tgt := 4) hx hb dX15_recordOf_88 (by decide) ?_
          refine W.widen (k := 0) (n := 0) (by omega) (by omega) ?_
          exact ih_62 ((j + 1), (nI j)) F (⟨by omega, otw_f hv2 hOQ (hv3.resolve_right (fun q => absurd c_83 q)), Or.inr (nI_pos (by omega))⟩) (by show ze - (j + 1) < ze - j; omega) hO hR _ _ hP hD hS ls (lv_sub hl [0, 1, 3, 4] rfl)
        ·
          refine lv_bipush (v := (-2)) hx hb dX15_recordOf_80 (by decide) ?_
          refine W.widen (k := 0) (n := 0) (by omega) (by omega) ?_
          exact W.iret (v := (-2)) hx hb hr (fun t ht hWm => ⟨⟨(-2), (), rfl, (otw_2 hv2 hOQ c_83 (show j < ze by omega)), ⟨F, QTm.mk ht hP hD hO hR⟩⟩, hS.F ht⟩) hS.2.2 dX15_recordOf_82
      ·
        refine lv_aload hx hb dX15_recordOf_33 (lv_at hl 0 rfl) ?_
        refine pg_get (ci := 14) (v := .ref r_73) (C := RX14) (T := TX14) (N := 2) hx hb hts it_14 hown hK hP hi_75 hen1a rfl 0 (by decide) (hts _ kt_710) (fun _ h9 => h9) rfl dX15_recordOf_35 ?_
        refine lv_iconst (v := 0) hx hb dX15_recordOf_38 (by decide) ?_
        refine lv_aload hx hb dX15_recordOf_39 (lv_at hl 0 rfl) ?_
        refine pg_get (ci := 14) (v := .int (nI (D j).2.2.2.2.1)) (C := RX14) (T := TX14) (N := 2) hx hb hts it_14 hown hK hP hi_75 hen1a rfl 1 (by decide) (hts _ kt_709) (fun _ h9 => h9) rfl dX15_recordOf_41 ?_
        obtain ⟨q_84, v_85, hr_q_84, hX_q_84⟩ := hG.2.2 ("PostGateModel", 304, "v=spf1", [118, 61, 115, 112, 102, 49]) (by decide +kernel)
        have hX_q_84 : SXc q_84 v_85 6 (cct [118, 61, 115, 112, 102, 49]) A s s.heap := hX_q_84
        obtain ⟨xo_q_84, xc_q_84, xv_q_84, xt_q_84, xn_q_84⟩ := id hX_q_84
        have hr_q_84 : vk_R "PostGateModel" 304 "v=spf1" q_84 s := hr_q_84
        refine va_ldcwS hx hb hown hr_q_84 dX15_recordOf_44 ?_
        refine W.eq (g2 := F0 m 47 ls [.ref q_84, .int (nI (D j).2.2.2.2.1), .int (nI 0), .ref r_73]) rfl ?_
        obtain ⟨hq_86, hq_87⟩ := hW.octs hi_77 ht_78
        have hFc := pg_free hD hS hA
        refine va_calli (va_runS (As := [.ref r_73, .int (nI 0), .int (nI (D j).2.2.2.2.1), .ref q_84]) (rest := []) ⟨hx, hb, hml, hown, hts⟩ (s_X15_is_x l dC dI cs ty gm L H.size F r_73 (ρ + 50 + j + 100) 700 q_84 v_85 6 (cct [118, 61, 115, 112, 102, 49]) ((D j).2.2.2.2.1) 0 ((D j).2.2.2.2.1) ((D j).2.2.2.2.2) SPF hW hi_77 ht_78 hen1b (Nat.le_refl _) (hen1c) (by first | omega | assumption | exact Or.inl rfl) (by omega) (⟨rfl, by decide +kernel⟩)) ⟨callB_of 4 hts (gi kt_694) rfl rfl rfl (hts _ kt_669) (hts _ kt_695) (by decide +kernel) ⟨Nat.le_of_ble_eq_true rfl, Nat.le_of_ble_eq_true rfl⟩, (hts _ kt_696)⟩ ⟨fun a U g mk q => ⟨q.1, PTEm.calling q.2⟩, fun U hU hWm => ⟨rfl, PTEm.mk hU hWm hP hK hD hE hO hG (fun x hx => by rw [List.mem_singleton] at hx; subst hx; exact hX_q_84) hS hFc⟩⟩ rfl rfl hl.1 rfl (lv_room (Nat.le_of_ble_eq_true rfl)) dX15_recordOf_47 ⟨by show _ + 0 ≤ 0; omega, by show _ + 0 ≤ 0; omega⟩) hS (fun q _ h => hFc q h) hFc (fun r_88 u t H1 locs ht hvm hw hB hz1 hk1 hS => ?_)
        obtain ⟨F_89, hB1⟩ := hB
        obtain rfl : F = F_89 := (funext (fun a => hB1.2.2.2 a List.not_mem_nil)).symm
        obtain ⟨hP, hD, hO, hR⟩ := QTm.back hB1 ht hFc hR (fun q h => absurd h List.not_mem_nil)
        generalize H1 = H at hP hS ⊢
        have hw : ((r_88 = 1 ∧ ISW (TC (D j).2.2.2.2.2 (D j).2.2.2.2.1) 0 (D j).2.2.2.2.1 6 SPF) ∨ (r_88 = 0 ∧ ¬ ISW (TC (D j).2.2.2.2.2 (D j).2.2.2.2.1) 0 (D j).2.2.2.2.1 6 SPF)) := hw
        have hw_90 := hw
        refine lv_if_ne (tgt := 76) hx hb dX15_recordOf_50 (by decide) (fun c_91 => ?_) (fun c_91 => ?_)
        ·
          refine W.widen (k := 0) (n := 0) (by omega) (by omega) ?_
          exact jn_80 () F (otq_i (orp1 hw_70 c_71).1 (orp1 hw_70 c_71).2 (orp1 hw_90 c_91)) hO hR _ _ hP hD hS ls (lv_sub hl [0, 1, 2, 3, 4] rfl)
        ·
          refine lv_aload hx hb dX15_recordOf_53 (lv_at hl 0 rfl) ?_
          refine pg_get (ci := 14) (v := .ref r_73) (C := RX14) (T := TX14) (N := 2) hx hb hts it_14 hown hK hP hi_75 hen1a rfl 0 (by decide) (hts _ kt_710) (fun _ h9 => h9) rfl dX15_recordOf_55 ?_
          refine lv_iconst (v := 0) hx hb dX15_recordOf_58 (by decide) ?_
          refine lv_aload hx hb dX15_recordOf_59 (lv_at hl 0 rfl) ?_
          refine pg_get (ci := 14) (v := .int (nI (D j).2.2.2.2.1)) (C := RX14) (T := TX14) (N := 2) hx hb hts it_14 hown hK hP hi_75 hen1a rfl 1 (by decide) (hts _ kt_709) (fun _ h9 => h9) rfl dX15_recordOf_61 ?_
          obtain ⟨q_92, v_93, hr_q_92, hX_q_92⟩ := hG.2.2 ("PostGateModel", 306, "v=spf1 ", [118, 61, 115, 112, 102, 49, 32]) (by decide +kernel)
          have hX_q_92 : SXc q_92 v_93 7 (cct [118, 61, 115, 112, 102, 49, 32]) A s s.heap := hX_q_92
          obtain ⟨xo_q_92, xc_q_92, xv_q_92, xt_q_92, xn_q_92⟩ := id hX_q_92
          have hr_q_92 : vk_R "PostGateModel" 306 "v=spf1 " q_92 s := hr_q_92
          refine va_ldcwS hx hb hown hr_q_92 dX15_recordOf_64 ?_
          refine W.eq (g2 := F0 m 67 ls [.ref q_92, .int (nI (D j).2.2.2.2.1), .int (nI 0), .ref r_73]) rfl ?_
          have hFc := pg_free hD hS hA
          refine va_calli (va_runS (As := [.ref r_73, .int (nI 0), .int (nI (D j).2.2.2.2.1), .ref q_92]) (rest := []) ⟨hx, hb, hml, hown, hts⟩ (s_X15_begins_x l dC dI cs ty gm L H.size F r_73 (ρ + 50 + j + 100) 700 q_92 v_93 7 (cct [118, 61, 115, 112, 102, 49, 32]) ((D j).2.2.2.2.1) 0 ((D j).2.2.2.2.1) ((D j).2.2.2.2.2) ([118, 61, 115, 112, 102, 49, 32]) hW hi_77 ht_78 hen1b (Nat.le_refl _) (hen1c) (by first | omega | assumption | exact Or.inl rfl) (by omega) (⟨rfl, by decide +kernel⟩)) ⟨callB_of 4 hts (gi kt_733) rfl rfl rfl (hts _ kt_669) (hts _ kt_734) (by decide +kernel) ⟨Nat.le_of_ble_eq_true rfl, Nat.le_of_ble_eq_true rfl⟩, (hts _ kt_735)⟩ ⟨fun a U g mk q => ⟨q.1, PTEm.calling q.2⟩, fun U hU hWm => ⟨rfl, PTEm.mk hU hWm hP hK hD hE hO hG (fun x hx => by rw [List.mem_singleton] at hx; subst hx; exact hX_q_92) hS hFc⟩⟩ rfl rfl hl.1 rfl (lv_room (Nat.le_of_ble_eq_true rfl)) dX15_recordOf_67 ⟨by show _ + 0 ≤ 0; omega, by show _ + 0 ≤ 0; omega⟩) hS (fun q _ h => hFc q h) hFc (fun r_94 u t H1 locs ht hvm hw hB hz1 hk1 hS => ?_)
          obtain ⟨F_95, hB1⟩ := hB
          obtain rfl : F = F_95 := (funext (fun a => hB1.2.2.2 a List.not_mem_nil)).symm
          obtain ⟨hP, hD, hO, hR⟩ := QTm.back hB1 ht hFc hR (fun q h => absurd h List.not_mem_nil)
          generalize H1 = H at hP hS ⊢
          have hw : ((r_94 = 1 ∧ BGW (TC (D j).2.2.2.2.2 (D j).2.2.2.2.1) 0 (D j).2.2.2.2.1 7 [118, 61, 115, 112, 102, 49, 32]) ∨ (r_94 = 0 ∧ ¬ BGW (TC (D j).2.2.2.2.2 (D j).2.2.2.2.1) 0 (D j).2.2.2.2.1 7 [118, 61, 115, 112, 102, 49, 32])) := hw
          have hw_96 := hw
          refine lv_if_ne (tgt := 76) hx hb dX15_recordOf_70 (by decide) (fun c_97 => ?_) (fun c_97 => ?_)
          ·
            refine W.widen (k := 0) (n := 0) (by omega) (by omega) ?_
            exact jn_80 () F (otq_b (orp1 hw_70 c_71).1 (orp1 hw_70 c_71).2 (orp1 hw_96 c_97)) hO hR _ _ hP hD hS ls (lv_sub hl [0, 1, 2, 3, 4] rfl)
          ·
            refine lv_goto (tgt := 85) hx hb dX15_recordOf_73 (by decide) ?_
            refine lv_iinc (v := (nI (j + 1))) (lv' := [(3, .int (nI (j + 1))), (4, .ref b_72), (2, .int w2), (0, .ref h0), (1, .ref g1)]) hx hb dX15_recordOf_85 hl (k := 1) rfl (nI_1 _) (by decide) rfl (fun ls hl => ?_)
            refine lv_goto (tgt := 4) hx hb dX15_recordOf_88 (by decide) ?_
            refine W.widen (k := 0) (n := 0) (by omega) (by omega) ?_
            exact ih_62 ((j + 1), w2) F (⟨by omega, otw_n hv2 (otq_n (orp0 hw_90 c_91) (orp0 hw_96 c_97)), hv3⟩) (by show ze - (j + 1) < ze - j; omega) hO hR _ _ hP hD hS ls (lv_sub hl [0, 2, 3, 4] rfl)
    ·
      refine lv_goto (tgt := 85) hx hb dX15_recordOf_22 (by decide) ?_
      refine lv_iinc (v := (nI (j + 1))) (lv' := [(3, .int (nI (j + 1))), (2, .int w2), (0, .ref h0), (1, .ref g1)]) hx hb dX15_recordOf_85 hl (k := 0) rfl (nI_1 _) (by decide) rfl (fun ls hl => ?_)
      refine lv_goto (tgt := 4) hx hb dX15_recordOf_88 (by decide) ?_
      refine W.widen (k := 0) (n := 0) (by omega) (by omega) ?_
      exact ih_62 ((j + 1), w2) F (⟨by omega, otw_n hv2 (fun q => orp0 hw_70 c_71 ⟨q.1, q.2.1⟩), hv3⟩) (by show ze - (j + 1) < ze - j; omega) hO hR _ _ hP hD hS ls (lv_sub hl [0, 1, 2, 3] rfl)
def vlL (d : ETY) : List Nat := tpL d.2.2.2.2.2 0 d.2.2.2.2.1
theorem samn_v {d e : ETY} (h : SRC (vlL d) d.2.2.2.2.1 d.2.2.2.2.2) (hz : d.2.2.2.2.1 ≤ 60) : SAMN e (ooU (vlL d)) (yU (vlL d)) (faU (vlL d)) ↔ SAMN e 0 d.2.2.2.2.1 d.2.2.2.2.2 := by
  have hl := h.1
  have e1 : ooU (vlL d) = 0 := if_neg (by omega)
  have e2 : yU (vlL d) = d.2.2.2.2.1 := by
    show min (vlL d).length 60 = _
    omega
  rw [e1, e2]
  exact samn_cg (fun j hj => (h.2.1 j hj).symm)
theorem has_v {D : Nat → ETY} {ze : Nat} {d : ETY} {x : Int32} (h : SRC (vlL d) d.2.2.2.2.1 d.2.2.2.2.2) (hz : d.2.2.2.2.1 ≤ 60) : HAS D ze x (ooU (vlL d)) (yU (vlL d)) (faU (vlL d)) ↔ HAS D ze x 0 d.2.2.2.2.1 d.2.2.2.2.2 := by
  constructor
  · rintro ⟨k, h1, h2, h3⟩
    exact ⟨k, h1, h2, (samn_v h hz).mp h3⟩
  · rintro ⟨k, h1, h2, h3⟩
    exact ⟨k, h1, h2, (samn_v h hz).mpr h3⟩
theorem lew_q {D : Nat → ETY} {ze : Nat} {oo : Int32} {y : Nat} {fa : Nat → Int32} {ad : Int32} {w : Nat} : ∀ n k, lew D ze oo y fa ad w n k = 0 ∨ lew D ze oo y fa ad w n k = 2 ∨ lew D ze oo y fa ad w n k = 5 := by
  intro n
  induction n with
  | zero => intro k; exact Or.inl rfl
  | succ n ih =>
    intro k
    rw [lew_s]
    by_cases c1 : (D k).1 = 2 ∧ SAMN (D k) oo y fa
    · rw [if_pos c1]
      by_cases c2 : HAS D ze 3 0 (D k).2.2.2.2.1 (D k).2.2.2.2.2
      · rw [if_pos c2]
        exact Or.inr (Or.inr rfl)
      · rw [if_neg c2]
        by_cases c3 : HAD D ze ad w 0 (D k).2.2.2.2.1 (D k).2.2.2.2.2
        · rw [if_pos c3]
          exact Or.inr (Or.inl rfl)
        · rw [if_neg c3]
          exact ih (k + 1)
    · rw [if_neg c1]
      exact ih (k + 1)
set_option maxHeartbeats 4000000 in
set_option maxRecDepth 100000 in
theorem s_X15_exchanges_x (l : Launch) (dC : Nat → ClassId) (dI : Nat → Nat → Nat) (cs : Nat → ClassId) (ty : TyM) (gm : Nat → Nat → Nat) (L : List Nat) (sz : Nat) (F : Nat → va_E) (h0 : Nat) (ρ : Nat) (ta : Nat) (ou : Nat) (so : Nat) (ad : Nat) (na : Nat) (va : Nat) (lc : Nat) (dm : Nat) (tg : Nat) (pe : Nat) (ml : Nat) (bg : Nat) (co : Nat) (sp : Nat) (nb0 : Nat) (nb1 : Nat) (nb2 : Nat) (pl : Nat) (se : Nat) (ke : Nat) (wi : Nat) (hs : Nat) (mo : Nat) (po : Nat) (nu : Nat) (pr : Nat) (sq : Nat) (xa : Nat) (sa : Nat) (n64 : Nat) (m64 : Nat) (ex : Nat) (wh : Nat) (sd : Nat) (tk : Nat) (hd : Nat) (ak : Nat) (ho : Nat) (ot : Nat) (sx : Nat) (s0 : Nat) (s1 : Nat) (s2 : Nat) (nf : Nat) (bd : Nat) (mm : Nat) (zo : Nat) (fm : Nat) (sn : Nat) (hg : Nat) (gc : Nat) (gv : Nat) (ze : Nat) (zt : Nat) (g1 : Nat) (σ : Nat) (r1 : Nat) (n1 : Nat) (y : Nat) (hf : Nat → Int32) (U : List Nat) (D : Nat → ETY) (w : Nat) (hW : WTm ty gm L) (hL_h0 : h0 ∈ L) (hT_h0 : ty h0 = (15, ρ, [ta, ou, so, ad, na, va, lc, dm, tg, pe, ml, bg, co, sp, nb0, nb1, nb2, pl, se, ke, wi, hs, mo, po, nu, pr, sq, xa, sa, n64, m64, ex, wh, sd, tk, hd, ak, ho, ot, sx, s0, s1, s2, nf, bd, mm, zo, fm, sn, hg, gc, gv, ze, zt])) (hL_g1 : g1 ∈ L) (hT_g1 : ty g1 = (14, σ, [r1, n1])) (hF1 : F g1 = .inr (14, [.ref r1, .int (nI y)])) (hFr1 : F r1 = .inl (cs 17, n1, .inl hf)) (hyn : y ≤ n1) (hTU : TGM U y hf) (hDM : DIRM cs F so ad na va ze D) (hw9 : w ≤ 32) (hVN : ∀ k, k < ze → (D k).1 = 2 → SRC (vlL (D k)) (D k).2.2.2.2.1 (D k).2.2.2.2.2 ∧ (D k).2.2.2.2.1 ≤ 60) : Met l yX15_exchanges (.code yX15_exchanges cX15_exchanges 5 (some .int) :: tb) ({ frames := 4, cells := 0, slots := 0, locals := 90 }) (va_Pc [.ref h0, .ref g1, .int (nI w)] (PTm (dC, dI) cs ty gm L F sz)) (va_Qi (fun (r : Int32) (_ : Unit) => r = nI (if lew D ze (ooU U) (yU U) (faU U) (nI fm) w ze 0 = 2 then 1 else lew D ze (ooU U) (yU U) (faU U) (nI fm) w ze 0)) (fun _ T9 => ∃ F2 : Nat → va_E, QTm (dC, dI) cs ty gm L [] F F2 (va_A (va_pl L F) sz) T9) (va_A (va_pl L F) sz)) 0 0 (va_A (va_pl L F) sz) := by
  refine Met.ofW (cc := cX15_exchanges) (maxL := 5) (ret := (some .int)) (by decide) rfl ?_
  intro p e s m args below meth c s₁ B hml hv
  obtain ⟨rfl, hsz, hP, hK, hD0, hE, hO⟩ := hv
  have hx := B.exec
  have hb := B.bytes
  have hr := B.returns
  have hts : ∀ w ∈ tb, w.before _ s = true := fun w h => atoms_spec (ws := .code yX15_exchanges cX15_exchanges 5 (some .int) :: tb) B.pre w (List.mem_cons_of_mem _ h)
  have hown : s.vm.findClass RX15 = some m.cls := findClass_of_methodNamed B.named
  have hlocks := B.notSynchronized
  subst hsz
  have hD := hD0.self (sz := s.heap.size)
  generalize hAe : va_A (va_pl L F) s.heap.size = A at hD ⊢
  have hA : ∀ q : Nat, s.heap.size ≤ q → A q := fun q h => by rw [← hAe]; exact Or.inr h
  have hS : va_S A s.heap s.heap [] := va_S.rf
  have hR : FR ty [] F F := FR.refl
  have hl := lv_entry ([.ref h0, .ref g1, .int (nI w)]) (n := 5) (Nat.le_of_ble_eq_true rfl)
  rw [lg_entry_eq]
  generalize (lg_sl ([.ref h0, .ref g1, .int (nI w)]) ++ List.replicate (5 - (lg_sl ([.ref h0, .ref g1, .int (nI w)])).length) Slot.unset).toArray = ls at hl ⊢
  have hl : lv_has ls 5 [(0, .ref h0), (1, .ref g1), (2, .int (nI w))] := hl
  obtain ⟨hq_23, hq_24, hq_25, hq_26, hq_27, hgO, hgA, hgB, hq_28⟩ := hW.sc hL_h0 hT_h0
  obtain ⟨v14_29, v15_30, v17_31, v18_32, v19_33, v20_34, v21_35, v22_36, v33_37, v52_38, v53_39, v54_40, hF_41, hq_42, hq_43, hq_44, hq_45, hq_46⟩ := hO.mod hL_h0 hT_h0
  obtain ⟨hi_47, ht_48, hq_49⟩ := hW.txt hL_g1 hT_g1
  obtain ⟨fs, fd, fn, fv, hd1, hd2, hd3, hd4, hd5⟩ := id hDM
  obtain ⟨hi_50, ht_51⟩ := hW.f_na hL_h0 hT_h0
  obtain ⟨f_52, hF_53, hq_54⟩ := hO.rtxj hi_50 ht_51
  obtain rfl : f_52 = fn := by have e9 := hF_53.symm.trans hd3; simpa using e9
  obtain ⟨hi_55, ht_56⟩ := hW.f_va hL_h0 hT_h0
  obtain ⟨f_57, hF_58, hq_59⟩ := hO.rtxj hi_55 ht_56
  obtain rfl : f_57 = fv := by have e9 := hF_58.symm.trans hd4; simpa using e9
  refine lv_iconst (v := 0) hx hb dX15_exchanges_0 (by decide) ?_
  refine lv_istore_n (lv' := [(3, .int 0), (0, .ref h0), (1, .ref g1), (2, .int (nI w))]) hx hb dX15_exchanges_1 rfl hl (by decide) rfl (fun ls hl => ?_)
  refine W.widen (k := 0) (n := 0) (by omega) (by omega) ?_
  refine pl_loopm (σ := Nat) A (dC, dI) cs ty gm L [] F 2 5 (fun j => [(3, .int (nI j)), (0, .ref h0), (1, .ref g1), (2, .int (nI w))]) (fun j => []) (fun j _ => j ≤ ze ∧ lew D ze (ooU U) (yU U) (faU U) (nI fm) w (ze - j) j = lew D ze (ooU U) (yU U) (faU U) (nI fm) w ze 0) (fun j => ze - j) ?_ 0 F (⟨Nat.zero_le _, rfl⟩) hO hR _ _ hP hD hS ls (lv_sub hl [0, 1, 2, 3] rfl)
  rintro j F_60 hv_61 hO hR ih_62 H locs hP hD hS ls hl
  have hl : lv_has ls 5 [(3, .int (nI j)), (0, .ref h0), (1, .ref g1), (2, .int (nI w))] := hl
  have hv_61 : j ≤ ze ∧ lew D ze (ooU U) (yU U) (faU U) (nI fm) w (ze - j) j = lew D ze (ooU U) (yU U) (faU U) (nI fm) w ze 0 := hv_61
  refine W.eq (g2 := F0 m 2 ls []) rfl ?_
  obtain rfl : F = F_60 := (funext (fun a => hR a List.not_mem_nil)).symm
  obtain ⟨hv1, hv2⟩ := hv_61
  refine lv_iload_n hx hb dX15_exchanges_2 rfl (lv_at hl 0 rfl) ?_
  refine lv_aload_n hx hb dX15_exchanges_3 rfl (lv_at hl 1 rfl) ?_
  refine pg_get (ci := 15) (v := .int (nI ze)) (C := RX15) (T := TX15) (N := 59) hx hb hts it_15 hown hK hP hL_h0 hF_41 rfl 3 (by decide) (hts _ kt_724) (fun _ h9 => h9) rfl dX15_exchanges_4 ?_
  refine lv_icmp_ge (tgt := 95) hx hb dX15_exchanges_7 (by decide) (fun c_63 => ?_) (fun c_63 => ?_)
  ·
    have hi_64 : ze ≤ j := leN (N := ze) c_63
    refine lv_iconst (v := 0) hx hb dX15_exchanges_95 (by decide) ?_
    refine W.widen (k := 0) (n := 0) (by omega) (by omega) ?_
    exact W.iret (v := 0) hx hb hr (fun t ht hWm => ⟨⟨0, (), rfl, (by rw [lew_e hv2 (by omega)]; rfl), ⟨F, QTm.mk ht hP hD hO hR⟩⟩, hS.F ht⟩) hS.2.2 dX15_exchanges_96
  ·
    have hi_65 : j < ze := ltN (N := ze) c_63
    refine lv_aload_n hx hb dX15_exchanges_10 rfl (lv_at hl 1 rfl) ?_
    refine lv_iload_n hx hb dX15_exchanges_11 rfl (lv_at hl 0 rfl) ?_
    refine lv_iconst (v := 2) hx hb dX15_exchanges_12 (by decide) ?_
    refine lv_aload_n hx hb dX15_exchanges_13 rfl (lv_at hl 2 rfl) ?_
    obtain ⟨hq_66, hq_67⟩ := hW.octs hi_47 ht_48
    have hFc := pg_free hD hS hA
    refine va_calli (va_runV (As := [.int (nI j), .int 2, .ref g1]) (rest := []) ⟨hx, hb, hml, hown, hts⟩ (s_X15_isOf_x l dC dI cs ty gm L H.size F h0 ρ ta ou so ad na va lc dm tg pe ml bg co sp nb0 nb1 nb2 pl se ke wi hs mo po nu pr sq xa sa n64 m64 ex wh sd tk hd ak ho ot sx s0 s1 s2 nf bd mm zo fm sn hg gc gv ze zt j g1 σ r1 n1 y hf U D 2 hW hL_h0 hT_h0 hL_g1 hT_g1 hF1 hFr1 (hyn) (hTU) (by omega) (hDM)) ⟨callB_of 3 hts (gi kt_725) rfl rfl rfl (hts _ kt_669) (hts _ kt_726) (by decide +kernel) ⟨Nat.le_of_ble_eq_true rfl, Nat.le_of_ble_eq_true rfl⟩, (hts _ kt_727), (hts _ kt_728)⟩ ⟨fun a U g mk q => ⟨q.1, PTm.calling q.2⟩, pg_recv hK hP hL_h0 hF_41 (q := (RX15, TX15, 59)) rfl, fun U hU hWm => ⟨rfl, PTm.mk hU hWm hP hK hD hE hO⟩⟩ rfl rfl hl.1 rfl (lv_room (Nat.le_of_ble_eq_true rfl)) dX15_exchanges_14 ⟨by show _ + 0 ≤ 0; omega, by show _ + 0 ≤ 0; omega⟩) hS (fun q _ h => hFc q h) hFc (fun r_68 u t H1 locs ht hvm hw hB hz1 hk1 hS => ?_)
    obtain ⟨F_69, hB1⟩ := hB
    obtain rfl : F = F_69 := (funext (fun a => hB1.2.2.2 a List.not_mem_nil)).symm
    obtain ⟨hP, hD, hO, hR⟩ := QTm.back hB1 ht hFc hR (fun q h => absurd h List.not_mem_nil)
    generalize H1 = H at hP hS ⊢
    have hw : ((r_68 = 1 ∧ ((D j).1 = 2 ∧ SAMN (D j) (ooU U) (yU U) (faU U))) ∨ (r_68 = 0 ∧ ¬ ((D j).1 = 2 ∧ SAMN (D j) (ooU U) (yU U) (faU U)))) := hw
    have hw_70 := hw
    refine lv_if_ne (tgt := 23) hx hb dX15_exchanges_17 (by decide) (fun c_71 => ?_) (fun c_71 => ?_)
    ·
      have hof := orp1 hw_70 c_71
      obtain ⟨hsv, hs60⟩ := hVN j (by omega) hof.1
      refine lv_aload_n hx hb dX15_exchanges_23 rfl (lv_at hl 1 rfl) ?_
      refine lv_aload_n hx hb dX15_exchanges_24 rfl (lv_at hl 1 rfl) ?_
      refine pg_get (ci := 15) (v := .ref va) (C := RX15) (T := TX15) (N := 59) hx hb hts it_15 hown hK hP hL_h0 hF_41 rfl 8 (by decide) (hts _ kt_732) (fun _ h9 => h9) rfl dX15_exchanges_25 ?_
      refine lv_iload_n hx hb dX15_exchanges_28 rfl (lv_at hl 0 rfl) ?_
      obtain ⟨b_72, r_73, hbf_74, hi_75, ht_76⟩ := hq_59 j (by omega)
      refine pg_aald (r := b_72) hx hb hK hP hi_55 7 hF_58 rfl (vp_in_nI (by omega) (by omega)) (show f_57 ((nI j) : Int32).toNatClampNeg = _ from by rw [show ((nI j) : Int32) = nI j from rfl, nI_clamp (by omega)]; exact hbf_74) dX15_exchanges_29 ?_
      obtain ⟨hen1a, hen1b, hen1c⟩ := ENM.get (hd5 j (by omega)).2.2.2 hbf_74 hO hi_75 ht_76
      obtain ⟨hi_77, ht_78, hq_79⟩ := hW.txt hi_75 ht_76
      obtain ⟨hq_80, hq_81⟩ := hW.octs hi_77 ht_78
      have hFc := pg_free hD hS hA
      refine va_calli (va_runV (As := [.ref b_72]) (rest := []) ⟨hx, hb, hml, hown, hts⟩ (s_X15_isTrouble_x l dC dI cs ty gm L H.size F h0 ρ ta ou so ad na va lc dm tg pe ml bg co sp nb0 nb1 nb2 pl se ke wi hs mo po nu pr sq xa sa n64 m64 ex wh sd tk hd ak ho ot sx s0 s1 s2 nf bd mm zo fm sn hg gc gv ze zt b_72 (ρ + 50 + j + 100) r_73 700 ((D j).2.2.2.2.1) ((D j).2.2.2.2.2) (vlL (D j)) D hW hL_h0 hT_h0 hi_75 ht_76 hen1a hen1b (hen1c) (tgm_of hsv (by omega)) (hDM)) ⟨callB_of 1 hts (gi kt_736) rfl rfl rfl (hts _ kt_669) (hts _ kt_737) (by decide +kernel) ⟨Nat.le_of_ble_eq_true rfl, Nat.le_of_ble_eq_true rfl⟩, (hts _ kt_738), (hts _ kt_739)⟩ ⟨fun a U g mk q => ⟨q.1, PTm.calling q.2⟩, pg_recv hK hP hL_h0 hF_41 (q := (RX15, TX15, 59)) rfl, fun U hU hWm => ⟨rfl, PTm.mk hU hWm hP hK hD hE hO⟩⟩ rfl rfl hl.1 rfl (lv_room (Nat.le_of_ble_eq_true rfl)) dX15_exchanges_30 ⟨by show _ + 0 ≤ 0; omega, by show _ + 0 ≤ 0; omega⟩) hS (fun q _ h => hFc q h) hFc (fun r_82 u t H1 locs ht hvm hw hB hz1 hk1 hS => ?_)
      obtain ⟨F_83, hB1⟩ := hB
      obtain rfl : F = F_83 := (funext (fun a => hB1.2.2.2 a List.not_mem_nil)).symm
      obtain ⟨hP, hD, hO, hR⟩ := QTm.back hB1 ht hFc hR (fun q h => absurd h List.not_mem_nil)
      generalize H1 = H at hP hS ⊢
      have hw : ((r_82 = 1 ∧ HAS D ze 3 (ooU (vlL (D j))) (yU (vlL (D j))) (faU (vlL (D j)))) ∨ (r_82 = 0 ∧ ¬ HAS D ze 3 (ooU (vlL (D j))) (yU (vlL (D j))) (faU (vlL (D j))))) := hw
      have hw_84 := hw
      refine lv_if_eq (tgt := 38) hx hb dX15_exchanges_33 (by decide) (fun c_85 => ?_) (fun c_85 => ?_)
      ·
        have hnt : ¬ HAS D ze 3 0 (D j).2.2.2.2.1 (D j).2.2.2.2.2 := fun q => orp0 hw_84 c_85 ((has_v hsv hs60).mpr q)
        refine lv_iconst (v := 0) hx hb dX15_exchanges_38 (by decide) ?_
        refine lv_istore (lv' := [(4, .int 0), (3, .int (nI j)), (0, .ref h0), (1, .ref g1), (2, .int (nI w))]) hx hb dX15_exchanges_39 hl (by decide) rfl (fun ls hl => ?_)
        refine W.widen (k := 0) (n := 0) (by omega) (by omega) ?_
        refine pl_loopm (σ := Nat) A (dC, dI) cs ty gm L [] F 41 5 (fun i => [(4, .int (nI i)), (3, .int (nI j)), (0, .ref h0), (1, .ref g1), (2, .int (nI w))]) (fun i => []) (fun i _ => i ≤ ze ∧ ¬ HAD D i (nI fm) w 0 (D j).2.2.2.2.1 (D j).2.2.2.2.2) (fun i => ze - i) ?_ 0 F (⟨Nat.zero_le _, fun q => by obtain ⟨k, hk, -⟩ := q; omega⟩) hO hR _ _ hP hD hS ls (lv_sub hl [0, 1, 2, 3, 4] rfl)
        rintro i F_86 hv_87 hO hR ih_88 H locs hP hD hS ls hl
        have hl : lv_has ls 5 [(4, .int (nI i)), (3, .int (nI j)), (0, .ref h0), (1, .ref g1), (2, .int (nI w))] := hl
        have hv_87 : i ≤ ze ∧ ¬ HAD D i (nI fm) w 0 (D j).2.2.2.2.1 (D j).2.2.2.2.2 := hv_87
        refine W.eq (g2 := F0 m 41 ls []) rfl ?_
        obtain rfl : F = F_86 := (funext (fun a => hR a List.not_mem_nil)).symm
        obtain ⟨hu1, hu2⟩ := hv_87
        refine lv_iload hx hb dX15_exchanges_41 (lv_at hl 0 rfl) ?_
        refine lv_aload_n hx hb dX15_exchanges_43 rfl (lv_at hl 2 rfl) ?_
        refine pg_get (ci := 15) (v := .int (nI ze)) (C := RX15) (T := TX15) (N := 59) hx hb hts it_15 hown hK hP hL_h0 hF_41 rfl 3 (by decide) (hts _ kt_724) (fun _ h9 => h9) rfl dX15_exchanges_44 ?_
        refine lv_icmp_ge (tgt := 89) hx hb dX15_exchanges_47 (by decide) (fun c_89 => ?_) (fun c_89 => ?_)
        ·
          have hi_90 : ze ≤ i := leN (N := ze) c_89
          refine lv_iinc (v := (nI (j + 1))) (lv' := [(3, .int (nI (j + 1))), (4, .int (nI i)), (0, .ref h0), (1, .ref g1), (2, .int (nI w))]) hx hb dX15_exchanges_89 hl (k := 1) rfl (nI_1 _) (by decide) rfl (fun ls hl => ?_)
          refine lv_goto (tgt := 2) hx hb dX15_exchanges_92 (by decide) ?_
          refine W.widen (k := 0) (n := 0) (by omega) (by omega) ?_
          exact ih_62 (j + 1) F (⟨by omega, lew_o hv2 (by omega) hof hnt (by have h9 : i = ze := (by omega); rw [← h9]; exact hu2)⟩) (by show ze - (j + 1) < ze - j; omega) hO hR _ _ hP hD hS ls (lv_sub hl [0, 2, 3, 4] rfl)
        ·
          have hi_91 : i < ze := ltN (N := ze) c_89
          refine lv_aload_n hx hb dX15_exchanges_50 rfl (lv_at hl 2 rfl) ?_
          refine lv_iload hx hb dX15_exchanges_51 (lv_at hl 0 rfl) ?_
          refine lv_iconst (v := 1) hx hb dX15_exchanges_53 (by decide) ?_
          refine lv_aload_n hx hb dX15_exchanges_54 rfl (lv_at hl 2 rfl) ?_
          refine pg_get (ci := 15) (v := .ref va) (C := RX15) (T := TX15) (N := 59) hx hb hts it_15 hown hK hP hL_h0 hF_41 rfl 8 (by decide) (hts _ kt_732) (fun _ h9 => h9) rfl dX15_exchanges_55 ?_
          refine lv_iload_n hx hb dX15_exchanges_58 rfl (lv_at hl 1 rfl) ?_
          refine pg_aald (r := b_72) hx hb hK hP hi_55 7 hF_58 rfl (vp_in_nI (by omega) (by omega)) (show f_57 ((nI j) : Int32).toNatClampNeg = _ from by rw [show ((nI j) : Int32) = nI j from rfl, nI_clamp (by omega)]; exact hbf_74) dX15_exchanges_59 ?_
          have hFc := pg_free hD hS hA
          refine va_calli (va_runV (As := [.int (nI i), .int 1, .ref b_72]) (rest := []) ⟨hx, hb, hml, hown, hts⟩ (s_X15_isOf_x l dC dI cs ty gm L H.size F h0 ρ ta ou so ad na va lc dm tg pe ml bg co sp nb0 nb1 nb2 pl se ke wi hs mo po nu pr sq xa sa n64 m64 ex wh sd tk hd ak ho ot sx s0 s1 s2 nf bd mm zo fm sn hg gc gv ze zt i b_72 (ρ + 50 + j + 100) r_73 700 ((D j).2.2.2.2.1) ((D j).2.2.2.2.2) (vlL (D j)) D 1 hW hL_h0 hT_h0 hi_75 ht_76 hen1a hen1b (hen1c) (tgm_of hsv (by omega)) (by omega) (hDM)) ⟨callB_of 3 hts (gi kt_725) rfl rfl rfl (hts _ kt_669) (hts _ kt_726) (by decide +kernel) ⟨Nat.le_of_ble_eq_true rfl, Nat.le_of_ble_eq_true rfl⟩, (hts _ kt_727), (hts _ kt_728)⟩ ⟨fun a U g mk q => ⟨q.1, PTm.calling q.2⟩, pg_recv hK hP hL_h0 hF_41 (q := (RX15, TX15, 59)) rfl, fun U hU hWm => ⟨rfl, PTm.mk hU hWm hP hK hD hE hO⟩⟩ rfl rfl hl.1 rfl (lv_room (Nat.le_of_ble_eq_true rfl)) dX15_exchanges_60 ⟨by show _ + 0 ≤ 0; omega, by show _ + 0 ≤ 0; omega⟩) hS (fun q _ h => hFc q h) hFc (fun r_92 u t H1 locs ht hvm hw hB hz1 hk1 hS => ?_)
          obtain ⟨F_93, hB1⟩ := hB
          obtain rfl : F = F_93 := (funext (fun a => hB1.2.2.2 a List.not_mem_nil)).symm
          obtain ⟨hP, hD, hO, hR⟩ := QTm.back hB1 ht hFc hR (fun q h => absurd h List.not_mem_nil)
          generalize H1 = H at hP hS ⊢
          have hw : ((r_92 = 1 ∧ ((D i).1 = 1 ∧ SAMN (D i) (ooU (vlL (D j))) (yU (vlL (D j))) (faU (vlL (D j))))) ∨ (r_92 = 0 ∧ ¬ ((D i).1 = 1 ∧ SAMN (D i) (ooU (vlL (D j))) (yU (vlL (D j))) (faU (vlL (D j)))))) := hw
          have hw_94 := hw
          refine lv_if_eq (tgt := 83) hx hb dX15_exchanges_63 (by decide) (fun c_95 => ?_) (fun c_95 => ?_)
          ·
            refine lv_iinc (v := (nI (i + 1))) (lv' := [(4, .int (nI (i + 1))), (3, .int (nI j)), (0, .ref h0), (1, .ref g1), (2, .int (nI w))]) hx hb dX15_exchanges_83 hl (k := 0) rfl (nI_1 _) (by decide) rfl (fun ls hl => ?_)
            refine lv_goto (tgt := 41) hx hb dX15_exchanges_86 (by decide) ?_
            refine W.widen (k := 0) (n := 0) (by omega) (by omega) ?_
            exact ih_88 (i + 1) F (⟨by omega, had_s hu2 (fun q => orp0 hw_94 c_95 ⟨q.1, (samn_v hsv hs60).mpr q.2.2⟩)⟩) (by show ze - (i + 1) < ze - i; omega) hO hR _ _ hP hD hS ls (lv_sub hl [0, 1, 2, 3, 4] rfl)
          ·
            refine lv_aload_n hx hb dX15_exchanges_66 rfl (lv_at hl 2 rfl) ?_
            refine lv_aload_n hx hb dX15_exchanges_67 rfl (lv_at hl 2 rfl) ?_
            refine pg_get (ci := 15) (v := .ref ad) (C := RX15) (T := TX15) (N := 59) hx hb hts it_15 hown hK hP hL_h0 hF_41 rfl 6 (by decide) (hts _ kt_740) (fun _ h9 => h9) rfl dX15_exchanges_68 ?_
            refine lv_iload hx hb dX15_exchanges_71 (lv_at hl 0 rfl) ?_
            obtain ⟨hi_96, ht_97⟩ := hW.f_ad hL_h0 hT_h0
            obtain ⟨hq_98, hq_99⟩ := hW.ints hi_96 ht_97
            refine pg_iald hx hb hK hP hi_96 0 hd2 rfl (vp_in_nI (by omega) (by omega)) dX15_exchanges_73 ?_
            refine lv_topi (fun x_100 ex_100 => ?_)
            obtain rfl : x_100 = (D i).2.1 := ex_100.trans ((congrArg fd (nI_clamp (by omega))).trans (hd5 i (by omega)).2.1)
            refine lv_iload_n hx hb dX15_exchanges_74 rfl (lv_at hl 4 rfl) ?_
            have hFc := pg_free hD hS hA
            refine va_calli (va_runV (As := [.int ((D i).2.1), .int (nI w)]) (rest := []) ⟨hx, hb, hml, hown, hts⟩ (s_X15_isSender_x l dC dI cs ty gm L H.size F h0 ρ ta ou so ad na va lc dm tg pe ml bg co sp nb0 nb1 nb2 pl se ke wi hs mo po nu pr sq xa sa n64 m64 ex wh sd tk hd ak ho ot sx s0 s1 s2 nf bd mm zo fm sn hg gc gv ze zt ((D i).2.1) w hW hL_h0 hT_h0 (hw9)) ⟨callB_of 2 hts (gi kt_741) rfl rfl rfl (hts _ kt_669) (hts _ kt_742) (by decide +kernel) ⟨Nat.le_of_ble_eq_true rfl, Nat.le_of_ble_eq_true rfl⟩, (hts _ kt_743), (hts _ kt_744)⟩ ⟨fun a U g mk q => ⟨q.1, PTm.calling q.2⟩, pg_recv hK hP hL_h0 hF_41 (q := (RX15, TX15, 59)) rfl, fun U hU hWm => ⟨rfl, PTm.mk hU hWm hP hK hD hE hO⟩⟩ rfl rfl hl.1 rfl (lv_room (Nat.le_of_ble_eq_true rfl)) dX15_exchanges_75 ⟨by show _ + 0 ≤ 0; omega, by show _ + 0 ≤ 0; omega⟩) hS (fun q _ h => hFc q h) hFc (fun r_101 u t H1 locs ht hvm hw hB hz1 hk1 hS => ?_)
            obtain ⟨F_102, hB1⟩ := hB
            obtain rfl : F = F_102 := (funext (fun a => hB1.2.2.2 a List.not_mem_nil)).symm
            obtain ⟨hP, hD, hO, hR⟩ := QTm.back hB1 ht hFc hR (fun q h => absurd h List.not_mem_nil)
            generalize H1 = H at hP hS ⊢
            have hw : ((r_101 = 1 ∧ SNE (D i).2.1 (nI fm) w) ∨ (r_101 = 0 ∧ ¬ SNE (D i).2.1 (nI fm) w)) := hw
            have hw_103 := hw
            refine lv_if_eq (tgt := 83) hx hb dX15_exchanges_78 (by decide) (fun c_104 => ?_) (fun c_104 => ?_)
            ·
              refine lv_iinc (v := (nI (i + 1))) (lv' := [(4, .int (nI (i + 1))), (3, .int (nI j)), (0, .ref h0), (1, .ref g1), (2, .int (nI w))]) hx hb dX15_exchanges_83 hl (k := 0) rfl (nI_1 _) (by decide) rfl (fun ls hl => ?_)
              refine lv_goto (tgt := 41) hx hb dX15_exchanges_86 (by decide) ?_
              refine W.widen (k := 0) (n := 0) (by omega) (by omega) ?_
              exact ih_88 (i + 1) F (⟨by omega, had_s hu2 (fun q => orp0 hw_103 c_104 q.2.1)⟩) (by show ze - (i + 1) < ze - i; omega) hO hR _ _ hP hD hS ls (lv_sub hl [0, 1, 2, 3, 4] rfl)
            ·
              refine lv_iconst (v := 1) hx hb dX15_exchanges_81 (by decide) ?_
              refine W.widen (k := 0) (n := 0) (by omega) (by omega) ?_
              exact W.iret (v := 1) hx hb hr (fun t ht hWm => ⟨⟨1, (), rfl, (by rw [lew_p hv2 (by omega) hof hnt ⟨i, by omega, (orp1 hw_94 c_95).1, orp1 hw_103 c_104, (samn_v hsv hs60).mp (orp1 hw_94 c_95).2⟩]; rfl), ⟨F, QTm.mk ht hP hD hO hR⟩⟩, hS.F ht⟩) hS.2.2 dX15_exchanges_82
      ·
        refine lv_iconst (v := 5) hx hb dX15_exchanges_36 (by decide) ?_
        refine W.widen (k := 0) (n := 0) (by omega) (by omega) ?_
        exact W.iret (v := 5) hx hb hr (fun t ht hWm => ⟨⟨5, (), rfl, (by rw [lew_t hv2 (by omega) hof ((has_v hsv hs60).mp (orp1 hw_84 c_85))]; rfl), ⟨F, QTm.mk ht hP hD hO hR⟩⟩, hS.F ht⟩) hS.2.2 dX15_exchanges_37
    ·
      refine lv_goto (tgt := 89) hx hb dX15_exchanges_20 (by decide) ?_
      refine lv_iinc (v := (nI (j + 1))) (lv' := [(3, .int (nI (j + 1))), (0, .ref h0), (1, .ref g1), (2, .int (nI w))]) hx hb dX15_exchanges_89 hl (k := 0) rfl (nI_1 _) (by decide) rfl (fun ls hl => ?_)
      refine lv_goto (tgt := 2) hx hb dX15_exchanges_92 (by decide) ?_
      refine W.widen (k := 0) (n := 0) (by omega) (by omega) ?_
      exact ih_62 (j + 1) F (⟨by omega, lew_n hv2 (by omega) (orp0 hw_70 c_71)⟩) (by show ze - (j + 1) < ze - j; omega) hO hR _ _ hP hD hS ls (lv_sub hl [0, 1, 2, 3] rfl)
