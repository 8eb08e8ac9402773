def wvv (x w : Int32) : Int32 := if x = 0 then 0 else w
theorem wv_0 {x w : Int32} (h : x = 0) : wvv x w = 0 := if_pos h
theorem wv_n {x w : Int32} (h : ¬ x = 0) : wvv x w = w := if_neg h
theorem wv_1 {x : Int32} (h : x = 0 ∨ x = 1) : wvv x 1 = x := by
  rcases h with h | h
  · rw [h]
    rfl
  · rw [h]
    rfl
theorem wv_z {x : Int32} : wvv x 0 = 0 := by
  unfold wvv
  split <;> rfl
theorem clg_0 {S : Int32 → Bool} {c : Int32} (h : clg S c = 0) : c = 10 := Decidable.of_not_not (fun q => clg0n q h)
set_option maxHeartbeats 4000000 in
set_option maxRecDepth 100000 in
theorem s_X15_valueEnd_e (l : Launch) (dC : Nat → ClassId) (dI : Nat → Nat → Nat) (cs : Nat → ClassId) (ty : TyM) (gm : Nat → Nat → Nat) (L : List Nat) (sz : Nat) (F : Nat → va_E) (h0 : Nat) (ρ : Nat) (ta : Nat) (ou : Nat) (so : Nat) (ad : Nat) (na : Nat) (va : Nat) (lc : Nat) (dm : Nat) (tg : Nat) (pe : Nat) (ml : Nat) (bg : Nat) (co : Nat) (sp : Nat) (nb0 : Nat) (nb1 : Nat) (nb2 : Nat) (pl : Nat) (se : Nat) (ke : Nat) (wi : Nat) (hs : Nat) (mo : Nat) (po : Nat) (nu : Nat) (pr : Nat) (sq : Nat) (xa : Nat) (sa : Nat) (n64 : Nat) (m64 : Nat) (ex : Nat) (wh : Nat) (sd : Nat) (tk : Nat) (hd : Nat) (ak : Nat) (ho : Nat) (ot : Nat) (sx : Nat) (s0 : Nat) (s1 : Nat) (s2 : Nat) (nf : Nat) (bd : Nat) (mm : Nat) (fm : Nat) (sn : Nat) (hg : Nat) (gc : Nat) (gv : Nat) (ze : Nat) (zt : Nat) (jf : Nat) (kd : Nat) (gl : Nat → Int32) (hW : WTm ty gm L) (hL_h0 : h0 ∈ L) (hT_h0 : ty h0 = (15, ρ, [ta, ou, so, ad, na, va, lc, dm, tg, pe, ml, bg, co, sp, nb0, nb1, nb2, pl, se, ke, wi, hs, mo, po, nu, pr, sq, xa, sa, n64, m64, ex, wh, sd, tk, hd, ak, ho, ot, sx, s0, s1, s2, nf, bd, mm, fm, sn, hg, gc, gv, ze, zt])) (hFml : F ml = .inl (cs 17, 3000, .inl gl)) (hjf : jf < nf) (hst : gm 2 jf = min mm (kd + 1)) (hcd : gm 1 jf < kd) (hdm : kd ≤ mm) (hek : EOK (clr gl) mm kd) : Met l yX15_valueEnd (.code yX15_valueEnd cX15_valueEnd 2 (some .int) :: tb) ({ frames := 0, cells := 0, slots := 0, locals := 0 }) (va_Pc [.ref h0, .int (nI jf)] (PTm (dC, dI) cs ty gm L F sz)) (va_Qi (fun (r : Int32) (_ : Unit) => r = nI kd) (fun _ T9 => ∃ F2 : Nat → va_E, QTm (dC, dI) cs ty gm L [] F F2 (va_A (va_pl L F) sz) T9) (va_A (va_pl L F) sz)) 0 0 (va_A (va_pl L F) sz) := by
  refine Met.ofW (cc := cX15_valueEnd) (maxL := 2) (ret := (some .int)) (by decide) rfl ?_
  intro p e s m args below meth c s₁ B hml hv
  obtain ⟨rfl, hsz, hP, hK, hD0, hE, hO⟩ := hv
  have hx := B.exec
  have hb := B.bytes
  have hr := B.returns
  have hts : ∀ w ∈ tb, w.before _ s = true := fun w h => atoms_spec (ws := .code yX15_valueEnd cX15_valueEnd 2 (some .int) :: tb) B.pre w (List.mem_cons_of_mem _ h)
  have hown : s.vm.findClass RX15 = some m.cls := findClass_of_methodNamed B.named
  have hlocks := B.notSynchronized
  subst hsz
  have hD := hD0.self (sz := s.heap.size)
  generalize hAe : va_A (va_pl L F) s.heap.size = A at hD ⊢
  have hA : ∀ q : Nat, s.heap.size ≤ q → A q := fun q h => by rw [← hAe]; exact Or.inr h
  have hS : va_S A s.heap s.heap [] := va_S.rf
  have hR : FR ty [] F F := FR.refl
  have hl := lv_entry ([.ref h0, .int (nI jf)]) (n := 2) (Nat.le_of_ble_eq_true rfl)
  rw [lg_entry_eq]
  generalize (lg_sl ([.ref h0, .int (nI jf)]) ++ List.replicate (2 - (lg_sl ([.ref h0, .int (nI jf)])).length) Slot.unset).toArray = ls at hl ⊢
  have hl : lv_has ls 2 [(0, .ref h0), (1, .int (nI jf))] := hl
  obtain ⟨hq_23, hq_24, hq_25, hq_26, hq_27, hgO, hgA, hgB, hq_28⟩ := hW.sc hL_h0 hT_h0
  have hoj := hgO jf hjf
  refine lv_aload_n hx hb dX15_valueEnd_0 rfl (lv_at hl 0 rfl) ?_
  obtain ⟨zo_29, v14_30, v15_31, v17_32, v18_33, v19_34, v20_35, v21_36, v22_37, v33_38, v52_39, v53_40, v54_41, hF_42, hq_43, hq_44, hq_45, hq_46, hq_47⟩ := hO.mod hL_h0 hT_h0
  refine pg_get (ci := 15) (v := .ref ml) (C := RX15) (T := TX15) (N := 59) hx hb hts it_15 hown hK hP hL_h0 hF_42 rfl 23 (by decide) (hts _ kt_887) (fun _ h9 => h9) rfl dX15_valueEnd_1 ?_
  refine lv_aload_n hx hb dX15_valueEnd_4 rfl (lv_at hl 0 rfl) ?_
  refine pg_get (ci := 15) (v := .ref sp) (C := RX15) (T := TX15) (N := 59) hx hb hts it_15 hown hK hP hL_h0 hF_42 rfl 26 (by decide) (hts _ kt_890) (fun _ h9 => h9) rfl dX15_valueEnd_5 ?_
  refine lv_iload_n hx hb dX15_valueEnd_8 rfl (lv_at hl 1 rfl) ?_
  obtain ⟨hi_48, ht_49⟩ := hW.f_sp hL_h0 hT_h0
  obtain ⟨f_50, hF_51, hq_52⟩ := hO.pos hi_48 ht_49
  refine pg_iald hx hb hK hP hi_48 0 hF_51 rfl (vp_in_nI (by omega) (by omega)) dX15_valueEnd_9 ?_
  refine lv_topi (fun x_53 ex_53 => ?_)
  obtain rfl : x_53 = (nI (gm 2 jf)) := ex_53.trans (by rw [show ((nI jf) : Int32) = nI jf from rfl, nI_clamp (by omega)]; exact hq_52 jf (by omega))
  have hgbx_53 := hgB 2 jf
  refine lv_iconst (v := 1) hx hb dX15_valueEnd_10 (by decide) ?_
  refine lv_isub hx hb dX15_valueEnd_11 ?_
  refine lv_topi (fun x_54 ex_54 => ?_)
  obtain rfl : x_54 = (nI ((gm 2 jf) - 1)) := ex_54.trans (pk_sub (a := (gm 2 jf)) (b := 1) (by omega))
  obtain ⟨hi_55, ht_56⟩ := hW.f_ml hL_h0 hT_h0
  obtain ⟨hq_57, hq_58⟩ := hW.octs hi_55 ht_56
  refine pg_bald hx hb hK hP hi_55 1 hFml rfl (vp_in_nI (by omega) (by omega)) dX15_valueEnd_12 ?_
  refine lv_topi (fun x_59 ex_59 => ?_)
  obtain rfl : x_59 = gl ((gm 2 jf) - 1) := ex_59.trans (congrArg gl (show ((nI ((gm 2 jf) - 1)) : Int32).toNatClampNeg = ((gm 2 jf) - 1) from nI_clamp (by omega)))
  refine lv_bipush (v := 10) hx hb dX15_valueEnd_13 (by decide) ?_
  refine lv_icmp_ne (tgt := 29) hx hb dX15_valueEnd_15 (by decide) (fun c_60 => ?_) (fun c_60 => ?_)
  ·
    refine lv_aload_n hx hb dX15_valueEnd_29 rfl (lv_at hl 0 rfl) ?_
    refine pg_get (ci := 15) (v := .ref sp) (C := RX15) (T := TX15) (N := 59) hx hb hts it_15 hown hK hP hL_h0 hF_42 rfl 26 (by decide) (hts _ kt_890) (fun _ h9 => h9) rfl dX15_valueEnd_30 ?_
    refine lv_iload_n hx hb dX15_valueEnd_33 rfl (lv_at hl 1 rfl) ?_
    refine pg_iald hx hb hK hP hi_48 0 hF_51 rfl (vp_in_nI (by omega) (by omega)) dX15_valueEnd_34 ?_
    refine lv_topi (fun x_61 ex_61 => ?_)
    obtain rfl : x_61 = (nI (gm 2 jf)) := ex_61.trans (by rw [show ((nI jf) : Int32) = nI jf from rfl, nI_clamp (by omega)]; exact hq_52 jf (by omega))
    have hgbx_61 := hgB 2 jf
    refine W.widen (k := 0) (n := 0) (by omega) (by omega) ?_
    exact W.iret (v := (nI (gm 2 jf))) hx hb hr (fun t ht hWm => ⟨⟨(nI (gm 2 jf)), (), rfl, (by rcases hek with ⟨q1, q2⟩ | ⟨q1, q2⟩; exact absurd (clg_0 q2) (by rw [show kd = gm 2 jf - 1 by omega]; exact c_60); rw [show gm 2 jf = kd by omega]), ⟨F, QTm.mk ht hP hD hO hR⟩⟩, hS.F ht⟩) hS.2.2 dX15_valueEnd_35
  ·
    refine lv_aload_n hx hb dX15_valueEnd_18 rfl (lv_at hl 0 rfl) ?_
    refine pg_get (ci := 15) (v := .ref sp) (C := RX15) (T := TX15) (N := 59) hx hb hts it_15 hown hK hP hL_h0 hF_42 rfl 26 (by decide) (hts _ kt_890) (fun _ h9 => h9) rfl dX15_valueEnd_19 ?_
    refine lv_iload_n hx hb dX15_valueEnd_22 rfl (lv_at hl 1 rfl) ?_
    refine pg_iald hx hb hK hP hi_48 0 hF_51 rfl (vp_in_nI (by omega) (by omega)) dX15_valueEnd_23 ?_
    refine lv_topi (fun x_62 ex_62 => ?_)
    obtain rfl : x_62 = (nI (gm 2 jf)) := ex_62.trans (by rw [show ((nI jf) : Int32) = nI jf from rfl, nI_clamp (by omega)]; exact hq_52 jf (by omega))
    have hgbx_62 := hgB 2 jf
    refine lv_iconst (v := 1) hx hb dX15_valueEnd_24 (by decide) ?_
    refine lv_isub hx hb dX15_valueEnd_25 ?_
    refine lv_topi (fun x_63 ex_63 => ?_)
    obtain rfl : x_63 = (nI ((gm 2 jf) - 1)) := ex_63.trans (pk_sub (a := (gm 2 jf)) (b := 1) (by omega))
    refine lv_goto (tgt := 35) hx hb dX15_valueEnd_26 (by decide) ?_
    refine W.widen (k := 0) (n := 0) (by omega) (by omega) ?_
    exact W.iret (v := (nI ((gm 2 jf) - 1))) hx hb hr (fun t ht hWm => ⟨⟨(nI ((gm 2 jf) - 1)), (), rfl, (by rcases hek with ⟨q1, q2⟩ | ⟨q1, q2⟩; rw [show gm 2 jf - 1 = kd by omega]; exact absurd (clg0 (S := FSR) (by rw [show mm - 1 = gm 2 jf - 1 by omega]; exact c_60)) q2), ⟨F, QTm.mk ht hP hD hO hR⟩⟩, hS.F ht⟩) hS.2.2 dX15_valueEnd_35
set_option maxHeartbeats 4000000 in
set_option maxRecDepth 100000 in
theorem s_X15_fieldPlain_e (l : Launch) (dC : Nat → ClassId) (dI : Nat → Nat → Nat) (cs : Nat → ClassId) (ty : TyM) (gm : Nat → Nat → Nat) (L : List Nat) (sz : Nat) (F : Nat → va_E) (h0 : Nat) (ρ : Nat) (ta : Nat) (ou : Nat) (so : Nat) (ad : Nat) (na : Nat) (va : Nat) (lc : Nat) (dm : Nat) (tg : Nat) (pe : Nat) (ml : Nat) (bg : Nat) (co : Nat) (sp : Nat) (nb0 : Nat) (nb1 : Nat) (nb2 : Nat) (pl : Nat) (se : Nat) (ke : Nat) (wi : Nat) (hs : Nat) (mo : Nat) (po : Nat) (nu : Nat) (pr : Nat) (sq : Nat) (xa : Nat) (sa : Nat) (n64 : Nat) (m64 : Nat) (ex : Nat) (wh : Nat) (sd : Nat) (tk : Nat) (hd : Nat) (ak : Nat) (ho : Nat) (ot : Nat) (sx : Nat) (s0 : Nat) (s1 : Nat) (s2 : Nat) (nf : Nat) (bd : Nat) (mm : Nat) (fm : Nat) (sn : Nat) (hg : Nat) (gc : Nat) (gv : Nat) (ze : Nat) (zt : Nat) (rl : Nat) (jf : Nat) (kd : Nat) (gl : Nat → Int32) (x2 : Int32) (hW : WTm ty gm L) (hL_h0 : h0 ∈ L) (hT_h0 : ty h0 = (15, ρ, [ta, ou, so, ad, na, va, lc, dm, tg, pe, ml, bg, co, sp, nb0, nb1, nb2, pl, se, ke, wi, hs, mo, po, nu, pr, sq, xa, sa, n64, m64, ex, wh, sd, tk, hd, ak, ho, ot, sx, s0, s1, s2, nf, bd, mm, fm, sn, hg, gc, gv, ze, zt])) (hL_pl : pl ∈ L) (hT_pl : ty pl = (14, ρ + 10, [rl, 6000])) (hFml : F ml = .inl (cs 17, 3000, .inl gl)) (hjf : jf < nf) (hst : gm 2 jf = min mm (kd + 1)) (hcd : gm 1 jf < kd) (hdm : kd ≤ mm) (hek : EOK (clr gl) mm kd) (hFl : F pl = .inr (14, [.ref rl, .int (nI 0)])) : Met l yX15_fieldPlain (.code yX15_fieldPlain cX15_fieldPlain 9 none :: tb) ({ frames := 1, cells := 0, slots := 0, locals := 21 }) (va_Pc [.ref h0, .int (nI jf), .int x2, .int 0, .int 0] (PTm (dC, dI) cs ty gm L F sz)) (va_Qv (fun _ : Unit => True) (fun _ T9 => ∃ F2 : Nat → va_E, QTm (dC, dI) cs ty gm L [ρ + 10] F F2 (va_A (va_pl L F) sz) T9 ∧ F2 pl = .inr (14, [.ref rl, .int (nI (FPL (clr gl) x2 (gm 0 jf) (gm 1 jf) kd).length)])) (va_A (va_pl L F) sz)) 0 0 (va_A (va_pl L F) sz) := by
  refine Met.ofW (cc := cX15_fieldPlain) (maxL := 9) (ret := none) (by decide) rfl ?_
  intro p e s m args below meth c s₁ B hml hv
  obtain ⟨rfl, hsz, hP, hK, hD0, hE, hO⟩ := hv
  have hx := B.exec
  have hb := B.bytes
  have hr := B.returns
  have hts : ∀ w ∈ tb, w.before _ s = true := fun w h => atoms_spec (ws := .code yX15_fieldPlain cX15_fieldPlain 9 none :: tb) B.pre w (List.mem_cons_of_mem _ h)
  have hown : s.vm.findClass RX15 = some m.cls := findClass_of_methodNamed B.named
  have hlocks := B.notSynchronized
  subst hsz
  have hD := hD0.self (sz := s.heap.size)
  generalize hAe : va_A (va_pl L F) s.heap.size = A at hD ⊢
  have hA : ∀ q : Nat, s.heap.size ≤ q → A q := fun q h => by rw [← hAe]; exact Or.inr h
  have hS : va_S A s.heap s.heap [] := va_S.rf
  have hR : FR ty [ρ + 10] F F := FR.refl
  have hl := lv_entry ([.ref h0, .int (nI jf), .int x2, .int 0, .int 0]) (n := 9) (Nat.le_of_ble_eq_true rfl)
  rw [lg_entry_eq]
  generalize (lg_sl ([.ref h0, .int (nI jf), .int x2, .int 0, .int 0]) ++ List.replicate (9 - (lg_sl ([.ref h0, .int (nI jf), .int x2, .int 0, .int 0])).length) Slot.unset).toArray = ls at hl ⊢
  have hl : lv_has ls 9 [(0, .ref h0), (1, .int (nI jf)), (2, .int x2), (3, .int 0), (4, .int 0)] := hl
  obtain ⟨hq_22, hq_23, hq_24, hq_25, hq_26, hgO, hgA, hgB, hq_27⟩ := hW.sc hL_h0 hT_h0
  have hoj := hgO jf hjf
  obtain ⟨hi_28, ht_29, hq_30⟩ := hW.txt hL_pl hT_pl
  refine lv_aload_n hx hb dX15_fieldPlain_0 rfl (lv_at hl 0 rfl) ?_
  refine lv_iload_n hx hb dX15_fieldPlain_1 rfl (lv_at hl 1 rfl) ?_
  obtain ⟨hi_31, ht_32⟩ := hW.f_ml hL_h0 hT_h0
  obtain ⟨hq_33, hq_34⟩ := hW.octs hi_31 ht_32
  have hFc := pg_free hD hS hA
  obtain ⟨zo_35, v14_36, v15_37, v17_38, v18_39, v19_40, v20_41, v21_42, v22_43, v33_44, v52_45, v53_46, v54_47, hF_48, hq_49, hq_50, hq_51, hq_52, hq_53⟩ := hO.mod hL_h0 hT_h0
  refine va_calli (va_runV (As := [.int (nI jf)]) (rest := []) ⟨hx, hb, hml, hown, hts⟩ (s_X15_valueEnd_e l dC dI cs ty gm L s.heap.size F h0 ρ ta ou so ad na va lc dm tg pe ml bg co sp nb0 nb1 nb2 pl se ke wi hs mo po nu pr sq xa sa n64 m64 ex wh sd tk hd ak ho ot sx s0 s1 s2 nf bd mm fm sn hg gc gv ze zt jf kd gl hW hL_h0 hT_h0 hFml (by first | omega | assumption | exact Or.inl rfl) (by first | omega | assumption | exact Or.inl rfl) (by first | omega | assumption | exact Or.inl rfl) (by first | omega | assumption | exact Or.inl rfl) (by first | omega | assumption | exact Or.inl rfl)) ⟨callB_of 1 hts (gi kt_897) rfl rfl rfl (hts _ kt_669) (hts _ kt_898) (by decide +kernel) ⟨Nat.le_of_ble_eq_true rfl, Nat.le_of_ble_eq_true rfl⟩, (hts _ kt_899), (hts _ kt_900)⟩ ⟨fun a U g mk q => ⟨q.1, PTm.calling q.2⟩, pg_recv hK hP hL_h0 hF_48 (q := (RX15, TX15, 59)) rfl, fun U hU hWm => ⟨rfl, PTm.mk hU hWm hP hK hD hE hO⟩⟩ rfl rfl hl.1 rfl (lv_room (Nat.le_of_ble_eq_true rfl)) dX15_fieldPlain_2 ⟨by show _ + 0 ≤ 0; omega, by show _ + 0 ≤ 0; omega⟩) hS (fun q _ h => hFc q h) hFc (fun r_54 u t H1 locs ht hvm hw hB hz1 hk1 hS => ?_)
  obtain ⟨F_55, hB1⟩ := hB
  obtain rfl : F = F_55 := (funext (fun a => hB1.2.2.2 a List.not_mem_nil)).symm
  obtain ⟨hP, hD, hO, hR⟩ := QTm.back hB1 ht hFc hR (fun q h => absurd h List.not_mem_nil)
  generalize H1 = H at hP hS ⊢
  have hw : r_54 = nI kd := hw
  subst hw
  refine lv_istore (lv' := [(5, .int (nI kd)), (0, .ref h0), (1, .int (nI jf)), (2, .int x2), (3, .int 0), (4, .int 0)]) hx hb dX15_fieldPlain_5 hl (by decide) rfl (fun ls hl => ?_)
  refine lv_iload_n hx hb dX15_fieldPlain_7 rfl (lv_at hl 3 rfl) ?_
  refine lv_if_ne (tgt := 60) hx hb dX15_fieldPlain_8 (by decide) (fun c_56 => ?_) (fun c_56 => ?_)
  ·
    refine lv_aload_n hx hb dX15_fieldPlain_60 rfl (lv_at hl 1 rfl) ?_
    refine pg_get (ci := 15) (v := .ref bg) (C := RX15) (T := TX15) (N := 59) hx hb hts it_15 hown hK hP hL_h0 hF_48 rfl 24 (by decide) (hts _ kt_888) (fun _ h9 => h9) rfl dX15_fieldPlain_61 ?_
    refine lv_iload_n hx hb dX15_fieldPlain_64 rfl (lv_at hl 2 rfl) ?_
    obtain ⟨hi_57, ht_58⟩ := hW.f_bg hL_h0 hT_h0
    obtain ⟨f_59, hF_60, hq_61⟩ := hO.pos hi_57 ht_58
    refine pg_iald hx hb hK hP hi_57 0 hF_60 rfl (vp_in_nI (by omega) (by omega)) dX15_fieldPlain_65 ?_
    refine lv_topi (fun x_62 ex_62 => ?_)
    obtain rfl : x_62 = (nI (gm 0 jf)) := ex_62.trans (by rw [show ((nI jf) : Int32) = nI jf from rfl, nI_clamp (by omega)]; exact hq_61 jf (by omega))
    have hgbx_62 := hgB 0 jf
    refine lv_istore (lv' := [(6, .int (nI (gm 0 jf))), (5, .int (nI kd)), (0, .ref h0), (1, .int (nI jf)), (2, .int x2), (3, .int 0), (4, .int 0)]) hx hb dX15_fieldPlain_66 hl (by decide) rfl (fun ls hl => ?_)
    refine W.widen (k := 0) (n := 0) (by omega) (by omega) ?_
    have hF_64 : F ml = .inl (cs 17, 3000, .inl gl) := (hR ml (by rw [ht_32]; simp)).symm.trans hFml
    have hF_65 : F h0 = .inr (15, (.ref ta) :: (.int (nI zt)) :: (.int (nI zo_35)) :: (.int (nI ze)) :: (.ref ou) :: (.ref so) :: (.ref ad) :: (.ref na) :: (.ref va) :: (.ref lc) :: (.ref dm) :: (.int (nI fm)) :: (.int (nI sn)) :: (.ref tg) :: (.int v14_36) :: (.int v15_37) :: (.ref pe) :: (.int v17_38) :: (.int v18_39) :: (.int v19_40) :: (.int v20_41) :: (.int v21_42) :: (.int v22_43) :: (.ref ml) :: (.ref bg) :: (.ref co) :: (.ref sp) :: (.ref nb0) :: (.ref nb1) :: (.ref nb2) :: (.int (nI nf)) :: (.int (nI bd)) :: (.int (nI mm)) :: (.int v33_44) :: (.ref pl) :: (.ref se) :: (.ref ke) :: (.ref wi) :: (.ref hs) :: (.ref mo) :: (.ref po) :: (.ref nu) :: (.ref pr) :: (.ref sq) :: (.ref xa) :: (.ref sa) :: (.ref n64) :: (.ref m64) :: (.ref ex) :: (.ref wh) :: (.ref sd) :: (.ref tk) :: (.int v52_45) :: (.int v53_46) :: (.int v54_47) :: (.ref hd) :: (.ref ak) :: (.ref ho) :: (.ref ot) :: []) := (hR h0 (by rw [hT_h0]; simp)).symm.trans hF_48
    have hF_66 : F bg = .inl (cs 16, 21, .inl f_59) := (hR bg (by rw [ht_58]; simp)).symm.trans hF_60
    refine pl_loopm (σ := Nat) A (dC, dI) cs ty gm L [ρ + 10] F 68 9 (fun j => [(6, .int (nI j)), (5, .int (nI kd)), (0, .ref h0), (1, .int (nI jf)), (2, .int x2), (3, .int 0), (4, .int 0)]) (fun j => []) (fun j FF => (gm 0 jf ≤ j ∧ j ≤ gm 1 jf) ∧ FF pl = .inr (14, [.ref rl, .int (nI (j - gm 0 jf))])) (fun j => gm 1 jf - j) ?_ (gm 0 jf) F (⟨⟨by omega, by omega⟩, (by rw [show gm 0 jf - gm 0 jf = 0 by omega]; exact hFl)⟩) hO hR _ _ hP hD hS ls (lv_sub hl [0, 1, 2, 3, 4, 5, 6] rfl)
    rintro j F_63 hv_67 hO hR ih_68 H locs hP hD hS ls hl
    have hl : lv_has ls 9 [(6, .int (nI j)), (5, .int (nI kd)), (0, .ref h0), (1, .int (nI jf)), (2, .int x2), (3, .int 0), (4, .int 0)] := hl
    have hv_67 : (gm 0 jf ≤ j ∧ j ≤ gm 1 jf) ∧ F_63 pl = .inr (14, [.ref rl, .int (nI (j - gm 0 jf))]) := hv_67
    refine W.eq (g2 := F0 m 68 ls []) rfl ?_
    have hF_69 : F_63 ml = .inl (cs 17, 3000, .inl gl) := (hR ml (by rw [ht_32]; simp)).trans hF_64
    have hF_70 : F_63 h0 = .inr (15, (.ref ta) :: (.int (nI zt)) :: (.int (nI zo_35)) :: (.int (nI ze)) :: (.ref ou) :: (.ref so) :: (.ref ad) :: (.ref na) :: (.ref va) :: (.ref lc) :: (.ref dm) :: (.int (nI fm)) :: (.int (nI sn)) :: (.ref tg) :: (.int v14_36) :: (.int v15_37) :: (.ref pe) :: (.int v17_38) :: (.int v18_39) :: (.int v19_40) :: (.int v20_41) :: (.int v21_42) :: (.int v22_43) :: (.ref ml) :: (.ref bg) :: (.ref co) :: (.ref sp) :: (.ref nb0) :: (.ref nb1) :: (.ref nb2) :: (.int (nI nf)) :: (.int (nI bd)) :: (.int (nI mm)) :: (.int v33_44) :: (.ref pl) :: (.ref se) :: (.ref ke) :: (.ref wi) :: (.ref hs) :: (.ref mo) :: (.ref po) :: (.ref nu) :: (.ref pr) :: (.ref sq) :: (.ref xa) :: (.ref sa) :: (.ref n64) :: (.ref m64) :: (.ref ex) :: (.ref wh) :: (.ref sd) :: (.ref tk) :: (.int v52_45) :: (.int v53_46) :: (.int v54_47) :: (.ref hd) :: (.ref ak) :: (.ref ho) :: (.ref ot) :: []) := (hR h0 (by rw [hT_h0]; simp)).trans hF_65
    have hF_71 : F_63 bg = .inl (cs 16, 21, .inl f_59) := (hR bg (by rw [ht_58]; simp)).trans hF_66
    obtain ⟨hp1, hp2⟩ := id hv_67
    refine lv_iload hx hb dX15_fieldPlain_68 (lv_at hl 0 rfl) ?_
    refine lv_aload_n hx hb dX15_fieldPlain_70 rfl (lv_at hl 2 rfl) ?_
    refine pg_get (ci := 15) (v := .ref co) (C := RX15) (T := TX15) (N := 59) hx hb hts it_15 hown hK hP hL_h0 hF_70 rfl 25 (by decide) (hts _ kt_889) (fun _ h9 => h9) rfl dX15_fieldPlain_71 ?_
    refine lv_iload_n hx hb dX15_fieldPlain_74 rfl (lv_at hl 3 rfl) ?_
    obtain ⟨hi_72, ht_73⟩ := hW.f_co hL_h0 hT_h0
    obtain ⟨f_74, hF_75, hq_76⟩ := hO.pos hi_72 ht_73
    refine pg_iald hx hb hK hP hi_72 0 hF_75 rfl (vp_in_nI (by omega) (by omega)) dX15_fieldPlain_75 ?_
    refine lv_topi (fun x_77 ex_77 => ?_)
    obtain rfl : x_77 = (nI (gm 1 jf)) := ex_77.trans (by rw [show ((nI jf) : Int32) = nI jf from rfl, nI_clamp (by omega)]; exact hq_76 jf (by omega))
    have hgbx_77 := hgB 1 jf
    refine lv_icmp_ge (tgt := 102) hx hb dX15_fieldPlain_76 (by decide) (fun c_78 => ?_) (fun c_78 => ?_)
    ·
      have hi_79 : (gm 1 jf) ≤ j := leN (N := (gm 1 jf)) c_78
      refine lv_aload_n hx hb dX15_fieldPlain_102 rfl (lv_at hl 2 rfl) ?_
      refine pg_get (ci := 15) (v := .ref pl) (C := RX15) (T := TX15) (N := 59) hx hb hts it_15 hown hK hP hL_h0 hF_70 rfl 34 (by decide) (hts _ kt_901) (fun _ h9 => h9) rfl dX15_fieldPlain_103 ?_
      refine lv_bipush (v := 58) hx hb dX15_fieldPlain_106 (by decide) ?_
      have hFc := pg_free hD hS hA
      refine va_callv (va_runV (As := [.int 58]) (rest := []) ⟨hx, hb, hml, hown, hts⟩ (s_X14_add l dC dI cs ty gm L H.size F_63 pl (ρ + 10) rl 6000 (j - gm 0 jf) 58 hW hL_pl hT_pl hp2 (by first | omega | assumption | exact Or.inl rfl)) ⟨callB_of 1 hts (gi kt_711) rfl rfl rfl (hts _ kt_676) (hts _ kt_712) (by decide +kernel) ⟨Nat.le_of_ble_eq_true rfl, Nat.le_of_ble_eq_true rfl⟩, (hts _ kt_713), (hts _ kt_714)⟩ ⟨fun a U g mk q => ⟨q.1, PTm.calling q.2⟩, pg_recv hK hP hL_pl hp2 (q := (RX14, TX14, 2)) rfl, fun U hU hWm => ⟨rfl, PTm.mk hU hWm hP hK hD hE hO⟩⟩ rfl rfl hl.1 rfl (lv_room (Nat.le_of_ble_eq_true rfl)) dX15_fieldPlain_108 ⟨by show _ + 0 ≤ 0; omega, by show _ + 0 ≤ 0; omega⟩) hS (fun q _ h => hFc q h) hFc (fun u t H1 locs ht hvm hw hB hz1 hk1 hS => ?_)
      obtain ⟨F_81, hB1, hq_82⟩ := hB
      obtain ⟨hP, hD, hO, hR⟩ := QTm.back hB1 ht hFc hR (fun q h => by simp only [List.mem_cons, List.not_mem_nil, or_false] at h ⊢; omega)
      have hF_83 : F_81 ml = .inl (cs 17, 3000, .inl gl) := (hB1.2.2.2 ml (by rw [ht_32]; simp)).trans hF_69
      have hF_84 : F_81 h0 = .inr (15, (.ref ta) :: (.int (nI zt)) :: (.int (nI zo_35)) :: (.int (nI ze)) :: (.ref ou) :: (.ref so) :: (.ref ad) :: (.ref na) :: (.ref va) :: (.ref lc) :: (.ref dm) :: (.int (nI fm)) :: (.int (nI sn)) :: (.ref tg) :: (.int v14_36) :: (.int v15_37) :: (.ref pe) :: (.int v17_38) :: (.int v18_39) :: (.int v19_40) :: (.int v20_41) :: (.int v21_42) :: (.int v22_43) :: (.ref ml) :: (.ref bg) :: (.ref co) :: (.ref sp) :: (.ref nb0) :: (.ref nb1) :: (.ref nb2) :: (.int (nI nf)) :: (.int (nI bd)) :: (.int (nI mm)) :: (.int v33_44) :: (.ref pl) :: (.ref se) :: (.ref ke) :: (.ref wi) :: (.ref hs) :: (.ref mo) :: (.ref po) :: (.ref nu) :: (.ref pr) :: (.ref sq) :: (.ref xa) :: (.ref sa) :: (.ref n64) :: (.ref m64) :: (.ref ex) :: (.ref wh) :: (.ref sd) :: (.ref tk) :: (.int v52_45) :: (.int v53_46) :: (.int v54_47) :: (.ref hd) :: (.ref ak) :: (.ref ho) :: (.ref ot) :: []) := (hB1.2.2.2 h0 (by rw [hT_h0]; simp)).trans hF_70
      have hF_85 : F_81 bg = .inl (cs 16, 21, .inl f_59) := (hB1.2.2.2 bg (by rw [ht_58]; simp)).trans hF_71
      have hF_86 : F_81 co = .inl (cs 16, 21, .inl f_74) := (hB1.2.2.2 co (by rw [ht_73]; simp)).trans hF_75
      generalize H1 = H at hP hS ⊢
      refine lv_iconst (v := 0) hx hb dX15_fieldPlain_111 (by decide) ?_
      refine lv_istore (lv' := [(6, .int 0), (5, .int (nI kd)), (0, .ref h0), (1, .int (nI jf)), (2, .int x2), (3, .int 0), (4, .int 0)]) hx hb dX15_fieldPlain_112 hl (by decide) rfl (fun ls hl => ?_)
      refine lv_iconst (v := 0) hx hb dX15_fieldPlain_114 (by decide) ?_
      refine lv_istore (lv' := [(7, .int 0), (6, .int 0), (5, .int (nI kd)), (0, .ref h0), (1, .int (nI jf)), (2, .int x2), (3, .int 0), (4, .int 0)]) hx hb dX15_fieldPlain_115 hl (by decide) rfl (fun ls hl => ?_)
      refine lv_aload_n hx hb dX15_fieldPlain_117 rfl (lv_at hl 3 rfl) ?_
      refine pg_get (ci := 15) (v := .ref co) (C := RX15) (T := TX15) (N := 59) hx hb hts it_15 hown hK hP hL_h0 hF_84 rfl 25 (by decide) (hts _ kt_889) (fun _ h9 => h9) rfl dX15_fieldPlain_118 ?_
      refine lv_iload_n hx hb dX15_fieldPlain_121 rfl (lv_at hl 4 rfl) ?_
      refine pg_iald hx hb hK hP hi_72 0 hF_86 rfl (vp_in_nI (by omega) (by omega)) dX15_fieldPlain_122 ?_
      refine lv_topi (fun x_87 ex_87 => ?_)
      obtain rfl : x_87 = (nI (gm 1 jf)) := ex_87.trans (by rw [show ((nI jf) : Int32) = nI jf from rfl, nI_clamp (by omega)]; exact hq_76 jf (by omega))
      have hgbx_87 := hgB 1 jf
      refine lv_iconst (v := 1) hx hb dX15_fieldPlain_123 (by decide) ?_
      refine lv_iadd hx hb dX15_fieldPlain_124 ?_
      refine lv_topi (fun x_88 ex_88 => ?_)
      obtain rfl : x_88 = (nI ((gm 1 jf) + 1)) := ex_88.trans (nI_add (gm 1 jf) 1)
      refine lv_istore (lv' := [(8, .int (nI ((gm 1 jf) + 1))), (7, .int 0), (6, .int 0), (5, .int (nI kd)), (0, .ref h0), (1, .int (nI jf)), (2, .int x2), (3, .int 0), (4, .int 0)]) hx hb dX15_fieldPlain_125 hl (by decide) rfl (fun ls hl => ?_)
      have hF_89 : F_81 pl = .inr (14, [.ref rl, .int (nI (rng 1 (gm 0 jf) (gm 1 jf - gm 0 jf) ++ [(2, 58)]).length)]) := by rw [len1, rng_len, show gm 1 jf - gm 0 jf + 1 = ((j - gm 0 jf) + 1) by omega]; exact hq_82
      refine W.widen (k := 0) (n := 0) (by omega) (by omega) ?_
      have hF_91 : F ml = .inl (cs 17, 3000, .inl gl) := (hR ml (by rw [ht_32]; simp)).symm.trans hF_83
      have hF_92 : F h0 = .inr (15, (.ref ta) :: (.int (nI zt)) :: (.int (nI zo_35)) :: (.int (nI ze)) :: (.ref ou) :: (.ref so) :: (.ref ad) :: (.ref na) :: (.ref va) :: (.ref lc) :: (.ref dm) :: (.int (nI fm)) :: (.int (nI sn)) :: (.ref tg) :: (.int v14_36) :: (.int v15_37) :: (.ref pe) :: (.int v17_38) :: (.int v18_39) :: (.int v19_40) :: (.int v20_41) :: (.int v21_42) :: (.int v22_43) :: (.ref ml) :: (.ref bg) :: (.ref co) :: (.ref sp) :: (.ref nb0) :: (.ref nb1) :: (.ref nb2) :: (.int (nI nf)) :: (.int (nI bd)) :: (.int (nI mm)) :: (.int v33_44) :: (.ref pl) :: (.ref se) :: (.ref ke) :: (.ref wi) :: (.ref hs) :: (.ref mo) :: (.ref po) :: (.ref nu) :: (.ref pr) :: (.ref sq) :: (.ref xa) :: (.ref sa) :: (.ref n64) :: (.ref m64) :: (.ref ex) :: (.ref wh) :: (.ref sd) :: (.ref tk) :: (.int v52_45) :: (.int v53_46) :: (.int v54_47) :: (.ref hd) :: (.ref ak) :: (.ref ho) :: (.ref ot) :: []) := (hR h0 (by rw [hT_h0]; simp)).symm.trans hF_84
      have hF_93 : F bg = .inl (cs 16, 21, .inl f_59) := (hR bg (by rw [ht_58]; simp)).symm.trans hF_85
      have hF_94 : F co = .inl (cs 16, 21, .inl f_74) := (hR co (by rw [ht_73]; simp)).symm.trans hF_86
      refine pl_loopm (σ := Nat × Int32 × Int32 × (List (Nat × Nat))) A (dC, dI) cs ty gm L [ρ + 10] F 127 9 (fun (i, w6, w7, aa) => [(8, .int (nI i)), (7, .int w7), (6, .int w6), (5, .int (nI kd)), (0, .ref h0), (1, .int (nI jf)), (2, .int x2), (3, .int 0), (4, .int 0)]) (fun (i, w6, w7, aa) => []) (fun (i, w6, w7, aa) FF => (gm 1 jf + 1 ≤ i ∧ i ≤ kd) ∧ (w6 = 0 ∨ w6 = 1) ∧ aa.length ≤ i - gm 0 jf ∧ (w7 = 0 ∨ aa.length + 1 ≤ i - gm 0 jf) ∧ (FPL (clr gl) x2 (gm 0 jf) (gm 1 jf) kd) = aa ++ rvl (clr gl) (kd - i) i w6 (wvv w6 w7) ∧ FF pl = .inr (14, [.ref rl, .int (nI aa.length)])) (fun (i, w6, w7, aa) => kd - i) ?_ (((gm 1 jf) + 1), 0, 0, (rng 1 (gm 0 jf) (gm 1 jf - gm 0 jf) ++ [(2, 58)])) F_81 (⟨⟨by omega, by omega⟩, Or.inl rfl, (by rw [len1, rng_len]; omega), Or.inl rfl, (by rw [wv_z]; exact FPL_r c_56), hF_89⟩) hO hR _ _ hP hD hS ls (lv_sub hl [0, 1, 2, 3, 4, 5, 6, 7, 8] rfl)
      rintro ⟨i, w6, w7, aa⟩ F_90 hv_95 hO hR ih_96 H locs hP hD hS ls hl
      have hl : lv_has ls 9 [(8, .int (nI i)), (7, .int w7), (6, .int w6), (5, .int (nI kd)), (0, .ref h0), (1, .int (nI jf)), (2, .int x2), (3, .int 0), (4, .int 0)] := hl
      have hv_95 : (gm 1 jf + 1 ≤ i ∧ i ≤ kd) ∧ (w6 = 0 ∨ w6 = 1) ∧ aa.length ≤ i - gm 0 jf ∧ (w7 = 0 ∨ aa.length + 1 ≤ i - gm 0 jf) ∧ (FPL (clr gl) x2 (gm 0 jf) (gm 1 jf) kd) = aa ++ rvl (clr gl) (kd - i) i w6 (wvv w6 w7) ∧ F_90 pl = .inr (14, [.ref rl, .int (nI aa.length)]) := hv_95
      refine W.eq (g2 := F0 m 127 ls []) rfl ?_
      have hF_97 : F_90 ml = .inl (cs 17, 3000, .inl gl) := (hR ml (by rw [ht_32]; simp)).trans hF_91
      have hF_98 : F_90 h0 = .inr (15, (.ref ta) :: (.int (nI zt)) :: (.int (nI zo_35)) :: (.int (nI ze)) :: (.ref ou) :: (.ref so) :: (.ref ad) :: (.ref na) :: (.ref va) :: (.ref lc) :: (.ref dm) :: (.int (nI fm)) :: (.int (nI sn)) :: (.ref tg) :: (.int v14_36) :: (.int v15_37) :: (.ref pe) :: (.int v17_38) :: (.int v18_39) :: (.int v19_40) :: (.int v20_41) :: (.int v21_42) :: (.int v22_43) :: (.ref ml) :: (.ref bg) :: (.ref co) :: (.ref sp) :: (.ref nb0) :: (.ref nb1) :: (.ref nb2) :: (.int (nI nf)) :: (.int (nI bd)) :: (.int (nI mm)) :: (.int v33_44) :: (.ref pl) :: (.ref se) :: (.ref ke) :: (.ref wi) :: (.ref hs) :: (.ref mo) :: (.ref po) :: (.ref nu) :: (.ref pr) :: (.ref sq) :: (.ref xa) :: (.ref sa) :: (.ref n64) :: (.ref m64) :: (.ref ex) :: (.ref wh) :: (.ref sd) :: (.ref tk) :: (.int v52_45) :: (.int v53_46) :: (.int v54_47) :: (.ref hd) :: (.ref ak) :: (.ref ho) :: (.ref ot) :: []) := (hR h0 (by rw [hT_h0]; simp)).trans hF_92
      have hF_99 : F_90 bg = .inl (cs 16, 21, .inl f_59) := (hR bg (by rw [ht_58]; simp)).trans hF_93
      have hF_100 : F_90 co = .inl (cs 16, 21, .inl f_74) := (hR co (by rw [ht_73]; simp)).trans hF_94
      obtain ⟨hp1, hp3, hp4, hp5, hp6, hp2⟩ := id hv_95
      refine lv_iload hx hb dX15_fieldPlain_127 (lv_at hl 0 rfl) ?_
      refine lv_iload hx hb dX15_fieldPlain_129 (lv_at hl 3 rfl) ?_
      refine lv_icmp_ge (tgt := 226) hx hb dX15_fieldPlain_131 (by decide) (fun c_101 => ?_) (fun c_101 => ?_)
      ·
        have hi_102 : kd ≤ i := leN (N := kd) c_101
        have hib : kd ≤ i := by omega
        refine W.widen (k := 0) (n := 0) (by omega) (by omega) ?_
        exact W.vret hx hb hr (fun t ht hWm => ⟨⟨(), rfl, trivial, ⟨F_90, QTm.mk ht hP hD hO hR, (by rw [rv_e hp6 hib]; exact hp2)⟩⟩, hS.F ht⟩) hS.2.2 dX15_fieldPlain_226
      ·
        have hi_103 : i < kd := ltN (N := kd) c_101
        have hib : i < kd := by omega
        refine lv_iload hx hb dX15_fieldPlain_134 (lv_at hl 0 rfl) ?_
        refine lv_iload_n hx hb dX15_fieldPlain_136 rfl (lv_at hl 7 rfl) ?_
        refine lv_icmp_lt (tgt := 147) hx hb dX15_fieldPlain_137 (by decide) (fun c_104 => absurd c_104 (nI_pos (by omega))) (fun c_104 => ?_)
        refine lv_iload hx hb dX15_fieldPlain_140 (lv_at hl 0 rfl) ?_
        refine lv_iload hx hb dX15_fieldPlain_142 (lv_at hl 8 rfl) ?_
        refine lv_icmp_lt (tgt := 220) hx hb dX15_fieldPlain_144 (by decide) (fun c_105 => absurd c_105 (nI_pos (by omega))) (fun c_105 => ?_)
        refine lv_aload_n hx hb dX15_fieldPlain_147 rfl (lv_at hl 4 rfl) ?_
        refine pg_get (ci := 15) (v := .ref ml) (C := RX15) (T := TX15) (N := 59) hx hb hts it_15 hown hK hP hL_h0 hF_98 rfl 23 (by decide) (hts _ kt_887) (fun _ h9 => h9) rfl dX15_fieldPlain_148 ?_
        refine lv_iload hx hb dX15_fieldPlain_151 (lv_at hl 0 rfl) ?_
        refine pg_bald hx hb hK hP hi_31 1 hF_97 rfl (vp_in_nI (by omega) (by omega)) dX15_fieldPlain_153 ?_
        refine lv_topi (fun x_106 ex_106 => ?_)
        obtain rfl : x_106 = gl i := ex_106.trans (congrArg gl (show ((nI i) : Int32).toNatClampNeg = i from nI_clamp (by omega)))
        refine lv_bipush (v := 10) hx hb dX15_fieldPlain_154 (by decide) ?_
        refine lv_icmp_ne (tgt := 162) hx hb dX15_fieldPlain_156 (by decide) (fun c_107 => ?_) (fun c_107 => ?_)
        ·
          refine lv_aload_n hx hb dX15_fieldPlain_162 rfl (lv_at hl 4 rfl) ?_
          refine pg_get (ci := 15) (v := .ref ml) (C := RX15) (T := TX15) (N := 59) hx hb hts it_15 hown hK hP hL_h0 hF_98 rfl 23 (by decide) (hts _ kt_887) (fun _ h9 => h9) rfl dX15_fieldPlain_163 ?_
          refine lv_iload hx hb dX15_fieldPlain_166 (lv_at hl 0 rfl) ?_
          refine pg_bald hx hb hK hP hi_31 1 hF_97 rfl (vp_in_nI (by omega) (by omega)) dX15_fieldPlain_168 ?_
          refine lv_topi (fun x_108 ex_108 => ?_)
          obtain rfl : x_108 = gl i := ex_108.trans (congrArg gl (show ((nI i) : Int32).toNatClampNeg = i from nI_clamp (by omega)))
          have hFc := pg_free hD hS hA
          refine va_calli (va_runS (As := [.int (gl i)]) (rest := []) ⟨hx, hb, hml, hown, hts⟩ (s_X15_isWhite_e l dC dI cs ty gm L H.size F_90 (gl i) hW ) ⟨callB_of 1 hts (gi kt_715) rfl rfl rfl (hts _ kt_669) (hts _ kt_716) (by decide +kernel) ⟨Nat.le_of_ble_eq_true rfl, Nat.le_of_ble_eq_true rfl⟩, (hts _ kt_717)⟩ ⟨fun a U g mk q => ⟨q.1, PTm.calling q.2⟩, fun U hU hWm => ⟨rfl, PTm.mk hU hWm hP hK hD hE hO⟩⟩ rfl rfl hl.1 rfl (lv_room (Nat.le_of_ble_eq_true rfl)) dX15_fieldPlain_169 ⟨by show _ + 0 ≤ 0; omega, by show _ + 0 ≤ 0; omega⟩) hS (fun q _ h => hFc q h) hFc (fun r_109 u t H1 locs ht hvm hw hB hz1 hk1 hS => ?_)
          obtain ⟨F_110, hB1⟩ := hB
          obtain rfl : F_90 = F_110 := (funext (fun a => hB1.2.2.2 a List.not_mem_nil)).symm
          obtain ⟨hP, hD, hO, hR⟩ := QTm.back hB1 ht hFc hR (fun q h => absurd h List.not_mem_nil)
          generalize H1 = H at hP hS ⊢
          have hw : r_109 = (if (gl i) = 32 ∨ (gl i) = 9 then 1 else 0) := hw
          have hw_111 := hw
          refine lv_if_eq (tgt := 181) hx hb dX15_fieldPlain_172 (by decide) (fun c_112 => ?_) (fun c_112 => ?_)
          ·
            refine lv_iload hx hb dX15_fieldPlain_181 (lv_at hl 1 rfl) ?_
            refine lv_if_eq (tgt := 200) hx hb dX15_fieldPlain_183 (by decide) (fun c_113 => ?_) (fun c_113 => ?_)
            ·
              refine lv_iconst (v := 0) hx hb dX15_fieldPlain_200 (by decide) ?_
              refine lv_istore (lv' := [(7, .int 0), (8, .int (nI i)), (6, .int w6), (5, .int (nI kd)), (0, .ref h0), (1, .int (nI jf)), (2, .int x2), (3, .int 0), (4, .int 0)]) hx hb dX15_fieldPlain_201 hl (by decide) rfl (fun ls hl => ?_)
              refine lv_iconst (v := 1) hx hb dX15_fieldPlain_203 (by decide) ?_
              refine lv_istore (lv' := [(6, .int 1), (7, .int 0), (8, .int (nI i)), (5, .int (nI kd)), (0, .ref h0), (1, .int (nI jf)), (2, .int x2), (3, .int 0), (4, .int 0)]) hx hb dX15_fieldPlain_204 hl (by decide) rfl (fun ls hl => ?_)
              refine lv_aload_n hx hb dX15_fieldPlain_206 rfl (lv_at hl 4 rfl) ?_
              refine pg_get (ci := 15) (v := .ref pl) (C := RX15) (T := TX15) (N := 59) hx hb hts it_15 hown hK hP hL_h0 hF_98 rfl 34 (by decide) (hts _ kt_901) (fun _ h9 => h9) rfl dX15_fieldPlain_207 ?_
              refine lv_aload_n hx hb dX15_fieldPlain_210 rfl (lv_at hl 4 rfl) ?_
              refine pg_get (ci := 15) (v := .ref ml) (C := RX15) (T := TX15) (N := 59) hx hb hts it_15 hown hK hP hL_h0 hF_98 rfl 23 (by decide) (hts _ kt_887) (fun _ h9 => h9) rfl dX15_fieldPlain_211 ?_
              refine lv_iload hx hb dX15_fieldPlain_214 (lv_at hl 2 rfl) ?_
              refine pg_bald hx hb hK hP hi_31 1 hF_97 rfl (vp_in_nI (by omega) (by omega)) dX15_fieldPlain_216 ?_
              refine lv_topi (fun x_114 ex_114 => ?_)
              obtain rfl : x_114 = gl i := ex_114.trans (congrArg gl (show ((nI i) : Int32).toNatClampNeg = i from nI_clamp (by omega)))
              have hFc := pg_free hD hS hA
              refine va_callv (va_runV (As := [.int (gl i)]) (rest := []) ⟨hx, hb, hml, hown, hts⟩ (s_X14_add l dC dI cs ty gm L H.size F_90 pl (ρ + 10) rl 6000 aa.length (gl i) hW hL_pl hT_pl hp2 (by first | omega | assumption | exact Or.inl rfl)) ⟨callB_of 1 hts (gi kt_711) rfl rfl rfl (hts _ kt_676) (hts _ kt_712) (by decide +kernel) ⟨Nat.le_of_ble_eq_true rfl, Nat.le_of_ble_eq_true rfl⟩, (hts _ kt_713), (hts _ kt_714)⟩ ⟨fun a U g mk q => ⟨q.1, PTm.calling q.2⟩, pg_recv hK hP hL_pl hp2 (q := (RX14, TX14, 2)) rfl, fun U hU hWm => ⟨rfl, PTm.mk hU hWm hP hK hD hE hO⟩⟩ rfl rfl hl.1 rfl (lv_room (Nat.le_of_ble_eq_true rfl)) dX15_fieldPlain_217 ⟨by show _ + 0 ≤ 0; omega, by show _ + 0 ≤ 0; omega⟩) hS (fun q _ h => hFc q h) hFc (fun u t H1 locs ht hvm hw hB hz1 hk1 hS => ?_)
              obtain ⟨F_116, hB1, hq_117⟩ := hB
              obtain ⟨hP, hD, hO, hR⟩ := QTm.back hB1 ht hFc hR (fun q h => by simp only [List.mem_cons, List.not_mem_nil, or_false] at h ⊢; omega)
              have hF_118 : F_116 ml = .inl (cs 17, 3000, .inl gl) := (hB1.2.2.2 ml (by rw [ht_32]; simp)).trans hF_97
              have hF_119 : F_116 h0 = .inr (15, (.ref ta) :: (.int (nI zt)) :: (.int (nI zo_35)) :: (.int (nI ze)) :: (.ref ou) :: (.ref so) :: (.ref ad) :: (.ref na) :: (.ref va) :: (.ref lc) :: (.ref dm) :: (.int (nI fm)) :: (.int (nI sn)) :: (.ref tg) :: (.int v14_36) :: (.int v15_37) :: (.ref pe) :: (.int v17_38) :: (.int v18_39) :: (.int v19_40) :: (.int v20_41) :: (.int v21_42) :: (.int v22_43) :: (.ref ml) :: (.ref bg) :: (.ref co) :: (.ref sp) :: (.ref nb0) :: (.ref nb1) :: (.ref nb2) :: (.int (nI nf)) :: (.int (nI bd)) :: (.int (nI mm)) :: (.int v33_44) :: (.ref pl) :: (.ref se) :: (.ref ke) :: (.ref wi) :: (.ref hs) :: (.ref mo) :: (.ref po) :: (.ref nu) :: (.ref pr) :: (.ref sq) :: (.ref xa) :: (.ref sa) :: (.ref n64) :: (.ref m64) :: (.ref ex) :: (.ref wh) :: (.ref sd) :: (.ref tk) :: (.int v52_45) :: (.int v53_46) :: (.int v54_47) :: (.ref hd) :: (.ref ak) :: (.ref ho) :: (.ref ot) :: []) := (hB1.2.2.2 h0 (by rw [hT_h0]; simp)).trans hF_98
              have hF_120 : F_116 bg = .inl (cs 16, 21, .inl f_59) := (hB1.2.2.2 bg (by rw [ht_58]; simp)).trans hF_99
              have hF_121 : F_116 co = .inl (cs 16, 21, .inl f_74) := (hB1.2.2.2 co (by rw [ht_73]; simp)).trans hF_100
              generalize H1 = H at hP hS ⊢
              refine lv_iinc (v := (nI (i + 1))) (lv' := [(8, .int (nI (i + 1))), (6, .int 1), (7, .int 0), (5, .int (nI kd)), (0, .ref h0), (1, .int (nI jf)), (2, .int x2), (3, .int 0), (4, .int 0)]) hx hb dX15_fieldPlain_220 hl (k := 2) rfl (nI_1 _) (by decide) rfl (fun ls hl => ?_)
              refine lv_goto (tgt := 127) hx hb dX15_fieldPlain_223 (by decide) ?_
              refine W.widen (k := 0) (n := 0) (by omega) (by omega) ?_
              exact ih_96 ((i + 1), 1, 0, (aa ++ [(0, i)])) F_116 (⟨⟨by omega, by omega⟩, Or.inr rfl, by rw [len1]; omega, Or.inl rfl, (by rw [wv_z]; exact rv_a hp6 hib (clg0n c_107) (clg1n (ifb0 hw_111 c_112)) (by rw [c_113]; exact wv_z)), (by rw [len1]; exact hq_117)⟩) (by show kd - (i + 1) < kd - i; omega) hO hR _ _ hP hD hS ls (lv_sub hl [0, 2, 1, 3, 4, 5, 6, 7, 8] rfl)
            ·
              have hz9 := hp5.resolve_left c_113
              refine lv_iload hx hb dX15_fieldPlain_186 (lv_at hl 2 rfl) ?_
              refine lv_if_eq (tgt := 200) hx hb dX15_fieldPlain_188 (by decide) (fun c_122 => ?_) (fun c_122 => ?_)
              ·
                refine lv_iconst (v := 0) hx hb dX15_fieldPlain_200 (by decide) ?_
                refine lv_istore (lv' := [(7, .int 0), (8, .int (nI i)), (6, .int w6), (5, .int (nI kd)), (0, .ref h0), (1, .int (nI jf)), (2, .int x2), (3, .int 0), (4, .int 0)]) hx hb dX15_fieldPlain_201 hl (by decide) rfl (fun ls hl => ?_)
                refine lv_iconst (v := 1) hx hb dX15_fieldPlain_203 (by decide) ?_
                refine lv_istore (lv' := [(6, .int 1), (7, .int 0), (8, .int (nI i)), (5, .int (nI kd)), (0, .ref h0), (1, .int (nI jf)), (2, .int x2), (3, .int 0), (4, .int 0)]) hx hb dX15_fieldPlain_204 hl (by decide) rfl (fun ls hl => ?_)
                refine lv_aload_n hx hb dX15_fieldPlain_206 rfl (lv_at hl 4 rfl) ?_
                refine pg_get (ci := 15) (v := .ref pl) (C := RX15) (T := TX15) (N := 59) hx hb hts it_15 hown hK hP hL_h0 hF_98 rfl 34 (by decide) (hts _ kt_901) (fun _ h9 => h9) rfl dX15_fieldPlain_207 ?_
                refine lv_aload_n hx hb dX15_fieldPlain_210 rfl (lv_at hl 4 rfl) ?_
                refine pg_get (ci := 15) (v := .ref ml) (C := RX15) (T := TX15) (N := 59) hx hb hts it_15 hown hK hP hL_h0 hF_98 rfl 23 (by decide) (hts _ kt_887) (fun _ h9 => h9) rfl dX15_fieldPlain_211 ?_
                refine lv_iload hx hb dX15_fieldPlain_214 (lv_at hl 2 rfl) ?_
                refine pg_bald hx hb hK hP hi_31 1 hF_97 rfl (vp_in_nI (by omega) (by omega)) dX15_fieldPlain_216 ?_
                refine lv_topi (fun x_123 ex_123 => ?_)
                obtain rfl : x_123 = gl i := ex_123.trans (congrArg gl (show ((nI i) : Int32).toNatClampNeg = i from nI_clamp (by omega)))
                have hFc := pg_free hD hS hA
                refine va_callv (va_runV (As := [.int (gl i)]) (rest := []) ⟨hx, hb, hml, hown, hts⟩ (s_X14_add l dC dI cs ty gm L H.size F_90 pl (ρ + 10) rl 6000 aa.length (gl i) hW hL_pl hT_pl hp2 (by first | omega | assumption | exact Or.inl rfl)) ⟨callB_of 1 hts (gi kt_711) rfl rfl rfl (hts _ kt_676) (hts _ kt_712) (by decide +kernel) ⟨Nat.le_of_ble_eq_true rfl, Nat.le_of_ble_eq_true rfl⟩, (hts _ kt_713), (hts _ kt_714)⟩ ⟨fun a U g mk q => ⟨q.1, PTm.calling q.2⟩, pg_recv hK hP hL_pl hp2 (q := (RX14, TX14, 2)) rfl, fun U hU hWm => ⟨rfl, PTm.mk hU hWm hP hK hD hE hO⟩⟩ rfl rfl hl.1 rfl (lv_room (Nat.le_of_ble_eq_true rfl)) dX15_fieldPlain_217 ⟨by show _ + 0 ≤ 0; omega, by show _ + 0 ≤ 0; omega⟩) hS (fun q _ h => hFc q h) hFc (fun u t H1 locs ht hvm hw hB hz1 hk1 hS => ?_)
                obtain ⟨F_125, hB1, hq_126⟩ := hB
                obtain ⟨hP, hD, hO, hR⟩ := QTm.back hB1 ht hFc hR (fun q h => by simp only [List.mem_cons, List.not_mem_nil, or_false] at h ⊢; omega)
                have hF_127 : F_125 ml = .inl (cs 17, 3000, .inl gl) := (hB1.2.2.2 ml (by rw [ht_32]; simp)).trans hF_97
                have hF_128 : F_125 h0 = .inr (15, (.ref ta) :: (.int (nI zt)) :: (.int (nI zo_35)) :: (.int (nI ze)) :: (.ref ou) :: (.ref so) :: (.ref ad) :: (.ref na) :: (.ref va) :: (.ref lc) :: (.ref dm) :: (.int (nI fm)) :: (.int (nI sn)) :: (.ref tg) :: (.int v14_36) :: (.int v15_37) :: (.ref pe) :: (.int v17_38) :: (.int v18_39) :: (.int v19_40) :: (.int v20_41) :: (.int v21_42) :: (.int v22_43) :: (.ref ml) :: (.ref bg) :: (.ref co) :: (.ref sp) :: (.ref nb0) :: (.ref nb1) :: (.ref nb2) :: (.int (nI nf)) :: (.int (nI bd)) :: (.int (nI mm)) :: (.int v33_44) :: (.ref pl) :: (.ref se) :: (.ref ke) :: (.ref wi) :: (.ref hs) :: (.ref mo) :: (.ref po) :: (.ref nu) :: (.ref pr) :: (.ref sq) :: (.ref xa) :: (.ref sa) :: (.ref n64) :: (.ref m64) :: (.ref ex) :: (.ref wh) :: (.ref sd) :: (.ref tk) :: (.int v52_45) :: (.int v53_46) :: (.int v54_47) :: (.ref hd) :: (.ref ak) :: (.ref ho) :: (.ref ot) :: []) := (hB1.2.2.2 h0 (by rw [hT_h0]; simp)).trans hF_98
                have hF_129 : F_125 bg = .inl (cs 16, 21, .inl f_59) := (hB1.2.2.2 bg (by rw [ht_58]; simp)).trans hF_99
                have hF_130 : F_125 co = .inl (cs 16, 21, .inl f_74) := (hB1.2.2.2 co (by rw [ht_73]; simp)).trans hF_100
                generalize H1 = H at hP hS ⊢
                refine lv_iinc (v := (nI (i + 1))) (lv' := [(8, .int (nI (i + 1))), (6, .int 1), (7, .int 0), (5, .int (nI kd)), (0, .ref h0), (1, .int (nI jf)), (2, .int x2), (3, .int 0), (4, .int 0)]) hx hb dX15_fieldPlain_220 hl (k := 2) rfl (nI_1 _) (by decide) rfl (fun ls hl => ?_)
                refine lv_goto (tgt := 127) hx hb dX15_fieldPlain_223 (by decide) ?_
                refine W.widen (k := 0) (n := 0) (by omega) (by omega) ?_
                exact ih_96 ((i + 1), 1, 0, (aa ++ [(0, i)])) F_125 (⟨⟨by omega, by omega⟩, Or.inr rfl, by rw [len1]; omega, Or.inl rfl, (by rw [wv_z]; exact rv_a hp6 hib (clg0n c_107) (clg1n (ifb0 hw_111 c_112)) (wv_0 c_122)), (by rw [len1]; exact hq_126)⟩) (by show kd - (i + 1) < kd - i; omega) hO hR _ _ hP hD hS ls (lv_sub hl [0, 2, 1, 3, 4, 5, 6, 7, 8] rfl)
              ·
                refine lv_aload_n hx hb dX15_fieldPlain_191 rfl (lv_at hl 4 rfl) ?_
                refine pg_get (ci := 15) (v := .ref pl) (C := RX15) (T := TX15) (N := 59) hx hb hts it_15 hown hK hP hL_h0 hF_98 rfl 34 (by decide) (hts _ kt_901) (fun _ h9 => h9) rfl dX15_fieldPlain_192 ?_
                refine lv_bipush (v := 32) hx hb dX15_fieldPlain_195 (by decide) ?_
                have hFc := pg_free hD hS hA
                refine va_callv (va_runV (As := [.int 32]) (rest := []) ⟨hx, hb, hml, hown, hts⟩ (s_X14_add l dC dI cs ty gm L H.size F_90 pl (ρ + 10) rl 6000 aa.length 32 hW hL_pl hT_pl hp2 (by first | omega | assumption | exact Or.inl rfl)) ⟨callB_of 1 hts (gi kt_711) rfl rfl rfl (hts _ kt_676) (hts _ kt_712) (by decide +kernel) ⟨Nat.le_of_ble_eq_true rfl, Nat.le_of_ble_eq_true rfl⟩, (hts _ kt_713), (hts _ kt_714)⟩ ⟨fun a U g mk q => ⟨q.1, PTm.calling q.2⟩, pg_recv hK hP hL_pl hp2 (q := (RX14, TX14, 2)) rfl, fun U hU hWm => ⟨rfl, PTm.mk hU hWm hP hK hD hE hO⟩⟩ rfl rfl hl.1 rfl (lv_room (Nat.le_of_ble_eq_true rfl)) dX15_fieldPlain_197 ⟨by show _ + 0 ≤ 0; omega, by show _ + 0 ≤ 0; omega⟩) hS (fun q _ h => hFc q h) hFc (fun u t H1 locs ht hvm hw hB hz1 hk1 hS => ?_)
                obtain ⟨F_132, hB1, hq_133⟩ := hB
                obtain ⟨hP, hD, hO, hR⟩ := QTm.back hB1 ht hFc hR (fun q h => by simp only [List.mem_cons, List.not_mem_nil, or_false] at h ⊢; omega)
                have hF_134 : F_132 ml = .inl (cs 17, 3000, .inl gl) := (hB1.2.2.2 ml (by rw [ht_32]; simp)).trans hF_97
                have hF_135 : F_132 h0 = .inr (15, (.ref ta) :: (.int (nI zt)) :: (.int (nI zo_35)) :: (.int (nI ze)) :: (.ref ou) :: (.ref so) :: (.ref ad) :: (.ref na) :: (.ref va) :: (.ref lc) :: (.ref dm) :: (.int (nI fm)) :: (.int (nI sn)) :: (.ref tg) :: (.int v14_36) :: (.int v15_37) :: (.ref pe) :: (.int v17_38) :: (.int v18_39) :: (.int v19_40) :: (.int v20_41) :: (.int v21_42) :: (.int v22_43) :: (.ref ml) :: (.ref bg) :: (.ref co) :: (.ref sp) :: (.ref nb0) :: (.ref nb1) :: (.ref nb2) :: (.int (nI nf)) :: (.int (nI bd)) :: (.int (nI mm)) :: (.int v33_44) :: (.ref pl) :: (.ref se) :: (.ref ke) :: (.ref wi) :: (.ref hs) :: (.ref mo) :: (.ref po) :: (.ref nu) :: (.ref pr) :: (.ref sq) :: (.ref xa) :: (.ref sa) :: (.ref n64) :: (.ref m64) :: (.ref ex) :: (.ref wh) :: (.ref sd) :: (.ref tk) :: (.int v52_45) :: (.int v53_46) :: (.int v54_47) :: (.ref hd) :: (.ref ak) :: (.ref ho) :: (.ref ot) :: []) := (hB1.2.2.2 h0 (by rw [hT_h0]; simp)).trans hF_98
                have hF_136 : F_132 bg = .inl (cs 16, 21, .inl f_59) := (hB1.2.2.2 bg (by rw [ht_58]; simp)).trans hF_99
                have hF_137 : F_132 co = .inl (cs 16, 21, .inl f_74) := (hB1.2.2.2 co (by rw [ht_73]; simp)).trans hF_100
                generalize H1 = H at hP hS ⊢
                refine lv_iconst (v := 0) hx hb dX15_fieldPlain_200 (by decide) ?_
                refine lv_istore (lv' := [(7, .int 0), (8, .int (nI i)), (6, .int w6), (5, .int (nI kd)), (0, .ref h0), (1, .int (nI jf)), (2, .int x2), (3, .int 0), (4, .int 0)]) hx hb dX15_fieldPlain_201 hl (by decide) rfl (fun ls hl => ?_)
                refine lv_iconst (v := 1) hx hb dX15_fieldPlain_203 (by decide) ?_
                refine lv_istore (lv' := [(6, .int 1), (7, .int 0), (8, .int (nI i)), (5, .int (nI kd)), (0, .ref h0), (1, .int (nI jf)), (2, .int x2), (3, .int 0), (4, .int 0)]) hx hb dX15_fieldPlain_204 hl (by decide) rfl (fun ls hl => ?_)
                refine lv_aload_n hx hb dX15_fieldPlain_206 rfl (lv_at hl 4 rfl) ?_
                refine pg_get (ci := 15) (v := .ref pl) (C := RX15) (T := TX15) (N := 59) hx hb hts it_15 hown hK hP hL_h0 hF_135 rfl 34 (by decide) (hts _ kt_901) (fun _ h9 => h9) rfl dX15_fieldPlain_207 ?_
                refine lv_aload_n hx hb dX15_fieldPlain_210 rfl (lv_at hl 4 rfl) ?_
                refine pg_get (ci := 15) (v := .ref ml) (C := RX15) (T := TX15) (N := 59) hx hb hts it_15 hown hK hP hL_h0 hF_135 rfl 23 (by decide) (hts _ kt_887) (fun _ h9 => h9) rfl dX15_fieldPlain_211 ?_
                refine lv_iload hx hb dX15_fieldPlain_214 (lv_at hl 2 rfl) ?_
                refine pg_bald hx hb hK hP hi_31 1 hF_134 rfl (vp_in_nI (by omega) (by omega)) dX15_fieldPlain_216 ?_
                refine lv_topi (fun x_138 ex_138 => ?_)
                obtain rfl : x_138 = gl i := ex_138.trans (congrArg gl (show ((nI i) : Int32).toNatClampNeg = i from nI_clamp (by omega)))
                have hFc := pg_free hD hS hA
                refine va_callv (va_runV (As := [.int (gl i)]) (rest := []) ⟨hx, hb, hml, hown, hts⟩ (s_X14_add l dC dI cs ty gm L H.size F_132 pl (ρ + 10) rl 6000 (aa.length + 1) (gl i) hW hL_pl hT_pl hq_133 (by first | omega | assumption | exact Or.inl rfl)) ⟨callB_of 1 hts (gi kt_711) rfl rfl rfl (hts _ kt_676) (hts _ kt_712) (by decide +kernel) ⟨Nat.le_of_ble_eq_true rfl, Nat.le_of_ble_eq_true rfl⟩, (hts _ kt_713), (hts _ kt_714)⟩ ⟨fun a U g mk q => ⟨q.1, PTm.calling q.2⟩, pg_recv hK hP hL_pl hq_133 (q := (RX14, TX14, 2)) rfl, fun U hU hWm => ⟨rfl, PTm.mk hU hWm hP hK hD hE hO⟩⟩ rfl rfl hl.1 rfl (lv_room (Nat.le_of_ble_eq_true rfl)) dX15_fieldPlain_217 ⟨by show _ + 0 ≤ 0; omega, by show _ + 0 ≤ 0; omega⟩) hS (fun q _ h => hFc q h) hFc (fun u t H1 locs ht hvm hw hB hz1 hk1 hS => ?_)
                obtain ⟨F_140, hB1, hq_141⟩ := hB
                obtain ⟨hP, hD, hO, hR⟩ := QTm.back hB1 ht hFc hR (fun q h => by simp only [List.mem_cons, List.not_mem_nil, or_false] at h ⊢; omega)
                have hF_142 : F_140 ml = .inl (cs 17, 3000, .inl gl) := (hB1.2.2.2 ml (by rw [ht_32]; simp)).trans hF_134
                have hF_143 : F_140 h0 = .inr (15, (.ref ta) :: (.int (nI zt)) :: (.int (nI zo_35)) :: (.int (nI ze)) :: (.ref ou) :: (.ref so) :: (.ref ad) :: (.ref na) :: (.ref va) :: (.ref lc) :: (.ref dm) :: (.int (nI fm)) :: (.int (nI sn)) :: (.ref tg) :: (.int v14_36) :: (.int v15_37) :: (.ref pe) :: (.int v17_38) :: (.int v18_39) :: (.int v19_40) :: (.int v20_41) :: (.int v21_42) :: (.int v22_43) :: (.ref ml) :: (.ref bg) :: (.ref co) :: (.ref sp) :: (.ref nb0) :: (.ref nb1) :: (.ref nb2) :: (.int (nI nf)) :: (.int (nI bd)) :: (.int (nI mm)) :: (.int v33_44) :: (.ref pl) :: (.ref se) :: (.ref ke) :: (.ref wi) :: (.ref hs) :: (.ref mo) :: (.ref po) :: (.ref nu) :: (.ref pr) :: (.ref sq) :: (.ref xa) :: (.ref sa) :: (.ref n64) :: (.ref m64) :: (.ref ex) :: (.ref wh) :: (.ref sd) :: (.ref tk) :: (.int v52_45) :: (.int v53_46) :: (.int v54_47) :: (.ref hd) :: (.ref ak) :: (.ref ho) :: (.ref ot) :: []) := (hB1.2.2.2 h0 (by rw [hT_h0]; simp)).trans hF_135
                have hF_144 : F_140 bg = .inl (cs 16, 21, .inl f_59) := (hB1.2.2.2 bg (by rw [ht_58]; simp)).trans hF_136
                have hF_145 : F_140 co = .inl (cs 16, 21, .inl f_74) := (hB1.2.2.2 co (by rw [ht_73]; simp)).trans hF_137
                generalize H1 = H at hP hS ⊢
                refine lv_iinc (v := (nI (i + 1))) (lv' := [(8, .int (nI (i + 1))), (6, .int 1), (7, .int 0), (5, .int (nI kd)), (0, .ref h0), (1, .int (nI jf)), (2, .int x2), (3, .int 0), (4, .int 0)]) hx hb dX15_fieldPlain_220 hl (k := 2) rfl (nI_1 _) (by decide) rfl (fun ls hl => ?_)
                refine lv_goto (tgt := 127) hx hb dX15_fieldPlain_223 (by decide) ?_
                refine W.widen (k := 0) (n := 0) (by omega) (by omega) ?_
                exact ih_96 ((i + 1), 1, 0, (aa ++ [(2, 32)] ++ [(0, i)])) F_140 (⟨⟨by omega, by omega⟩, Or.inr rfl, by rw [len1, len1]; have h9 := hp5.resolve_left c_113; omega, Or.inl rfl, (by rw [wv_z]; exact rv_b hp6 hib (clg0n c_107) (clg1n (ifb0 hw_111 c_112)) (by rw [wv_n c_122]; exact c_113)), (by rw [len1, len1]; exact hq_141)⟩) (by show kd - (i + 1) < kd - i; omega) hO hR _ _ hP hD hS ls (lv_sub hl [0, 2, 1, 3, 4, 5, 6, 7, 8] rfl)
          ·
            refine lv_iconst (v := 1) hx hb dX15_fieldPlain_175 (by decide) ?_
            refine lv_istore (lv' := [(7, .int 1), (8, .int (nI i)), (6, .int w6), (5, .int (nI kd)), (0, .ref h0), (1, .int (nI jf)), (2, .int x2), (3, .int 0), (4, .int 0)]) hx hb dX15_fieldPlain_176 hl (by decide) rfl (fun ls hl => ?_)
            refine lv_goto (tgt := 220) hx hb dX15_fieldPlain_178 (by decide) ?_
            refine lv_iinc (v := (nI (i + 1))) (lv' := [(8, .int (nI (i + 1))), (7, .int 1), (6, .int w6), (5, .int (nI kd)), (0, .ref h0), (1, .int (nI jf)), (2, .int x2), (3, .int 0), (4, .int 0)]) hx hb dX15_fieldPlain_220 hl (k := 1) rfl (nI_1 _) (by decide) rfl (fun ls hl => ?_)
            refine lv_goto (tgt := 127) hx hb dX15_fieldPlain_223 (by decide) ?_
            refine W.widen (k := 0) (n := 0) (by omega) (by omega) ?_
            exact ih_96 ((i + 1), w6, 1, aa) F_90 (⟨⟨by omega, by omega⟩, hp3, by omega, Or.inr (by omega), (by rw [wv_1 hp3]; exact rv_1 hp6 hib (clg1 (ifb1 hw_111 c_112))), hp2⟩) (by show kd - (i + 1) < kd - i; omega) hO hR _ _ hP hD hS ls (lv_sub hl [0, 1, 2, 3, 4, 5, 6, 7, 8] rfl)
        ·
          refine lv_goto (tgt := 220) hx hb dX15_fieldPlain_159 (by decide) ?_
          refine lv_iinc (v := (nI (i + 1))) (lv' := [(8, .int (nI (i + 1))), (7, .int w7), (6, .int w6), (5, .int (nI kd)), (0, .ref h0), (1, .int (nI jf)), (2, .int x2), (3, .int 0), (4, .int 0)]) hx hb dX15_fieldPlain_220 hl (k := 0) rfl (nI_1 _) (by decide) rfl (fun ls hl => ?_)
          refine lv_goto (tgt := 127) hx hb dX15_fieldPlain_223 (by decide) ?_
          refine W.widen (k := 0) (n := 0) (by omega) (by omega) ?_
          exact ih_96 ((i + 1), w6, w7, aa) F_90 (⟨⟨by omega, by omega⟩, hp3, by omega, by rcases hp5 with q | q; exact Or.inl q; exact Or.inr (by omega), rv_0 hp6 hib (clg0 c_107), hp2⟩) (by show kd - (i + 1) < kd - i; omega) hO hR _ _ hP hD hS ls (lv_sub hl [0, 1, 2, 3, 4, 5, 6, 7, 8] rfl)
    ·
      have hi_146 : j < (gm 1 jf) := ltN (N := (gm 1 jf)) c_78
      refine lv_aload_n hx hb dX15_fieldPlain_79 rfl (lv_at hl 2 rfl) ?_
      refine pg_get (ci := 15) (v := .ref pl) (C := RX15) (T := TX15) (N := 59) hx hb hts it_15 hown hK hP hL_h0 hF_70 rfl 34 (by decide) (hts _ kt_901) (fun _ h9 => h9) rfl dX15_fieldPlain_80 ?_
      refine lv_aload_n hx hb dX15_fieldPlain_83 rfl (lv_at hl 2 rfl) ?_
      refine pg_get (ci := 15) (v := .ref ml) (C := RX15) (T := TX15) (N := 59) hx hb hts it_15 hown hK hP hL_h0 hF_70 rfl 23 (by decide) (hts _ kt_887) (fun _ h9 => h9) rfl dX15_fieldPlain_84 ?_
      refine lv_iload hx hb dX15_fieldPlain_87 (lv_at hl 0 rfl) ?_
      refine pg_bald hx hb hK hP hi_31 1 hF_69 rfl (vp_in_nI (by omega) (by omega)) dX15_fieldPlain_89 ?_
      refine lv_topi (fun x_147 ex_147 => ?_)
      obtain rfl : x_147 = gl j := ex_147.trans (congrArg gl (show ((nI j) : Int32).toNatClampNeg = j from nI_clamp (by omega)))
      have hFc := pg_free hD hS hA
      refine va_calli (va_runS (As := [.int (gl j)]) (rest := [.ref pl]) ⟨hx, hb, hml, hown, hts⟩ (s_X15_small_e l dC dI cs ty gm L H.size F_63 (gl j) hW ) ⟨callB_of 1 hts (gi kt_697) rfl rfl rfl (hts _ kt_669) (hts _ kt_698) (by decide +kernel) ⟨Nat.le_of_ble_eq_true rfl, Nat.le_of_ble_eq_true rfl⟩, (hts _ kt_699)⟩ ⟨fun a U g mk q => ⟨q.1, PTm.calling q.2⟩, fun U hU hWm => ⟨rfl, PTm.mk hU hWm hP hK hD hE hO⟩⟩ rfl rfl hl.1 rfl (lv_room (Nat.le_of_ble_eq_true rfl)) dX15_fieldPlain_90 ⟨by show _ + 0 ≤ 0; omega, by show _ + 0 ≤ 0; omega⟩) hS (fun q _ h => hFc q h) hFc (fun r_148 u t H1 locs ht hvm hw hB hz1 hk1 hS => ?_)
      obtain ⟨F_149, hB1⟩ := hB
      obtain rfl : F_63 = F_149 := (funext (fun a => hB1.2.2.2 a List.not_mem_nil)).symm
      obtain ⟨hP, hD, hO, hR⟩ := QTm.back hB1 ht hFc hR (fun q h => absurd h List.not_mem_nil)
      generalize H1 = H at hP hS ⊢
      have hw : r_148 = smv (gl j) := hw
      subst hw
      have hFc := pg_free hD hS hA
      refine va_callv (va_runV (As := [.int (smv (gl j))]) (rest := []) ⟨hx, hb, hml, hown, hts⟩ (s_X14_add l dC dI cs ty gm L H.size F_63 pl (ρ + 10) rl 6000 (j - gm 0 jf) (smv (gl j)) hW hL_pl hT_pl hp2 (by first | omega | assumption | exact Or.inl rfl)) ⟨callB_of 1 hts (gi kt_711) rfl rfl rfl (hts _ kt_676) (hts _ kt_712) (by decide +kernel) ⟨Nat.le_of_ble_eq_true rfl, Nat.le_of_ble_eq_true rfl⟩, (hts _ kt_713), (hts _ kt_714)⟩ ⟨fun a U g mk q => ⟨q.1, PTm.calling q.2⟩, pg_recv hK hP hL_pl hp2 (q := (RX14, TX14, 2)) rfl, fun U hU hWm => ⟨rfl, PTm.mk hU hWm hP hK hD hE hO⟩⟩ rfl rfl hl.1 rfl (lv_room (Nat.le_of_ble_eq_true rfl)) dX15_fieldPlain_93 ⟨by show _ + 0 ≤ 0; omega, by show _ + 0 ≤ 0; omega⟩) hS (fun q _ h => hFc q h) hFc (fun u t H1 locs ht hvm hw hB hz1 hk1 hS => ?_)
      obtain ⟨F_151, hB1, hq_152⟩ := hB
      obtain ⟨hP, hD, hO, hR⟩ := QTm.back hB1 ht hFc hR (fun q h => by simp only [List.mem_cons, List.not_mem_nil, or_false] at h ⊢; omega)
      have hF_153 : F_151 ml = .inl (cs 17, 3000, .inl gl) := (hB1.2.2.2 ml (by rw [ht_32]; simp)).trans hF_69
      have hF_154 : F_151 h0 = .inr (15, (.ref ta) :: (.int (nI zt)) :: (.int (nI zo_35)) :: (.int (nI ze)) :: (.ref ou) :: (.ref so) :: (.ref ad) :: (.ref na) :: (.ref va) :: (.ref lc) :: (.ref dm) :: (.int (nI fm)) :: (.int (nI sn)) :: (.ref tg) :: (.int v14_36) :: (.int v15_37) :: (.ref pe) :: (.int v17_38) :: (.int v18_39) :: (.int v19_40) :: (.int v20_41) :: (.int v21_42) :: (.int v22_43) :: (.ref ml) :: (.ref bg) :: (.ref co) :: (.ref sp) :: (.ref nb0) :: (.ref nb1) :: (.ref nb2) :: (.int (nI nf)) :: (.int (nI bd)) :: (.int (nI mm)) :: (.int v33_44) :: (.ref pl) :: (.ref se) :: (.ref ke) :: (.ref wi) :: (.ref hs) :: (.ref mo) :: (.ref po) :: (.ref nu) :: (.ref pr) :: (.ref sq) :: (.ref xa) :: (.ref sa) :: (.ref n64) :: (.ref m64) :: (.ref ex) :: (.ref wh) :: (.ref sd) :: (.ref tk) :: (.int v52_45) :: (.int v53_46) :: (.int v54_47) :: (.ref hd) :: (.ref ak) :: (.ref ho) :: (.ref ot) :: []) := (hB1.2.2.2 h0 (by rw [hT_h0]; simp)).trans hF_70
      have hF_155 : F_151 bg = .inl (cs 16, 21, .inl f_59) := (hB1.2.2.2 bg (by rw [ht_58]; simp)).trans hF_71
      have hF_156 : F_151 co = .inl (cs 16, 21, .inl f_74) := (hB1.2.2.2 co (by rw [ht_73]; simp)).trans hF_75
      generalize H1 = H at hP hS ⊢
      refine lv_iinc (v := (nI (j + 1))) (lv' := [(6, .int (nI (j + 1))), (5, .int (nI kd)), (0, .ref h0), (1, .int (nI jf)), (2, .int x2), (3, .int 0), (4, .int 0)]) hx hb dX15_fieldPlain_96 hl (k := 0) rfl (nI_1 _) (by decide) rfl (fun ls hl => ?_)
      refine lv_goto (tgt := 68) hx hb dX15_fieldPlain_99 (by decide) ?_
      refine W.widen (k := 0) (n := 0) (by omega) (by omega) ?_
      exact ih_68 (j + 1) F_151 (⟨⟨by omega, by omega⟩, (by rw [show j + 1 - gm 0 jf = ((j - gm 0 jf) + 1) by omega]; exact hq_152)⟩) (by show gm 1 jf - (j + 1) < gm 1 jf - j; omega) hO hR _ _ hP hD hS ls (lv_sub hl [0, 1, 2, 3, 4, 5, 6] rfl)
  ·
    refine lv_aload_n hx hb dX15_fieldPlain_11 rfl (lv_at hl 1 rfl) ?_
    refine pg_get (ci := 15) (v := .ref bg) (C := RX15) (T := TX15) (N := 59) hx hb hts it_15 hown hK hP hL_h0 hF_48 rfl 24 (by decide) (hts _ kt_888) (fun _ h9 => h9) rfl dX15_fieldPlain_12 ?_
    refine lv_iload_n hx hb dX15_fieldPlain_15 rfl (lv_at hl 2 rfl) ?_
    obtain ⟨hi_157, ht_158⟩ := hW.f_bg hL_h0 hT_h0
    obtain ⟨f_159, hF_160, hq_161⟩ := hO.pos hi_157 ht_158
    refine pg_iald hx hb hK hP hi_157 0 hF_160 rfl (vp_in_nI (by omega) (by omega)) dX15_fieldPlain_16 ?_
    refine lv_topi (fun x_162 ex_162 => ?_)
    obtain rfl : x_162 = (nI (gm 0 jf)) := ex_162.trans (by rw [show ((nI jf) : Int32) = nI jf from rfl, nI_clamp (by omega)]; exact hq_161 jf (by omega))
    have hgbx_162 := hgB 0 jf
    refine lv_istore (lv' := [(6, .int (nI (gm 0 jf))), (5, .int (nI kd)), (0, .ref h0), (1, .int (nI jf)), (2, .int x2), (3, .int 0), (4, .int 0)]) hx hb dX15_fieldPlain_17 hl (by decide) rfl (fun ls hl => ?_)
    refine W.widen (k := 0) (n := 0) (by omega) (by omega) ?_
    have hF_164 : F ml = .inl (cs 17, 3000, .inl gl) := (hR ml (by rw [ht_32]; simp)).symm.trans hFml
    have hF_165 : F h0 = .inr (15, (.ref ta) :: (.int (nI zt)) :: (.int (nI zo_35)) :: (.int (nI ze)) :: (.ref ou) :: (.ref so) :: (.ref ad) :: (.ref na) :: (.ref va) :: (.ref lc) :: (.ref dm) :: (.int (nI fm)) :: (.int (nI sn)) :: (.ref tg) :: (.int v14_36) :: (.int v15_37) :: (.ref pe) :: (.int v17_38) :: (.int v18_39) :: (.int v19_40) :: (.int v20_41) :: (.int v21_42) :: (.int v22_43) :: (.ref ml) :: (.ref bg) :: (.ref co) :: (.ref sp) :: (.ref nb0) :: (.ref nb1) :: (.ref nb2) :: (.int (nI nf)) :: (.int (nI bd)) :: (.int (nI mm)) :: (.int v33_44) :: (.ref pl) :: (.ref se) :: (.ref ke) :: (.ref wi) :: (.ref hs) :: (.ref mo) :: (.ref po) :: (.ref nu) :: (.ref pr) :: (.ref sq) :: (.ref xa) :: (.ref sa) :: (.ref n64) :: (.ref m64) :: (.ref ex) :: (.ref wh) :: (.ref sd) :: (.ref tk) :: (.int v52_45) :: (.int v53_46) :: (.int v54_47) :: (.ref hd) :: (.ref ak) :: (.ref ho) :: (.ref ot) :: []) := (hR h0 (by rw [hT_h0]; simp)).symm.trans hF_48
    have hF_166 : F bg = .inl (cs 16, 21, .inl f_159) := (hR bg (by rw [ht_158]; simp)).symm.trans hF_160
    refine pl_loopm (σ := Nat) A (dC, dI) cs ty gm L [ρ + 10] F 19 9 (fun j => [(6, .int (nI j)), (5, .int (nI kd)), (0, .ref h0), (1, .int (nI jf)), (2, .int x2), (3, .int 0), (4, .int 0)]) (fun j => []) (fun j FF => (gm 0 jf ≤ j ∧ j ≤ kd) ∧ FF pl = .inr (14, [.ref rl, .int (nI (j - gm 0 jf))])) (fun j => kd - j) ?_ (gm 0 jf) F (⟨⟨by omega, by omega⟩, (by rw [show gm 0 jf - gm 0 jf = 0 by omega]; exact hFl)⟩) hO hR _ _ hP hD hS ls (lv_sub hl [0, 1, 2, 3, 4, 5, 6] rfl)
    rintro j F_163 hv_167 hO hR ih_168 H locs hP hD hS ls hl
    have hl : lv_has ls 9 [(6, .int (nI j)), (5, .int (nI kd)), (0, .ref h0), (1, .int (nI jf)), (2, .int x2), (3, .int 0), (4, .int 0)] := hl
    have hv_167 : (gm 0 jf ≤ j ∧ j ≤ kd) ∧ F_163 pl = .inr (14, [.ref rl, .int (nI (j - gm 0 jf))]) := hv_167
    refine W.eq (g2 := F0 m 19 ls []) rfl ?_
    have hF_169 : F_163 ml = .inl (cs 17, 3000, .inl gl) := (hR ml (by rw [ht_32]; simp)).trans hF_164
    have hF_170 : F_163 h0 = .inr (15, (.ref ta) :: (.int (nI zt)) :: (.int (nI zo_35)) :: (.int (nI ze)) :: (.ref ou) :: (.ref so) :: (.ref ad) :: (.ref na) :: (.ref va) :: (.ref lc) :: (.ref dm) :: (.int (nI fm)) :: (.int (nI sn)) :: (.ref tg) :: (.int v14_36) :: (.int v15_37) :: (.ref pe) :: (.int v17_38) :: (.int v18_39) :: (.int v19_40) :: (.int v20_41) :: (.int v21_42) :: (.int v22_43) :: (.ref ml) :: (.ref bg) :: (.ref co) :: (.ref sp) :: (.ref nb0) :: (.ref nb1) :: (.ref nb2) :: (.int (nI nf)) :: (.int (nI bd)) :: (.int (nI mm)) :: (.int v33_44) :: (.ref pl) :: (.ref se) :: (.ref ke) :: (.ref wi) :: (.ref hs) :: (.ref mo) :: (.ref po) :: (.ref nu) :: (.ref pr) :: (.ref sq) :: (.ref xa) :: (.ref sa) :: (.ref n64) :: (.ref m64) :: (.ref ex) :: (.ref wh) :: (.ref sd) :: (.ref tk) :: (.int v52_45) :: (.int v53_46) :: (.int v54_47) :: (.ref hd) :: (.ref ak) :: (.ref ho) :: (.ref ot) :: []) := (hR h0 (by rw [hT_h0]; simp)).trans hF_165
    have hF_171 : F_163 bg = .inl (cs 16, 21, .inl f_159) := (hR bg (by rw [ht_158]; simp)).trans hF_166
    obtain ⟨hp1, hp2⟩ := id hv_167
    refine lv_iload hx hb dX15_fieldPlain_19 (lv_at hl 0 rfl) ?_
    refine lv_iload hx hb dX15_fieldPlain_21 (lv_at hl 1 rfl) ?_
    refine lv_icmp_ge (tgt := 59) hx hb dX15_fieldPlain_23 (by decide) (fun c_172 => ?_) (fun c_172 => ?_)
    ·
      have hi_173 : kd ≤ j := leN (N := kd) c_172
      refine W.widen (k := 0) (n := 0) (by omega) (by omega) ?_
      exact W.vret hx hb hr (fun t ht hWm => ⟨⟨(), rfl, trivial, ⟨F_163, QTm.mk ht hP hD hO hR, (by rw [FPL_s c_56, rng_len, show kd - gm 0 jf = (j - gm 0 jf) by omega]; exact hp2)⟩⟩, hS.F ht⟩) hS.2.2 dX15_fieldPlain_59
    ·
      have hi_174 : j < kd := ltN (N := kd) c_172
      refine lv_iload hx hb dX15_fieldPlain_26 (lv_at hl 0 rfl) ?_
      refine lv_iload_n hx hb dX15_fieldPlain_28 rfl (lv_at hl 5 rfl) ?_
      refine lv_icmp_lt (tgt := 39) hx hb dX15_fieldPlain_29 (by decide) (fun c_175 => absurd c_175 (nI_pos (by omega))) (fun c_175 => ?_)
      refine lv_iload hx hb dX15_fieldPlain_32 (lv_at hl 0 rfl) ?_
      refine lv_iload hx hb dX15_fieldPlain_34 (lv_at hl 6 rfl) ?_
      refine lv_icmp_lt (tgt := 53) hx hb dX15_fieldPlain_36 (by decide) (fun c_176 => absurd c_176 (nI_pos (by omega))) (fun c_176 => ?_)
      refine lv_aload_n hx hb dX15_fieldPlain_39 rfl (lv_at hl 2 rfl) ?_
      refine pg_get (ci := 15) (v := .ref pl) (C := RX15) (T := TX15) (N := 59) hx hb hts it_15 hown hK hP hL_h0 hF_170 rfl 34 (by decide) (hts _ kt_901) (fun _ h9 => h9) rfl dX15_fieldPlain_40 ?_
      refine lv_aload_n hx hb dX15_fieldPlain_43 rfl (lv_at hl 2 rfl) ?_
      refine pg_get (ci := 15) (v := .ref ml) (C := RX15) (T := TX15) (N := 59) hx hb hts it_15 hown hK hP hL_h0 hF_170 rfl 23 (by decide) (hts _ kt_887) (fun _ h9 => h9) rfl dX15_fieldPlain_44 ?_
      refine lv_iload hx hb dX15_fieldPlain_47 (lv_at hl 0 rfl) ?_
      refine pg_bald hx hb hK hP hi_31 1 hF_169 rfl (vp_in_nI (by omega) (by omega)) dX15_fieldPlain_49 ?_
      refine lv_topi (fun x_177 ex_177 => ?_)
      obtain rfl : x_177 = gl j := ex_177.trans (congrArg gl (show ((nI j) : Int32).toNatClampNeg = j from nI_clamp (by omega)))
      have hFc := pg_free hD hS hA
      refine va_callv (va_runV (As := [.int (gl j)]) (rest := []) ⟨hx, hb, hml, hown, hts⟩ (s_X14_add l dC dI cs ty gm L H.size F_163 pl (ρ + 10) rl 6000 (j - gm 0 jf) (gl j) hW hL_pl hT_pl hp2 (by first | omega | assumption | exact Or.inl rfl)) ⟨callB_of 1 hts (gi kt_711) rfl rfl rfl (hts _ kt_676) (hts _ kt_712) (by decide +kernel) ⟨Nat.le_of_ble_eq_true rfl, Nat.le_of_ble_eq_true rfl⟩, (hts _ kt_713), (hts _ kt_714)⟩ ⟨fun a U g mk q => ⟨q.1, PTm.calling q.2⟩, pg_recv hK hP hL_pl hp2 (q := (RX14, TX14, 2)) rfl, fun U hU hWm => ⟨rfl, PTm.mk hU hWm hP hK hD hE hO⟩⟩ rfl rfl hl.1 rfl (lv_room (Nat.le_of_ble_eq_true rfl)) dX15_fieldPlain_50 ⟨by show _ + 0 ≤ 0; omega, by show _ + 0 ≤ 0; omega⟩) hS (fun q _ h => hFc q h) hFc (fun u t H1 locs ht hvm hw hB hz1 hk1 hS => ?_)
      obtain ⟨F_179, hB1, hq_180⟩ := hB
      obtain ⟨hP, hD, hO, hR⟩ := QTm.back hB1 ht hFc hR (fun q h => by simp only [List.mem_cons, List.not_mem_nil, or_false] at h ⊢; omega)
      have hF_181 : F_179 ml = .inl (cs 17, 3000, .inl gl) := (hB1.2.2.2 ml (by rw [ht_32]; simp)).trans hF_169
      have hF_182 : F_179 h0 = .inr (15, (.ref ta) :: (.int (nI zt)) :: (.int (nI zo_35)) :: (.int (nI ze)) :: (.ref ou) :: (.ref so) :: (.ref ad) :: (.ref na) :: (.ref va) :: (.ref lc) :: (.ref dm) :: (.int (nI fm)) :: (.int (nI sn)) :: (.ref tg) :: (.int v14_36) :: (.int v15_37) :: (.ref pe) :: (.int v17_38) :: (.int v18_39) :: (.int v19_40) :: (.int v20_41) :: (.int v21_42) :: (.int v22_43) :: (.ref ml) :: (.ref bg) :: (.ref co) :: (.ref sp) :: (.ref nb0) :: (.ref nb1) :: (.ref nb2) :: (.int (nI nf)) :: (.int (nI bd)) :: (.int (nI mm)) :: (.int v33_44) :: (.ref pl) :: (.ref se) :: (.ref ke) :: (.ref wi) :: (.ref hs) :: (.ref mo) :: (.ref po) :: (.ref nu) :: (.ref pr) :: (.ref sq) :: (.ref xa) :: (.ref sa) :: (.ref n64) :: (.ref m64) :: (.ref ex) :: (.ref wh) :: (.ref sd) :: (.ref tk) :: (.int v52_45) :: (.int v53_46) :: (.int v54_47) :: (.ref hd) :: (.ref ak) :: (.ref ho) :: (.ref ot) :: []) := (hB1.2.2.2 h0 (by rw [hT_h0]; simp)).trans hF_170
      have hF_183 : F_179 bg = .inl (cs 16, 21, .inl f_159) := (hB1.2.2.2 bg (by rw [ht_158]; simp)).trans hF_171
      generalize H1 = H at hP hS ⊢
      refine lv_iinc (v := (nI (j + 1))) (lv' := [(6, .int (nI (j + 1))), (5, .int (nI kd)), (0, .ref h0), (1, .int (nI jf)), (2, .int x2), (3, .int 0), (4, .int 0)]) hx hb dX15_fieldPlain_53 hl (k := 0) rfl (nI_1 _) (by decide) rfl (fun ls hl => ?_)
      refine lv_goto (tgt := 19) hx hb dX15_fieldPlain_56 (by decide) ?_
      refine W.widen (k := 0) (n := 0) (by omega) (by omega) ?_
      exact ih_168 (j + 1) F_179 (⟨⟨by omega, by omega⟩, (by rw [show j + 1 - gm 0 jf = ((j - gm 0 jf) + 1) by omega]; exact hq_180)⟩) (by show kd - (j + 1) < kd - j; omega) hO hR _ _ hP hD hS ls (lv_sub hl [0, 1, 2, 3, 4, 5, 6] rfl)
set_option maxHeartbeats 4000000 in
set_option maxRecDepth 100000 in
theorem s_X15_tell_e (l : Launch) (dC : Nat → ClassId) (dI : Nat → Nat → Nat) (cs : Nat → ClassId) (ty : TyM) (gm : Nat → Nat → Nat) (L : List Nat) (sz : Nat) (F : Nat → va_E) (h0 : Nat) (ρ : Nat) (ta : Nat) (ou : Nat) (so : Nat) (ad : Nat) (na : Nat) (va : Nat) (lc : Nat) (dm : Nat) (tg : Nat) (pe : Nat) (ml : Nat) (bg : Nat) (co : Nat) (sp : Nat) (nb0 : Nat) (nb1 : Nat) (nb2 : Nat) (pl : Nat) (se : Nat) (ke : Nat) (wi : Nat) (hs : Nat) (mo : Nat) (po : Nat) (nu : Nat) (pr : Nat) (sq : Nat) (xa : Nat) (sa : Nat) (n64 : Nat) (m64 : Nat) (ex : Nat) (wh : Nat) (sd : Nat) (tk : Nat) (hd : Nat) (ak : Nat) (ho : Nat) (ot : Nat) (sx : Nat) (s0 : Nat) (s1 : Nat) (s2 : Nat) (nf : Nat) (bd : Nat) (mm : Nat) (fm : Nat) (sn : Nat) (hg : Nat) (gc : Nat) (gv : Nat) (ze : Nat) (zt : Nat) (g1 : Nat) (σ : Nat) (r1 : Nat) (z : Nat) (hW : WTm ty gm L) (hL_h0 : h0 ∈ L) (hT_h0 : ty h0 = (15, ρ, [ta, ou, so, ad, na, va, lc, dm, tg, pe, ml, bg, co, sp, nb0, nb1, nb2, pl, se, ke, wi, hs, mo, po, nu, pr, sq, xa, sa, n64, m64, ex, wh, sd, tk, hd, ak, ho, ot, sx, s0, s1, s2, nf, bd, mm, fm, sn, hg, gc, gv, ze, zt])) (hL_g1 : g1 ∈ L) (hT_g1 : ty g1 = (14, σ, [r1, 6000])) (hFg : F g1 = .inr (14, [.ref r1, .int (nI z)])) (hz6 : z ≤ 6000) : Met l yX15_tell (.code yX15_tell cX15_tell 2 (some .int) :: tb) ({ frames := 1, cells := 0, slots := 0, locals := 48 }) (va_Pc [.ref h0, .ref g1] (PTm (dC, dI) cs ty gm L F sz)) (va_Qi (fun (r : Int32) (_ : Unit) => r = nI z) (fun _ T9 => ∃ F2 : Nat → va_E, QTm (dC, dI) cs ty gm L [ρ, ρ + 2] F F2 (va_A (va_pl L F) sz) T9) (va_A (va_pl L F) sz)) 0 0 (va_A (va_pl L F) sz) := by
  refine Met.ofW (cc := cX15_tell) (maxL := 2) (ret := (some .int)) (by decide) rfl ?_
  intro p e s m args below meth c s₁ B hml hv
  obtain ⟨rfl, hsz, hP, hK, hD0, hE, hO⟩ := hv
  have hx := B.exec
  have hb := B.bytes
  have hr := B.returns
  have hts : ∀ w ∈ tb, w.before _ s = true := fun w h => atoms_spec (ws := .code yX15_tell cX15_tell 2 (some .int) :: tb) B.pre w (List.mem_cons_of_mem _ h)
  have hown : s.vm.findClass RX15 = some m.cls := findClass_of_methodNamed B.named
  have hlocks := B.notSynchronized
  subst hsz
  have hD := hD0.self (sz := s.heap.size)
  generalize hAe : va_A (va_pl L F) s.heap.size = A at hD ⊢
  have hA : ∀ q : Nat, s.heap.size ≤ q → A q := fun q h => by rw [← hAe]; exact Or.inr h
  have hS : va_S A s.heap s.heap [] := va_S.rf
  have hR : FR ty [ρ, ρ + 2] F F := FR.refl
  have hl := lv_entry ([.ref h0, .ref g1]) (n := 2) (Nat.le_of_ble_eq_true rfl)
  rw [lg_entry_eq]
  generalize (lg_sl ([.ref h0, .ref g1]) ++ List.replicate (2 - (lg_sl ([.ref h0, .ref g1])).length) Slot.unset).toArray = ls at hl ⊢
  have hl : lv_has ls 2 [(0, .ref h0), (1, .ref g1)] := hl
  obtain ⟨hq_23, hq_24, hq_25, hq_26, hq_27, hgO, hgA, hgB, hq_28⟩ := hW.sc hL_h0 hT_h0
  obtain ⟨hi_29, ht_30, hq_31⟩ := hW.txt hL_g1 hT_g1
  refine lv_aload_n hx hb dX15_tell_0 rfl (lv_at hl 1 rfl) ?_
  refine pg_get (ci := 14) (v := .ref r1) (C := RX14) (T := TX14) (N := 2) hx hb hts it_14 hown hK hP hL_g1 hFg rfl 0 (by decide) (hts _ kt_710) (fun _ h9 => h9) rfl dX15_tell_1 ?_
  refine lv_iconst (v := 0) hx hb dX15_tell_4 (by decide) ?_
  refine lv_aload_n hx hb dX15_tell_5 rfl (lv_at hl 0 rfl) ?_
  obtain ⟨zo_32, v14_33, v15_34, v17_35, v18_36, v19_37, v20_38, v21_39, v22_40, v33_41, v52_42, v53_43, v54_44, hF_45, hq_46, hq_47, hq_48, hq_49, hq_50⟩ := hO.mod hL_h0 hT_h0
  refine pg_get (ci := 15) (v := .ref ou) (C := RX15) (T := TX15) (N := 59) hx hb hts it_15 hown hK hP hL_h0 hF_45 rfl 4 (by decide) (hts _ kt_907) (fun _ h9 => h9) rfl dX15_tell_6 ?_
  refine lv_iconst (v := 0) hx hb dX15_tell_9 (by decide) ?_
  refine lv_aload_n hx hb dX15_tell_10 rfl (lv_at hl 1 rfl) ?_
  refine pg_get (ci := 14) (v := .int (nI z)) (C := RX14) (T := TX14) (N := 2) hx hb hts it_14 hown hK hP hL_g1 hFg rfl 1 (by decide) (hts _ kt_709) (fun _ h9 => h9) rfl dX15_tell_11 ?_
  obtain ⟨hq_51, hq_52⟩ := hW.octs hi_29 ht_30
  obtain ⟨f_53, hF_54, hq_55⟩ := hO.octs hi_29 ht_30
  obtain ⟨hi_56, ht_57⟩ := hW.f_ou hL_h0 hT_h0
  obtain ⟨hq_58, hq_59⟩ := hW.octs hi_56 ht_57
  obtain ⟨f_60, hF_61, hq_62⟩ := hO.octs hi_56 ht_57
  refine pg_copyi hx hb (by rw [hml]; exact hl.1.symm) hown (hts _ kt_908) (hts _ kt_29) (hts _ kt_30) (hts _ kt_31) hK hP hD hS hi_29 hi_56 1 1 hF_54 hF_61 rfl rfl rfl (by decide) (by decide) (nI_pos (by omega)) (by rw [nI_clamp (by omega)]; show 0 + _ ≤ _; omega) (by rw [nI_clamp (by omega)]; show 0 + _ ≤ _; omega) (fun _ _ => hq_55 _) (Nat.le_of_ble_eq_true rfl) (by decide) dX15_tell_14 (fun H locs hP hD hS => ?_)
  obtain ⟨F_63, he_64, hP, hD, hO, hR⟩ : ∃ G, G = va_up F ou (.inl (cs 17, 6000, .inl (va_cpy f_53 f_60 (0 : Int32).toNatClampNeg (0 : Int32).toNatClampNeg ((nI z)).toNatClampNeg))) ∧ va_P (dC, dI) vwCl (va_pl L G) H ∧ va_D A (va_pl L G) ∧ OKm cs ty gm L G ∧ FR ty [ρ, ρ + 2] F G := ⟨_, rfl, hP, hD, hO.up (shm.octs ht_57 ⟨_, rfl, bfm_cpy hq_55 hq_62 _ _ _⟩), hR.up ht_57 (by simp)⟩
  have hF_65 : F_63 ou = .inl (cs 17, 6000, .inl (va_cpy f_53 f_60 (0 : Int32).toNatClampNeg (0 : Int32).toNatClampNeg ((nI z)).toNatClampNeg)) := by rw [he_64]; exact up_self
  have hF_66 : F_63 g1 = .inr (14, [.ref r1, .int (nI z)]) := by rw [he_64, up_ne (ne_ty hT_g1 ht_57 (by simp))]; exact hFg
  have hF_67 : F_63 h0 = .inr (15, (.ref ta) :: (.int (nI zt)) :: (.int (nI zo_32)) :: (.int (nI ze)) :: (.ref ou) :: (.ref so) :: (.ref ad) :: (.ref na) :: (.ref va) :: (.ref lc) :: (.ref dm) :: (.int (nI fm)) :: (.int (nI sn)) :: (.ref tg) :: (.int v14_33) :: (.int v15_34) :: (.ref pe) :: (.int v17_35) :: (.int v18_36) :: (.int v19_37) :: (.int v20_38) :: (.int v21_39) :: (.int v22_40) :: (.ref ml) :: (.ref bg) :: (.ref co) :: (.ref sp) :: (.ref nb0) :: (.ref nb1) :: (.ref nb2) :: (.int (nI nf)) :: (.int (nI bd)) :: (.int (nI mm)) :: (.int v33_41) :: (.ref pl) :: (.ref se) :: (.ref ke) :: (.ref wi) :: (.ref hs) :: (.ref mo) :: (.ref po) :: (.ref nu) :: (.ref pr) :: (.ref sq) :: (.ref xa) :: (.ref sa) :: (.ref n64) :: (.ref m64) :: (.ref ex) :: (.ref wh) :: (.ref sd) :: (.ref tk) :: (.int v52_42) :: (.int v53_43) :: (.int v54_44) :: (.ref hd) :: (.ref ak) :: (.ref ho) :: (.ref ot) :: []) := by rw [he_64, up_ne (ne_ty hT_h0 ht_57 (by simp))]; exact hF_45
  obtain ⟨f_68, hF_65, hq_69⟩ : ∃ f : Nat → Int32, F_63 ou = .inl (cs 17, 6000, .inl f) ∧ BFm f := ⟨_, hF_65, bfm_cpy hq_55 hq_62 _ _ _⟩
  refine lv_aload_n hx hb dX15_tell_17 rfl (lv_at hl 0 rfl) ?_
  refine lv_aload_n hx hb dX15_tell_18 rfl (lv_at hl 1 rfl) ?_
  refine pg_get (ci := 14) (v := .int (nI z)) (C := RX14) (T := TX14) (N := 2) hx hb hts it_14 hown hK hP hL_g1 hF_66 rfl 1 (by decide) (hts _ kt_709) (fun _ h9 => h9) rfl dX15_tell_19 ?_
  refine pg_put (ci := 15) (v := .int (nI z)) (ty := .int) (C := RX15) (T := TX15) (N := 59) hx hb hts it_15 tyX15 tyX15_ok nmX15 hown hK hP hD hS hL_h0 hF_67 rfl 2 (by decide) (hts _ kt_909) (fun _ h9 => h9) rfl (by decide +kernel) (rfl) (rfl) (Nat.le_of_ble_eq_true rfl) dX15_tell_22 (fun H locs hP hD hS => ?_)
  obtain ⟨F_70, he_71, hP, hD, hO, hR⟩ : ∃ G, G = va_up F_63 h0 (.inr (15, (.ref ta) :: (.int (nI zt)) :: (.int (nI z)) :: (.int (nI ze)) :: (.ref ou) :: (.ref so) :: (.ref ad) :: (.ref na) :: (.ref va) :: (.ref lc) :: (.ref dm) :: (.int (nI fm)) :: (.int (nI sn)) :: (.ref tg) :: (.int v14_33) :: (.int v15_34) :: (.ref pe) :: (.int v17_35) :: (.int v18_36) :: (.int v19_37) :: (.int v20_38) :: (.int v21_39) :: (.int v22_40) :: (.ref ml) :: (.ref bg) :: (.ref co) :: (.ref sp) :: (.ref nb0) :: (.ref nb1) :: (.ref nb2) :: (.int (nI nf)) :: (.int (nI bd)) :: (.int (nI mm)) :: (.int v33_41) :: (.ref pl) :: (.ref se) :: (.ref ke) :: (.ref wi) :: (.ref hs) :: (.ref mo) :: (.ref po) :: (.ref nu) :: (.ref pr) :: (.ref sq) :: (.ref xa) :: (.ref sa) :: (.ref n64) :: (.ref m64) :: (.ref ex) :: (.ref wh) :: (.ref sd) :: (.ref tk) :: (.int v52_42) :: (.int v53_43) :: (.int v54_44) :: (.ref hd) :: (.ref ak) :: (.ref ho) :: (.ref ot) :: [])) ∧ va_P (dC, dI) vwCl (va_pl L G) H ∧ va_D A (va_pl L G) ∧ OKm cs ty gm L G ∧ FR ty [ρ, ρ + 2] F G := ⟨_, rfl, hP, hD, hO.up (shm.mod hT_h0 ⟨z, v14_33, v15_34, v17_35, v18_36, v19_37, v20_38, v21_39, v22_40, v33_41, v52_42, v53_43, v54_44, rfl, (by first | omega | assumption | exact Or.inl rfl | exact Or.inr rfl), (by first | omega | assumption | exact Or.inl rfl | exact Or.inr rfl), (by first | omega | assumption | exact Or.inl rfl | exact Or.inr rfl), (by first | omega | assumption | exact Or.inl rfl | exact Or.inr rfl), (by first | omega | assumption | exact Or.inl rfl | exact Or.inr rfl)⟩), hR.up hT_h0 (by simp)⟩
  have hF_72 : F_70 h0 = .inr (15, (.ref ta) :: (.int (nI zt)) :: (.int (nI z)) :: (.int (nI ze)) :: (.ref ou) :: (.ref so) :: (.ref ad) :: (.ref na) :: (.ref va) :: (.ref lc) :: (.ref dm) :: (.int (nI fm)) :: (.int (nI sn)) :: (.ref tg) :: (.int v14_33) :: (.int v15_34) :: (.ref pe) :: (.int v17_35) :: (.int v18_36) :: (.int v19_37) :: (.int v20_38) :: (.int v21_39) :: (.int v22_40) :: (.ref ml) :: (.ref bg) :: (.ref co) :: (.ref sp) :: (.ref nb0) :: (.ref nb1) :: (.ref nb2) :: (.int (nI nf)) :: (.int (nI bd)) :: (.int (nI mm)) :: (.int v33_41) :: (.ref pl) :: (.ref se) :: (.ref ke) :: (.ref wi) :: (.ref hs) :: (.ref mo) :: (.ref po) :: (.ref nu) :: (.ref pr) :: (.ref sq) :: (.ref xa) :: (.ref sa) :: (.ref n64) :: (.ref m64) :: (.ref ex) :: (.ref wh) :: (.ref sd) :: (.ref tk) :: (.int v52_42) :: (.int v53_43) :: (.int v54_44) :: (.ref hd) :: (.ref ak) :: (.ref ho) :: (.ref ot) :: []) := by rw [he_71]; exact up_self
  have hF_73 : F_70 ou = .inl (cs 17, 6000, .inl f_68) := by rw [he_71, up_ne (ne_ty ht_57 hT_h0 (by simp))]; exact hF_65
  have hF_74 : F_70 g1 = .inr (14, [.ref r1, .int (nI z)]) := by rw [he_71, up_ne (ne_ty hT_g1 hT_h0 (by simp))]; exact hF_66
  refine lv_aload_n hx hb dX15_tell_25 rfl (lv_at hl 1 rfl) ?_
  refine pg_get (ci := 14) (v := .int (nI z)) (C := RX14) (T := TX14) (N := 2) hx hb hts it_14 hown hK hP hL_g1 hF_74 rfl 1 (by decide) (hts _ kt_709) (fun _ h9 => h9) rfl dX15_tell_26 ?_
  refine W.widen (k := 0) (n := 0) (by omega) (by omega) ?_
  exact W.iret (v := (nI z)) hx hb hr (fun t ht hWm => ⟨⟨(nI z), (), rfl, rfl, ⟨F_70, QTm.mk ht hP hD hO hR⟩⟩, hS.F ht⟩) hS.2.2 dX15_tell_29
theorem rvl_len (T : Nat → Nat) : ∀ (k i : Nat) (x w : Int32), (rvl T k i x w).length ≤ k + (if w = 0 then 0 else 1) := by
  intro k
  induction k with
  | zero => intro i x w; exact Nat.zero_le _
  | succ k ih =>
    intro i x w
    rw [rvl_s]
    have a1 := ih (i + 1) x w
    have a2 := ih (i + 1) x x
    have a3 := ih (i + 1) 1 0
    rw [if_pos rfl] at a3
    by_cases c0 : T i = 0
    · rw [if_pos c0]
      omega
    rw [if_neg c0]
    by_cases c1 : T i = 1
    · rw [if_pos c1]
      have a4 : (if x = 0 then 0 else 1) ≤ 1 := by split <;> omega
      omega
    rw [if_neg c1, List.length_append, List.length_cons]
    by_cases c2 : w = 0
    · rw [if_pos c2, if_pos c2]
      show 0 + _ ≤ _
      omega
    · rw [if_neg c2, if_neg c2]
      show 1 + _ ≤ _
      omega
theorem FPL_len {T : Nat → Nat} {x : Int32} {b c d : Nat} (h1 : b < c) (h2 : c < d) : (FPL T x b c d).length ≤ d - b := by
  by_cases h : x = 0
  · rw [FPL_s h, rng_len]
    omega
  · rw [FPL_r h, List.length_append, len1, rng_len]
    have a1 := rvl_len T (d - (c + 1)) (c + 1) 0 0
    rw [if_pos rfl] at a1
    omega
theorem in_pf0 {x1 r : Int32} {n : Nat} (hn : n ≤ 20) (hr : r = (if (0 : Int64) ≤ x1.toInt64 ∧ x1.toInt64 ≤ (nI n - 1).toInt64 then 1 else 0)) (c : r = 0) : ¬ (¬ x1 < 0 ∧ x1 < nI n) := fun q => by
  have h : (0 : Int64) ≤ x1.toInt64 ∧ x1.toInt64 ≤ (nI n - 1).toInt64 := by
    have q1 := q.1
    have q2 := q.2
    rw [Int32.lt_iff_toInt_lt, show (0 : Int32).toInt = 0 from by decide] at q1
    rw [Int32.lt_iff_toInt_lt, nI_toInt (by omega)] at q2
    rw [Int64.le_iff_toInt_le, Int64.le_iff_toInt_le, Int32.toInt_toInt64, Int32.toInt_toInt64, show (1 : Int32) = nI 1 from rfl, pk_sub_toInt (by omega) (by omega), show (0 : Int64).toInt = 0 from by decide]
    omega
  rw [if_pos h] at hr
  rw [hr] at c
  exact absurd c (by decide)
set_option maxHeartbeats 4000000 in
set_option maxRecDepth 100000 in
theorem s_X15_plainField_x (l : Launch) (dC : Nat → ClassId) (dI : Nat → Nat → Nat) (cs : Nat → ClassId) (ty : TyM) (gm : Nat → Nat → Nat) (L : List Nat) (sz : Nat) (F : Nat → va_E) (h0 : Nat) (ρ : Nat) (ta : Nat) (ou : Nat) (so : Nat) (ad : Nat) (na : Nat) (va : Nat) (lc : Nat) (dm : Nat) (tg : Nat) (pe : Nat) (ml : Nat) (bg : Nat) (co : Nat) (sp : Nat) (nb0 : Nat) (nb1 : Nat) (nb2 : Nat) (pl : Nat) (se : Nat) (ke : Nat) (wi : Nat) (hs : Nat) (mo : Nat) (po : Nat) (nu : Nat) (pr : Nat) (sq : Nat) (xa : Nat) (sa : Nat) (n64 : Nat) (m64 : Nat) (ex : Nat) (wh : Nat) (sd : Nat) (tk : Nat) (hd : Nat) (ak : Nat) (ho : Nat) (ot : Nat) (sx : Nat) (s0 : Nat) (s1 : Nat) (s2 : Nat) (nf : Nat) (bd : Nat) (mm : Nat) (fm : Nat) (sn : Nat) (hg : Nat) (gc : Nat) (gv : Nat) (ze : Nat) (zt : Nat) (rl : Nat) (gl : Nat → Int32) (gd : Nat → Nat) (x1 : Int32) (x2 : Int32) (hW : WTm ty gm L) (hL_h0 : h0 ∈ L) (hT_h0 : ty h0 = (15, ρ, [ta, ou, so, ad, na, va, lc, dm, tg, pe, ml, bg, co, sp, nb0, nb1, nb2, pl, se, ke, wi, hs, mo, po, nu, pr, sq, xa, sa, n64, m64, ex, wh, sd, tk, hd, ak, ho, ot, sx, s0, s1, s2, nf, bd, mm, fm, sn, hg, gc, gv, ze, zt])) (hL_pl : pl ∈ L) (hT_pl : ty pl = (14, ρ + 10, [rl, 6000])) (hFml : F ml = .inl (cs 17, 3000, .inl gl)) (hpos : ∀ j, j < nf → gm 2 j = min mm (gd j + 1) ∧ gm 1 j < gd j ∧ gd j ≤ mm ∧ EOK (clr gl) mm (gd j)) : Met l yX15_plainField (.code yX15_plainField cX15_plainField 3 (some .int) :: tb) ({ frames := 2, cells := 0, slots := 0, locals := 69 }) (va_Pc [.ref h0, .int x1, .int x2] (PTm (dC, dI) cs ty gm L F sz)) (va_Qi (fun (r : Int32) (_ : Unit) => PFR (clr gl) nf (gm 0) (gm 1) gd x1 x2 r) (fun _ T9 => ∃ F2 : Nat → va_E, QTm (dC, dI) cs ty gm L [ρ, ρ + 2, ρ + 10] F F2 (va_A (va_pl L F) sz) T9) (va_A (va_pl L F) sz)) 0 0 (va_A (va_pl L F) sz) := by
  refine Met.ofW (cc := cX15_plainField) (maxL := 3) (ret := (some .int)) (by decide) rfl ?_
  intro p e s m args below meth c s₁ B hml hv
  obtain ⟨rfl, hsz, hP, hK, hD0, hE, hO⟩ := hv
  have hx := B.exec
  have hb := B.bytes
  have hr := B.returns
  have hts : ∀ w ∈ tb, w.before _ s = true := fun w h => atoms_spec (ws := .code yX15_plainField cX15_plainField 3 (some .int) :: tb) B.pre w (List.mem_cons_of_mem _ h)
  have hown : s.vm.findClass RX15 = some m.cls := findClass_of_methodNamed B.named
  have hlocks := B.notSynchronized
  subst hsz
  have hD := hD0.self (sz := s.heap.size)
  generalize hAe : va_A (va_pl L F) s.heap.size = A at hD ⊢
  have hA : ∀ q : Nat, s.heap.size ≤ q → A q := fun q h => by rw [← hAe]; exact Or.inr h
  have hS : va_S A s.heap s.heap [] := va_S.rf
  have hR : FR ty [ρ, ρ + 2, ρ + 10] F F := FR.refl
  have hl := lv_entry ([.ref h0, .int x1, .int x2]) (n := 3) (Nat.le_of_ble_eq_true rfl)
  rw [lg_entry_eq]
  generalize (lg_sl ([.ref h0, .int x1, .int x2]) ++ List.replicate (3 - (lg_sl ([.ref h0, .int x1, .int x2])).length) Slot.unset).toArray = ls at hl ⊢
  have hl : lv_has ls 3 [(0, .ref h0), (1, .int x1), (2, .int x2)] := hl
  obtain ⟨hq_22, hq_23, hq_24, hq_25, hq_26, hgO, hgA, hgB, hq_27⟩ := hW.sc hL_h0 hT_h0
  obtain ⟨hi_28, ht_29, hq_30⟩ := hW.txt hL_pl hT_pl
  obtain ⟨zo_31, v14_32, v15_33, v17_34, v18_35, v19_36, v20_37, v21_38, v22_39, v33_40, v52_41, v53_42, v54_43, hF_44, hq_45, hq_46, hq_47, hq_48, hq_49⟩ := hO.mod hL_h0 hT_h0
  refine lv_aload_n hx hb dX15_plainField_0 rfl (lv_at hl 0 rfl) ?_
  refine pg_get (ci := 15) (v := .int v33_40) (C := RX15) (T := TX15) (N := 59) hx hb hts it_15 hown hK hP hL_h0 hF_44 rfl 33 (by decide) (hts _ kt_891) (fun _ h9 => h9) rfl dX15_plainField_1 ?_
  refine lv_if_eq (tgt := 23) hx hb dX15_plainField_4 (by decide) (fun c_50 => ?_) (fun c_50 => ?_)
  ·
    have hn0 : nf = 0 := (hq_47.resolve_right (fun q => absurd (q.1.symm.trans c_50) (by decide))).2
    refine lv_bipush (v := (-2)) hx hb dX15_plainField_23 (by decide) ?_
    refine W.widen (k := 0) (n := 0) (by omega) (by omega) ?_
    exact W.iret (v := (-2)) hx hb hr (fun t ht hWm => ⟨⟨(-2), (), rfl, (Or.inl ⟨fun q => q.1 (by have h9 := q.2; rw [hn0, nI_0] at h9; exact h9), rfl⟩), ⟨F, QTm.mk ht hP hD hO hR⟩⟩, hS.F ht⟩) hS.2.2 dX15_plainField_25
  ·
    refine lv_iload_n hx hb dX15_plainField_7 rfl (lv_at hl 1 rfl) ?_
    refine lv_i2l (v := x1.toInt64) hx hb dX15_plainField_8 rfl ?_
    refine lv_lconst (v := 0) hx hb dX15_plainField_9 (by decide) ?_
    refine lv_aload_n hx hb dX15_plainField_10 rfl (lv_at hl 0 rfl) ?_
    refine pg_get (ci := 15) (v := .int (nI nf)) (C := RX15) (T := TX15) (N := 59) hx hb hts it_15 hown hK hP hL_h0 hF_44 rfl 30 (by decide) (hts _ kt_892) (fun _ h9 => h9) rfl dX15_plainField_11 ?_
    refine lv_iconst (v := 1) hx hb dX15_plainField_14 (by decide) ?_
    refine lv_isub hx hb dX15_plainField_15 ?_
    refine lv_topi (fun x_51 ex_51 => ?_)
    obtain rfl : x_51 = (nI nf - 1) := ex_51.trans (rfl)
    refine lv_i2l (v := (nI nf - 1).toInt64) hx hb dX15_plainField_16 rfl ?_
    have hFc := pg_free hD hS hA
    refine va_calli (va_runS (As := [.long x1.toInt64, .long 0, .long ((nI nf - 1).toInt64)]) (rest := []) ⟨hx, hb, hml, hown, hts⟩ (s_X15_in l dC dI cs ty gm L s.heap.size F x1.toInt64 0 ((nI nf - 1).toInt64) hW ) ⟨callB_of 3 hts (gi kt_685) rfl rfl rfl (hts _ kt_669) (hts _ kt_705) (by decide +kernel) ⟨Nat.le_of_ble_eq_true rfl, Nat.le_of_ble_eq_true rfl⟩, (hts _ kt_686)⟩ ⟨fun a U g mk q => ⟨q.1, PTm.calling q.2⟩, fun U hU hWm => ⟨rfl, PTm.mk hU hWm hP hK hD hE hO⟩⟩ rfl rfl hl.1 rfl (lv_room (Nat.le_of_ble_eq_true rfl)) dX15_plainField_17 ⟨by show _ + 0 ≤ 0; omega, by show _ + 0 ≤ 0; omega⟩) hS (fun q _ h => hFc q h) hFc (fun r_52 u t H1 locs ht hvm hw hB hz1 hk1 hS => ?_)
    obtain ⟨F_53, hB1⟩ := hB
    obtain rfl : F = F_53 := (funext (fun a => hB1.2.2.2 a List.not_mem_nil)).symm
    obtain ⟨hP, hD, hO, hR⟩ := QTm.back hB1 ht hFc hR (fun q h => absurd h List.not_mem_nil)
    generalize H1 = H at hP hS ⊢
    have hw : r_52 = (if 0 ≤ x1.toInt64 ∧ x1.toInt64 ≤ (nI nf - 1).toInt64 then 1 else 0) := hw
    have hw_54 := hw
    refine lv_if_ne (tgt := 26) hx hb dX15_plainField_20 (by decide) (fun c_55 => ?_) (fun c_55 => ?_)
    ·
      have hin := in_int hw_54 c_55
      rw [Int32.toInt_toInt64, show (1 : Int32) = nI 1 from rfl, pk_sub_toInt (by omega) (by omega), show (0 : Int64).toInt = 0 from by decide] at hin
      obtain ⟨jf, hjf0, rfl⟩ := nI_of (x := x1) (fun h => by rw [Int32.lt_iff_toInt_lt, show (0 : Int32).toInt = 0 from by decide] at h; omega)
      rw [nI_toInt hjf0] at hin
      have hjf : jf < nf := by omega
      have hoj := hgO jf hjf
      obtain ⟨q1, q2, q3, q4⟩ := hpos jf hjf
      refine lv_aload_n hx hb dX15_plainField_26 rfl (lv_at hl 0 rfl) ?_
      refine pg_get (ci := 15) (v := .ref pl) (C := RX15) (T := TX15) (N := 59) hx hb hts it_15 hown hK hP hL_h0 hF_44 rfl 34 (by decide) (hts _ kt_901) (fun _ h9 => h9) rfl dX15_plainField_27 ?_
      refine lv_iconst (v := 0) hx hb dX15_plainField_30 (by decide) ?_
      obtain ⟨z_56, hF_57, hq_58⟩ := hO.txt hL_pl hT_pl
      refine pg_put (ci := 14) (v := .int 0) (ty := .int) (C := RX14) (T := TX14) (N := 2) hx hb hts it_14 tyX14 tyX14_ok nmX14 hown hK hP hD hS hL_pl hF_57 rfl 1 (by decide) (hts _ kt_709) (fun _ h9 => h9) rfl (by decide +kernel) (rfl) (rfl) (Nat.le_of_ble_eq_true rfl) dX15_plainField_31 (fun H locs hP hD hS => ?_)
      obtain ⟨F_59, he_60, hP, hD, hO, hR⟩ : ∃ G, G = va_up F pl (.inr (14, [.ref rl, .int 0])) ∧ va_P (dC, dI) vwCl (va_pl L G) H ∧ va_D A (va_pl L G) ∧ OKm cs ty gm L G ∧ FR ty [ρ, ρ + 2, ρ + 10] F G := ⟨_, rfl, hP, hD, hO.up (shm.txt hT_pl ⟨0, rfl, (by first | omega | assumption | exact Or.inl rfl | exact Or.inr rfl)⟩), hR.up hT_pl (by simp)⟩
      have hF_61 : F_59 pl = .inr (14, [.ref rl, .int 0]) := by rw [he_60]; exact up_self
      obtain ⟨hi_63, ht_64⟩ := hW.f_ml hL_h0 hT_h0
      have hF_62 : F_59 ml = .inl (cs 17, 3000, .inl gl) := by rw [he_60, up_ne (ne_ty ht_64 hT_pl (by simp))]; exact hFml
      have hF_65 : F_59 h0 = .inr (15, (.ref ta) :: (.int (nI zt)) :: (.int (nI zo_31)) :: (.int (nI ze)) :: (.ref ou) :: (.ref so) :: (.ref ad) :: (.ref na) :: (.ref va) :: (.ref lc) :: (.ref dm) :: (.int (nI fm)) :: (.int (nI sn)) :: (.ref tg) :: (.int v14_32) :: (.int v15_33) :: (.ref pe) :: (.int v17_34) :: (.int v18_35) :: (.int v19_36) :: (.int v20_37) :: (.int v21_38) :: (.int v22_39) :: (.ref ml) :: (.ref bg) :: (.ref co) :: (.ref sp) :: (.ref nb0) :: (.ref nb1) :: (.ref nb2) :: (.int (nI nf)) :: (.int (nI bd)) :: (.int (nI mm)) :: (.int v33_40) :: (.ref pl) :: (.ref se) :: (.ref ke) :: (.ref wi) :: (.ref hs) :: (.ref mo) :: (.ref po) :: (.ref nu) :: (.ref pr) :: (.ref sq) :: (.ref xa) :: (.ref sa) :: (.ref n64) :: (.ref m64) :: (.ref ex) :: (.ref wh) :: (.ref sd) :: (.ref tk) :: (.int v52_41) :: (.int v53_42) :: (.int v54_43) :: (.ref hd) :: (.ref ak) :: (.ref ho) :: (.ref ot) :: []) := by rw [he_60, up_ne (ne_ty hT_h0 hT_pl (by simp))]; exact hF_44
      refine lv_aload_n hx hb dX15_plainField_34 rfl (lv_at hl 0 rfl) ?_
      refine lv_iload_n hx hb dX15_plainField_35 rfl (lv_at hl 1 rfl) ?_
      refine lv_iload_n hx hb dX15_plainField_36 rfl (lv_at hl 2 rfl) ?_
      refine lv_iconst (v := 0) hx hb dX15_plainField_37 (by decide) ?_
      refine lv_iconst (v := 0) hx hb dX15_plainField_38 (by decide) ?_
      obtain ⟨hq_66, hq_67⟩ := hW.octs hi_63 ht_64
      have hFc := pg_free hD hS hA
      refine va_callv (va_runV (As := [.int (nI jf), .int x2, .int 0, .int 0]) (rest := []) ⟨hx, hb, hml, hown, hts⟩ (s_X15_fieldPlain_e l dC dI cs ty gm L H.size F_59 h0 ρ ta ou so ad na va lc dm tg pe ml bg co sp nb0 nb1 nb2 pl se ke wi hs mo po nu pr sq xa sa n64 m64 ex wh sd tk hd ak ho ot sx s0 s1 s2 nf bd mm fm sn hg gc gv ze zt rl jf (gd jf) gl x2 hW hL_h0 hT_h0 hL_pl hT_pl hF_62 (hjf) (q1) (q2) (q3) (q4) hF_61) ⟨callB_of 4 hts (gi kt_918) rfl rfl rfl (hts _ kt_669) (hts _ kt_919) (by decide +kernel) ⟨Nat.le_of_ble_eq_true rfl, Nat.le_of_ble_eq_true rfl⟩, (hts _ kt_920), (hts _ kt_921)⟩ ⟨fun a U g mk q => ⟨q.1, PTm.calling q.2⟩, pg_recv hK hP hL_h0 hF_65 (q := (RX15, TX15, 59)) rfl, fun U hU hWm => ⟨rfl, PTm.mk hU hWm hP hK hD hE hO⟩⟩ rfl rfl hl.1 rfl (lv_room (Nat.le_of_ble_eq_true rfl)) dX15_plainField_39 ⟨by show _ + 0 ≤ 0; omega, by show _ + 0 ≤ 0; omega⟩) hS (fun q _ h => hFc q h) hFc (fun u t H1 locs ht hvm hw hB hz1 hk1 hS => ?_)
      obtain ⟨F_69, hB1, hq_70⟩ := hB
      obtain ⟨hP, hD, hO, hR⟩ := QTm.back hB1 ht hFc hR (fun q h => by simp only [List.mem_cons, List.not_mem_nil, or_false] at h ⊢; omega)
      have hF_71 : F_69 ml = .inl (cs 17, 3000, .inl gl) := (hB1.2.2.2 ml (by rw [ht_64]; simp)).trans hF_62
      have hF_72 : F_69 h0 = .inr (15, (.ref ta) :: (.int (nI zt)) :: (.int (nI zo_31)) :: (.int (nI ze)) :: (.ref ou) :: (.ref so) :: (.ref ad) :: (.ref na) :: (.ref va) :: (.ref lc) :: (.ref dm) :: (.int (nI fm)) :: (.int (nI sn)) :: (.ref tg) :: (.int v14_32) :: (.int v15_33) :: (.ref pe) :: (.int v17_34) :: (.int v18_35) :: (.int v19_36) :: (.int v20_37) :: (.int v21_38) :: (.int v22_39) :: (.ref ml) :: (.ref bg) :: (.ref co) :: (.ref sp) :: (.ref nb0) :: (.ref nb1) :: (.ref nb2) :: (.int (nI nf)) :: (.int (nI bd)) :: (.int (nI mm)) :: (.int v33_40) :: (.ref pl) :: (.ref se) :: (.ref ke) :: (.ref wi) :: (.ref hs) :: (.ref mo) :: (.ref po) :: (.ref nu) :: (.ref pr) :: (.ref sq) :: (.ref xa) :: (.ref sa) :: (.ref n64) :: (.ref m64) :: (.ref ex) :: (.ref wh) :: (.ref sd) :: (.ref tk) :: (.int v52_41) :: (.int v53_42) :: (.int v54_43) :: (.ref hd) :: (.ref ak) :: (.ref ho) :: (.ref ot) :: []) := (hB1.2.2.2 h0 (by rw [hT_h0]; simp)).trans hF_65
      generalize H1 = H at hP hS ⊢
      refine lv_aload_n hx hb dX15_plainField_42 rfl (lv_at hl 0 rfl) ?_
      refine lv_aload_n hx hb dX15_plainField_43 rfl (lv_at hl 0 rfl) ?_
      refine pg_get (ci := 15) (v := .ref pl) (C := RX15) (T := TX15) (N := 59) hx hb hts it_15 hown hK hP hL_h0 hF_72 rfl 34 (by decide) (hts _ kt_901) (fun _ h9 => h9) rfl dX15_plainField_44 ?_
      have hFc := pg_free hD hS hA
      refine va_calli (va_runV (As := [.ref pl]) (rest := []) ⟨hx, hb, hml, hown, hts⟩ (s_X15_tell_e l dC dI cs ty gm L H.size F_69 h0 ρ ta ou so ad na va lc dm tg pe ml bg co sp nb0 nb1 nb2 pl se ke wi hs mo po nu pr sq xa sa n64 m64 ex wh sd tk hd ak ho ot sx s0 s1 s2 nf bd mm fm sn hg gc gv ze zt pl (ρ + 10) rl ((FPL (clr gl) x2 (gm 0 jf) (gm 1 jf) (gd jf)).length) hW hL_h0 hT_h0 hL_pl hT_pl hq_70 (by have h9 := FPL_len (T := clr gl) (x := x2) hoj.1 q2; omega)) ⟨callB_of 1 hts (gi kt_914) rfl rfl rfl (hts _ kt_669) (hts _ kt_915) (by decide +kernel) ⟨Nat.le_of_ble_eq_true rfl, Nat.le_of_ble_eq_true rfl⟩, (hts _ kt_916), (hts _ kt_917)⟩ ⟨fun a U g mk q => ⟨q.1, PTm.calling q.2⟩, pg_recv hK hP hL_h0 hF_72 (q := (RX15, TX15, 59)) rfl, fun U hU hWm => ⟨rfl, PTm.mk hU hWm hP hK hD hE hO⟩⟩ rfl rfl hl.1 rfl (lv_room (Nat.le_of_ble_eq_true rfl)) dX15_plainField_47 ⟨by show _ + 0 ≤ 0; omega, by show _ + 0 ≤ 0; omega⟩) hS (fun q _ h => hFc q h) hFc (fun r_73 u t H1 locs ht hvm hw hB hz1 hk1 hS => ?_)
      obtain ⟨F_74, hB1⟩ := hB
      obtain ⟨hP, hD, hO, hR⟩ := QTm.back hB1 ht hFc hR (fun q h => by simp only [List.mem_cons, List.not_mem_nil, or_false] at h ⊢; omega)
      have hF_75 : F_74 ml = .inl (cs 17, 3000, .inl gl) := (hB1.2.2.2 ml (by rw [ht_64]; simp)).trans hF_71
      have hF_76 : F_74 pl = .inr (14, [.ref rl, .int (nI (FPL (clr gl) x2 (gm 0 jf) (gm 1 jf) (gd jf)).length)]) := (hB1.2.2.2 pl (by rw [hT_pl]; simp)).trans hq_70
      generalize H1 = H at hP hS ⊢
      have hw : r_73 = nI (FPL (clr gl) x2 (gm 0 jf) (gm 1 jf) (gd jf)).length := hw
      subst hw
      refine W.widen (k := 0) (n := 0) (by omega) (by omega) ?_
      exact W.iret (v := (nI (FPL (clr gl) x2 (gm 0 jf) (gm 1 jf) (gd jf)).length)) hx hb hr (fun t ht hWm => ⟨⟨(nI (FPL (clr gl) x2 (gm 0 jf) (gm 1 jf) (gd jf)).length), (), rfl, (Or.inr ⟨jf, hjf, rfl, rfl⟩), ⟨F_74, QTm.mk ht hP hD hO hR⟩⟩, hS.F ht⟩) hS.2.2 dX15_plainField_50
    ·
      refine lv_bipush (v := (-2)) hx hb dX15_plainField_23 (by decide) ?_
      refine W.widen (k := 0) (n := 0) (by omega) (by omega) ?_
      exact W.iret (v := (-2)) hx hb hr (fun t ht hWm => ⟨⟨(-2), (), rfl, (Or.inl ⟨in_pf0 (by omega) hw_54 c_55, rfl⟩), ⟨F, QTm.mk ht hP hD hO hR⟩⟩, hS.F ht⟩) hS.2.2 dX15_plainField_25
