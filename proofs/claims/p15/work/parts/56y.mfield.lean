def wvv (x w : Int32) : Int32 := if x = 0 then 0 else w
theorem wv_0 {x w : Int32} (h : x = 0) : wvv x w = 0 := if_pos h
theorem wv_n {x w : Int32} (h : ¬ x = 0) : wvv x w = w := if_neg h
theorem wv_1 {x : Int32} (h : x = 0 ∨ x = 1) : wvv x 1 = x := by
  rcases h with h | h
  · rw [h]
    rfl
  · rw [h]
    rfl
theorem wv_z {x : Int32} : wvv x 0 = 0 := by
  unfold wvv
  split <;> rfl
theorem clg_0 {S : Int32 → Bool} {c : Int32} (h : clg S c = 0) : c = 10 := Decidable.of_not_not (fun q => clg0n q h)
set_option maxHeartbeats 4000000 in
set_option maxRecDepth 100000 in
theorem s_X15_valueEnd_e (l : Launch) (dC : Nat → ClassId) (dI : Nat → Nat → Nat) (cs : Nat → ClassId) (ty : TyM) (gm : Nat → Nat → Nat) (L : List Nat) (sz : Nat) (F : Nat → va_E) (h0 : Nat) (ρ : Nat) (ta : Nat) (ou : Nat) (so : Nat) (ad : Nat) (na : Nat) (va : Nat) (lc : Nat) (dm : Nat) (tg : Nat) (pe : Nat) (ml : Nat) (bg : Nat) (co : Nat) (sp : Nat) (nb0 : Nat) (nb1 : Nat) (nb2 : Nat) (pl : Nat) (se : Nat) (ke : Nat) (wi : Nat) (hs : Nat) (mo : Nat) (po : Nat) (nu : Nat) (pr : Nat) (sq : Nat) (xa : Nat) (sa : Nat) (n64 : Nat) (m64 : Nat) (ex : Nat) (wh : Nat) (sd : Nat) (tk : Nat) (hd : Nat) (ak : Nat) (ho : Nat) (ot : Nat) (sx : Nat) (s0 : Nat) (s1 : Nat) (s2 : Nat) (nf : Nat) (bd : Nat) (mm : Nat) (zo : Nat) (fm : Nat) (sn : Nat) (hg : Nat) (gc : Nat) (gv : Nat) (ze : Nat) (zt : Nat) (jf : Nat) (kd : Nat) (gl : Nat → Int32) (hW : WTm ty gm L) (hL_h0 : h0 ∈ L) (hT_h0 : ty h0 = (15, ρ, [ta, ou, so, ad, na, va, lc, dm, tg, pe, ml, bg, co, sp, nb0, nb1, nb2, pl, se, ke, wi, hs, mo, po, nu, pr, sq, xa, sa, n64, m64, ex, wh, sd, tk, hd, ak, ho, ot, sx, s0, s1, s2, nf, bd, mm, zo, fm, sn, hg, gc, gv, ze, zt])) (hFml : F ml = .inl (cs 17, 3000, .inl gl)) (hjf : jf < nf) (hst : gm 2 jf = min mm (kd + 1)) (hcd : gm 1 jf < kd) (hdm : kd ≤ mm) (hek : EOK (clr gl) mm kd) : Met l yX15_valueEnd (.code yX15_valueEnd cX15_valueEnd 2 (some .int) :: tb) ({ frames := 0, cells := 0, slots := 0, locals := 0 }) (va_Pc [.ref h0, .int (nI jf)] (PTm (dC, dI) cs ty gm L F sz)) (va_Qi (fun (r : Int32) (_ : Unit) => r = nI kd) (fun _ T9 => ∃ F2 : Nat → va_E, QTm (dC, dI) cs ty gm L [] F F2 (va_A (va_pl L F) sz) T9) (va_A (va_pl L F) sz)) 0 0 (va_A (va_pl L F) sz) := by
  refine Met.ofW (cc := cX15_valueEnd) (maxL := 2) (ret := (some .int)) (by decide) rfl ?_
  intro p e s m args below meth c s₁ B hml hv
  obtain ⟨rfl, hsz, hP, hK, hD0, hE, hO⟩ := hv
  have hx := B.exec
  have hb := B.bytes
  have hr := B.returns
  have hts : ∀ w ∈ tb, w.before _ s = true := fun w h => atoms_spec (ws := .code yX15_valueEnd cX15_valueEnd 2 (some .int) :: tb) B.pre w (List.mem_cons_of_mem _ h)
  have hown : s.vm.findClass RX15 = some m.cls := findClass_of_methodNamed B.named
  have hlocks := B.notSynchronized
  subst hsz
  have hD := hD0.self (sz := s.heap.size)
  generalize hAe : va_A (va_pl L F) s.heap.size = A at hD ⊢
  have hA : ∀ q : Nat, s.heap.size ≤ q → A q := fun q h => by rw [← hAe]; exact Or.inr h
  have hS : va_S A s.heap s.heap [] := va_S.rf
  have hR : FR ty [] F F := FR.refl
  have hl := lv_entry ([.ref h0, .int (nI jf)]) (n := 2) (Nat.le_of_ble_eq_true rfl)
  rw [lg_entry_eq]
  generalize (lg_sl ([.ref h0, .int (nI jf)]) ++ List.replicate (2 - (lg_sl ([.ref h0, .int (nI jf)])).length) Slot.unset).toArray = ls at hl ⊢
  have hl : lv_has ls 2 [(0, .ref h0), (1, .int (nI jf))] := hl
  obtain ⟨hq_23, hq_24, hq_25, hq_26, hq_27, hgO, hgA, hgB, hq_28⟩ := hW.sc hL_h0 hT_h0
  have hoj := hgO jf hjf
  refine lv_aload_n hx hb dX15_valueEnd_0 rfl (lv_at hl 0 rfl) ?_
  obtain ⟨v14_29, v15_30, v17_31, v18_32, v19_33, v20_34, v21_35, v22_36, v33_37, v52_38, v53_39, v54_40, hF_41, hq_42, hq_43, hq_44, hq_45, hq_46⟩ := hO.mod hL_h0 hT_h0
  refine pg_get (ci := 15) (v := .ref ml) (C := RX15) (T := TX15) (N := 59) hx hb hts it_15 hown hK hP hL_h0 hF_41 rfl 23 (by decide) (hts _ kt_887) (fun _ h9 => h9) rfl dX15_valueEnd_1 ?_
  refine lv_aload_n hx hb dX15_valueEnd_4 rfl (lv_at hl 0 rfl) ?_
  refine pg_get (ci := 15) (v := .ref sp) (C := RX15) (T := TX15) (N := 59) hx hb hts it_15 hown hK hP hL_h0 hF_41 rfl 26 (by decide) (hts _ kt_890) (fun _ h9 => h9) rfl dX15_valueEnd_5 ?_
  refine lv_iload_n hx hb dX15_valueEnd_8 rfl (lv_at hl 1 rfl) ?_
  obtain ⟨hi_47, ht_48⟩ := hW.f_sp hL_h0 hT_h0
  obtain ⟨f_49, hF_50, hq_51⟩ := hO.pos hi_47 ht_48
  refine pg_iald hx hb hK hP hi_47 0 hF_50 rfl (vp_in_nI (by omega) (by omega)) dX15_valueEnd_9 ?_
  refine lv_topi (fun x_52 ex_52 => ?_)
  obtain rfl : x_52 = (nI (gm 2 jf)) := ex_52.trans (by rw [show ((nI jf) : Int32) = nI jf from rfl, nI_clamp (by omega)]; exact hq_51 jf (by omega))
  have hgbx_52 := hgB 2 jf
  refine lv_iconst (v := 1) hx hb dX15_valueEnd_10 (by decide) ?_
  refine lv_isub hx hb dX15_valueEnd_11 ?_
  refine lv_topi (fun x_53 ex_53 => ?_)
  obtain rfl : x_53 = (nI ((gm 2 jf) - 1)) := ex_53.trans (pk_sub (a := (gm 2 jf)) (b := 1) (by omega))
  obtain ⟨hi_54, ht_55⟩ := hW.f_ml hL_h0 hT_h0
  obtain ⟨hq_56, hq_57⟩ := hW.octs hi_54 ht_55
  refine pg_bald hx hb hK hP hi_54 1 hFml rfl (vp_in_nI (by omega) (by omega)) dX15_valueEnd_12 ?_
  refine lv_topi (fun x_58 ex_58 => ?_)
  obtain rfl : x_58 = gl ((gm 2 jf) - 1) := ex_58.trans (congrArg gl (show ((nI ((gm 2 jf) - 1)) : Int32).toNatClampNeg = ((gm 2 jf) - 1) from nI_clamp (by omega)))
  refine lv_bipush (v := 10) hx hb dX15_valueEnd_13 (by decide) ?_
  refine lv_icmp_ne (tgt := 29) hx hb dX15_valueEnd_15 (by decide) (fun c_59 => ?_) (fun c_59 => ?_)
  ·
    refine lv_aload_n hx hb dX15_valueEnd_29 rfl (lv_at hl 0 rfl) ?_
    refine pg_get (ci := 15) (v := .ref sp) (C := RX15) (T := TX15) (N := 59) hx hb hts it_15 hown hK hP hL_h0 hF_41 rfl 26 (by decide) (hts _ kt_890) (fun _ h9 => h9) rfl dX15_valueEnd_30 ?_
    refine lv_iload_n hx hb dX15_valueEnd_33 rfl (lv_at hl 1 rfl) ?_
    refine pg_iald hx hb hK hP hi_47 0 hF_50 rfl (vp_in_nI (by omega) (by omega)) dX15_valueEnd_34 ?_
    refine lv_topi (fun x_60 ex_60 => ?_)
    obtain rfl : x_60 = (nI (gm 2 jf)) := ex_60.trans (by rw [show ((nI jf) : Int32) = nI jf from rfl, nI_clamp (by omega)]; exact hq_51 jf (by omega))
    have hgbx_60 := hgB 2 jf
    refine W.widen (k := 0) (n := 0) (by omega) (by omega) ?_
    exact W.iret (v := (nI (gm 2 jf))) hx hb hr (fun t ht hWm => ⟨⟨(nI (gm 2 jf)), (), rfl, (by rcases hek with ⟨q1, q2⟩ | ⟨q1, q2⟩; exact absurd (clg_0 q2) (by rw [show kd = gm 2 jf - 1 by omega]; exact c_59); rw [show gm 2 jf = kd by omega]), ⟨F, QTm.mk ht hP hD hO hR⟩⟩, hS.F ht⟩) hS.2.2 dX15_valueEnd_35
  ·
    refine lv_aload_n hx hb dX15_valueEnd_18 rfl (lv_at hl 0 rfl) ?_
    refine pg_get (ci := 15) (v := .ref sp) (C := RX15) (T := TX15) (N := 59) hx hb hts it_15 hown hK hP hL_h0 hF_41 rfl 26 (by decide) (hts _ kt_890) (fun _ h9 => h9) rfl dX15_valueEnd_19 ?_
    refine lv_iload_n hx hb dX15_valueEnd_22 rfl (lv_at hl 1 rfl) ?_
    refine pg_iald hx hb hK hP hi_47 0 hF_50 rfl (vp_in_nI (by omega) (by omega)) dX15_valueEnd_23 ?_
    refine lv_topi (fun x_61 ex_61 => ?_)
    obtain rfl : x_61 = (nI (gm 2 jf)) := ex_61.trans (by rw [show ((nI jf) : Int32) = nI jf from rfl, nI_clamp (by omega)]; exact hq_51 jf (by omega))
    have hgbx_61 := hgB 2 jf
    refine lv_iconst (v := 1) hx hb dX15_valueEnd_24 (by decide) ?_
    refine lv_isub hx hb dX15_valueEnd_25 ?_
    refine lv_topi (fun x_62 ex_62 => ?_)
    obtain rfl : x_62 = (nI ((gm 2 jf) - 1)) := ex_62.trans (pk_sub (a := (gm 2 jf)) (b := 1) (by omega))
    refine lv_goto (tgt := 35) hx hb dX15_valueEnd_26 (by decide) ?_
    refine W.widen (k := 0) (n := 0) (by omega) (by omega) ?_
    exact W.iret (v := (nI ((gm 2 jf) - 1))) hx hb hr (fun t ht hWm => ⟨⟨(nI ((gm 2 jf) - 1)), (), rfl, (by rcases hek with ⟨q1, q2⟩ | ⟨q1, q2⟩; rw [show gm 2 jf - 1 = kd by omega]; exact absurd (clg0 (S := FSR) (by rw [show mm - 1 = gm 2 jf - 1 by omega]; exact c_59)) q2), ⟨F, QTm.mk ht hP hD hO hR⟩⟩, hS.F ht⟩) hS.2.2 dX15_valueEnd_35
set_option maxHeartbeats 4000000 in
set_option maxRecDepth 100000 in
theorem s_X15_fieldPlain_e (l : Launch) (dC : Nat → ClassId) (dI : Nat → Nat → Nat) (cs : Nat → ClassId) (ty : TyM) (gm : Nat → Nat → Nat) (L : List Nat) (sz : Nat) (F : Nat → va_E) (h0 : Nat) (ρ : Nat) (ta : Nat) (ou : Nat) (so : Nat) (ad : Nat) (na : Nat) (va : Nat) (lc : Nat) (dm : Nat) (tg : Nat) (pe : Nat) (ml : Nat) (bg : Nat) (co : Nat) (sp : Nat) (nb0 : Nat) (nb1 : Nat) (nb2 : Nat) (pl : Nat) (se : Nat) (ke : Nat) (wi : Nat) (hs : Nat) (mo : Nat) (po : Nat) (nu : Nat) (pr : Nat) (sq : Nat) (xa : Nat) (sa : Nat) (n64 : Nat) (m64 : Nat) (ex : Nat) (wh : Nat) (sd : Nat) (tk : Nat) (hd : Nat) (ak : Nat) (ho : Nat) (ot : Nat) (sx : Nat) (s0 : Nat) (s1 : Nat) (s2 : Nat) (nf : Nat) (bd : Nat) (mm : Nat) (zo : Nat) (fm : Nat) (sn : Nat) (hg : Nat) (gc : Nat) (gv : Nat) (ze : Nat) (zt : Nat) (rl : Nat) (jf : Nat) (kd : Nat) (gl : Nat → Int32) (x2 : Int32) (hW : WTm ty gm L) (hL_h0 : h0 ∈ L) (hT_h0 : ty h0 = (15, ρ, [ta, ou, so, ad, na, va, lc, dm, tg, pe, ml, bg, co, sp, nb0, nb1, nb2, pl, se, ke, wi, hs, mo, po, nu, pr, sq, xa, sa, n64, m64, ex, wh, sd, tk, hd, ak, ho, ot, sx, s0, s1, s2, nf, bd, mm, zo, fm, sn, hg, gc, gv, ze, zt])) (hL_pl : pl ∈ L) (hT_pl : ty pl = (14, ρ + 10, [rl, 6000])) (hFml : F ml = .inl (cs 17, 3000, .inl gl)) (hjf : jf < nf) (hst : gm 2 jf = min mm (kd + 1)) (hcd : gm 1 jf < kd) (hdm : kd ≤ mm) (hek : EOK (clr gl) mm kd) (hFl : F pl = .inr (14, [.ref rl, .int (nI 0)])) : Met l yX15_fieldPlain (.code yX15_fieldPlain cX15_fieldPlain 9 none :: tb) ({ frames := 1, cells := 0, slots := 0, locals := 21 }) (va_Pc [.ref h0, .int (nI jf), .int x2, .int 0, .int 0] (PTm (dC, dI) cs ty gm L F sz)) (va_Qv (fun _ : Unit => True) (fun _ T9 => ∃ F2 : Nat → va_E, QTm (dC, dI) cs ty gm L [ρ + 10] F F2 (va_A (va_pl L F) sz) T9 ∧ F2 pl = .inr (14, [.ref rl, .int (nI (FPL (clr gl) x2 (gm 0 jf) (gm 1 jf) kd).length)])) (va_A (va_pl L F) sz)) 0 0 (va_A (va_pl L F) sz) := by
  refine Met.ofW (cc := cX15_fieldPlain) (maxL := 9) (ret := none) (by decide) rfl ?_
  intro p e s m args below meth c s₁ B hml hv
  obtain ⟨rfl, hsz, hP, hK, hD0, hE, hO⟩ := hv
  have hx := B.exec
  have hb := B.bytes
  have hr := B.returns
  have hts : ∀ w ∈ tb, w.before _ s = true := fun w h => atoms_spec (ws := .code yX15_fieldPlain cX15_fieldPlain 9 none :: tb) B.pre w (List.mem_cons_of_mem _ h)
  have hown : s.vm.findClass RX15 = some m.cls := findClass_of_methodNamed B.named
  have hlocks := B.notSynchronized
  subst hsz
  have hD := hD0.self (sz := s.heap.size)
  generalize hAe : va_A (va_pl L F) s.heap.size = A at hD ⊢
  have hA : ∀ q : Nat, s.heap.size ≤ q → A q := fun q h => by rw [← hAe]; exact Or.inr h
  have hS : va_S A s.heap s.heap [] := va_S.rf
  have hR : FR ty [ρ + 10] F F := FR.refl
  have hl := lv_entry ([.ref h0, .int (nI jf), .int x2, .int 0, .int 0]) (n := 9) (Nat.le_of_ble_eq_true rfl)
  rw [lg_entry_eq]
  generalize (lg_sl ([.ref h0, .int (nI jf), .int x2, .int 0, .int 0]) ++ List.replicate (9 - (lg_sl ([.ref h0, .int (nI jf), .int x2, .int 0, .int 0])).length) Slot.unset).toArray = ls at hl ⊢
  have hl : lv_has ls 9 [(0, .ref h0), (1, .int (nI jf)), (2, .int x2), (3, .int 0), (4, .int 0)] := hl
  obtain ⟨hq_22, hq_23, hq_24, hq_25, hq_26, hgO, hgA, hgB, hq_27⟩ := hW.sc hL_h0 hT_h0
  have hoj := hgO jf hjf
  obtain ⟨hi_28, ht_29, hq_30⟩ := hW.txt hL_pl hT_pl
  refine lv_aload_n hx hb dX15_fieldPlain_0 rfl (lv_at hl 0 rfl) ?_
  refine lv_iload_n hx hb dX15_fieldPlain_1 rfl (lv_at hl 1 rfl) ?_
  obtain ⟨hi_31, ht_32⟩ := hW.f_ml hL_h0 hT_h0
  obtain ⟨hq_33, hq_34⟩ := hW.octs hi_31 ht_32
  have hFc := pg_free hD hS hA
  obtain ⟨v14_35, v15_36, v17_37, v18_38, v19_39, v20_40, v21_41, v22_42, v33_43, v52_44, v53_45, v54_46, hF_47, hq_48, hq_49, hq_50, hq_51, hq_52⟩ := hO.mod hL_h0 hT_h0
  refine va_calli (va_runV (As := [.int (nI jf)]) (rest := []) ⟨hx, hb, hml, hown, hts⟩ (s_X15_valueEnd_e l dC dI cs ty gm L s.heap.size F h0 ρ ta ou so ad na va lc dm tg pe ml bg co sp nb0 nb1 nb2 pl se ke wi hs mo po nu pr sq xa sa n64 m64 ex wh sd tk hd ak ho ot sx s0 s1 s2 nf bd mm zo fm sn hg gc gv ze zt jf kd gl hW hL_h0 hT_h0 hFml (by first | omega | assumption | exact Or.inl rfl) (by first | omega | assumption | exact Or.inl rfl) (by first | omega | assumption | exact Or.inl rfl) (by first | omega | assumption | exact Or.inl rfl) (by first | omega | assumption | exact Or.inl rfl)) ⟨callB_of 1 hts (gi kt_897) rfl rfl rfl (hts _ kt_669) (hts _ kt_898) (by decide +kernel) ⟨Nat.le_of_ble_eq_true rfl, Nat.le_of_ble_eq_true rfl⟩, (hts _ kt_899), (hts _ kt_900)⟩ ⟨fun a U g mk q => ⟨q.1, PTm.calling q.2⟩, pg_recv hK hP hL_h0 hF_47 (q := (RX15, TX15, 59)) rfl, fun U hU hWm => ⟨rfl, PTm.mk hU hWm hP hK hD hE hO⟩⟩ rfl rfl hl.1 rfl (lv_room (Nat.le_of_ble_eq_true rfl)) dX15_fieldPlain_2 ⟨by show _ + 0 ≤ 0; omega, by show _ + 0 ≤ 0; omega⟩) hS (fun q _ h => hFc q h) hFc (fun r_53 u t H1 locs ht hvm hw hB hz1 hk1 hS => ?_)
  obtain ⟨F_54, hB1⟩ := hB
  obtain rfl : F = F_54 := (funext (fun a => hB1.2.2.2 a List.not_mem_nil)).symm
  obtain ⟨hP, hD, hO, hR⟩ := QTm.back hB1 ht hFc hR (fun q h => absurd h List.not_mem_nil)
  generalize H1 = H at hP hS ⊢
  have hw : r_53 = nI kd := hw
  subst hw
  refine lv_istore (lv' := [(5, .int (nI kd)), (0, .ref h0), (1, .int (nI jf)), (2, .int x2), (3, .int 0), (4, .int 0)]) hx hb dX15_fieldPlain_5 hl (by decide) rfl (fun ls hl => ?_)
  refine lv_iload_n hx hb dX15_fieldPlain_7 rfl (lv_at hl 3 rfl) ?_
  refine lv_if_ne (tgt := 60) hx hb dX15_fieldPlain_8 (by decide) (fun c_55 => ?_) (fun c_55 => ?_)
  ·
    refine lv_aload_n hx hb dX15_fieldPlain_60 rfl (lv_at hl 1 rfl) ?_
    refine pg_get (ci := 15) (v := .ref bg) (C := RX15) (T := TX15) (N := 59) hx hb hts it_15 hown hK hP hL_h0 hF_47 rfl 24 (by decide) (hts _ kt_888) (fun _ h9 => h9) rfl dX15_fieldPlain_61 ?_
    refine lv_iload_n hx hb dX15_fieldPlain_64 rfl (lv_at hl 2 rfl) ?_
    obtain ⟨hi_56, ht_57⟩ := hW.f_bg hL_h0 hT_h0
    obtain ⟨f_58, hF_59, hq_60⟩ := hO.pos hi_56 ht_57
    refine pg_iald hx hb hK hP hi_56 0 hF_59 rfl (vp_in_nI (by omega) (by omega)) dX15_fieldPlain_65 ?_
    refine lv_topi (fun x_61 ex_61 => ?_)
    obtain rfl : x_61 = (nI (gm 0 jf)) := ex_61.trans (by rw [show ((nI jf) : Int32) = nI jf from rfl, nI_clamp (by omega)]; exact hq_60 jf (by omega))
    have hgbx_61 := hgB 0 jf
    refine lv_istore (lv' := [(6, .int (nI (gm 0 jf))), (5, .int (nI kd)), (0, .ref h0), (1, .int (nI jf)), (2, .int x2), (3, .int 0), (4, .int 0)]) hx hb dX15_fieldPlain_66 hl (by decide) rfl (fun ls hl => ?_)
    refine W.widen (k := 0) (n := 0) (by omega) (by omega) ?_
    have hF_63 : F ml = .inl (cs 17, 3000, .inl gl) := (hR ml (by rw [ht_32]; simp)).symm.trans hFml
    have hF_64 : F h0 = .inr (15, (.ref ta) :: (.int (nI zt)) :: (.int (nI zo)) :: (.int (nI ze)) :: (.ref ou) :: (.ref so) :: (.ref ad) :: (.ref na) :: (.ref va) :: (.ref lc) :: (.ref dm) :: (.int (nI fm)) :: (.int (nI sn)) :: (.ref tg) :: (.int v14_35) :: (.int v15_36) :: (.ref pe) :: (.int v17_37) :: (.int v18_38) :: (.int v19_39) :: (.int v20_40) :: (.int v21_41) :: (.int v22_42) :: (.ref ml) :: (.ref bg) :: (.ref co) :: (.ref sp) :: (.ref nb0) :: (.ref nb1) :: (.ref nb2) :: (.int (nI nf)) :: (.int (nI bd)) :: (.int (nI mm)) :: (.int v33_43) :: (.ref pl) :: (.ref se) :: (.ref ke) :: (.ref wi) :: (.ref hs) :: (.ref mo) :: (.ref po) :: (.ref nu) :: (.ref pr) :: (.ref sq) :: (.ref xa) :: (.ref sa) :: (.ref n64) :: (.ref m64) :: (.ref ex) :: (.ref wh) :: (.ref sd) :: (.ref tk) :: (.int v52_44) :: (.int v53_45) :: (.int v54_46) :: (.ref hd) :: (.ref ak) :: (.ref ho) :: (.ref ot) :: []) := (hR h0 (by rw [hT_h0]; simp)).symm.trans hF_47
    have hF_65 : F bg = .inl (cs 16, 21, .inl f_58) := (hR bg (by rw [ht_57]; simp)).symm.trans hF_59
    refine pl_loopm (σ := Nat) A (dC, dI) cs ty gm L [ρ + 10] F 68 9 (fun j => [(6, .int (nI j)), (5, .int (nI kd)), (0, .ref h0), (1, .int (nI jf)), (2, .int x2), (3, .int 0), (4, .int 0)]) (fun j => []) (fun j FF => (gm 0 jf ≤ j ∧ j ≤ gm 1 jf) ∧ FF pl = .inr (14, [.ref rl, .int (nI (j - gm 0 jf))])) (fun j => gm 1 jf - j) ?_ (gm 0 jf) F (⟨⟨by omega, by omega⟩, (by rw [show gm 0 jf - gm 0 jf = 0 by omega]; exact hFl)⟩) hO hR _ _ hP hD hS ls (lv_sub hl [0, 1, 2, 3, 4, 5, 6] rfl)
    rintro j F_62 hv_66 hO hR ih_67 H locs hP hD hS ls hl
    have hl : lv_has ls 9 [(6, .int (nI j)), (5, .int (nI kd)), (0, .ref h0), (1, .int (nI jf)), (2, .int x2), (3, .int 0), (4, .int 0)] := hl
    have hv_66 : (gm 0 jf ≤ j ∧ j ≤ gm 1 jf) ∧ F_62 pl = .inr (14, [.ref rl, .int (nI (j - gm 0 jf))]) := hv_66
    refine W.eq (g2 := F0 m 68 ls []) rfl ?_
    have hF_68 : F_62 ml = .inl (cs 17, 3000, .inl gl) := (hR ml (by rw [ht_32]; simp)).trans hF_63
    have hF_69 : F_62 h0 = .inr (15, (.ref ta) :: (.int (nI zt)) :: (.int (nI zo)) :: (.int (nI ze)) :: (.ref ou) :: (.ref so) :: (.ref ad) :: (.ref na) :: (.ref va) :: (.ref lc) :: (.ref dm) :: (.int (nI fm)) :: (.int (nI sn)) :: (.ref tg) :: (.int v14_35) :: (.int v15_36) :: (.ref pe) :: (.int v17_37) :: (.int v18_38) :: (.int v19_39) :: (.int v20_40) :: (.int v21_41) :: (.int v22_42) :: (.ref ml) :: (.ref bg) :: (.ref co) :: (.ref sp) :: (.ref nb0) :: (.ref nb1) :: (.ref nb2) :: (.int (nI nf)) :: (.int (nI bd)) :: (.int (nI mm)) :: (.int v33_43) :: (.ref pl) :: (.ref se) :: (.ref ke) :: (.ref wi) :: (.ref hs) :: (.ref mo) :: (.ref po) :: (.ref nu) :: (.ref pr) :: (.ref sq) :: (.ref xa) :: (.ref sa) :: (.ref n64) :: (.ref m64) :: (.ref ex) :: (.ref wh) :: (.ref sd) :: (.ref tk) :: (.int v52_44) :: (.int v53_45) :: (.int v54_46) :: (.ref hd) :: (.ref ak) :: (.ref ho) :: (.ref ot) :: []) := (hR h0 (by rw [hT_h0]; simp)).trans hF_64
    have hF_70 : F_62 bg = .inl (cs 16, 21, .inl f_58) := (hR bg (by rw [ht_57]; simp)).trans hF_65
    obtain ⟨hp1, hp2⟩ := id hv_66
    refine lv_iload hx hb dX15_fieldPlain_68 (lv_at hl 0 rfl) ?_
    refine lv_aload_n hx hb dX15_fieldPlain_70 rfl (lv_at hl 2 rfl) ?_
    refine pg_get (ci := 15) (v := .ref co) (C := RX15) (T := TX15) (N := 59) hx hb hts it_15 hown hK hP hL_h0 hF_69 rfl 25 (by decide) (hts _ kt_889) (fun _ h9 => h9) rfl dX15_fieldPlain_71 ?_
    refine lv_iload_n hx hb dX15_fieldPlain_74 rfl (lv_at hl 3 rfl) ?_
    obtain ⟨hi_71, ht_72⟩ := hW.f_co hL_h0 hT_h0
    obtain ⟨f_73, hF_74, hq_75⟩ := hO.pos hi_71 ht_72
    refine pg_iald hx hb hK hP hi_71 0 hF_74 rfl (vp_in_nI (by omega) (by omega)) dX15_fieldPlain_75 ?_
    refine lv_topi (fun x_76 ex_76 => ?_)
    obtain rfl : x_76 = (nI (gm 1 jf)) := ex_76.trans (by rw [show ((nI jf) : Int32) = nI jf from rfl, nI_clamp (by omega)]; exact hq_75 jf (by omega))
    have hgbx_76 := hgB 1 jf
    refine lv_icmp_ge (tgt := 102) hx hb dX15_fieldPlain_76 (by decide) (fun c_77 => ?_) (fun c_77 => ?_)
    ·
      have hi_78 : (gm 1 jf) ≤ j := leN (N := (gm 1 jf)) c_77
      refine lv_aload_n hx hb dX15_fieldPlain_102 rfl (lv_at hl 2 rfl) ?_
      refine pg_get (ci := 15) (v := .ref pl) (C := RX15) (T := TX15) (N := 59) hx hb hts it_15 hown hK hP hL_h0 hF_69 rfl 34 (by decide) (hts _ kt_901) (fun _ h9 => h9) rfl dX15_fieldPlain_103 ?_
      refine lv_bipush (v := 58) hx hb dX15_fieldPlain_106 (by decide) ?_
      have hFc := pg_free hD hS hA
      refine va_callv (va_runV (As := [.int 58]) (rest := []) ⟨hx, hb, hml, hown, hts⟩ (s_X14_add l dC dI cs ty gm L H.size F_62 pl (ρ + 10) rl 6000 (j - gm 0 jf) 58 hW hL_pl hT_pl hp2 (by first | omega | assumption | exact Or.inl rfl)) ⟨callB_of 1 hts (gi kt_711) rfl rfl rfl (hts _ kt_676) (hts _ kt_712) (by decide +kernel) ⟨Nat.le_of_ble_eq_true rfl, Nat.le_of_ble_eq_true rfl⟩, (hts _ kt_713), (hts _ kt_714)⟩ ⟨fun a U g mk q => ⟨q.1, PTm.calling q.2⟩, pg_recv hK hP hL_pl hp2 (q := (RX14, TX14, 2)) rfl, fun U hU hWm => ⟨rfl, PTm.mk hU hWm hP hK hD hE hO⟩⟩ rfl rfl hl.1 rfl (lv_room (Nat.le_of_ble_eq_true rfl)) dX15_fieldPlain_108 ⟨by show _ + 0 ≤ 0; omega, by show _ + 0 ≤ 0; omega⟩) hS (fun q _ h => hFc q h) hFc (fun u t H1 locs ht hvm hw hB hz1 hk1 hS => ?_)
      obtain ⟨F_80, hB1, hq_81⟩ := hB
      obtain ⟨hP, hD, hO, hR⟩ := QTm.back hB1 ht hFc hR (fun q h => by simp only [List.mem_cons, List.not_mem_nil, or_false] at h ⊢; omega)
      have hF_82 : F_80 ml = .inl (cs 17, 3000, .inl gl) := (hB1.2.2.2 ml (by rw [ht_32]; simp)).trans hF_68
      have hF_83 : F_80 h0 = .inr (15, (.ref ta) :: (.int (nI zt)) :: (.int (nI zo)) :: (.int (nI ze)) :: (.ref ou) :: (.ref so) :: (.ref ad) :: (.ref na) :: (.ref va) :: (.ref lc) :: (.ref dm) :: (.int (nI fm)) :: (.int (nI sn)) :: (.ref tg) :: (.int v14_35) :: (.int v15_36) :: (.ref pe) :: (.int v17_37) :: (.int v18_38) :: (.int v19_39) :: (.int v20_40) :: (.int v21_41) :: (.int v22_42) :: (.ref ml) :: (.ref bg) :: (.ref co) :: (.ref sp) :: (.ref nb0) :: (.ref nb1) :: (.ref nb2) :: (.int (nI nf)) :: (.int (nI bd)) :: (.int (nI mm)) :: (.int v33_43) :: (.ref pl) :: (.ref se) :: (.ref ke) :: (.ref wi) :: (.ref hs) :: (.ref mo) :: (.ref po) :: (.ref nu) :: (.ref pr) :: (.ref sq) :: (.ref xa) :: (.ref sa) :: (.ref n64) :: (.ref m64) :: (.ref ex) :: (.ref wh) :: (.ref sd) :: (.ref tk) :: (.int v52_44) :: (.int v53_45) :: (.int v54_46) :: (.ref hd) :: (.ref ak) :: (.ref ho) :: (.ref ot) :: []) := (hB1.2.2.2 h0 (by rw [hT_h0]; simp)).trans hF_69
      have hF_84 : F_80 bg = .inl (cs 16, 21, .inl f_58) := (hB1.2.2.2 bg (by rw [ht_57]; simp)).trans hF_70
      have hF_85 : F_80 co = .inl (cs 16, 21, .inl f_73) := (hB1.2.2.2 co (by rw [ht_72]; simp)).trans hF_74
      generalize H1 = H at hP hS ⊢
      refine lv_iconst (v := 0) hx hb dX15_fieldPlain_111 (by decide) ?_
      refine lv_istore (lv' := [(6, .int 0), (5, .int (nI kd)), (0, .ref h0), (1, .int (nI jf)), (2, .int x2), (3, .int 0), (4, .int 0)]) hx hb dX15_fieldPlain_112 hl (by decide) rfl (fun ls hl => ?_)
      refine lv_iconst (v := 0) hx hb dX15_fieldPlain_114 (by decide) ?_
      refine lv_istore (lv' := [(7, .int 0), (6, .int 0), (5, .int (nI kd)), (0, .ref h0), (1, .int (nI jf)), (2, .int x2), (3, .int 0), (4, .int 0)]) hx hb dX15_fieldPlain_115 hl (by decide) rfl (fun ls hl => ?_)
      refine lv_aload_n hx hb dX15_fieldPlain_117 rfl (lv_at hl 3 rfl) ?_
      refine pg_get (ci := 15) (v := .ref co) (C := RX15) (T := TX15) (N := 59) hx hb hts it_15 hown hK hP hL_h0 hF_83 rfl 25 (by decide) (hts _ kt_889) (fun _ h9 => h9) rfl dX15_fieldPlain_118 ?_
      refine lv_iload_n hx hb dX15_fieldPlain_121 rfl (lv_at hl 4 rfl) ?_
      refine pg_iald hx hb hK hP hi_71 0 hF_85 rfl (vp_in_nI (by omega) (by omega)) dX15_fieldPlain_122 ?_
      refine lv_topi (fun x_86 ex_86 => ?_)
      obtain rfl : x_86 = (nI (gm 1 jf)) := ex_86.trans (by rw [show ((nI jf) : Int32) = nI jf from rfl, nI_clamp (by omega)]; exact hq_75 jf (by omega))
      have hgbx_86 := hgB 1 jf
      refine lv_iconst (v := 1) hx hb dX15_fieldPlain_123 (by decide) ?_
      refine lv_iadd hx hb dX15_fieldPlain_124 ?_
      refine lv_topi (fun x_87 ex_87 => ?_)
      obtain rfl : x_87 = (nI ((gm 1 jf) + 1)) := ex_87.trans (nI_add (gm 1 jf) 1)
      refine lv_istore (lv' := [(8, .int (nI ((gm 1 jf) + 1))), (7, .int 0), (6, .int 0), (5, .int (nI kd)), (0, .ref h0), (1, .int (nI jf)), (2, .int x2), (3, .int 0), (4, .int 0)]) hx hb dX15_fieldPlain_125 hl (by decide) rfl (fun ls hl => ?_)
      have hF_88 : F_80 pl = .inr (14, [.ref rl, .int (nI (rng 1 (gm 0 jf) (gm 1 jf - gm 0 jf) ++ [(2, 58)]).length)]) := by rw [len1, rng_len, show gm 1 jf - gm 0 jf + 1 = ((j - gm 0 jf) + 1) by omega]; exact hq_81
      refine W.widen (k := 0) (n := 0) (by omega) (by omega) ?_
      have hF_90 : F ml = .inl (cs 17, 3000, .inl gl) := (hR ml (by rw [ht_32]; simp)).symm.trans hF_82
      have hF_91 : F h0 = .inr (15, (.ref ta) :: (.int (nI zt)) :: (.int (nI zo)) :: (.int (nI ze)) :: (.ref ou) :: (.ref so) :: (.ref ad) :: (.ref na) :: (.ref va) :: (.ref lc) :: (.ref dm) :: (.int (nI fm)) :: (.int (nI sn)) :: (.ref tg) :: (.int v14_35) :: (.int v15_36) :: (.ref pe) :: (.int v17_37) :: (.int v18_38) :: (.int v19_39) :: (.int v20_40) :: (.int v21_41) :: (.int v22_42) :: (.ref ml) :: (.ref bg) :: (.ref co) :: (.ref sp) :: (.ref nb0) :: (.ref nb1) :: (.ref nb2) :: (.int (nI nf)) :: (.int (nI bd)) :: (.int (nI mm)) :: (.int v33_43) :: (.ref pl) :: (.ref se) :: (.ref ke) :: (.ref wi) :: (.ref hs) :: (.ref mo) :: (.ref po) :: (.ref nu) :: (.ref pr) :: (.ref sq) :: (.ref xa) :: (.ref sa) :: (.ref n64) :: (.ref m64) :: (.ref ex) :: (.ref wh) :: (.ref sd) :: (.ref tk) :: (.int v52_44) :: (.int v53_45) :: (.int v54_46) :: (.ref hd) :: (.ref ak) :: (.ref ho) :: (.ref ot) :: []) := (hR h0 (by rw [hT_h0]; simp)).symm.trans hF_83
      have hF_92 : F bg = .inl (cs 16, 21, .inl f_58) := (hR bg (by rw [ht_57]; simp)).symm.trans hF_84
      have hF_93 : F co = .inl (cs 16, 21, .inl f_73) := (hR co (by rw [ht_72]; simp)).symm.trans hF_85
      refine pl_loopm (σ := Nat × Int32 × Int32 × (List (Nat × Nat))) A (dC, dI) cs ty gm L [ρ + 10] F 127 9 (fun (i, w6, w7, aa) => [(8, .int (nI i)), (7, .int w7), (6, .int w6), (5, .int (nI kd)), (0, .ref h0), (1, .int (nI jf)), (2, .int x2), (3, .int 0), (4, .int 0)]) (fun (i, w6, w7, aa) => []) (fun (i, w6, w7, aa) FF => (gm 1 jf + 1 ≤ i ∧ i ≤ kd) ∧ (w6 = 0 ∨ w6 = 1) ∧ aa.length ≤ i - gm 0 jf ∧ (w7 = 0 ∨ aa.length + 1 ≤ i - gm 0 jf) ∧ (FPL (clr gl) x2 (gm 0 jf) (gm 1 jf) kd) = aa ++ rvl (clr gl) (kd - i) i w6 (wvv w6 w7) ∧ FF pl = .inr (14, [.ref rl, .int (nI aa.length)])) (fun (i, w6, w7, aa) => kd - i) ?_ (((gm 1 jf) + 1), 0, 0, (rng 1 (gm 0 jf) (gm 1 jf - gm 0 jf) ++ [(2, 58)])) F_80 (⟨⟨by omega, by omega⟩, Or.inl rfl, (by rw [len1, rng_len]; omega), Or.inl rfl, (by rw [wv_z]; exact FPL_r c_55), hF_88⟩) hO hR _ _ hP hD hS ls (lv_sub hl [0, 1, 2, 3, 4, 5, 6, 7, 8] rfl)
      rintro ⟨i, w6, w7, aa⟩ F_89 hv_94 hO hR ih_95 H locs hP hD hS ls hl
      have hl : lv_has ls 9 [(8, .int (nI i)), (7, .int w7), (6, .int w6), (5, .int (nI kd)), (0, .ref h0), (1, .int (nI jf)), (2, .int x2), (3, .int 0), (4, .int 0)] := hl
      have hv_94 : (gm 1 jf + 1 ≤ i ∧ i ≤ kd) ∧ (w6 = 0 ∨ w6 = 1) ∧ aa.length ≤ i - gm 0 jf ∧ (w7 = 0 ∨ aa.length + 1 ≤ i - gm 0 jf) ∧ (FPL (clr gl) x2 (gm 0 jf) (gm 1 jf) kd) = aa ++ rvl (clr gl) (kd - i) i w6 (wvv w6 w7) ∧ F_89 pl = .inr (14, [.ref rl, .int (nI aa.length)]) := hv_94
      refine W.eq (g2 := F0 m 127 ls []) rfl ?_
      have hF_96 : F_89 ml = .inl (cs 17, 3000, .inl gl) := (hR ml (by rw [ht_32]; simp)).trans hF_90
      have hF_97 : F_89 h0 = .inr (15, (.ref ta) :: (.int (nI zt)) :: (.int (nI zo)) :: (.int (nI ze)) :: (.ref ou) :: (.ref so) :: (.ref ad) :: (.ref na) :: (.ref va) :: (.ref lc) :: (.ref dm) :: (.int (nI fm)) :: (.int (nI sn)) :: (.ref tg) :: (.int v14_35) :: (.int v15_36) :: (.ref pe) :: (.int v17_37) :: (.int v18_38) :: (.int v19_39) :: (.int v20_40) :: (.int v21_41) :: (.int v22_42) :: (.ref ml) :: (.ref bg) :: (.ref co) :: (.ref sp) :: (.ref nb0) :: (.ref nb1) :: (.ref nb2) :: (.int (nI nf)) :: (.int (nI bd)) :: (.int (nI mm)) :: (.int v33_43) :: (.ref pl) :: (.ref se) :: (.ref ke) :: (.ref wi) :: (.ref hs) :: (.ref mo) :: (.ref po) :: (.ref nu) :: (.ref pr) :: (.ref sq) :: (.ref xa) :: (.ref sa) :: (.ref n64) :: (.ref m64) :: (.ref ex) :: (.ref wh) :: (.ref sd) :: (.ref tk) :: (.int v52_44) :: (.int v53_45) :: (.int v54_46) :: (.ref hd) :: (.ref ak) :: (.ref ho) :: (.ref ot) :: []) := (hR h0 (by rw [hT_h0]; simp)).trans hF_91
      have hF_98 : F_89 bg = .inl (cs 16, 21, .inl f_58) := (hR bg (by rw [ht_57]; simp)).trans hF_92
      have hF_99 : F_89 co = .inl (cs 16, 21, .inl f_73) := (hR co (by rw [ht_72]; simp)).trans hF_93
      obtain ⟨hp1, hp3, hp4, hp5, hp6, hp2⟩ := id hv_94
      refine lv_iload hx hb dX15_fieldPlain_127 (lv_at hl 0 rfl) ?_
      refine lv_iload hx hb dX15_fieldPlain_129 (lv_at hl 3 rfl) ?_
      refine lv_icmp_ge (tgt := 226) hx hb dX15_fieldPlain_131 (by decide) (fun c_100 => ?_) (fun c_100 => ?_)
      ·
        have hi_101 : kd ≤ i := leN (N := kd) c_100
        have hib : kd ≤ i := by omega
        refine W.widen (k := 0) (n := 0) (by omega) (by omega) ?_
        exact W.vret hx hb hr (fun t ht hWm => ⟨⟨(), rfl, trivial, ⟨F_89, QTm.mk ht hP hD hO hR, (by rw [rv_e hp6 hib]; exact hp2)⟩⟩, hS.F ht⟩) hS.2.2 dX15_fieldPlain_226
      ·
        have hi_102 : i < kd := ltN (N := kd) c_100
        have hib : i < kd := by omega
        refine lv_iload hx hb dX15_fieldPlain_134 (lv_at hl 0 rfl) ?_
        refine lv_iload_n hx hb dX15_fieldPlain_136 rfl (lv_at hl 7 rfl) ?_
        refine lv_icmp_lt (tgt := 147) hx hb dX15_fieldPlain_137 (by decide) (fun c_103 => absurd c_103 (nI_pos (by omega))) (fun c_103 => ?_)
        refine lv_iload hx hb dX15_fieldPlain_140 (lv_at hl 0 rfl) ?_
        refine lv_iload hx hb dX15_fieldPlain_142 (lv_at hl 8 rfl) ?_
        refine lv_icmp_lt (tgt := 220) hx hb dX15_fieldPlain_144 (by decide) (fun c_104 => absurd c_104 (nI_pos (by omega))) (fun c_104 => ?_)
        refine lv_aload_n hx hb dX15_fieldPlain_147 rfl (lv_at hl 4 rfl) ?_
        refine pg_get (ci := 15) (v := .ref ml) (C := RX15) (T := TX15) (N := 59) hx hb hts it_15 hown hK hP hL_h0 hF_97 rfl 23 (by decide) (hts _ kt_887) (fun _ h9 => h9) rfl dX15_fieldPlain_148 ?_
        refine lv_iload hx hb dX15_fieldPlain_151 (lv_at hl 0 rfl) ?_
        refine pg_bald hx hb hK hP hi_31 1 hF_96 rfl (vp_in_nI (by omega) (by omega)) dX15_fieldPlain_153 ?_
        refine lv_topi (fun x_105 ex_105 => ?_)
        obtain rfl : x_105 = gl i := ex_105.trans (congrArg gl (show ((nI i) : Int32).toNatClampNeg = i from nI_clamp (by omega)))
        refine lv_bipush (v := 10) hx hb dX15_fieldPlain_154 (by decide) ?_
        refine lv_icmp_ne (tgt := 162) hx hb dX15_fieldPlain_156 (by decide) (fun c_106 => ?_) (fun c_106 => ?_)
        ·
          refine lv_aload_n hx hb dX15_fieldPlain_162 rfl (lv_at hl 4 rfl) ?_
          refine pg_get (ci := 15) (v := .ref ml) (C := RX15) (T := TX15) (N := 59) hx hb hts it_15 hown hK hP hL_h0 hF_97 rfl 23 (by decide) (hts _ kt_887) (fun _ h9 => h9) rfl dX15_fieldPlain_163 ?_
          refine lv_iload hx hb dX15_fieldPlain_166 (lv_at hl 0 rfl) ?_
          refine pg_bald hx hb hK hP hi_31 1 hF_96 rfl (vp_in_nI (by omega) (by omega)) dX15_fieldPlain_168 ?_
          refine lv_topi (fun x_107 ex_107 => ?_)
          obtain rfl : x_107 = gl i := ex_107.trans (congrArg gl (show ((nI i) : Int32).toNatClampNeg = i from nI_clamp (by omega)))
          have hFc := pg_free hD hS hA
          refine va_calli (va_runS (As := [.int (gl i)]) (rest := []) ⟨hx, hb, hml, hown, hts⟩ (s_X15_isWhite_e l dC dI cs ty gm L H.size F_89 (gl i) hW ) ⟨callB_of 1 hts (gi kt_715) rfl rfl rfl (hts _ kt_669) (hts _ kt_716) (by decide +kernel) ⟨Nat.le_of_ble_eq_true rfl, Nat.le_of_ble_eq_true rfl⟩, (hts _ kt_717)⟩ ⟨fun a U g mk q => ⟨q.1, PTm.calling q.2⟩, fun U hU hWm => ⟨rfl, PTm.mk hU hWm hP hK hD hE hO⟩⟩ rfl rfl hl.1 rfl (lv_room (Nat.le_of_ble_eq_true rfl)) dX15_fieldPlain_169 ⟨by show _ + 0 ≤ 0; omega, by show _ + 0 ≤ 0; omega⟩) hS (fun q _ h => hFc q h) hFc (fun r_108 u t H1 locs ht hvm hw hB hz1 hk1 hS => ?_)
          obtain ⟨F_109, hB1⟩ := hB
          obtain rfl : F_89 = F_109 := (funext (fun a => hB1.2.2.2 a List.not_mem_nil)).symm
          obtain ⟨hP, hD, hO, hR⟩ := QTm.back hB1 ht hFc hR (fun q h => absurd h List.not_mem_nil)
          generalize H1 = H at hP hS ⊢
          have hw : r_108 = (if (gl i) = 32 ∨ (gl i) = 9 then 1 else 0) := hw
          have hw_110 := hw
          refine lv_if_eq (tgt := 181) hx hb dX15_fieldPlain_172 (by decide) (fun c_111 => ?_) (fun c_111 => ?_)
          ·
            refine lv_iload hx hb dX15_fieldPlain_181 (lv_at hl 1 rfl) ?_
            refine lv_if_eq (tgt := 200) hx hb dX15_fieldPlain_183 (by decide) (fun c_112 => ?_) (fun c_112 => ?_)
            ·
              refine lv_iconst (v := 0) hx hb dX15_fieldPlain_200 (by decide) ?_
              refine lv_istore (lv' := [(7, .int 0), (8, .int (nI i)), (6, .int w6), (5, .int (nI kd)), (0, .ref h0), (1, .int (nI jf)), (2, .int x2), (3, .int 0), (4, .int 0)]) hx hb dX15_fieldPlain_201 hl (by decide) rfl (fun ls hl => ?_)
              refine lv_iconst (v := 1) hx hb dX15_fieldPlain_203 (by decide) ?_
              refine lv_istore (lv' := [(6, .int 1), (7, .int 0), (8, .int (nI i)), (5, .int (nI kd)), (0, .ref h0), (1, .int (nI jf)), (2, .int x2), (3, .int 0), (4, .int 0)]) hx hb dX15_fieldPlain_204 hl (by decide) rfl (fun ls hl => ?_)
              refine lv_aload_n hx hb dX15_fieldPlain_206 rfl (lv_at hl 4 rfl) ?_
              refine pg_get (ci := 15) (v := .ref pl) (C := RX15) (T := TX15) (N := 59) hx hb hts it_15 hown hK hP hL_h0 hF_97 rfl 34 (by decide) (hts _ kt_901) (fun _ h9 => h9) rfl dX15_fieldPlain_207 ?_
              refine lv_aload_n hx hb dX15_fieldPlain_210 rfl (lv_at hl 4 rfl) ?_
              refine pg_get (ci := 15) (v := .ref ml) (C := RX15) (T := TX15) (N := 59) hx hb hts it_15 hown hK hP hL_h0 hF_97 rfl 23 (by decide) (hts _ kt_887) (fun _ h9 => h9) rfl dX15_fieldPlain_211 ?_
              refine lv_iload hx hb dX15_fieldPlain_214 (lv_at hl 2 rfl) ?_
              refine pg_bald hx hb hK hP hi_31 1 hF_96 rfl (vp_in_nI (by omega) (by omega)) dX15_fieldPlain_216 ?_
              refine lv_topi (fun x_113 ex_113 => ?_)
              obtain rfl : x_113 = gl i := ex_113.trans (congrArg gl (show ((nI i) : Int32).toNatClampNeg = i from nI_clamp (by omega)))
              have hFc := pg_free hD hS hA
              refine va_callv (va_runV (As := [.int (gl i)]) (rest := []) ⟨hx, hb, hml, hown, hts⟩ (s_X14_add l dC dI cs ty gm L H.size F_89 pl (ρ + 10) rl 6000 aa.length (gl i) hW hL_pl hT_pl hp2 (by first | omega | assumption | exact Or.inl rfl)) ⟨callB_of 1 hts (gi kt_711) rfl rfl rfl (hts _ kt_676) (hts _ kt_712) (by decide +kernel) ⟨Nat.le_of_ble_eq_true rfl, Nat.le_of_ble_eq_true rfl⟩, (hts _ kt_713), (hts _ kt_714)⟩ ⟨fun a U g mk q => ⟨q.1, PTm.calling q.2⟩, pg_recv hK hP hL_pl hp2 (q := (RX14, TX14, 2)) rfl, fun U hU hWm => ⟨rfl, PTm.mk hU hWm hP hK hD hE hO⟩⟩ rfl rfl hl.1 rfl (lv_room (Nat.le_of_ble_eq_true rfl)) dX15_fieldPlain_217 ⟨by show _ + 0 ≤ 0; omega, by show _ + 0 ≤ 0; omega⟩) hS (fun q _ h => hFc q h) hFc (fun u t H1 locs ht hvm hw hB hz1 hk1 hS => ?_)
              obtain ⟨F_115, hB1, hq_116⟩ := hB
              obtain ⟨hP, hD, hO, hR⟩ := QTm.back hB1 ht hFc hR (fun q h => by simp only [List.mem_cons, List.not_mem_nil, or_false] at h ⊢; omega)
              have hF_117 : F_115 ml = .inl (cs 17, 3000, .inl gl) := (hB1.2.2.2 ml (by rw [ht_32]; simp)).trans hF_96
              have hF_118 : F_115 h0 = .inr (15, (.ref ta) :: (.int (nI zt)) :: (.int (nI zo)) :: (.int (nI ze)) :: (.ref ou) :: (.ref so) :: (.ref ad) :: (.ref na) :: (.ref va) :: (.ref lc) :: (.ref dm) :: (.int (nI fm)) :: (.int (nI sn)) :: (.ref tg) :: (.int v14_35) :: (.int v15_36) :: (.ref pe) :: (.int v17_37) :: (.int v18_38) :: (.int v19_39) :: (.int v20_40) :: (.int v21_41) :: (.int v22_42) :: (.ref ml) :: (.ref bg) :: (.ref co) :: (.ref sp) :: (.ref nb0) :: (.ref nb1) :: (.ref nb2) :: (.int (nI nf)) :: (.int (nI bd)) :: (.int (nI mm)) :: (.int v33_43) :: (.ref pl) :: (.ref se) :: (.ref ke) :: (.ref wi) :: (.ref hs) :: (.ref mo) :: (.ref po) :: (.ref nu) :: (.ref pr) :: (.ref sq) :: (.ref xa) :: (.ref sa) :: (.ref n64) :: (.ref m64) :: (.ref ex) :: (.ref wh) :: (.ref sd) :: (.ref tk) :: (.int v52_44) :: (.int v53_45) :: (.int v54_46) :: (.ref hd) :: (.ref ak) :: (.ref ho) :: (.ref ot) :: []) := (hB1.2.2.2 h0 (by rw [hT_h0]; simp)).trans hF_97
              have hF_119 : F_115 bg = .inl (cs 16, 21, .inl f_58) := (hB1.2.2.2 bg (by rw [ht_57]; simp)).trans hF_98
              have hF_120 : F_115 co = .inl (cs 16, 21, .inl f_73) := (hB1.2.2.2 co (by rw [ht_72]; simp)).trans hF_99
              generalize H1 = H at hP hS ⊢
              refine lv_iinc (v := (nI (i + 1))) (lv' := [(8, .int (nI (i + 1))), (6, .int 1), (7, .int 0), (5, .int (nI kd)), (0, .ref h0), (1, .int (nI jf)), (2, .int x2), (3, .int 0), (4, .int 0)]) hx hb dX15_fieldPlain_220 hl (k := 2) rfl (nI_1 _) (by decide) rfl (fun ls hl => ?_)
              refine lv_goto (tgt := 127) hx hb dX15_fieldPlain_223 (by decide) ?_
              refine W.widen (k := 0) (n := 0) (by omega) (by omega) ?_
              exact ih_95 ((i + 1), 1, 0, (aa ++ [(0, i)])) F_115 (⟨⟨by omega, by omega⟩, Or.inr rfl, by rw [len1]; omega, Or.inl rfl, (by rw [wv_z]; exact rv_a hp6 hib (clg0n c_106) (clg1n (ifb0 hw_110 c_111)) (by rw [c_112]; exact wv_z)), (by rw [len1]; exact hq_116)⟩) (by show kd - (i + 1) < kd - i; omega) hO hR _ _ hP hD hS ls (lv_sub hl [0, 2, 1, 3, 4, 5, 6, 7, 8] rfl)
            ·
              have hz9 := hp5.resolve_left c_112
              refine lv_iload hx hb dX15_fieldPlain_186 (lv_at hl 2 rfl) ?_
              refine lv_if_eq (tgt := 200) hx hb dX15_fieldPlain_188 (by decide) (fun c_121 => ?_) (fun c_121 => ?_)
              ·
                refine lv_iconst (v := 0) hx hb dX15_fieldPlain_200 (by decide) ?_
                refine lv_istore (lv' := [(7, .int 0), (8, .int (nI i)), (6, .int w6), (5, .int (nI kd)), (0, .ref h0), (1, .int (nI jf)), (2, .int x2), (3, .int 0), (4, .int 0)]) hx hb dX15_fieldPlain_201 hl (by decide) rfl (fun ls hl => ?_)
                refine lv_iconst (v := 1) hx hb dX15_fieldPlain_203 (by decide) ?_
                refine lv_istore (lv' := [(6, .int 1), (7, .int 0), (8, .int (nI i)), (5, .int (nI kd)), (0, .ref h0), (1, .int (nI jf)), (2, .int x2), (3, .int 0), (4, .int 0)]) hx hb dX15_fieldPlain_204 hl (by decide) rfl (fun ls hl => ?_)
                refine lv_aload_n hx hb dX15_fieldPlain_206 rfl (lv_at hl 4 rfl) ?_
                refine pg_get (ci := 15) (v := .ref pl) (C := RX15) (T := TX15) (N := 59) hx hb hts it_15 hown hK hP hL_h0 hF_97 rfl 34 (by decide) (hts _ kt_901) (fun _ h9 => h9) rfl dX15_fieldPlain_207 ?_
                refine lv_aload_n hx hb dX15_fieldPlain_210 rfl (lv_at hl 4 rfl) ?_
                refine pg_get (ci := 15) (v := .ref ml) (C := RX15) (T := TX15) (N := 59) hx hb hts it_15 hown hK hP hL_h0 hF_97 rfl 23 (by decide) (hts _ kt_887) (fun _ h9 => h9) rfl dX15_fieldPlain_211 ?_
                refine lv_iload hx hb dX15_fieldPlain_214 (lv_at hl 2 rfl) ?_
                refine pg_bald hx hb hK hP hi_31 1 hF_96 rfl (vp_in_nI (by omega) (by omega)) dX15_fieldPlain_216 ?_
                refine lv_topi (fun x_122 ex_122 => ?_)
                obtain rfl : x_122 = gl i := ex_122.trans (congrArg gl (show ((nI i) : Int32).toNatClampNeg = i from nI_clamp (by omega)))
                have hFc := pg_free hD hS hA
                refine va_callv (va_runV (As := [.int (gl i)]) (rest := []) ⟨hx, hb, hml, hown, hts⟩ (s_X14_add l dC dI cs ty gm L H.size F_89 pl (ρ + 10) rl 6000 aa.length (gl i) hW hL_pl hT_pl hp2 (by first | omega | assumption | exact Or.inl rfl)) ⟨callB_of 1 hts (gi kt_711) rfl rfl rfl (hts _ kt_676) (hts _ kt_712) (by decide +kernel) ⟨Nat.le_of_ble_eq_true rfl, Nat.le_of_ble_eq_true rfl⟩, (hts _ kt_713), (hts _ kt_714)⟩ ⟨fun a U g mk q => ⟨q.1, PTm.calling q.2⟩, pg_recv hK hP hL_pl hp2 (q := (RX14, TX14, 2)) rfl, fun U hU hWm => ⟨rfl, PTm.mk hU hWm hP hK hD hE hO⟩⟩ rfl rfl hl.1 rfl (lv_room (Nat.le_of_ble_eq_true rfl)) dX15_fieldPlain_217 ⟨by show _ + 0 ≤ 0; omega, by show _ + 0 ≤ 0; omega⟩) hS (fun q _ h => hFc q h) hFc (fun u t H1 locs ht hvm hw hB hz1 hk1 hS => ?_)
                obtain ⟨F_124, hB1, hq_125⟩ := hB
                obtain ⟨hP, hD, hO, hR⟩ := QTm.back hB1 ht hFc hR (fun q h => by simp only [List.mem_cons, List.not_mem_nil, or_false] at h ⊢; omega)
                have hF_126 : F_124 ml = .inl (cs 17, 3000, .inl gl) := (hB1.2.2.2 ml (by rw [ht_32]; simp)).trans hF_96
                have hF_127 : F_124 h0 = .inr (15, (.ref ta) :: (.int (nI zt)) :: (.int (nI zo)) :: (.int (nI ze)) :: (.ref ou) :: (.ref so) :: (.ref ad) :: (.ref na) :: (.ref va) :: (.ref lc) :: (.ref dm) :: (.int (nI fm)) :: (.int (nI sn)) :: (.ref tg) :: (.int v14_35) :: (.int v15_36) :: (.ref pe) :: (.int v17_37) :: (.int v18_38) :: (.int v19_39) :: (.int v20_40) :: (.int v21_41) :: (.int v22_42) :: (.ref ml) :: (.ref bg) :: (.ref co) :: (.ref sp) :: (.ref nb0) :: (.ref nb1) :: (.ref nb2) :: (.int (nI nf)) :: (.int (nI bd)) :: (.int (nI mm)) :: (.int v33_43) :: (.ref pl) :: (.ref se) :: (.ref ke) :: (.ref wi) :: (.ref hs) :: (.ref mo) :: (.ref po) :: (.ref nu) :: (.ref pr) :: (.ref sq) :: (.ref xa) :: (.ref sa) :: (.ref n64) :: (.ref m64) :: (.ref ex) :: (.ref wh) :: (.ref sd) :: (.ref tk) :: (.int v52_44) :: (.int v53_45) :: (.int v54_46) :: (.ref hd) :: (.ref ak) :: (.ref ho) :: (.ref ot) :: []) := (hB1.2.2.2 h0 (by rw [hT_h0]; simp)).trans hF_97
                have hF_128 : F_124 bg = .inl (cs 16, 21, .inl f_58) := (hB1.2.2.2 bg (by rw [ht_57]; simp)).trans hF_98
                have hF_129 : F_124 co = .inl (cs 16, 21, .inl f_73) := (hB1.2.2.2 co (by rw [ht_72]; simp)).trans hF_99
                generalize H1 = H at hP hS ⊢
                refine lv_iinc (v := (nI (i + 1))) (lv' := [(8, .int (nI (i + 1))), (6, .int 1), (7, .int 0), (5, .int (nI kd)), (0, .ref h0), (1, .int (nI jf)), (2, .int x2), (3, .int 0), (4, .int 0)]) hx hb dX15_fieldPlain_220 hl (k := 2) rfl (nI_1 _) (by decide) rfl (fun ls hl => ?_)
                refine lv_goto (tgt := 127) hx hb dX15_fieldPlain_223 (by decide) ?_
                refine W.widen (k := 0) (n := 0) (by omega) (by omega) ?_
                exact ih_95 ((i + 1), 1, 0, (aa ++ [(0, i)])) F_124 (⟨⟨by omega, by omega⟩, Or.inr rfl, by rw [len1]; omega, Or.inl rfl, (by rw [wv_z]; exact rv_a hp6 hib (clg0n c_106) (clg1n (ifb0 hw_110 c_111)) (wv_0 c_121)), (by rw [len1]; exact hq_125)⟩) (by show kd - (i + 1) < kd - i; omega) hO hR _ _ hP hD hS ls (lv_sub hl [0, 2, 1, 3, 4, 5, 6, 7, 8] rfl)
              ·
                refine lv_aload_n hx hb dX15_fieldPlain_191 rfl (lv_at hl 4 rfl) ?_
                refine pg_get (ci := 15) (v := .ref pl) (C := RX15) (T := TX15) (N := 59) hx hb hts it_15 hown hK hP hL_h0 hF_97 rfl 34 (by decide) (hts _ kt_901) (fun _ h9 => h9) rfl dX15_fieldPlain_192 ?_
                refine lv_bipush (v := 32) hx hb dX15_fieldPlain_195 (by decide) ?_
                have hFc := pg_free hD hS hA
                refine va_callv (va_runV (As := [.int 32]) (rest := []) ⟨hx, hb, hml, hown, hts⟩ (s_X14_add l dC dI cs ty gm L H.size F_89 pl (ρ + 10) rl 6000 aa.length 32 hW hL_pl hT_pl hp2 (by first | omega | assumption | exact Or.inl rfl)) ⟨callB_of 1 hts (gi kt_711) rfl rfl rfl (hts _ kt_676) (hts _ kt_712) (by decide +kernel) ⟨Nat.le_of_ble_eq_true rfl, Nat.le_of_ble_eq_true rfl⟩, (hts _ kt_713), (hts _ kt_714)⟩ ⟨fun a U g mk q => ⟨q.1, PTm.calling q.2⟩, pg_recv hK hP hL_pl hp2 (q := (RX14, TX14, 2)) rfl, fun U hU hWm => ⟨rfl, PTm.mk hU hWm hP hK hD hE hO⟩⟩ rfl rfl hl.1 rfl (lv_room (Nat.le_of_ble_eq_true rfl)) dX15_fieldPlain_197 ⟨by show _ + 0 ≤ 0; omega, by show _ + 0 ≤ 0; omega⟩) hS (fun q _ h => hFc q h) hFc (fun u t H1 locs ht hvm hw hB hz1 hk1 hS => ?_)
                obtain ⟨F_131, hB1, hq_132⟩ := hB
                obtain ⟨hP, hD, hO, hR⟩ := QTm.back hB1 ht hFc hR (fun q h => by simp only [List.mem_cons, List.not_mem_nil, or_false] at h ⊢; omega)
                have hF_133 : F_131 ml = .inl (cs 17, 3000, .inl gl) := (hB1.2.2.2 ml (by rw [ht_32]; simp)).trans hF_96
                have hF_134 : F_131 h0 = .inr (15, (.ref ta) :: (.int (nI zt)) :: (.int (nI zo)) :: (.int (nI ze)) :: (.ref ou) :: (.ref so) :: (.ref ad) :: (.ref na) :: (.ref va) :: (.ref lc) :: (.ref dm) :: (.int (nI fm)) :: (.int (nI sn)) :: (.ref tg) :: (.int v14_35) :: (.int v15_36) :: (.ref pe) :: (.int v17_37) :: (.int v18_38) :: (.int v19_39) :: (.int v20_40) :: (.int v21_41) :: (.int v22_42) :: (.ref ml) :: (.ref bg) :: (.ref co) :: (.ref sp) :: (.ref nb0) :: (.ref nb1) :: (.ref nb2) :: (.int (nI nf)) :: (.int (nI bd)) :: (.int (nI mm)) :: (.int v33_43) :: (.ref pl) :: (.ref se) :: (.ref ke) :: (.ref wi) :: (.ref hs) :: (.ref mo) :: (.ref po) :: (.ref nu) :: (.ref pr) :: (.ref sq) :: (.ref xa) :: (.ref sa) :: (.ref n64) :: (.ref m64) :: (.ref ex) :: (.ref wh) :: (.ref sd) :: (.ref tk) :: (.int v52_44) :: (.int v53_45) :: (.int v54_46) :: (.ref hd) :: (.ref ak) :: (.ref ho) :: (.ref ot) :: []) := (hB1.2.2.2 h0 (by rw [hT_h0]; simp)).trans hF_97
                have hF_135 : F_131 bg = .inl (cs 16, 21, .inl f_58) := (hB1.2.2.2 bg (by rw [ht_57]; simp)).trans hF_98
                have hF_136 : F_131 co = .inl (cs 16, 21, .inl f_73) := (hB1.2.2.2 co (by rw [ht_72]; simp)).trans hF_99
                generalize H1 = H at hP hS ⊢
                refine lv_iconst (v := 0) hx hb dX15_fieldPlain_200 (by decide) ?_
                refine lv_istore (lv' := [(7, .int 0), (8, .int (nI i)), (6, .int w6), (5, .int (nI kd)), (0, .ref h0), (1, .int (nI jf)), (2, .int x2), (3, .int 0), (4, .int 0)]) hx hb dX15_fieldPlain_201 hl (by decide) rfl (fun ls hl => ?_)
                refine lv_iconst (v := 1) hx hb dX15_fieldPlain_203 (by decide) ?_
                refine lv_istore (lv' := [(6, .int 1), (7, .int 0), (8, .int (nI i)), (5, .int (nI kd)), (0, .ref h0), (1, .int (nI jf)), (2, .int x2), (3, .int 0), (4, .int 0)]) hx hb dX15_fieldPlain_204 hl (by decide) rfl (fun ls hl => ?_)
                refine lv_aload_n hx hb dX15_fieldPlain_206 rfl (lv_at hl 4 rfl) ?_
                refine pg_get (ci := 15) (v := .ref pl) (C := RX15) (T := TX15) (N := 59) hx hb hts it_15 hown hK hP hL_h0 hF_134 rfl 34 (by decide) (hts _ kt_901) (fun _ h9 => h9) rfl dX15_fieldPlain_207 ?_
                refine lv_aload_n hx hb dX15_fieldPlain_210 rfl (lv_at hl 4 rfl) ?_
                refine pg_get (ci := 15) (v := .ref ml) (C := RX15) (T := TX15) (N := 59) hx hb hts it_15 hown hK hP hL_h0 hF_134 rfl 23 (by decide) (hts _ kt_887) (fun _ h9 => h9) rfl dX15_fieldPlain_211 ?_
                refine lv_iload hx hb dX15_fieldPlain_214 (lv_at hl 2 rfl) ?_
                refine pg_bald hx hb hK hP hi_31 1 hF_133 rfl (vp_in_nI (by omega) (by omega)) dX15_fieldPlain_216 ?_
                refine lv_topi (fun x_137 ex_137 => ?_)
                obtain rfl : x_137 = gl i := ex_137.trans (congrArg gl (show ((nI i) : Int32).toNatClampNeg = i from nI_clamp (by omega)))
                have hFc := pg_free hD hS hA
                refine va_callv (va_runV (As := [.int (gl i)]) (rest := []) ⟨hx, hb, hml, hown, hts⟩ (s_X14_add l dC dI cs ty gm L H.size F_131 pl (ρ + 10) rl 6000 (aa.length + 1) (gl i) hW hL_pl hT_pl hq_132 (by first | omega | assumption | exact Or.inl rfl)) ⟨callB_of 1 hts (gi kt_711) rfl rfl rfl (hts _ kt_676) (hts _ kt_712) (by decide +kernel) ⟨Nat.le_of_ble_eq_true rfl, Nat.le_of_ble_eq_true rfl⟩, (hts _ kt_713), (hts _ kt_714)⟩ ⟨fun a U g mk q => ⟨q.1, PTm.calling q.2⟩, pg_recv hK hP hL_pl hq_132 (q := (RX14, TX14, 2)) rfl, fun U hU hWm => ⟨rfl, PTm.mk hU hWm hP hK hD hE hO⟩⟩ rfl rfl hl.1 rfl (lv_room (Nat.le_of_ble_eq_true rfl)) dX15_fieldPlain_217 ⟨by show _ + 0 ≤ 0; omega, by show _ + 0 ≤ 0; omega⟩) hS (fun q _ h => hFc q h) hFc (fun u t H1 locs ht hvm hw hB hz1 hk1 hS => ?_)
                obtain ⟨F_139, hB1, hq_140⟩ := hB
                obtain ⟨hP, hD, hO, hR⟩ := QTm.back hB1 ht hFc hR (fun q h => by simp only [List.mem_cons, List.not_mem_nil, or_false] at h ⊢; omega)
                have hF_141 : F_139 ml = .inl (cs 17, 3000, .inl gl) := (hB1.2.2.2 ml (by rw [ht_32]; simp)).trans hF_133
                have hF_142 : F_139 h0 = .inr (15, (.ref ta) :: (.int (nI zt)) :: (.int (nI zo)) :: (.int (nI ze)) :: (.ref ou) :: (.ref so) :: (.ref ad) :: (.ref na) :: (.ref va) :: (.ref lc) :: (.ref dm) :: (.int (nI fm)) :: (.int (nI sn)) :: (.ref tg) :: (.int v14_35) :: (.int v15_36) :: (.ref pe) :: (.int v17_37) :: (.int v18_38) :: (.int v19_39) :: (.int v20_40) :: (.int v21_41) :: (.int v22_42) :: (.ref ml) :: (.ref bg) :: (.ref co) :: (.ref sp) :: (.ref nb0) :: (.ref nb1) :: (.ref nb2) :: (.int (nI nf)) :: (.int (nI bd)) :: (.int (nI mm)) :: (.int v33_43) :: (.ref pl) :: (.ref se) :: (.ref ke) :: (.ref wi) :: (.ref hs) :: (.ref mo) :: (.ref po) :: (.ref nu) :: (.ref pr) :: (.ref sq) :: (.ref xa) :: (.ref sa) :: (.ref n64) :: (.ref m64) :: (.ref ex) :: (.ref wh) :: (.ref sd) :: (.ref tk) :: (.int v52_44) :: (.int v53_45) :: (.int v54_46) :: (.ref hd) :: (.ref ak) :: (.ref ho) :: (.ref ot) :: []) := (hB1.2.2.2 h0 (by rw [hT_h0]; simp)).trans hF_134
                have hF_143 : F_139 bg = .inl (cs 16, 21, .inl f_58) := (hB1.2.2.2 bg (by rw [ht_57]; simp)).trans hF_135
                have hF_144 : F_139 co = .inl (cs 16, 21, .inl f_73) := (hB1.2.2.2 co (by rw [ht_72]; simp)).trans hF_136
                generalize H1 = H at hP hS ⊢
                refine lv_iinc (v := (nI (i + 1))) (lv' := [(8, .int (nI (i + 1))), (6, .int 1), (7, .int 0), (5, .int (nI kd)), (0, .ref h0), (1, .int (nI jf)), (2, .int x2), (3, .int 0), (4, .int 0)]) hx hb dX15_fieldPlain_220 hl (k := 2) rfl (nI_1 _) (by decide) rfl (fun ls hl => ?_)
                refine lv_goto (tgt := 127) hx hb dX15_fieldPlain_223 (by decide) ?_
                refine W.widen (k := 0) (n := 0) (by omega) (by omega) ?_
                exact ih_95 ((i + 1), 1, 0, (aa ++ [(2, 32)] ++ [(0, i)])) F_139 (⟨⟨by omega, by omega⟩, Or.inr rfl, by rw [len1, len1]; have h9 := hp5.resolve_left c_112; omega, Or.inl rfl, (by rw [wv_z]; exact rv_b hp6 hib (clg0n c_106) (clg1n (ifb0 hw_110 c_111)) (by rw [wv_n c_121]; exact c_112)), (by rw [len1, len1]; exact hq_140)⟩) (by show kd - (i + 1) < kd - i; omega) hO hR _ _ hP hD hS ls (lv_sub hl [0, 2, 1, 3, 4, 5, 6, 7, 8] rfl)
          ·
            refine lv_iconst (v := 1) hx hb dX15_fieldPlain_175 (by decide) ?_
            refine lv_istore (lv' := [(7, .int 1), (8, .int (nI i)), (6, .int w6), (5, .int (nI kd)), (0, .ref h0), (1, .int (nI jf)), (2, .int x2), (3, .int 0), (4, .int 0)]) hx hb dX15_fieldPlain_176 hl (by decide) rfl (fun ls hl => ?_)
            refine lv_goto (tgt := 220) hx hb dX15_fieldPlain_178 (by decide) ?_
            refine lv_iinc (v := (nI (i + 1))) (lv' := [(8, .int (nI (i + 1))), (7, .int 1), (6, .int w6), (5, .int (nI kd)), (0, .ref h0), (1, .int (nI jf)), (2, .int x2), (3, .int 0), (4, .int 0)]) hx hb dX15_fieldPlain_220 hl (k := 1) rfl (nI_1 _) (by decide) rfl (fun ls hl => ?_)
            refine lv_goto (tgt := 127) hx hb dX15_fieldPlain_223 (by decide) ?_
            refine W.widen (k := 0) (n := 0) (by omega) (by omega) ?_
            exact ih_95 ((i + 1), w6, 1, aa) F_89 (⟨⟨by omega, by omega⟩, hp3, by omega, Or.inr (by omega), (by rw [wv_1 hp3]; exact rv_1 hp6 hib (clg1 (ifb1 hw_110 c_111))), hp2⟩) (by show kd - (i + 1) < kd - i; omega) hO hR _ _ hP hD hS ls (lv_sub hl [0, 1, 2, 3, 4, 5, 6, 7, 8] rfl)
        ·
          refine lv_goto (tgt := 220) hx hb dX15_fieldPlain_159 (by decide) ?_
          refine lv_iinc (v := (nI (i + 1))) (lv' := [(8, .int (nI (i + 1))), (7, .int w7), (6, .int w6), (5, .int (nI kd)), (0, .ref h0), (1, .int (nI jf)), (2, .int x2), (3, .int 0), (4, .int 0)]) hx hb dX15_fieldPlain_220 hl (k := 0) rfl (nI_1 _) (by decide) rfl (fun ls hl => ?_)
          refine lv_goto (tgt := 127) hx hb dX15_fieldPlain_223 (by decide) ?_
          refine W.widen (k := 0) (n := 0) (by omega) (by omega) ?_
          exact ih_95 ((i + 1), w6, w7, aa) F_89 (⟨⟨by omega, by omega⟩, hp3, by omega, by rcases hp5 with q | q; exact Or.inl q; exact Or.inr (by omega), rv_0 hp6 hib (clg0 c_106), hp2⟩) (by show kd - (i + 1) < kd - i; omega) hO hR _ _ hP hD hS ls (lv_sub hl [0, 1, 2, 3, 4, 5, 6, 7, 8] rfl)
    ·
      have hi_145 : j < (gm 1 jf) := ltN (N := (gm 1 jf)) c_77
      refine lv_aload_n hx hb dX15_fieldPlain_79 rfl (lv_at hl 2 rfl) ?_
      refine pg_get (ci := 15) (v := .ref pl) (C := RX15) (T := TX15) (N := 59) hx hb hts it_15 hown hK hP hL_h0 hF_69 rfl 34 (by decide) (hts _ kt_901) (fun _ h9 => h9) rfl dX15_fieldPlain_80 ?_
      refine lv_aload_n hx hb dX15_fieldPlain_83 rfl (lv_at hl 2 rfl) ?_
      refine pg_get (ci := 15) (v := .ref ml) (C := RX15) (T := TX15) (N := 59) hx hb hts it_15 hown hK hP hL_h0 hF_69 rfl 23 (by decide) (hts _ kt_887) (fun _ h9 => h9) rfl dX15_fieldPlain_84 ?_
      refine lv_iload hx hb dX15_fieldPlain_87 (lv_at hl 0 rfl) ?_
      refine pg_bald hx hb hK hP hi_31 1 hF_68 rfl (vp_in_nI (by omega) (by omega)) dX15_fieldPlain_89 ?_
      refine lv_topi (fun x_146 ex_146 => ?_)
      obtain rfl : x_146 = gl j := ex_146.trans (congrArg gl (show ((nI j) : Int32).toNatClampNeg = j from nI_clamp (by omega)))
      have hFc := pg_free hD hS hA
      refine va_calli (va_runS (As := [.int (gl j)]) (rest := [.ref pl]) ⟨hx, hb, hml, hown, hts⟩ (s_X15_small_e l dC dI cs ty gm L H.size F_62 (gl j) hW ) ⟨callB_of 1 hts (gi kt_697) rfl rfl rfl (hts _ kt_669) (hts _ kt_698) (by decide +kernel) ⟨Nat.le_of_ble_eq_true rfl, Nat.le_of_ble_eq_true rfl⟩, (hts _ kt_699)⟩ ⟨fun a U g mk q => ⟨q.1, PTm.calling q.2⟩, fun U hU hWm => ⟨rfl, PTm.mk hU hWm hP hK hD hE hO⟩⟩ rfl rfl hl.1 rfl (lv_room (Nat.le_of_ble_eq_true rfl)) dX15_fieldPlain_90 ⟨by show _ + 0 ≤ 0; omega, by show _ + 0 ≤ 0; omega⟩) hS (fun q _ h => hFc q h) hFc (fun r_147 u t H1 locs ht hvm hw hB hz1 hk1 hS => ?_)
      obtain ⟨F_148, hB1⟩ := hB
      obtain rfl : F_62 = F_148 := (funext (fun a => hB1.2.2.2 a List.not_mem_nil)).symm
      obtain ⟨hP, hD, hO, hR⟩ := QTm.back hB1 ht hFc hR (fun q h => absurd h List.not_mem_nil)
      generalize H1 = H at hP hS ⊢
      have hw : r_147 = smv (gl j) := hw
      subst hw
      have hFc := pg_free hD hS hA
      refine va_callv (va_runV (As := [.int (smv (gl j))]) (rest := []) ⟨hx, hb, hml, hown, hts⟩ (s_X14_add l dC dI cs ty gm L H.size F_62 pl (ρ + 10) rl 6000 (j - gm 0 jf) (smv (gl j)) hW hL_pl hT_pl hp2 (by first | omega | assumption | exact Or.inl rfl)) ⟨callB_of 1 hts (gi kt_711) rfl rfl rfl (hts _ kt_676) (hts _ kt_712) (by decide +kernel) ⟨Nat.le_of_ble_eq_true rfl, Nat.le_of_ble_eq_true rfl⟩, (hts _ kt_713), (hts _ kt_714)⟩ ⟨fun a U g mk q => ⟨q.1, PTm.calling q.2⟩, pg_recv hK hP hL_pl hp2 (q := (RX14, TX14, 2)) rfl, fun U hU hWm => ⟨rfl, PTm.mk hU hWm hP hK hD hE hO⟩⟩ rfl rfl hl.1 rfl (lv_room (Nat.le_of_ble_eq_true rfl)) dX15_fieldPlain_93 ⟨by show _ + 0 ≤ 0; omega, by show _ + 0 ≤ 0; omega⟩) hS (fun q _ h => hFc q h) hFc (fun u t H1 locs ht hvm hw hB hz1 hk1 hS => ?_)
      obtain ⟨F_150, hB1, hq_151⟩ := hB
      obtain ⟨hP, hD, hO, hR⟩ := QTm.back hB1 ht hFc hR (fun q h => by simp only [List.mem_cons, List.not_mem_nil, or_false] at h ⊢; omega)
      have hF_152 : F_150 ml = .inl (cs 17, 3000, .inl gl) := (hB1.2.2.2 ml (by rw [ht_32]; simp)).trans hF_68
      have hF_153 : F_150 h0 = .inr (15, (.ref ta) :: (.int (nI zt)) :: (.int (nI zo)) :: (.int (nI ze)) :: (.ref ou) :: (.ref so) :: (.ref ad) :: (.ref na) :: (.ref va) :: (.ref lc) :: (.ref dm) :: (.int (nI fm)) :: (.int (nI sn)) :: (.ref tg) :: (.int v14_35) :: (.int v15_36) :: (.ref pe) :: (.int v17_37) :: (.int v18_38) :: (.int v19_39) :: (.int v20_40) :: (.int v21_41) :: (.int v22_42) :: (.ref ml) :: (.ref bg) :: (.ref co) :: (.ref sp) :: (.ref nb0) :: (.ref nb1) :: (.ref nb2) :: (.int (nI nf)) :: (.int (nI bd)) :: (.int (nI mm)) :: (.int v33_43) :: (.ref pl) :: (.ref se) :: (.ref ke) :: (.ref wi) :: (.ref hs) :: (.ref mo) :: (.ref po) :: (.ref nu) :: (.ref pr) :: (.ref sq) :: (.ref xa) :: (.ref sa) :: (.ref n64) :: (.ref m64) :: (.ref ex) :: (.ref wh) :: (.ref sd) :: (.ref tk) :: (.int v52_44) :: (.int v53_45) :: (.int v54_46) :: (.ref hd) :: (.ref ak) :: (.ref ho) :: (.ref ot) :: []) := (hB1.2.2.2 h0 (by rw [hT_h0]; simp)).trans hF_69
      have hF_154 : F_150 bg = .inl (cs 16, 21, .inl f_58) := (hB1.2.2.2 bg (by rw [ht_57]; simp)).trans hF_70
      have hF_155 : F_150 co = .inl (cs 16, 21, .inl f_73) := (hB1.2.2.2 co (by rw [ht_72]; simp)).trans hF_74
      generalize H1 = H at hP hS ⊢
      refine lv_iinc (v := (nI (j + 1))) (lv' := [(6, .int (nI (j + 1))), (5, .int (nI kd)), (0, .ref h0), (1, .int (nI jf)), (2, .int x2), (3, .int 0), (4, .int 0)]) hx hb dX15_fieldPlain_96 hl (k := 0) rfl (nI_1 _) (by decide) rfl (fun ls hl => ?_)
      refine lv_goto (tgt := 68) hx hb dX15_fieldPlain_99 (by decide) ?_
      refine W.widen (k := 0) (n := 0) (by omega) (by omega) ?_
      exact ih_67 (j + 1) F_150 (⟨⟨by omega, by omega⟩, (by rw [show j + 1 - gm 0 jf = ((j - gm 0 jf) + 1) by omega]; exact hq_151)⟩) (by show gm 1 jf - (j + 1) < gm 1 jf - j; omega) hO hR _ _ hP hD hS ls (lv_sub hl [0, 1, 2, 3, 4, 5, 6] rfl)
  ·
    refine lv_aload_n hx hb dX15_fieldPlain_11 rfl (lv_at hl 1 rfl) ?_
    refine pg_get (ci := 15) (v := .ref bg) (C := RX15) (T := TX15) (N := 59) hx hb hts it_15 hown hK hP hL_h0 hF_47 rfl 24 (by decide) (hts _ kt_888) (fun _ h9 => h9) rfl dX15_fieldPlain_12 ?_
    refine lv_iload_n hx hb dX15_fieldPlain_15 rfl (lv_at hl 2 rfl) ?_
    obtain ⟨hi_156, ht_157⟩ := hW.f_bg hL_h0 hT_h0
    obtain ⟨f_158, hF_159, hq_160⟩ := hO.pos hi_156 ht_157
    refine pg_iald hx hb hK hP hi_156 0 hF_159 rfl (vp_in_nI (by omega) (by omega)) dX15_fieldPlain_16 ?_
    refine lv_topi (fun x_161 ex_161 => ?_)
    obtain rfl : x_161 = (nI (gm 0 jf)) := ex_161.trans (by rw [show ((nI jf) : Int32) = nI jf from rfl, nI_clamp (by omega)]; exact hq_160 jf (by omega))
    have hgbx_161 := hgB 0 jf
    refine lv_istore (lv' := [(6, .int (nI (gm 0 jf))), (5, .int (nI kd)), (0, .ref h0), (1, .int (nI jf)), (2, .int x2), (3, .int 0), (4, .int 0)]) hx hb dX15_fieldPlain_17 hl (by decide) rfl (fun ls hl => ?_)
    refine W.widen (k := 0) (n := 0) (by omega) (by omega) ?_
    have hF_163 : F ml = .inl (cs 17, 3000, .inl gl) := (hR ml (by rw [ht_32]; simp)).symm.trans hFml
    have hF_164 : F h0 = .inr (15, (.ref ta) :: (.int (nI zt)) :: (.int (nI zo)) :: (.int (nI ze)) :: (.ref ou) :: (.ref so) :: (.ref ad) :: (.ref na) :: (.ref va) :: (.ref lc) :: (.ref dm) :: (.int (nI fm)) :: (.int (nI sn)) :: (.ref tg) :: (.int v14_35) :: (.int v15_36) :: (.ref pe) :: (.int v17_37) :: (.int v18_38) :: (.int v19_39) :: (.int v20_40) :: (.int v21_41) :: (.int v22_42) :: (.ref ml) :: (.ref bg) :: (.ref co) :: (.ref sp) :: (.ref nb0) :: (.ref nb1) :: (.ref nb2) :: (.int (nI nf)) :: (.int (nI bd)) :: (.int (nI mm)) :: (.int v33_43) :: (.ref pl) :: (.ref se) :: (.ref ke) :: (.ref wi) :: (.ref hs) :: (.ref mo) :: (.ref po) :: (.ref nu) :: (.ref pr) :: (.ref sq) :: (.ref xa) :: (.ref sa) :: (.ref n64) :: (.ref m64) :: (.ref ex) :: (.ref wh) :: (.ref sd) :: (.ref tk) :: (.int v52_44) :: (.int v53_45) :: (.int v54_46) :: (.ref hd) :: (.ref ak) :: (.ref ho) :: (.ref ot) :: []) := (hR h0 (by rw [hT_h0]; simp)).symm.trans hF_47
    have hF_165 : F bg = .inl (cs 16, 21, .inl f_158) := (hR bg (by rw [ht_157]; simp)).symm.trans hF_159
    refine pl_loopm (σ := Nat) A (dC, dI) cs ty gm L [ρ + 10] F 19 9 (fun j => [(6, .int (nI j)), (5, .int (nI kd)), (0, .ref h0), (1, .int (nI jf)), (2, .int x2), (3, .int 0), (4, .int 0)]) (fun j => []) (fun j FF => (gm 0 jf ≤ j ∧ j ≤ kd) ∧ FF pl = .inr (14, [.ref rl, .int (nI (j - gm 0 jf))])) (fun j => kd - j) ?_ (gm 0 jf) F (⟨⟨by omega, by omega⟩, (by rw [show gm 0 jf - gm 0 jf = 0 by omega]; exact hFl)⟩) hO hR _ _ hP hD hS ls (lv_sub hl [0, 1, 2, 3, 4, 5, 6] rfl)
    rintro j F_162 hv_166 hO hR ih_167 H locs hP hD hS ls hl
    have hl : lv_has ls 9 [(6, .int (nI j)), (5, .int (nI kd)), (0, .ref h0), (1, .int (nI jf)), (2, .int x2), (3, .int 0), (4, .int 0)] := hl
    have hv_166 : (gm 0 jf ≤ j ∧ j ≤ kd) ∧ F_162 pl = .inr (14, [.ref rl, .int (nI (j - gm 0 jf))]) := hv_166
    refine W.eq (g2 := F0 m 19 ls []) rfl ?_
    have hF_168 : F_162 ml = .inl (cs 17, 3000, .inl gl) := (hR ml (by rw [ht_32]; simp)).trans hF_163
    have hF_169 : F_162 h0 = .inr (15, (.ref ta) :: (.int (nI zt)) :: (.int (nI zo)) :: (.int (nI ze)) :: (.ref ou) :: (.ref so) :: (.ref ad) :: (.ref na) :: (.ref va) :: (.ref lc) :: (.ref dm) :: (.int (nI fm)) :: (.int (nI sn)) :: (.ref tg) :: (.int v14_35) :: (.int v15_36) :: (.ref pe) :: (.int v17_37) :: (.int v18_38) :: (.int v19_39) :: (.int v20_40) :: (.int v21_41) :: (.int v22_42) :: (.ref ml) :: (.ref bg) :: (.ref co) :: (.ref sp) :: (.ref nb0) :: (.ref nb1) :: (.ref nb2) :: (.int (nI nf)) :: (.int (nI bd)) :: (.int (nI mm)) :: (.int v33_43) :: (.ref pl) :: (.ref se) :: (.ref ke) :: (.ref wi) :: (.ref hs) :: (.ref mo) :: (.ref po) :: (.ref nu) :: (.ref pr) :: (.ref sq) :: (.ref xa) :: (.ref sa) :: (.ref n64) :: (.ref m64) :: (.ref ex) :: (.ref wh) :: (.ref sd) :: (.ref tk) :: (.int v52_44) :: (.int v53_45) :: (.int v54_46) :: (.ref hd) :: (.ref ak) :: (.ref ho) :: (.ref ot) :: []) := (hR h0 (by rw [hT_h0]; simp)).trans hF_164
    have hF_170 : F_162 bg = .inl (cs 16, 21, .inl f_158) := (hR bg (by rw [ht_157]; simp)).trans hF_165
    obtain ⟨hp1, hp2⟩ := id hv_166
    refine lv_iload hx hb dX15_fieldPlain_19 (lv_at hl 0 rfl) ?_
    refine lv_iload hx hb dX15_fieldPlain_21 (lv_at hl 1 rfl) ?_
    refine lv_icmp_ge (tgt := 59) hx hb dX15_fieldPlain_23 (by decide) (fun c_171 => ?_) (fun c_171 => ?_)
    ·
      have hi_172 : kd ≤ j := leN (N := kd) c_171
      refine W.widen (k := 0) (n := 0) (by omega) (by omega) ?_
      exact W.vret hx hb hr (fun t ht hWm => ⟨⟨(), rfl, trivial, ⟨F_162, QTm.mk ht hP hD hO hR, (by rw [FPL_s c_55, rng_len, show kd - gm 0 jf = (j - gm 0 jf) by omega]; exact hp2)⟩⟩, hS.F ht⟩) hS.2.2 dX15_fieldPlain_59
    ·
      have hi_173 : j < kd := ltN (N := kd) c_171
      refine lv_iload hx hb dX15_fieldPlain_26 (lv_at hl 0 rfl) ?_
      refine lv_iload_n hx hb dX15_fieldPlain_28 rfl (lv_at hl 5 rfl) ?_
      refine lv_icmp_lt (tgt := 39) hx hb dX15_fieldPlain_29 (by decide) (fun c_174 => absurd c_174 (nI_pos (by omega))) (fun c_174 => ?_)
      refine lv_iload hx hb dX15_fieldPlain_32 (lv_at hl 0 rfl) ?_
      refine lv_iload hx hb dX15_fieldPlain_34 (lv_at hl 6 rfl) ?_
      refine lv_icmp_lt (tgt := 53) hx hb dX15_fieldPlain_36 (by decide) (fun c_175 => absurd c_175 (nI_pos (by omega))) (fun c_175 => ?_)
      refine lv_aload_n hx hb dX15_fieldPlain_39 rfl (lv_at hl 2 rfl) ?_
      refine pg_get (ci := 15) (v := .ref pl) (C := RX15) (T := TX15) (N := 59) hx hb hts it_15 hown hK hP hL_h0 hF_169 rfl 34 (by decide) (hts _ kt_901) (fun _ h9 => h9) rfl dX15_fieldPlain_40 ?_
      refine lv_aload_n hx hb dX15_fieldPlain_43 rfl (lv_at hl 2 rfl) ?_
      refine pg_get (ci := 15) (v := .ref ml) (C := RX15) (T := TX15) (N := 59) hx hb hts it_15 hown hK hP hL_h0 hF_169 rfl 23 (by decide) (hts _ kt_887) (fun _ h9 => h9) rfl dX15_fieldPlain_44 ?_
      refine lv_iload hx hb dX15_fieldPlain_47 (lv_at hl 0 rfl) ?_
      refine pg_bald hx hb hK hP hi_31 1 hF_168 rfl (vp_in_nI (by omega) (by omega)) dX15_fieldPlain_49 ?_
      refine lv_topi (fun x_176 ex_176 => ?_)
      obtain rfl : x_176 = gl j := ex_176.trans (congrArg gl (show ((nI j) : Int32).toNatClampNeg = j from nI_clamp (by omega)))
      have hFc := pg_free hD hS hA
      refine va_callv (va_runV (As := [.int (gl j)]) (rest := []) ⟨hx, hb, hml, hown, hts⟩ (s_X14_add l dC dI cs ty gm L H.size F_162 pl (ρ + 10) rl 6000 (j - gm 0 jf) (gl j) hW hL_pl hT_pl hp2 (by first | omega | assumption | exact Or.inl rfl)) ⟨callB_of 1 hts (gi kt_711) rfl rfl rfl (hts _ kt_676) (hts _ kt_712) (by decide +kernel) ⟨Nat.le_of_ble_eq_true rfl, Nat.le_of_ble_eq_true rfl⟩, (hts _ kt_713), (hts _ kt_714)⟩ ⟨fun a U g mk q => ⟨q.1, PTm.calling q.2⟩, pg_recv hK hP hL_pl hp2 (q := (RX14, TX14, 2)) rfl, fun U hU hWm => ⟨rfl, PTm.mk hU hWm hP hK hD hE hO⟩⟩ rfl rfl hl.1 rfl (lv_room (Nat.le_of_ble_eq_true rfl)) dX15_fieldPlain_50 ⟨by show _ + 0 ≤ 0; omega, by show _ + 0 ≤ 0; omega⟩) hS (fun q _ h => hFc q h) hFc (fun u t H1 locs ht hvm hw hB hz1 hk1 hS => ?_)
      obtain ⟨F_178, hB1, hq_179⟩ := hB
      obtain ⟨hP, hD, hO, hR⟩ := QTm.back hB1 ht hFc hR (fun q h => by simp only [List.mem_cons, List.not_mem_nil, or_false] at h ⊢; omega)
      have hF_180 : F_178 ml = .inl (cs 17, 3000, .inl gl) := (hB1.2.2.2 ml (by rw [ht_32]; simp)).trans hF_168
      have hF_181 : F_178 h0 = .inr (15, (.ref ta) :: (.int (nI zt)) :: (.int (nI zo)) :: (.int (nI ze)) :: (.ref ou) :: (.ref so) :: (.ref ad) :: (.ref na) :: (.ref va) :: (.ref lc) :: (.ref dm) :: (.int (nI fm)) :: (.int (nI sn)) :: (.ref tg) :: (.int v14_35) :: (.int v15_36) :: (.ref pe) :: (.int v17_37) :: (.int v18_38) :: (.int v19_39) :: (.int v20_40) :: (.int v21_41) :: (.int v22_42) :: (.ref ml) :: (.ref bg) :: (.ref co) :: (.ref sp) :: (.ref nb0) :: (.ref nb1) :: (.ref nb2) :: (.int (nI nf)) :: (.int (nI bd)) :: (.int (nI mm)) :: (.int v33_43) :: (.ref pl) :: (.ref se) :: (.ref ke) :: (.ref wi) :: (.ref hs) :: (.ref mo) :: (.ref po) :: (.ref nu) :: (.ref pr) :: (.ref sq) :: (.ref xa) :: (.ref sa) :: (.ref n64) :: (.ref m64) :: (.ref ex) :: (.ref wh) :: (.ref sd) :: (.ref tk) :: (.int v52_44) :: (.int v53_45) :: (.int v54_46) :: (.ref hd) :: (.ref ak) :: (.ref ho) :: (.ref ot) :: []) := (hB1.2.2.2 h0 (by rw [hT_h0]; simp)).trans hF_169
      have hF_182 : F_178 bg = .inl (cs 16, 21, .inl f_158) := (hB1.2.2.2 bg (by rw [ht_157]; simp)).trans hF_170
      generalize H1 = H at hP hS ⊢
      refine lv_iinc (v := (nI (j + 1))) (lv' := [(6, .int (nI (j + 1))), (5, .int (nI kd)), (0, .ref h0), (1, .int (nI jf)), (2, .int x2), (3, .int 0), (4, .int 0)]) hx hb dX15_fieldPlain_53 hl (k := 0) rfl (nI_1 _) (by decide) rfl (fun ls hl => ?_)
      refine lv_goto (tgt := 19) hx hb dX15_fieldPlain_56 (by decide) ?_
      refine W.widen (k := 0) (n := 0) (by omega) (by omega) ?_
      exact ih_167 (j + 1) F_178 (⟨⟨by omega, by omega⟩, (by rw [show j + 1 - gm 0 jf = ((j - gm 0 jf) + 1) by omega]; exact hq_179)⟩) (by show kd - (j + 1) < kd - j; omega) hO hR _ _ hP hD hS ls (lv_sub hl [0, 1, 2, 3, 4, 5, 6] rfl)
theorem rvl_len (T : Nat → Nat) : ∀ (k i : Nat) (x w : Int32), (rvl T k i x w).length ≤ k + (if w = 0 then 0 else 1) := by
  intro k
  induction k with
  | zero => intro i x w; exact Nat.zero_le _
  | succ k ih =>
    intro i x w
    rw [rvl_s]
    have a1 := ih (i + 1) x w
    have a2 := ih (i + 1) x x
    have a3 := ih (i + 1) 1 0
    rw [if_pos rfl] at a3
    by_cases c0 : T i = 0
    · rw [if_pos c0]
      omega
    rw [if_neg c0]
    by_cases c1 : T i = 1
    · rw [if_pos c1]
      have a4 : (if x = 0 then 0 else 1) ≤ 1 := by split <;> omega
      omega
    rw [if_neg c1, List.length_append, List.length_cons]
    by_cases c2 : w = 0
    · rw [if_pos c2, if_pos c2]
      show 0 + _ ≤ _
      omega
    · rw [if_neg c2, if_neg c2]
      show 1 + _ ≤ _
      omega
theorem FPL_len {T : Nat → Nat} {x : Int32} {b c d : Nat} (h1 : b < c) (h2 : c < d) : (FPL T x b c d).length ≤ d - b := by
  by_cases h : x = 0
  · rw [FPL_s h, rng_len]
    omega
  · rw [FPL_r h, List.length_append, len1, rng_len]
    have a1 := rvl_len T (d - (c + 1)) (c + 1) 0 0
    rw [if_pos rfl] at a1
    omega
theorem in_pf0 {x1 r : Int32} {n : Nat} (hn : n ≤ 20) (hr : r = (if (0 : Int64) ≤ x1.toInt64 ∧ x1.toInt64 ≤ (nI n - 1).toInt64 then 1 else 0)) (c : r = 0) : ¬ (¬ x1 < 0 ∧ x1 < nI n) := fun q => by
  have h : (0 : Int64) ≤ x1.toInt64 ∧ x1.toInt64 ≤ (nI n - 1).toInt64 := by
    have q1 := q.1
    have q2 := q.2
    rw [Int32.lt_iff_toInt_lt, show (0 : Int32).toInt = 0 from by decide] at q1
    rw [Int32.lt_iff_toInt_lt, nI_toInt (by omega)] at q2
    rw [Int64.le_iff_toInt_le, Int64.le_iff_toInt_le, Int32.toInt_toInt64, Int32.toInt_toInt64, show (1 : Int32) = nI 1 from rfl, pk_sub_toInt (by omega) (by omega), show (0 : Int64).toInt = 0 from by decide]
    omega
  rw [if_pos h] at hr
  rw [hr] at c
  exact absurd c (by decide)
