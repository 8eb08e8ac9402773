noncomputable def hoM (D : Nat → ETY) (ze : Nat) (V : List Nat) : List Nat := rgL V (hsM D ze V) (V.length - hsM D ze V)
def ALGm (D : Nat → ETY) (ze : Nat) (x : Int32) (U V : List Nat) : Prop := (¬ x = 0 ∧ U = V) ∨ (x = 0 ∧ hoM D ze U = hoM D ze V)
theorem rtf_reg {ty ty2 : TyM} {h0 ρ a : Nat} {im im2 : List Nat} (hty : ty2 = rtf ty h0 (15, ρ, im2)) (hT : ty h0 = (15, ρ, im)) : (ty2 a).2.1 = (ty a).2.1 := by
  rw [hty]
  by_cases c : a = h0
  · rw [c, rtf_self, hT]
  · rw [rtf_ne c]
theorem FR.reg {ty ty2 : TyM} {S : List Nat} {F G : Nat → va_E} (hR : FR ty2 S F G) (h : ∀ a, (ty2 a).2.1 = (ty a).2.1) : FR ty S F G := fun a ha => hR a (by rw [h a]; exact ha)
noncomputable def rwM (D : Nat → ETY) (ze : Nat) (V : List Nat) : Nat × Int32 := if woW D ze (DMU V 0) = (-1) then ((woW D ze (DMU V (hsM D ze V))).toNatClampNeg, 0) else ((woW D ze (DMU V 0)).toNatClampNeg, 1)
theorem rwM_y {D : Nat → ETY} {ze : Nat} {V : List Nat} {k : Nat} {o : Int32} (h : W71 D ze V (nI k) o) (hk : k < 40) : rwM D ze V = (k, o) := by
  unfold rwM
  rcases h with ⟨h1, h2, h3⟩ | ⟨h1, h2, h3⟩
  · rw [← h2, if_neg h3, nI_clamp (by omega), h1]
  · rw [if_pos h2, ← h3, nI_clamp (by omega), h1]
noncomputable def wnM (D : Nat → ETY) (ze : Nat) (V : List Nat) : Nat := rcW (D (rwM D ze V).1) (rwM D ze V).2
noncomputable def saM (D : Nat → ETY) (ze : Nat) (V : List Nat) : Int32 := rcF (D (rwM D ze V).1) ASF
noncomputable def skM (D : Nat → ETY) (ze : Nat) (V : List Nat) : Int32 := rcF (D (rwM D ze V).1) ADK
def WFNm (D : Nat → ETY) (ze : Nat) (V U : List Nat) (pj : Nat) (H : Int32 → Prop) (r : Int32) : Prop := (pj = 2 ∧ ALGm D ze (saM D ze V) U V ∧ r = 2) ∨ (¬ (pj = 2 ∧ ALGm D ze (saM D ze V) U V) ∧ ∃ hr, H hr ∧ ((hr = 1 ∧ r = 2) ∨ (hr = 0 ∧ r = nI (wnM D ze V))))
def WSLm (sn : Nat) (x1 : Int32) (n : Nat) (P : Nat → Prop) (Z : Nat → Int32) (dw : Nat → Option (List Nat)) (W : List Nat → Int32 → Prop) (r : Int32) : Prop := ((sn = 0 ∨ x1 < 0) ∧ r = (-1)) ∨ (¬ (sn = 0 ∨ x1 < 0) ∧ n = 0 ∧ r = (-2)) ∨ (¬ (sn = 0 ∨ x1 < 0) ∧ ¬ n = 0 ∧ ∃ ro, PLR P n Z ro ∧ ((¬ ro = (-1) ∧ r = ro) ∨ (ro = (-1) ∧ ∃ V j, j < n ∧ P j ∧ dw j = some V ∧ W V r)))
theorem snr_j {P : Nat → Prop} {n : Nat} {Z : Nat → Option (List Nat)} {r : Int32} {V : List Nat} (h : SNR P n Z r (some V)) : ∃ j, j < n ∧ P j ∧ Z j = some V := by
  obtain ⟨-, w, -, h2⟩ := h
  rcases h2 with ⟨-, a2⟩ | ⟨-, j, a2, a3, -, a5⟩
  · exact nomatch a2
  · exact ⟨j, a2, a3, a5.symm⟩
theorem w71_r {D : Nat → ETY} {ze : Nat} {V : List Nat} {x o : Int32} (h : W71 D ze V x o) (hz : ze ≤ 40) (c : x < 0) : mvW D ze V = (if x = (-2) then 5 else 0) := by
  have hk : ∀ U, woW D ze U < 0 → woW D ze U = (-2) ∨ woW D ze U = (-1) := fun U q => by
    rcases woW_3 (D := D) (U := U) hz with h | h | ⟨j, h1, h2⟩
    · exact Or.inl h
    · exact Or.inr h
    · rw [h2] at q
      exact absurd q (nI_pos (by omega))
  unfold mvW
  rcases h with ⟨-, h2, h3⟩ | ⟨-, h2, h3⟩
  · rw [h2] at c h3 ⊢
    have e : woW D ze (DMU V 0) = (-2) := (hk _ c).resolve_right h3
    rw [if_pos e, if_pos e]
  · rw [h2, if_neg (by decide), if_pos rfl]
    rw [h3] at c ⊢
    rcases hk _ c with e | e
    · rw [if_pos e, if_pos e]
    · rw [e, if_neg (by decide), if_pos rfl, if_neg (by decide)]
theorem nal_dk {gl C : Nat → Int32} {z a b : Nat} (hC : CLI C 14 DKL) (hb : b ≤ z) : alP gl a b C 14 ↔ NAL (TC gl z) a b DKL := alp_nal hC hb
set_option maxHeartbeats 4000000 in
set_option maxRecDepth 100000 in
theorem s_X15_isAligned_x (l : Launch) (dC : Nat → ClassId) (dI : Nat → Nat → Nat) (cs : Nat → ClassId) (ty : TyM) (gm : Nat → Nat → Nat) (L : List Nat) (sz : Nat) (F : Nat → va_E) (h0 : Nat) (ρ : Nat) (ta : Nat) (ou : Nat) (so : Nat) (ad : Nat) (na : Nat) (va : Nat) (lc : Nat) (dm : Nat) (tg : Nat) (pe : Nat) (ml : Nat) (bg : Nat) (co : Nat) (sp : Nat) (nb0 : Nat) (nb1 : Nat) (nb2 : Nat) (pl : Nat) (se : Nat) (ke : Nat) (wi : Nat) (hs : Nat) (mo : Nat) (po : Nat) (nu : Nat) (pr : Nat) (sq : Nat) (xa : Nat) (sa : Nat) (n64 : Nat) (m64 : Nat) (ex : Nat) (wh : Nat) (sd : Nat) (tk : Nat) (hd : Nat) (ak : Nat) (ho : Nat) (ot : Nat) (sx : Nat) (s0 : Nat) (s1 : Nat) (s2 : Nat) (nf : Nat) (bd : Nat) (mm : Nat) (zo : Nat) (fm : Nat) (sn : Nat) (hg : Nat) (gc : Nat) (gv : Nat) (ze : Nat) (zt : Nat) (g1 : Nat) (σ : Nat) (r1 : Nat) (n1 : Nat) (g2 : Nat) (τ : Nat) (r2 : Nat) (n2 : Nat) (z : Nat) (y : Nat) (f1 : Nat → Int32) (f2 : Nat → Int32) (U : List Nat) (V : List Nat) (D : Nat → ETY) (x3 : Int32) (hW : WTm ty gm L) (hL_h0 : h0 ∈ L) (hT_h0 : ty h0 = (15, ρ, [ta, ou, so, ad, na, va, lc, dm, tg, pe, ml, bg, co, sp, nb0, nb1, nb2, pl, se, ke, wi, hs, mo, po, nu, pr, sq, xa, sa, n64, m64, ex, wh, sd, tk, hd, ak, ho, ot, sx, s0, s1, s2, nf, bd, mm, zo, fm, sn, hg, gc, gv, ze, zt])) (hL_g1 : g1 ∈ L) (hT_g1 : ty g1 = (14, σ, [r1, n1])) (hL_g2 : g2 ∈ L) (hT_g2 : ty g2 = (14, τ, [r2, n2])) (hF1 : F g1 = .inr (14, [.ref r1, .int (nI z)])) (hFr1 : F r1 = .inl (cs 17, n1, .inl f1)) (hzn : z ≤ n1) (hU : SRC U z f1) (hF2 : F g2 = .inr (14, [.ref r2, .int (nI y)])) (hFr2 : F r2 = .inl (cs 17, n2, .inl f2)) (hyn : y ≤ n2) (hV : SRC V y f2) (hn6 : n1 ≤ 6000 ∧ n2 ≤ 6000) (hsr : (σ = ρ + 25 ∨ σ = ρ + 32) ∧ τ = ρ + 28) (hDM : DIRM cs F so ad na va ze D) : Met l yX15_isAligned (.code yX15_isAligned cX15_isAligned 4 (some .boolean) :: tb) ({ frames := 4, cells := 0, slots := 0, locals := 119 }) (va_Pc [.ref h0, .ref g1, .ref g2, .int x3] (PTm (dC, dI) cs ty gm L F sz)) (va_Qi (fun (r : Int32) (_ : Unit) => ((r = 1 ∧ ALGm D ze x3 U V) ∨ (r = 0 ∧ ¬ ALGm D ze x3 U V))) (fun _ T9 => ∃ F2 : Nat → va_E, QTm (dC, dI) cs ty gm L [ρ + 29, ρ + 30] F F2 (va_A (va_pl L F) sz) T9) (va_A (va_pl L F) sz)) 0 0 (va_A (va_pl L F) sz) := by
  refine Met.ofW (cc := cX15_isAligned) (maxL := 4) (ret := (some .boolean)) (by decide) rfl ?_
  intro p e s m args below meth c s₁ B hml hv
  obtain ⟨rfl, hsz, hP, hK, hD0, hE, hO⟩ := hv
  have hx := B.exec
  have hb := B.bytes
  have hr := B.returns
  have hts : ∀ w ∈ tb, w.before _ s = true := fun w h => atoms_spec (ws := .code yX15_isAligned cX15_isAligned 4 (some .boolean) :: tb) B.pre w (List.mem_cons_of_mem _ h)
  have hown : s.vm.findClass RX15 = some m.cls := findClass_of_methodNamed B.named
  have hlocks := B.notSynchronized
  subst hsz
  have hD := hD0.self (sz := s.heap.size)
  generalize hAe : va_A (va_pl L F) s.heap.size = A at hD ⊢
  have hA : ∀ q : Nat, s.heap.size ≤ q → A q := fun q h => by rw [← hAe]; exact Or.inr h
  have hS : va_S A s.heap s.heap [] := va_S.rf
  have hR : FR ty [ρ + 29, ρ + 30] F F := FR.refl
  have hl := lv_entry ([.ref h0, .ref g1, .ref g2, .int x3]) (n := 4) (Nat.le_of_ble_eq_true rfl)
  rw [lg_entry_eq]
  generalize (lg_sl ([.ref h0, .ref g1, .ref g2, .int x3]) ++ List.replicate (4 - (lg_sl ([.ref h0, .ref g1, .ref g2, .int x3])).length) Slot.unset).toArray = ls at hl ⊢
  have hl : lv_has ls 4 [(0, .ref h0), (1, .ref g1), (2, .ref g2), (3, .int x3)] := hl
  obtain ⟨hq_23, hq_24, hq_25, hq_26, hq_27, hgO, hgA, hgB, hq_28⟩ := hW.sc hL_h0 hT_h0
  obtain ⟨hi_29, ht_30, hq_31⟩ := hW.txt hL_g1 hT_g1
  obtain ⟨hi_32, ht_33, hq_34⟩ := hW.txt hL_g2 hT_g2
  obtain ⟨hi_35, r_21, ht_36⟩ := hW.f_ho hL_h0 hT_h0
  obtain ⟨hi_37, ht_38, hq_39⟩ := hW.txt hi_35 ht_36
  obtain ⟨hi_40, r_22, ht_41⟩ := hW.f_ot hL_h0 hT_h0
  obtain ⟨hi_42, ht_43, hq_44⟩ := hW.txt hi_40 ht_41
  obtain ⟨v14_45, v15_46, v17_47, v18_48, v19_49, v20_50, v21_51, v22_52, v33_53, v52_54, v53_55, v54_56, hF_57, hq_58, hq_59, hq_60, hq_61, hq_62⟩ := hO.mod hL_h0 hT_h0
  have hO0 := hO
  have hW0 := hW
  obtain ⟨hLs0, hTs0⟩ := hW.f_so hL_h0 hT_h0
  obtain ⟨hLd0, hTd0⟩ := hW.f_ad hL_h0 hT_h0
  obtain ⟨hLn0, hTn0⟩ := hW.f_na hL_h0 hT_h0
  obtain ⟨hLv0, hTv0⟩ := hW.f_va hL_h0 hT_h0
  obtain rfl := hU.1
  obtain rfl := hV.1
  refine lv_iload_n hx hb dX15_isAligned_0 rfl (lv_at hl 3 rfl) ?_
  refine lv_if_eq (tgt := 10) hx hb dX15_isAligned_1 (by decide) (fun c_63 => ?_) (fun c_63 => ?_)
  ·
    refine lv_aload_n hx hb dX15_isAligned_10 rfl (lv_at hl 0 rfl) ?_
    refine lv_aload_n hx hb dX15_isAligned_11 rfl (lv_at hl 1 rfl) ?_
    refine lv_aload_n hx hb dX15_isAligned_12 rfl (lv_at hl 0 rfl) ?_
    refine pg_get (ci := 15) (v := .ref ho) (C := RX15) (T := TX15) (N := 59) hx hb hts it_15 hown hK hP hL_h0 hF_57 rfl 57 (by decide) (hts _ kt_950) (fun _ h9 => h9) rfl dX15_isAligned_13 ?_
    obtain ⟨hq_64, hq_65⟩ := hW.octs hi_29 ht_30
    have hFc := pg_free hD hS hA
    refine va_callv (va_runV (As := [.ref g1, .ref ho]) (rest := []) ⟨hx, hb, hml, hown, hts⟩ (s_X15_houseOf_e l dC dI cs ty gm L s.heap.size F h0 ρ ta ou so ad na va lc dm tg pe ml bg co sp nb0 nb1 nb2 pl se ke wi hs mo po nu pr sq xa sa n64 m64 ex wh sd tk hd ak ho ot sx s0 s1 s2 nf bd mm zo fm sn hg gc gv ze zt g1 σ r1 n1 ho (ρ + 29) r_21 6000 U.length f1 D hW hL_h0 hT_h0 hL_g1 hT_g1 hi_35 ht_36 hF1 hFr1 (hzn) (by omega) (hDM)) ⟨callB_of 2 hts (gi kt_951) rfl rfl rfl (hts _ kt_669) (hts _ kt_952) (by decide +kernel) ⟨Nat.le_of_ble_eq_true rfl, Nat.le_of_ble_eq_true rfl⟩, (hts _ kt_953), (hts _ kt_954)⟩ ⟨fun a U g mk q => ⟨q.1, PTm.calling q.2⟩, pg_recv hK hP hL_h0 hF_57 (q := (RX15, TX15, 59)) rfl, fun U hU hWm => ⟨rfl, PTm.mk hU hWm hP hK hD hE hO⟩⟩ rfl rfl hl.1 rfl (lv_room (Nat.le_of_ble_eq_true rfl)) dX15_isAligned_16 ⟨by show _ + 0 ≤ 0; omega, by show _ + 0 ≤ 0; omega⟩) hS (fun q _ h => hFc q h) hFc (fun u t H1 locs ht hvm hw hB hz1 hk1 hS => ?_)
    obtain ⟨F_67, y2_68, fc_69, hB1, hq_70, hq_71, hq_72, hq_73⟩ := hB
    obtain ⟨hP, hD, hO, hR⟩ := QTm.back hB1 ht hFc hR (fun q h => by simp only [List.mem_cons, List.not_mem_nil, or_false] at h ⊢; omega)
    have hF_74 : F_67 g1 = .inr (14, [.ref r1, .int (nI U.length)]) := (hB1.2.2.2 g1 (by rw [hT_g1]; simp only [List.mem_cons, List.not_mem_nil, or_false]; omega)).trans hF1
    have hF_75 : F_67 r1 = .inl (cs 17, n1, .inl f1) := (hB1.2.2.2 r1 (by rw [ht_30]; simp only [List.mem_cons, List.not_mem_nil, or_false]; omega)).trans hFr1
    have hF_76 : F_67 g2 = .inr (14, [.ref r2, .int (nI V.length)]) := (hB1.2.2.2 g2 (by rw [hT_g2]; simp only [List.mem_cons, List.not_mem_nil, or_false]; omega)).trans hF2
    have hF_77 : F_67 r2 = .inl (cs 17, n2, .inl f2) := (hB1.2.2.2 r2 (by rw [ht_33]; simp only [List.mem_cons, List.not_mem_nil, or_false]; omega)).trans hFr2
    have hF_78 : F_67 h0 = .inr (15, (.ref ta) :: (.int (nI zt)) :: (.int (nI zo)) :: (.int (nI ze)) :: (.ref ou) :: (.ref so) :: (.ref ad) :: (.ref na) :: (.ref va) :: (.ref lc) :: (.ref dm) :: (.int (nI fm)) :: (.int (nI sn)) :: (.ref tg) :: (.int v14_45) :: (.int v15_46) :: (.ref pe) :: (.int v17_47) :: (.int v18_48) :: (.int v19_49) :: (.int v20_50) :: (.int v21_51) :: (.int v22_52) :: (.ref ml) :: (.ref bg) :: (.ref co) :: (.ref sp) :: (.ref nb0) :: (.ref nb1) :: (.ref nb2) :: (.int (nI nf)) :: (.int (nI bd)) :: (.int (nI mm)) :: (.int v33_53) :: (.ref pl) :: (.ref se) :: (.ref ke) :: (.ref wi) :: (.ref hs) :: (.ref mo) :: (.ref po) :: (.ref nu) :: (.ref pr) :: (.ref sq) :: (.ref xa) :: (.ref sa) :: (.ref n64) :: (.ref m64) :: (.ref ex) :: (.ref wh) :: (.ref sd) :: (.ref tk) :: (.int v52_54) :: (.int v53_55) :: (.int v54_56) :: (.ref hd) :: (.ref ak) :: (.ref ho) :: (.ref ot) :: []) := (hB1.2.2.2 h0 (by rw [hT_h0]; simp)).trans hF_57
    generalize H1 = H at hP hS ⊢
    have hHa : SRC (hoM D ze U) y2_68 fc_69 := src_hs hU (hq_72) (hq_73)
    refine lv_aload_n hx hb dX15_isAligned_19 rfl (lv_at hl 0 rfl) ?_
    refine lv_aload_n hx hb dX15_isAligned_20 rfl (lv_at hl 2 rfl) ?_
    refine lv_aload_n hx hb dX15_isAligned_21 rfl (lv_at hl 0 rfl) ?_
    refine pg_get (ci := 15) (v := .ref ot) (C := RX15) (T := TX15) (N := 59) hx hb hts it_15 hown hK hP hL_h0 hF_78 rfl 58 (by decide) (hts _ kt_955) (fun _ h9 => h9) rfl dX15_isAligned_22 ?_
    have hQso := hR so (by rw [hTs0]; simp only [List.mem_cons, List.not_mem_nil, or_false]; omega)
    have hQad := hR ad (by rw [hTd0]; simp only [List.mem_cons, List.not_mem_nil, or_false]; omega)
    have hQna := hR na (by rw [hTn0]; simp only [List.mem_cons, List.not_mem_nil, or_false]; omega)
    have hQva := hR va (by rw [hTv0]; simp only [List.mem_cons, List.not_mem_nil, or_false]; omega)
    have hDM7 := DIRM.fr hDM hO0 hW0 hLn0 hTn0 hLv0 hTv0 (by omega) hR hQso hQad hQna hQva (fun k hk => ⟨by simp only [List.mem_cons, List.not_mem_nil, or_false]; omega, by simp only [List.mem_cons, List.not_mem_nil, or_false]; omega⟩)
    obtain ⟨hq_79, hq_80⟩ := hW.octs hi_32 ht_33
    have hFc := pg_free hD hS hA
    refine va_callv (va_runV (As := [.ref g2, .ref ot]) (rest := []) ⟨hx, hb, hml, hown, hts⟩ (s_X15_houseOf_e l dC dI cs ty gm L H.size F_67 h0 ρ ta ou so ad na va lc dm tg pe ml bg co sp nb0 nb1 nb2 pl se ke wi hs mo po nu pr sq xa sa n64 m64 ex wh sd tk hd ak ho ot sx s0 s1 s2 nf bd mm zo fm sn hg gc gv ze zt g2 τ r2 n2 ot (ρ + 30) r_22 6000 V.length f2 D hW hL_h0 hT_h0 hL_g2 hT_g2 hi_40 ht_41 hF_76 hF_77 (hyn) (by omega) (hDM7)) ⟨callB_of 2 hts (gi kt_951) rfl rfl rfl (hts _ kt_669) (hts _ kt_952) (by decide +kernel) ⟨Nat.le_of_ble_eq_true rfl, Nat.le_of_ble_eq_true rfl⟩, (hts _ kt_953), (hts _ kt_954)⟩ ⟨fun a U g mk q => ⟨q.1, PTm.calling q.2⟩, pg_recv hK hP hL_h0 hF_78 (q := (RX15, TX15, 59)) rfl, fun U hU hWm => ⟨rfl, PTm.mk hU hWm hP hK hD hE hO⟩⟩ rfl rfl hl.1 rfl (lv_room (Nat.le_of_ble_eq_true rfl)) dX15_isAligned_25 ⟨by show _ + 0 ≤ 0; omega, by show _ + 0 ≤ 0; omega⟩) hS (fun q _ h => hFc q h) hFc (fun u t H1 locs ht hvm hw hB hz1 hk1 hS => ?_)
    obtain ⟨F_82, y2_83, fc_84, hB1, hq_85, hq_86, hq_87, hq_88⟩ := hB
    obtain ⟨hP, hD, hO, hR⟩ := QTm.back hB1 ht hFc hR (fun q h => by simp only [List.mem_cons, List.not_mem_nil, or_false] at h ⊢; omega)
    have hF_89 : F_82 g1 = .inr (14, [.ref r1, .int (nI U.length)]) := (hB1.2.2.2 g1 (by rw [hT_g1]; simp only [List.mem_cons, List.not_mem_nil, or_false]; omega)).trans hF_74
    have hF_90 : F_82 r1 = .inl (cs 17, n1, .inl f1) := (hB1.2.2.2 r1 (by rw [ht_30]; simp only [List.mem_cons, List.not_mem_nil, or_false]; omega)).trans hF_75
    have hF_91 : F_82 g2 = .inr (14, [.ref r2, .int (nI V.length)]) := (hB1.2.2.2 g2 (by rw [hT_g2]; simp only [List.mem_cons, List.not_mem_nil, or_false]; omega)).trans hF_76
    have hF_92 : F_82 r2 = .inl (cs 17, n2, .inl f2) := (hB1.2.2.2 r2 (by rw [ht_33]; simp only [List.mem_cons, List.not_mem_nil, or_false]; omega)).trans hF_77
    have hF_93 : F_82 h0 = .inr (15, (.ref ta) :: (.int (nI zt)) :: (.int (nI zo)) :: (.int (nI ze)) :: (.ref ou) :: (.ref so) :: (.ref ad) :: (.ref na) :: (.ref va) :: (.ref lc) :: (.ref dm) :: (.int (nI fm)) :: (.int (nI sn)) :: (.ref tg) :: (.int v14_45) :: (.int v15_46) :: (.ref pe) :: (.int v17_47) :: (.int v18_48) :: (.int v19_49) :: (.int v20_50) :: (.int v21_51) :: (.int v22_52) :: (.ref ml) :: (.ref bg) :: (.ref co) :: (.ref sp) :: (.ref nb0) :: (.ref nb1) :: (.ref nb2) :: (.int (nI nf)) :: (.int (nI bd)) :: (.int (nI mm)) :: (.int v33_53) :: (.ref pl) :: (.ref se) :: (.ref ke) :: (.ref wi) :: (.ref hs) :: (.ref mo) :: (.ref po) :: (.ref nu) :: (.ref pr) :: (.ref sq) :: (.ref xa) :: (.ref sa) :: (.ref n64) :: (.ref m64) :: (.ref ex) :: (.ref wh) :: (.ref sd) :: (.ref tk) :: (.int v52_54) :: (.int v53_55) :: (.int v54_56) :: (.ref hd) :: (.ref ak) :: (.ref ho) :: (.ref ot) :: []) := (hB1.2.2.2 h0 (by rw [hT_h0]; simp)).trans hF_78
    have hF_94 : F_82 ho = .inr (14, [.ref r_21, .int (nI y2_68)]) := (hB1.2.2.2 ho (by rw [ht_36]; simp)).trans hq_70
    have hF_95 : F_82 r_21 = .inl (cs 17, 6000, .inl fc_69) := (hB1.2.2.2 r_21 (by rw [ht_38]; simp)).trans hq_71
    generalize H1 = H at hP hS ⊢
    have hHb : SRC (hoM D ze V) y2_83 fc_84 := src_hs hV (hq_87) (hq_88)
    refine lv_aload_n hx hb dX15_isAligned_28 rfl (lv_at hl 0 rfl) ?_
    refine pg_get (ci := 15) (v := .ref ho) (C := RX15) (T := TX15) (N := 59) hx hb hts it_15 hown hK hP hL_h0 hF_93 rfl 57 (by decide) (hts _ kt_950) (fun _ h9 => h9) rfl dX15_isAligned_29 ?_
    refine lv_aload_n hx hb dX15_isAligned_32 rfl (lv_at hl 0 rfl) ?_
    refine pg_get (ci := 15) (v := .ref ot) (C := RX15) (T := TX15) (N := 59) hx hb hts it_15 hown hK hP hL_h0 hF_93 rfl 58 (by decide) (hts _ kt_955) (fun _ h9 => h9) rfl dX15_isAligned_33 ?_
    obtain ⟨hq_96, hq_97⟩ := hW.octs hi_37 ht_38
    obtain ⟨hq_98, hq_99⟩ := hW.octs hi_42 ht_43
    have hFc := pg_free hD hS hA
    refine va_calli (va_runV (As := [.ref ot]) (rest := []) ⟨hx, hb, hml, hown, hts⟩ (s_X14_is__x l dC dI cs ty gm L H.size F_82 ho (ρ + 29) r_21 6000 ot (ρ + 30) r_22 6000 y2_68 y2_83 fc_69 fc_84 hW hi_35 ht_36 hi_40 ht_41 hF_94 hF_95 hq_85 hq_86 (by have h9 := hHa.1; unfold hoM at h9; rw [rgL_len] at h9; omega) (by have h9 := hHb.1; unfold hoM at h9; rw [rgL_len] at h9; omega)) ⟨callB_of 1 hts (gi kt_720) rfl rfl rfl (hts _ kt_676) (hts _ kt_721) (by decide +kernel) ⟨Nat.le_of_ble_eq_true rfl, Nat.le_of_ble_eq_true rfl⟩, (hts _ kt_722), (hts _ kt_723)⟩ ⟨fun a U g mk q => ⟨q.1, PTm.calling q.2⟩, pg_recv hK hP hi_35 hF_94 (q := (RX14, TX14, 2)) rfl, fun U hU hWm => ⟨rfl, PTm.mk hU hWm hP hK hD hE hO⟩⟩ rfl rfl hl.1 rfl (lv_room (Nat.le_of_ble_eq_true rfl)) dX15_isAligned_36 ⟨by show _ + 0 ≤ 0; omega, by show _ + 0 ≤ 0; omega⟩) hS (fun q _ h => hFc q h) hFc (fun r_100 u t H1 locs ht hvm hw hB hz1 hk1 hS => ?_)
    obtain ⟨F_101, hB1⟩ := hB
    obtain rfl : F_82 = F_101 := (funext (fun a => hB1.2.2.2 a List.not_mem_nil)).symm
    obtain ⟨hP, hD, hO, hR⟩ := QTm.back hB1 ht hFc hR (fun q h => absurd h List.not_mem_nil)
    generalize H1 = H at hP hS ⊢
    have hw : ((r_100 = 1 ∧ (y2_68 = y2_83 ∧ ∀ j, j < y2_68 → fc_69 j = fc_84 j)) ∨ (r_100 = 0 ∧ ¬ (y2_68 = y2_83 ∧ ∀ j, j < y2_68 → fc_69 j = fc_84 j))) := hw
    have hw_102 := hw
    refine W.widen (k := 0) (n := 0) (by omega) (by omega) ?_
    exact W.zret (v := r_100) (ty := .boolean) hx hb hr (bitN (bit2 hw_102)) (fun t ht hWm => ⟨⟨r_100, (), rfl, (by rcases hw_102 with q | q; exact Or.inl ⟨q.1, Or.inr ⟨c_63, (src_eq hHa hHb).mp q.2⟩⟩; exact Or.inr ⟨q.1, fun w => w.elim (fun v => v.1 c_63) (fun v => q.2 ((src_eq hHa hHb).mpr v.2))⟩), ⟨F_82, QTm.mk ht hP hD hO hR⟩⟩, hS.F ht⟩) hS.2.2 dX15_isAligned_39
  ·
    refine lv_aload_n hx hb dX15_isAligned_4 rfl (lv_at hl 1 rfl) ?_
    refine lv_aload_n hx hb dX15_isAligned_5 rfl (lv_at hl 2 rfl) ?_
    obtain ⟨hq_103, hq_104⟩ := hW.octs hi_29 ht_30
    obtain ⟨hq_105, hq_106⟩ := hW.octs hi_32 ht_33
    have hFc := pg_free hD hS hA
    refine va_calli (va_runV (As := [.ref g2]) (rest := []) ⟨hx, hb, hml, hown, hts⟩ (s_X14_is__x l dC dI cs ty gm L s.heap.size F g1 σ r1 n1 g2 τ r2 n2 U.length V.length f1 f2 hW hL_g1 hT_g1 hL_g2 hT_g2 hF1 hFr1 hF2 hFr2 (hzn) (hyn)) ⟨callB_of 1 hts (gi kt_720) rfl rfl rfl (hts _ kt_676) (hts _ kt_721) (by decide +kernel) ⟨Nat.le_of_ble_eq_true rfl, Nat.le_of_ble_eq_true rfl⟩, (hts _ kt_722), (hts _ kt_723)⟩ ⟨fun a U g mk q => ⟨q.1, PTm.calling q.2⟩, pg_recv hK hP hL_g1 hF1 (q := (RX14, TX14, 2)) rfl, fun U hU hWm => ⟨rfl, PTm.mk hU hWm hP hK hD hE hO⟩⟩ rfl rfl hl.1 rfl (lv_room (Nat.le_of_ble_eq_true rfl)) dX15_isAligned_6 ⟨by show _ + 0 ≤ 0; omega, by show _ + 0 ≤ 0; omega⟩) hS (fun q _ h => hFc q h) hFc (fun r_107 u t H1 locs ht hvm hw hB hz1 hk1 hS => ?_)
    obtain ⟨F_108, hB1⟩ := hB
    obtain rfl : F = F_108 := (funext (fun a => hB1.2.2.2 a List.not_mem_nil)).symm
    obtain ⟨hP, hD, hO, hR⟩ := QTm.back hB1 ht hFc hR (fun q h => absurd h List.not_mem_nil)
    generalize H1 = H at hP hS ⊢
    have hw : ((r_107 = 1 ∧ (U.length = V.length ∧ ∀ j, j < U.length → f1 j = f2 j)) ∨ (r_107 = 0 ∧ ¬ (U.length = V.length ∧ ∀ j, j < U.length → f1 j = f2 j))) := hw
    have hw_109 := hw
    refine W.widen (k := 0) (n := 0) (by omega) (by omega) ?_
    exact W.zret (v := r_107) (ty := .boolean) hx hb hr (bitN (bit2 hw_109)) (fun t ht hWm => ⟨⟨r_107, (), rfl, (by rcases hw_109 with q | q; exact Or.inl ⟨q.1, Or.inl ⟨c_63, (src_eq hU hV).mp q.2⟩⟩; exact Or.inr ⟨q.1, fun w => w.elim (fun v => q.2 ((src_eq hU hV).mpr v.2)) (fun v => c_63 v.1)⟩), ⟨F, QTm.mk ht hP hD hO hR⟩⟩, hS.F ht⟩) hS.2.2 dX15_isAligned_9
theorem CHW_b9m (D : Nat → ETY) (ze : Nat) (S : SDR) (ad : Int32) (U : List Nat) : (CHW D ze S ad 11 U 0 0).1 ≤ 6 := (CHW_b 11 _ _ _).1
set_option maxHeartbeats 4000000 in
set_option maxRecDepth 100000 in
theorem s_X15_wish_x (l : Launch) (dC : Nat → ClassId) (dI : Nat → Nat → Nat) (cs : Nat → ClassId) (ty : TyM) (gm : Nat → Nat → Nat) (L : List Nat) (sz : Nat) (F : Nat → va_E) (h0 : Nat) (ρ : Nat) (ta : Nat) (ou : Nat) (so : Nat) (ad : Nat) (na : Nat) (va : Nat) (lc : Nat) (dm : Nat) (tg : Nat) (pe : Nat) (ml : Nat) (bg : Nat) (co : Nat) (sp : Nat) (nb0 : Nat) (nb1 : Nat) (nb2 : Nat) (pl : Nat) (se : Nat) (ke : Nat) (wi : Nat) (hs : Nat) (mo : Nat) (po : Nat) (nu : Nat) (pr : Nat) (sq : Nat) (xa : Nat) (sa : Nat) (n64 : Nat) (m64 : Nat) (ex : Nat) (wh : Nat) (sd : Nat) (tk : Nat) (hd : Nat) (ak : Nat) (ho : Nat) (ot : Nat) (sx : Nat) (s0 : Nat) (s1 : Nat) (s2 : Nat) (nf : Nat) (bd : Nat) (mm : Nat) (zo : Nat) (fm : Nat) (sn : Nat) (hg : Nat) (gc : Nat) (gv : Nat) (ze : Nat) (zt : Nat) (sb : Nat) (rl : Nat) (rp : Nat) (rak : Nat) (rwh : Nat) (rsd : Nat) (x1 : Int32) (D : Nat → ETY) (LC : List Nat) (DN : List Nat) (gl : Nat → Int32) (gd : Nat → Nat) (hW : WTm ty gm L) (hL_h0 : h0 ∈ L) (hT_h0 : ty h0 = (15, ρ, [ta, ou, so, ad, na, va, lc, dm, tg, pe, ml, bg, co, sp, nb0, nb1, nb2, pl, se, ke, wi, hs, mo, po, nu, pr, sq, xa, sa, n64, m64, ex, wh, sd, tk, hd, ak, ho, ot, sx, s0, s1, s2, nf, bd, mm, zo, fm, sn, hg, gc, gv, ze, zt])) (hL_sx : sx ∈ L) (hT_sx : ty sx = (14, ρ + 12, [sb, 3000])) (hL_pl : pl ∈ L) (hT_pl : ty pl = (14, ρ + 10, [rl, 6000])) (hL_pe : pe ∈ L) (hT_pe : ty pe = (14, ρ + 7, [rp, 100])) (hL_ak : ak ∈ L) (hT_ak : ty ak = (14, ρ + 28, [rak, 6000])) (hL_wh : wh ∈ L) (hT_wh : ty wh = (14, ρ + 24, [rwh, 6000])) (hL_sd : sd ∈ L) (hT_sd : ty sd = (14, ρ + 25, [rsd, 3000])) (hDM : DIRM cs F so ad na va ze D) (hVN : ∀ k, k < ze → (D k).1 = 2 → SRC (vlL (D k)) (D k).2.2.2.2.1 (D k).2.2.2.2.2 ∧ (D k).2.2.2.2.1 ≤ 60) (hSN : (sn = 0 ∨ (TXM cs F lc 30 LC ∧ TXM cs F dm 60 DN))) (hFml : F ml = .inl (cs 17, 3000, .inl gl)) (hby : (nf = 0 ∨ ∀ j, j < mm → BYQ (gl j))) (hbd : ∀ k, k < ze → ∀ j, j < (D k).2.2.2.2.1 → BYQ ((D k).2.2.2.2.2 j)) (hpos : ∀ j, j < nf → gm 2 j = min mm (gd j + 1) ∧ gm 1 j < gd j ∧ gd j ≤ mm ∧ EOK (clr gl) mm (gd j)) : Met l yX15_wish (.code yX15_wish cX15_wish 6 (some .int) :: tb) ({ frames := 79, cells := 0, slots := 0, locals := 1787 }) (va_Pc [.ref h0, .int x1] (PTEm (dC, dI) cs ty gm L F sz [])) (va_Qi (fun (r : Int32) (gp : Option (Nat × Nat)) => WSLm sn x1 nf (fun i => alP gl (gm 0 i) (gm 1 i) (cct [102, 114, 111, 109]) 4) (fun j9 => msW D ze (dmW (TC gl mm) (gm 1 j9) (gm 2 j9))) (fun j9 => dmW (TC gl mm) (gm 1 j9) (gm 2 j9)) (fun V9 r9 => WFNm D ze V9 DN (CHW D ze (sdM LC DN (nI fm)) (nI fm) 11 DN 0 0).1 (fun h9 => HSR (fun k9 x9 => SJRm gl mm nf bd k9 (gm 0) (gm 1) gd D ze x1.toNatClampNeg (flT (TC gl mm) (gm 1 k9 + 1) ((gd k9) - (gm 1 k9 + 1))) (flI (TC gl mm) (gm 1 k9 + 1) ((gd k9) - (gm 1 k9 + 1))).length x9) (fun k9 => ALGm D ze (skM D ze V9) (dmO (flT (TC gl mm) (gm 1 k9 + 1) ((gd k9) - (gm 1 k9 + 1))) (flI (TC gl mm) (gm 1 k9 + 1) ((gd k9) - (gm 1 k9 + 1))).length) V9) (fun k9 => NAL (TC gl mm) (gm 0 k9) (gm 1 k9) DKL) nf h9) r9) r) (fun (gp : Option (Nat × Nat)) T9 => ∃ F2 : Nat → va_E, ∃ ty2 : TyM, ty2 = rtf ty h0 (15, ρ, [ta, ou, so, ad, na, va, lc, dm, tg, pe, ml, bg, co, sp, nb0, nb1, nb2, pl, se, ke, wi, hs, mo, po, nu, pr, sq, xa, sa, n64, m64, ex, wh, sd, tk, hd, ak, ho, ot, sx, s0, s1, s2, nf, bd, mm, zo, fm, sn, (hgr gp hg), (gcr gp gc), (gvr gp gv), ze, zt]) ∧ QTm (dC, dI) cs ty2 gm L (tgS ρ 0 ++ [ρ + 10, ρ + 11, ρ + 12, ρ + 13, ρ + 14, ρ + 15, ρ + 16, ρ + 17, ρ + 18, ρ + 19, ρ + 20, ρ + 21, ρ + 22, ρ + 23, ρ + 24, ρ + 25, ρ + 26, ρ + 28, ρ + 29, ρ + 30, ρ + 81, ρ + 82, ρ + 83, ρ + 84, ρ + 85, ρ + 86, ρ + 87, ρ + 88, ρ + 89, ρ + 90]) F F2 (va_A (va_pl L F) sz) T9 ∧ WTm ty2 gm L ∧ WCQ (fun i => alP gl (gm 0 i) (gm 1 i) (cct [102, 114, 111, 109]) 4) nf (fun j9 => msW D ze (dmW (TC gl mm) (gm 1 j9) (gm 2 j9))) sn x1 (CHW D ze (sdM LC DN (nI fm)) (nI fm) 11 DN 0 0).2 gp) (va_A (va_pl L F) sz)) 0 0 (va_A (va_pl L F) sz) := by
  refine Met.ofW (cc := cX15_wish) (maxL := 6) (ret := (some .int)) (by decide) rfl ?_
  intro p e s m args below meth c s₁ B hml hv
  obtain ⟨rfl, ⟨hsz, hP, hK, hD0, hE, hO⟩, hG, hX⟩ := hv
  have hx := B.exec
  have hb := B.bytes
  have hr := B.returns
  have hts : ∀ w ∈ tb, w.before _ s = true := fun w h => atoms_spec (ws := .code yX15_wish cX15_wish 6 (some .int) :: tb) B.pre w (List.mem_cons_of_mem _ h)
  have hown : s.vm.findClass RX15 = some m.cls := findClass_of_methodNamed B.named
  have hlocks := B.notSynchronized
  subst hsz
  have hD := hD0.self (sz := s.heap.size)
  generalize hAe : va_A (va_pl L F) s.heap.size = A at hD hG hX ⊢
  have hA : ∀ q : Nat, s.heap.size ≤ q → A q := fun q h => by rw [← hAe]; exact Or.inr h
  have hS : va_S A s.heap s.heap [] := va_S.rf
  have hR : FR ty (tgS ρ 0 ++ [ρ + 10, ρ + 11, ρ + 12, ρ + 13, ρ + 14, ρ + 15, ρ + 16, ρ + 17, ρ + 18, ρ + 19, ρ + 20, ρ + 21, ρ + 22, ρ + 23, ρ + 24, ρ + 25, ρ + 26, ρ + 28, ρ + 29, ρ + 30, ρ + 81, ρ + 82, ρ + 83, ρ + 84, ρ + 85, ρ + 86, ρ + 87, ρ + 88, ρ + 89, ρ + 90]) F F := FR.refl
  have hl := lv_entry ([.ref h0, .int x1]) (n := 6) (Nat.le_of_ble_eq_true rfl)
  rw [lg_entry_eq]
  generalize (lg_sl ([.ref h0, .int x1]) ++ List.replicate (6 - (lg_sl ([.ref h0, .int x1])).length) Slot.unset).toArray = ls at hl ⊢
  have hl : lv_has ls 6 [(0, .ref h0), (1, .int x1)] := hl
  obtain ⟨hq_18, hq_19, hq_20, hq_21, hq_22, hgO, hgA, hgB, hq_23⟩ := hW.sc hL_h0 hT_h0
  obtain ⟨hi_24, ht_25⟩ := hW.f_se hL_h0 hT_h0
  obtain ⟨_, hi_26, hi_27, hi_28, _, ht_29, ht_30, ht_31, hq_32, hq_33⟩ := hW.tags hi_24 ht_25
  have ht_30 : ty s1 = (25, ρ + 81, [40, 1280]) := ht_30
  have ht_31 : ty s2 = (25, ρ + 82, [40, 1280]) := ht_31
  obtain ⟨hi_34, ht_35, hq_36⟩ := hW.txt hL_sx hT_sx
  obtain ⟨hi_37, ht_38, hq_39⟩ := hW.txt hL_pl hT_pl
  obtain ⟨hi_40, ht_41, hq_42⟩ := hW.txt hL_pe hT_pe
  obtain ⟨hi_43, ht_44, hq_45⟩ := hW.txt hL_ak hT_ak
  obtain ⟨hi_46, r_16, ht_47⟩ := hW.f_ho hL_h0 hT_h0
  obtain ⟨hi_48, ht_49, hq_50⟩ := hW.txt hi_46 ht_47
  obtain ⟨hi_51, x_7, y0_8, y1_9, y2_10, ht_52⟩ := hW.f_wi hL_h0 hT_h0
  obtain ⟨hi_53, hi_54, hi_55, hi_56, ⟨r_57, ht_58⟩, ht_59, ht_60, ht_61, hq_62, hq_63⟩ := hW.tags hi_51 ht_52
  have ht_58 : ty x_7 = (14, ρ + 16, [r_57, 700]) := ht_58
  have ht_60 : ty y1_9 = (25, ρ + 85, [40, 700]) := ht_60
  have ht_61 : ty y2_10 = (25, ρ + 86, [40, 700]) := ht_61
  obtain ⟨hi_64, r_2, ht_65⟩ := hW.f_dm hL_h0 hT_h0
  obtain ⟨hi_66, ht_67, hq_68⟩ := hW.txt hi_64 ht_65
  obtain ⟨hi_69, ht_70, hq_71⟩ := hW.txt hL_sd hT_sd
  obtain ⟨hi_72, ht_73⟩ := hW.f_ml hL_h0 hT_h0
  obtain ⟨hq_74, hq_75⟩ := hW.octs hi_72 ht_73
  obtain ⟨v14_76, v15_77, v17_78, v18_79, v19_80, v20_81, v21_82, v22_83, v33_84, v52_85, v53_86, v54_87, hF_88, hq_89, hq_90, hq_91, hq_92, hq_93⟩ := hO.mod hL_h0 hT_h0
  have hO0 := hO
  have hW0 := hW
  obtain ⟨hLs0, hTs0⟩ := hW.f_so hL_h0 hT_h0
  obtain ⟨hLd0, hTd0⟩ := hW.f_ad hL_h0 hT_h0
  obtain ⟨hLn0, hTn0⟩ := hW.f_na hL_h0 hT_h0
  obtain ⟨hLv0, hTv0⟩ := hW.f_va hL_h0 hT_h0
  refine lv_aload_n hx hb dX15_wish_0 rfl (lv_at hl 0 rfl) ?_
  refine pg_get (ci := 15) (v := .int (nI sn)) (C := RX15) (T := TX15) (N := 59) hx hb hts it_15 hown hK hP hL_h0 hF_88 rfl 12 (by decide) (hts _ kt_1187) (fun _ h9 => h9) rfl dX15_wish_1 ?_
  refine lv_if_eq (tgt := 11) hx hb dX15_wish_4 (by decide) (fun c_94 => ?_) (fun c_94 => ?_)
  ·
    have hi_95 : sn = 0 := (nI_eq (a := sn) (b := 0) (by omega) (by omega)).mp c_94
    have hs0 : sn = 0 := (nI_eq (b := 0) (by omega) (by omega)).mp c_94
    refine lv_iconst (v := (-1)) hx hb dX15_wish_11 (by decide) ?_
    refine W.widen (k := 0) (n := 0) (by omega) (by omega) ?_
    exact W.iret (v := (-1)) hx hb hr (fun t ht hWm => ⟨⟨(-1), none, rfl, (Or.inl ⟨Or.inl hs0, rfl⟩), ⟨F, ty, (rtf_idw hT_h0), QTm.mk ht hP hD hO hR, hW, (Or.inl ⟨Or.inl hs0, rfl⟩)⟩⟩, hS.F ht⟩) hS.2.2 dX15_wish_12
  ·
    have hi_96 : sn ≠ 0 := fun q => c_94 (by rw [q]; rfl)
    have hs0 : ¬ sn = 0 := fun q => c_94 (by rw [q]; rfl)
    refine lv_iload_n hx hb dX15_wish_7 rfl (lv_at hl 1 rfl) ?_
    refine lv_if_ge (tgt := 13) hx hb dX15_wish_8 (by decide) (fun c_97 => ?_) (fun c_97 => ?_)
    ·
      obtain ⟨nw, hnw, hxe⟩ : ∃ k, k < 2147483648 ∧ x1 = nI k := by obtain ⟨k, k1, k2⟩ := nI_of (Int32.not_lt.mpr c_97); exact ⟨k, k1, k2⟩
      have hnz : ¬ (sn = 0 ∨ x1 < 0) := fun q => q.elim hs0 (Int32.not_lt.mpr c_97)
      refine lv_aload_n hx hb dX15_wish_13 rfl (lv_at hl 0 rfl) ?_
      refine pg_get (ci := 15) (v := .int v33_84) (C := RX15) (T := TX15) (N := 59) hx hb hts it_15 hown hK hP hL_h0 hF_88 rfl 33 (by decide) (hts _ kt_891) (fun _ h9 => h9) rfl dX15_wish_14 ?_
      refine lv_if_ne (tgt := 23) hx hb dX15_wish_17 (by decide) (fun c_98 => ?_) (fun c_98 => ?_)
      ·
        have hn0 : ¬ nf = 0 := by rcases hq_91 with q | q; exact absurd q.1 c_98; omega
        refine lv_aload_n hx hb dX15_wish_23 rfl (lv_at hl 0 rfl) ?_
        have hFc := pg_free hD hS hA
        refine va_calli (va_runV (As := []) (rest := []) ⟨hx, hb, hml, hown, hts⟩ (s_X15_isSeen_x l dC dI cs ty gm L s.heap.size F h0 ρ ta ou so ad na va lc dm tg pe ml bg co sp nb0 nb1 nb2 pl se ke wi hs mo po nu pr sq xa sa n64 m64 ex wh sd tk hd ak ho ot sx s0 s1 s2 nf bd mm zo fm sn hg gc gv ze zt rak gl hW hL_h0 hT_h0 hL_ak hT_ak hFml (hby.resolve_left hn0)) ⟨callB_of 0 hts (gi kt_1188) rfl rfl rfl (hts _ kt_669) (hts _ kt_1189) (by decide +kernel) ⟨Nat.le_of_ble_eq_true rfl, Nat.le_of_ble_eq_true rfl⟩, (hts _ kt_1190), (hts _ kt_1191)⟩ ⟨fun a U g mk q => ⟨q.1, PTEm.calling q.2⟩, pg_recv hK hP hL_h0 hF_88 (q := (RX15, TX15, 59)) rfl, fun U hU hWm => ⟨rfl, PTEm.mk hU hWm hP hK hD hE hO hG (fun x hx => absurd hx List.not_mem_nil) hS hFc⟩⟩ rfl rfl hl.1 rfl (lv_room (Nat.le_of_ble_eq_true rfl)) dX15_wish_24 ⟨by show _ + 0 ≤ 0; omega, by show _ + 0 ≤ 0; omega⟩) hS (fun q _ h => hFc q h) hFc (fun r_100 gU_99 t H1 locs ht hvm hw hB hz1 hk1 hS => ?_)
        obtain ⟨F_101, hB1, hq_102⟩ := hB
        obtain ⟨hP, hD, hO, hR⟩ := QTm.back hB1 ht hFc hR (fun q h => by simp only [mem_tgS, List.mem_append, List.mem_cons, List.not_mem_nil, or_false] at h ⊢; omega)
        have hF_103 : F_101 ml = .inl (cs 17, 3000, .inl gl) := (hB1.2.2.2 ml (by rw [ht_73]; simp)).trans hFml
        have hF_104 : F_101 h0 = .inr (15, (.ref ta) :: (.int (nI zt)) :: (.int (nI zo)) :: (.int (nI ze)) :: (.ref ou) :: (.ref so) :: (.ref ad) :: (.ref na) :: (.ref va) :: (.ref lc) :: (.ref dm) :: (.int (nI fm)) :: (.int (nI sn)) :: (.ref tg) :: (.int v14_76) :: (.int v15_77) :: (.ref pe) :: (.int v17_78) :: (.int v18_79) :: (.int v19_80) :: (.int v20_81) :: (.int v21_82) :: (.int v22_83) :: (.ref ml) :: (.ref bg) :: (.ref co) :: (.ref sp) :: (.ref nb0) :: (.ref nb1) :: (.ref nb2) :: (.int (nI nf)) :: (.int (nI bd)) :: (.int (nI mm)) :: (.int v33_84) :: (.ref pl) :: (.ref se) :: (.ref ke) :: (.ref wi) :: (.ref hs) :: (.ref mo) :: (.ref po) :: (.ref nu) :: (.ref pr) :: (.ref sq) :: (.ref xa) :: (.ref sa) :: (.ref n64) :: (.ref m64) :: (.ref ex) :: (.ref wh) :: (.ref sd) :: (.ref tk) :: (.int v52_85) :: (.int v53_86) :: (.int v54_87) :: (.ref hd) :: (.ref ak) :: (.ref ho) :: (.ref ot) :: []) := (hB1.2.2.2 h0 (by rw [hT_h0]; simp)).trans hF_88
        generalize H1 = H at hP hS ⊢
        have hw : SNR (fun i => alP gl (gm 0 i) (gm 1 i) (cct [102, 114, 111, 109]) 4) nf (fun j9 => dmW (TC gl mm) (gm 1 j9) (gm 2 j9)) r_100 gU_99 := hw
        have hw_105 := hw
        refine lv_if_ne (tgt := 32) hx hb dX15_wish_27 (by decide) (fun c_106 => ?_) (fun c_106 => ?_)
        ·
          obtain ⟨V, hVe⟩ := snr_s hw_105 c_106
          obtain ⟨hVT, hVNm⟩ := hq_102 V hVe
          obtain ⟨zv, gv9, hz1v, hz2v, hz3v, hz4v⟩ := hVT.get hO hL_ak hT_ak
          obtain rfl := hz3v.1
          have hVl := (NM_len hVNm).2
          obtain ⟨jV, hjV, hPV, hZV⟩ := snr_j (by have h9 := hw_105; rw [hVe] at h9; exact h9)
          refine lv_iconst (v := 1) hx hb dX15_wish_32 (by decide) ?_
          refine lv_istore_n (lv' := [(2, .int 1), (0, .ref h0), (1, .int x1)]) hx hb dX15_wish_33 rfl hl (by decide) rfl (fun ls hl => ?_)
          refine lv_aload_n hx hb dX15_wish_34 rfl (lv_at hl 1 rfl) ?_
          refine lv_aload_n hx hb dX15_wish_35 rfl (lv_at hl 1 rfl) ?_
          refine pg_get (ci := 15) (v := .ref ak) (C := RX15) (T := TX15) (N := 59) hx hb hts it_15 hown hK hP hL_h0 hF_104 rfl 56 (by decide) (hts _ kt_993) (fun _ h9 => h9) rfl dX15_wish_36 ?_
          have hQso := hR so (by rw [hTs0]; simp only [mem_tgS, List.mem_append, List.mem_cons, List.not_mem_nil, or_false]; omega)
          have hQad := hR ad (by rw [hTd0]; simp only [mem_tgS, List.mem_append, List.mem_cons, List.not_mem_nil, or_false]; omega)
          have hQna := hR na (by rw [hTn0]; simp only [mem_tgS, List.mem_append, List.mem_cons, List.not_mem_nil, or_false]; omega)
          have hQva := hR va (by rw [hTv0]; simp only [mem_tgS, List.mem_append, List.mem_cons, List.not_mem_nil, or_false]; omega)
          have hDM6 := DIRM.fr hDM hO0 hW0 hLn0 hTn0 hLv0 hTv0 (by omega) hR hQso hQad hQna hQva (fun k hk => ⟨by simp only [mem_tgS, List.mem_append, List.mem_cons, List.not_mem_nil, or_false]; omega, by simp only [mem_tgS, List.mem_append, List.mem_cons, List.not_mem_nil, or_false]; omega⟩)
          obtain ⟨hq_107, hq_108⟩ := hW.octs hi_43 ht_44
          have hFc := pg_free hD hS hA
          refine va_calli (va_runV (As := [.ref ak]) (rest := []) ⟨hx, hb, hml, hown, hts⟩ (s_X15_wantedOf_x l dC dI cs ty gm L H.size F_101 h0 ρ ta ou so ad na va lc dm tg pe ml bg co sp nb0 nb1 nb2 pl se ke wi hs mo po nu pr sq xa sa n64 m64 ex wh sd tk hd ak ho ot sx s0 s1 s2 nf bd mm zo fm sn hg gc gv ze zt ak (ρ + 28) rak 6000 V.length gv9 V D hW hL_h0 hT_h0 hL_ak hT_ak hz1v hz2v (by omega) (by omega) (by omega) (by omega) (hz3v) (by omega) (hDM6)) ⟨callB_of 1 hts (gi kt_1192) rfl rfl rfl (hts _ kt_669) (hts _ kt_1193) (by decide +kernel) ⟨Nat.le_of_ble_eq_true rfl, Nat.le_of_ble_eq_true rfl⟩, (hts _ kt_1194), (hts _ kt_1195)⟩ ⟨fun a U g mk q => ⟨q.1, PTEm.calling q.2⟩, pg_recv hK hP hL_h0 hF_104 (q := (RX15, TX15, 59)) rfl, fun U hU hWm => ⟨rfl, PTEm.mk hU hWm hP hK hD hE hO hG (fun x hx => absurd hx List.not_mem_nil) hS hFc⟩⟩ rfl rfl hl.1 rfl (lv_room (Nat.le_of_ble_eq_true rfl)) dX15_wish_39 ⟨by show _ + 0 ≤ 0; omega, by show _ + 0 ≤ 0; omega⟩) hS (fun q _ h => hFc q h) hFc (fun r_109 u t H1 locs ht hvm hw hB hz1 hk1 hS => ?_)
          obtain ⟨F_110, hB1⟩ := hB
          obtain ⟨hP, hD, hO, hR⟩ := QTm.back hB1 ht hFc hR (fun q h => by simp only [mem_tgS, List.mem_append, List.mem_cons, List.not_mem_nil, or_false] at h ⊢; omega)
          have hF_111 : F_110 ml = .inl (cs 17, 3000, .inl gl) := (hB1.2.2.2 ml (by rw [ht_73]; simp)).trans hF_103
          have hF_112 : F_110 h0 = .inr (15, (.ref ta) :: (.int (nI zt)) :: (.int (nI zo)) :: (.int (nI ze)) :: (.ref ou) :: (.ref so) :: (.ref ad) :: (.ref na) :: (.ref va) :: (.ref lc) :: (.ref dm) :: (.int (nI fm)) :: (.int (nI sn)) :: (.ref tg) :: (.int v14_76) :: (.int v15_77) :: (.ref pe) :: (.int v17_78) :: (.int v18_79) :: (.int v19_80) :: (.int v20_81) :: (.int v21_82) :: (.int v22_83) :: (.ref ml) :: (.ref bg) :: (.ref co) :: (.ref sp) :: (.ref nb0) :: (.ref nb1) :: (.ref nb2) :: (.int (nI nf)) :: (.int (nI bd)) :: (.int (nI mm)) :: (.int v33_84) :: (.ref pl) :: (.ref se) :: (.ref ke) :: (.ref wi) :: (.ref hs) :: (.ref mo) :: (.ref po) :: (.ref nu) :: (.ref pr) :: (.ref sq) :: (.ref xa) :: (.ref sa) :: (.ref n64) :: (.ref m64) :: (.ref ex) :: (.ref wh) :: (.ref sd) :: (.ref tk) :: (.int v52_85) :: (.int v53_86) :: (.int v54_87) :: (.ref hd) :: (.ref ak) :: (.ref ho) :: (.ref ot) :: []) := (hB1.2.2.2 h0 (by rw [hT_h0]; simp)).trans hF_104
          have hF_113 : F_110 ak = .inr (14, [.ref rak, .int (nI V.length)]) := (hB1.2.2.2 ak (by rw [hT_ak]; simp)).trans hz1v
          have hF_114 : F_110 rak = .inl (cs 17, 6000, .inl gv9) := (hB1.2.2.2 rak (by rw [ht_44]; simp)).trans hz2v
          generalize H1 = H at hP hS ⊢
          have hw : r_109 = woW D ze ([95, 100, 109, 97, 114, 99, 46] ++ V) := hw
          subst hw
          refine lv_topi (fun x9 ex9 => ?_)
          obtain rfl : x9 = woW D ze (DMU V 0) := ex9.trans (by rw [dmu_0])
          refine lv_istore_n (lv' := [(3, .int (woW D ze (DMU V 0))), (2, .int 1), (0, .ref h0), (1, .int x1)]) hx hb dX15_wish_42 rfl hl (by decide) rfl (fun ls hl => ?_)
          have hF_117 : F ml = .inl (cs 17, 3000, .inl gl) := (hR ml (by rw [ht_73]; simp only [mem_tgS, List.mem_append, List.mem_cons, List.not_mem_nil, or_false]; omega)).symm.trans hF_111
          refine W.widen (k := 0) (n := 0) (by omega) (by omega) ?_
          refine pl_cutm (σ := Int32 × Int32) A (dC, dI) cs ty gm L (tgS ρ 0 ++ [ρ + 10, ρ + 11, ρ + 12, ρ + 13, ρ + 14, ρ + 15, ρ + 16, ρ + 17, ρ + 18, ρ + 19, ρ + 20, ρ + 21, ρ + 22, ρ + 23, ρ + 24, ρ + 25, ρ + 26, ρ + 28, ρ + 29, ρ + 30, ρ + 81, ρ + 82, ρ + 83, ρ + 84, ρ + 85, ρ + 86, ρ + 87, ρ + 88, ρ + 89, ρ + 90]) F 71 6 (fun (s3, sw2) => [(3, .int s3), (2, .int sw2), (0, .ref h0), (1, .int x1)]) (fun (s3, sw2) => []) (fun (s3, sw2) FF => W71 D ze V s3 sw2 ∧ FF ak = .inr (14, [.ref rak, .int (nI V.length)]) ∧ FF rak = .inl (cs 17, 6000, .inl gv9)) ?_ (fun jn_115 => ?_)
          ·
            rintro ⟨s3, sw2⟩ F_116 hv_118 hO hR H locs hP hD hS ls hl
            have hl : lv_has ls 6 [(3, .int s3), (2, .int sw2), (0, .ref h0), (1, .int x1)] := hl
            have hv_118 : W71 D ze V s3 sw2 ∧ F_116 ak = .inr (14, [.ref rak, .int (nI V.length)]) ∧ F_116 rak = .inl (cs 17, 6000, .inl gv9) := hv_118
            refine W.eq (g2 := F0 m 71 ls []) rfl ?_
            have hF_119 : F_116 ml = .inl (cs 17, 3000, .inl gl) := (hR ml (by rw [ht_73]; simp only [mem_tgS, List.mem_append, List.mem_cons, List.not_mem_nil, or_false]; omega)).trans hF_117
            obtain ⟨h71, hak1, hak2⟩ := id hv_118
            refine lv_iload_n hx hb dX15_wish_71 rfl (lv_at hl 0 rfl) ?_
            refine lv_if_ge (tgt := 87) hx hb dX15_wish_72 (by decide) (fun c_120 => ?_) (fun c_120 => ?_)
            ·
              obtain ⟨kv, hkv, ekv⟩ : ∃ j, j < ze ∧ s3 = nI j := w71_j h71 (by omega) c_120
              subst ekv
              have hmv := w71_k h71 (by omega)
              have hQso := hR so (by rw [hTs0]; simp only [mem_tgS, List.mem_append, List.mem_cons, List.not_mem_nil, or_false]; omega)
              have hQad := hR ad (by rw [hTd0]; simp only [mem_tgS, List.mem_append, List.mem_cons, List.not_mem_nil, or_false]; omega)
              have hQna := hR na (by rw [hTn0]; simp only [mem_tgS, List.mem_append, List.mem_cons, List.not_mem_nil, or_false]; omega)
              have hQva := hR va (by rw [hTv0]; simp only [mem_tgS, List.mem_append, List.mem_cons, List.not_mem_nil, or_false]; omega)
              have hDM9 := DIRM.fr hDM hO0 hW0 hLn0 hTn0 hLv0 hTv0 (by omega) hR hQso hQad hQna hQva (fun k hk => ⟨by simp only [mem_tgS, List.mem_append, List.mem_cons, List.not_mem_nil, or_false]; omega, by simp only [mem_tgS, List.mem_append, List.mem_cons, List.not_mem_nil, or_false]; omega⟩)
              obtain ⟨fs, fd, fn, fv, hd1, hd2, hd3, hd4, hd5⟩ := id hDM9
              obtain ⟨hi_121, ht_122⟩ := hW.f_va hL_h0 hT_h0
              obtain ⟨f_123, hF_124, hq_125⟩ := hO.rtxj hi_121 ht_122
              obtain rfl : f_123 = fv := by have e9 := hF_124.symm.trans hd4; simpa using e9
              refine lv_aload_n hx hb dX15_wish_87 rfl (lv_at hl 2 rfl) ?_
              obtain ⟨v14_126, v15_127, v17_128, v18_129, v19_130, v20_131, v21_132, v22_133, v33_134, v52_135, v53_136, v54_137, hF_138, hq_139, hq_140, hq_141, hq_142, hq_143⟩ := hO.mod hL_h0 hT_h0
              refine pg_get (ci := 15) (v := .ref va) (C := RX15) (T := TX15) (N := 59) hx hb hts it_15 hown hK hP hL_h0 hF_138 rfl 8 (by decide) (hts _ kt_732) (fun _ h9 => h9) rfl dX15_wish_88 ?_
              refine lv_iload_n hx hb dX15_wish_91 rfl (lv_at hl 0 rfl) ?_
              obtain ⟨b_144, r_145, hbf_146, hi_147, ht_148⟩ := hq_125 kv (by omega)
              refine pg_aald (r := b_144) hx hb hK hP hi_121 7 hF_124 rfl (vp_in_nI (by omega) (by omega)) (show f_123 ((nI kv) : Int32).toNatClampNeg = _ from by rw [show ((nI kv) : Int32) = nI kv from rfl, nI_clamp (by omega)]; exact hbf_146) dX15_wish_92 ?_
              obtain ⟨hen1a, hen1b, hen1c⟩ := ENM.get (hd5 kv hkv).2.2.2 hbf_146 hO hi_147 ht_148
              obtain ⟨hi_149, ht_150, hq_151⟩ := hW.txt hi_147 ht_148
              refine pg_get (ci := 14) (v := .ref r_145) (C := RX14) (T := TX14) (N := 2) hx hb hts it_14 hown hK hP hi_147 hen1a rfl 0 (by decide) (hts _ kt_710) (fun _ h9 => h9) rfl dX15_wish_93 ?_
              refine lv_iconst (v := 0) hx hb dX15_wish_96 (by decide) ?_
              refine lv_aload_n hx hb dX15_wish_97 rfl (lv_at hl 2 rfl) ?_
              refine pg_get (ci := 15) (v := .ref va) (C := RX15) (T := TX15) (N := 59) hx hb hts it_15 hown hK hP hL_h0 hF_138 rfl 8 (by decide) (hts _ kt_732) (fun _ h9 => h9) rfl dX15_wish_98 ?_
              refine lv_iload_n hx hb dX15_wish_101 rfl (lv_at hl 0 rfl) ?_
              refine pg_aald (r := b_144) hx hb hK hP hi_121 7 hF_124 rfl (vp_in_nI (by omega) (by omega)) (show f_123 ((nI kv) : Int32).toNatClampNeg = _ from by rw [show ((nI kv) : Int32) = nI kv from rfl, nI_clamp (by omega)]; exact hbf_146) dX15_wish_102 ?_
              refine pg_get (ci := 14) (v := .int (nI (D kv).2.2.2.2.1)) (C := RX14) (T := TX14) (N := 2) hx hb hts it_14 hown hK hP hi_147 hen1a rfl 1 (by decide) (hts _ kt_709) (fun _ h9 => h9) rfl dX15_wish_103 ?_
              refine lv_aload_n hx hb dX15_wish_106 rfl (lv_at hl 2 rfl) ?_
              refine pg_get (ci := 15) (v := .ref wi) (C := RX15) (T := TX15) (N := 59) hx hb hts it_15 hown hK hP hL_h0 hF_138 rfl 37 (by decide) (hts _ kt_1132) (fun _ h9 => h9) rfl dX15_wish_107 ?_
              obtain ⟨z_152, hF_153, hq_154⟩ := hO.tags hi_51 ht_52
              refine pg_get (ci := 13) (v := .ref x_7) (C := RX13) (T := TX13) (N := 5) hx hb hts it_13 hown hK hP hi_51 hF_153 rfl 0 (by decide) (hts _ kt_842) (fun _ h9 => h9) rfl dX15_wish_110 ?_
              refine W.eq (g2 := F0 m 113 ls [.ref x_7, .int (nI (D kv).2.2.2.2.1), .int (nI 0), .ref r_145]) rfl ?_
              obtain ⟨hq_155, hq_156⟩ := hW.octs hi_149 ht_150
              obtain ⟨hi_157, ht_158, hq_159⟩ := hW.txt hi_53 ht_58
              have hFc := pg_free hD hS hA
              refine va_callv (va_runS (As := [.ref r_145, .int (nI 0), .int (nI (D kv).2.2.2.2.1), .ref x_7]) (rest := []) ⟨hx, hb, hml, hown, hts⟩ (s_X15_withoutWhite_x l dC dI cs ty gm L H.size F_116 r_145 (ρ + 50 + kv + 100) 700 x_7 (ρ + 16) r_57 700 0 ((D kv).2.2.2.2.1) ((D kv).2.2.2.2.1) ((D kv).2.2.2.2.2) hW hi_149 ht_150 hi_53 ht_58 hen1b (Nat.zero_le _) (Nat.le_refl _) (hen1c) (by omega) (by omega) (hbd kv hkv)) ⟨callB_of 4 hts (gi kt_926) rfl rfl rfl (hts _ kt_669) (hts _ kt_927) (by decide +kernel) ⟨Nat.le_of_ble_eq_true rfl, Nat.le_of_ble_eq_true rfl⟩, (hts _ kt_928)⟩ ⟨fun a U g mk q => ⟨q.1, PTm.calling q.2⟩, fun U hU hWm => ⟨rfl, PTm.mk hU hWm hP hK hD hE hO⟩⟩ rfl rfl hl.1 rfl (lv_room (Nat.le_of_ble_eq_true rfl)) dX15_wish_113 ⟨by show _ + 0 ≤ 0; omega, by show _ + 0 ≤ 0; omega⟩) hS (fun q _ h => hFc q h) hFc (fun u t H1 locs ht hvm hw hB hz1 hk1 hS => ?_)
              obtain ⟨F_161, fc_162, hB1, hq_163, hq_164, hq_165⟩ := hB
              obtain ⟨hP, hD, hO, hR⟩ := QTm.back hB1 ht hFc hR (fun q h => by simp only [mem_tgS, List.mem_append, List.mem_cons, List.not_mem_nil, or_false] at h ⊢; omega)
              have hF_166 : F_161 ml = .inl (cs 17, 3000, .inl gl) := (hB1.2.2.2 ml (by rw [ht_73]; simp)).trans hF_119
              have hF_167 : F_161 ak = .inr (14, [.ref rak, .int (nI V.length)]) := (hB1.2.2.2 ak (by rw [hT_ak]; simp)).trans hak1
              have hF_168 : F_161 rak = .inl (cs 17, 6000, .inl gv9) := (hB1.2.2.2 rak (by rw [ht_44]; simp)).trans hak2
              have hF_169 : F_161 va = .inl (cs 23, 40, .inr (.inr (.inr (.inr f_123)))) := (hB1.2.2.2 va (by rw [ht_122]; simp)).trans hF_124
              have hF_170 : F_161 h0 = .inr (15, (.ref ta) :: (.int (nI zt)) :: (.int (nI zo)) :: (.int (nI ze)) :: (.ref ou) :: (.ref so) :: (.ref ad) :: (.ref na) :: (.ref va) :: (.ref lc) :: (.ref dm) :: (.int (nI fm)) :: (.int (nI sn)) :: (.ref tg) :: (.int v14_126) :: (.int v15_127) :: (.ref pe) :: (.int v17_128) :: (.int v18_129) :: (.int v19_130) :: (.int v20_131) :: (.int v21_132) :: (.int v22_133) :: (.ref ml) :: (.ref bg) :: (.ref co) :: (.ref sp) :: (.ref nb0) :: (.ref nb1) :: (.ref nb2) :: (.int (nI nf)) :: (.int (nI bd)) :: (.int (nI mm)) :: (.int v33_134) :: (.ref pl) :: (.ref se) :: (.ref ke) :: (.ref wi) :: (.ref hs) :: (.ref mo) :: (.ref po) :: (.ref nu) :: (.ref pr) :: (.ref sq) :: (.ref xa) :: (.ref sa) :: (.ref n64) :: (.ref m64) :: (.ref ex) :: (.ref wh) :: (.ref sd) :: (.ref tk) :: (.int v52_135) :: (.int v53_136) :: (.int v54_137) :: (.ref hd) :: (.ref ak) :: (.ref ho) :: (.ref ot) :: []) := (hB1.2.2.2 h0 (by rw [hT_h0]; simp)).trans hF_138
              have hF_171 : F_161 b_144 = .inr (14, [.ref r_145, .int (nI (D kv).2.2.2.2.1)]) := (hB1.2.2.2 b_144 (by rw [ht_148]; simp only [mem_tgS, List.mem_append, List.mem_cons, List.not_mem_nil, or_false]; omega)).trans hen1a
              have hF_172 : F_161 r_145 = .inl (cs 17, 700, .inl ((D kv).2.2.2.2.2)) := (hB1.2.2.2 r_145 (by rw [ht_150]; simp only [mem_tgS, List.mem_append, List.mem_cons, List.not_mem_nil, or_false]; omega)).trans hen1b
              have hF_173 : F_161 wi = .inr (13, [.ref x_7, .ref y0_8, .ref y1_9, .ref y2_10, .int (nI z_152)]) := (hB1.2.2.2 wi (by rw [ht_52]; simp)).trans hF_153
              generalize H1 = H at hP hS ⊢
              obtain ⟨hwT, hwL⟩ := hq_165
              refine lv_aload_n hx hb dX15_wish_116 rfl (lv_at hl 2 rfl) ?_
              refine pg_get (ci := 15) (v := .ref wi) (C := RX15) (T := TX15) (N := 59) hx hb hts it_15 hown hK hP hL_h0 hF_170 rfl 37 (by decide) (hts _ kt_1132) (fun _ h9 => h9) rfl dX15_wish_117 ?_
              refine lv_bipush (v := 8) hx hb dX15_wish_120 (by decide) ?_
              obtain ⟨hq_174, hq_175⟩ := hW.octs hi_157 ht_158
              have hFc := pg_free hD hS hA
              refine va_calli (va_runV (As := [.int 8]) (rest := []) ⟨hx, hb, hml, hown, hts⟩ (s_X13_read_x l dC dI cs ty gm L H.size F_161 wi (ρ + 15) x_7 700 700 y0_8 y1_9 y2_10 r_57 ((flI (TC (D kv).2.2.2.2.2 (D kv).2.2.2.2.1) 0 ((D kv).2.2.2.2.1 - 0)).length) fc_162 hW hi_51 ht_52 hi_53 ht_58 hq_163 hq_164 (by omega) (by omega)) ⟨callB_of 1 hts (gi kt_859) rfl rfl rfl (hts _ kt_829) (hts _ kt_860) (by decide +kernel) ⟨Nat.le_of_ble_eq_true rfl, Nat.le_of_ble_eq_true rfl⟩, (hts _ kt_861), (hts _ kt_862)⟩ ⟨fun a U g mk q => ⟨q.1, PTm.calling q.2⟩, pg_recv hK hP hi_51 hF_173 (q := (RX13, TX13, 5)) rfl, fun U hU hWm => ⟨rfl, PTm.mk hU hWm hP hK hD hE hO⟩⟩ rfl rfl hl.1 rfl (lv_room (Nat.le_of_ble_eq_true rfl)) dX15_wish_122 ⟨by show _ + 0 ≤ 0; omega, by show _ + 0 ≤ 0; omega⟩) hS (fun q _ h => hFc q h) hFc (fun r_177 gg_176 t H1 locs ht hvm hw hB hz1 hk1 hS => ?_)
              obtain ⟨F_178, p0_179, p1_180, p2_181, hB1, hq_182, hq_183, hq_184, hq_185, hq_186, hq_187⟩ := hB
              obtain ⟨hP, hD, hO, hR⟩ := QTm.back hB1 ht hFc hR (fun q h => by simp only [mem_tgS, List.mem_append, List.mem_cons, List.not_mem_nil, or_false] at h ⊢; omega)
              have hF_188 : F_178 ml = .inl (cs 17, 3000, .inl gl) := (hB1.2.2.2 ml (by rw [ht_73]; simp <;> omega)).trans hF_166
              have hF_189 : F_178 ak = .inr (14, [.ref rak, .int (nI V.length)]) := (hB1.2.2.2 ak (by rw [hT_ak]; simp <;> omega)).trans hF_167
              have hF_190 : F_178 rak = .inl (cs 17, 6000, .inl gv9) := (hB1.2.2.2 rak (by rw [ht_44]; simp <;> omega)).trans hF_168
              have hF_191 : F_178 va = .inl (cs 23, 40, .inr (.inr (.inr (.inr f_123)))) := (hB1.2.2.2 va (by rw [ht_122]; simp <;> omega)).trans hF_169
              have hF_192 : F_178 h0 = .inr (15, (.ref ta) :: (.int (nI zt)) :: (.int (nI zo)) :: (.int (nI ze)) :: (.ref ou) :: (.ref so) :: (.ref ad) :: (.ref na) :: (.ref va) :: (.ref lc) :: (.ref dm) :: (.int (nI fm)) :: (.int (nI sn)) :: (.ref tg) :: (.int v14_126) :: (.int v15_127) :: (.ref pe) :: (.int v17_128) :: (.int v18_129) :: (.int v19_130) :: (.int v20_131) :: (.int v21_132) :: (.int v22_133) :: (.ref ml) :: (.ref bg) :: (.ref co) :: (.ref sp) :: (.ref nb0) :: (.ref nb1) :: (.ref nb2) :: (.int (nI nf)) :: (.int (nI bd)) :: (.int (nI mm)) :: (.int v33_134) :: (.ref pl) :: (.ref se) :: (.ref ke) :: (.ref wi) :: (.ref hs) :: (.ref mo) :: (.ref po) :: (.ref nu) :: (.ref pr) :: (.ref sq) :: (.ref xa) :: (.ref sa) :: (.ref n64) :: (.ref m64) :: (.ref ex) :: (.ref wh) :: (.ref sd) :: (.ref tk) :: (.int v52_135) :: (.int v53_136) :: (.int v54_137) :: (.ref hd) :: (.ref ak) :: (.ref ho) :: (.ref ot) :: []) := (hB1.2.2.2 h0 (by rw [hT_h0]; simp <;> omega)).trans hF_170
              have hF_193 : F_178 b_144 = .inr (14, [.ref r_145, .int (nI (D kv).2.2.2.2.1)]) := (hB1.2.2.2 b_144 (by rw [ht_148]; simp only [mem_tgS, List.mem_append, List.mem_cons, List.not_mem_nil, or_false]; omega)).trans hF_171
              have hF_194 : F_178 r_145 = .inl (cs 17, 700, .inl ((D kv).2.2.2.2.2)) := (hB1.2.2.2 r_145 (by rw [ht_150]; simp only [mem_tgS, List.mem_append, List.mem_cons, List.not_mem_nil, or_false]; omega)).trans hF_172
              have hF_195 : F_178 x_7 = .inr (14, [.ref r_57, .int (nI (flI (TC (D kv).2.2.2.2.2 (D kv).2.2.2.2.1) 0 ((D kv).2.2.2.2.1 - 0)).length)]) := (hB1.2.2.2 x_7 (by rw [ht_58]; simp <;> omega)).trans hq_163
              have hF_196 : F_178 r_57 = .inl (cs 17, 700, .inl fc_162) := (hB1.2.2.2 r_57 (by rw [ht_158]; simp <;> omega)).trans hq_164
              generalize H1 = H at hP hS ⊢
              have hw : TGX (TC fc_162 (flI (TC (D kv).2.2.2.2.2 (D kv).2.2.2.2.1) 0 ((D kv).2.2.2.2.1 - 0)).length) (flI (TC (D kv).2.2.2.2.2 (D kv).2.2.2.2.1) 0 ((D kv).2.2.2.2.1 - 0)).length r_177 gg_176 := hw
              have hw_197 := hw
              obtain ⟨hti1, hti2⟩ := hq_187
              have hHLw := hq_186
              refine lv_if_ne (tgt := 131) hx hb dX15_wish_125 (by decide) (fun c_198 => ?_) (fun c_198 => ?_)
              ·
                have hgt : tgT (kyT (D kv)) (kyY (D kv)) = some gg_176 := by rcases hw_197 with h9 | h9; have h8 := h9.2; rw [hwT] at h8; exact h8; exact absurd h9.1 c_198
                have hrw := rwM_y h71 (by omega)
                obtain ⟨hrc1, hrc2⟩ := rc_of (own := sw2) hgt
                refine lv_aload_n hx hb dX15_wish_131 rfl (lv_at hl 2 rfl) ?_
                refine pg_get (ci := 15) (v := .ref wi) (C := RX15) (T := TX15) (N := 59) hx hb hts it_15 hown hK hP hL_h0 hF_192 rfl 37 (by decide) (hts _ kt_1132) (fun _ h9 => h9) rfl dX15_wish_132 ?_
                obtain ⟨q_199, v_200, hr_q_199, hX_q_199⟩ := hG.2.2 ("PostGateModel", 533, "p", [112]) (by decide +kernel)
                have hX_q_199 : SXc q_199 v_200 1 (cct [112]) A s s.heap := hX_q_199
                obtain ⟨xo_q_199, xc_q_199, xv_q_199, xt_q_199, xn_q_199⟩ := id hX_q_199
                have hr_q_199 : vk_R "PostGateModel" 533 "p" q_199 s := hr_q_199
                refine va_ldcwS hx hb hown hr_q_199 dX15_wish_135 ?_
                have hFc := pg_free hD hS hA
                refine va_calli (va_runS (As := [.ref wi, .ref q_199]) (rest := []) ⟨hx, hb, hml, hown, hts⟩ (s_X15_wanted_x l dC dI cs ty gm L H.size F_178 wi (ρ + 15) x_7 700 700 y0_8 y1_9 y2_10 r_57 ((flI (TC (D kv).2.2.2.2.2 (D kv).2.2.2.2.1) 0 ((D kv).2.2.2.2.1 - 0)).length) gg_176.1 fc_162 p0_179 p1_180 p2_181 gg_176.2 q_199 v_200 1 (cct [112]) ([112]) hW hi_51 ht_52 hi_53 ht_58 hF_195 hF_196 (by omega) hq_182 hq_183 hq_184 hq_185 (hti2) (hq_186) (hti1) (by omega) (⟨rfl, by decide +kernel⟩)) ⟨callB_of 2 hts (gi kt_1196) rfl rfl rfl (hts _ kt_669) (hts _ kt_1197) (by decide +kernel) ⟨Nat.le_of_ble_eq_true rfl, Nat.le_of_ble_eq_true rfl⟩, (hts _ kt_1198)⟩ ⟨fun a U g mk q => ⟨q.1, PTEm.calling q.2⟩, fun U hU hWm => ⟨rfl, PTEm.mk hU hWm hP hK hD hE hO hG (fun x hx => by rw [List.mem_singleton] at hx; subst hx; exact hX_q_199) hS hFc⟩⟩ rfl rfl hl.1 rfl (lv_room (Nat.le_of_ble_eq_true rfl)) dX15_wish_138 ⟨by show _ + 0 ≤ 0; omega, by show _ + 0 ≤ 0; omega⟩) hS (fun q _ h => hFc q h) hFc (fun r_201 u t H1 locs ht hvm hw hB hz1 hk1 hS => ?_)
                obtain ⟨F_202, hB1⟩ := hB
                obtain rfl : F_178 = F_202 := (funext (fun a => hB1.2.2.2 a List.not_mem_nil)).symm
                obtain ⟨hP, hD, hO, hR⟩ := QTm.back hB1 ht hFc hR (fun q h => absurd h List.not_mem_nil)
                generalize H1 = H at hP hS ⊢
                have hw : r_201 = nI (wnW (TC fc_162 (flI (TC (D kv).2.2.2.2.2 (D kv).2.2.2.2.1) 0 ((D kv).2.2.2.2.1 - 0)).length) gg_176.2 gg_176.1 [112]) := hw
                subst hw
                refine lv_topi (fun x9 ex9 => ?_)
                obtain rfl : x9 = nI (wnW (flT (TC (D kv).2.2.2.2.2 (D kv).2.2.2.2.1) 0 ((D kv).2.2.2.2.1 - 0)) gg_176.2 gg_176.1 [112]) := ex9.trans (by rw [hwT])
                have hwb5 := wnW_le (T := (flT (TC (D kv).2.2.2.2.2 (D kv).2.2.2.2.1) 0 ((D kv).2.2.2.2.1 - 0))) (g := gg_176.2) (n := gg_176.1) (l := [112])
                refine lv_istore (lv' := [(4, .int (nI (wnW (flT (TC (D kv).2.2.2.2.2 (D kv).2.2.2.2.1) 0 ((D kv).2.2.2.2.1 - 0)) gg_176.2 gg_176.1 [112]))), (3, .int (nI kv)), (2, .int sw2), (0, .ref h0), (1, .int x1)]) hx hb dX15_wish_141 hl (by decide) rfl (fun ls hl => ?_)
                refine lv_iload hx hb dX15_wish_143 (lv_at hl 0 rfl) ?_
                refine lv_bipush (v := 6) hx hb dX15_wish_145 (by decide) ?_
                refine lv_icmp_ne (tgt := 153) hx hb dX15_wish_147 (by decide) (fun c_203 => ?_) (fun c_203 => ?_)
                ·
                  have hi_204 : (wnW (flT (TC (D kv).2.2.2.2.2 (D kv).2.2.2.2.1) 0 ((D kv).2.2.2.2.1 - 0)) gg_176.2 gg_176.1 [112]) ≠ 6 := fun q => c_203 (by rw [q]; rfl)
                  have hw147 : ¬ (wnW (flT (TC (D kv).2.2.2.2.2 (D kv).2.2.2.2.1) 0 ((D kv).2.2.2.2.1 - 0)) gg_176.2 gg_176.1 [112]) = 6 := fun q => c_203 (by rw [q]; rfl)
                  have hF_207 : F ml = .inl (cs 17, 3000, .inl gl) := (hR ml (by rw [ht_73]; simp only [mem_tgS, List.mem_append, List.mem_cons, List.not_mem_nil, or_false]; omega)).symm.trans hF_188
                  have hF_208 : F va = .inl (cs 23, 40, .inr (.inr (.inr (.inr f_123)))) := (hR va (by rw [ht_122]; simp only [mem_tgS, List.mem_append, List.mem_cons, List.not_mem_nil, or_false]; omega)).symm.trans hF_191
                  have hF_209 : F b_144 = .inr (14, [.ref r_145, .int (nI (D kv).2.2.2.2.1)]) := (hR b_144 (by rw [ht_148]; simp only [mem_tgS, List.mem_append, List.mem_cons, List.not_mem_nil, or_false]; omega)).symm.trans hF_193
                  have hF_210 : F r_145 = .inl (cs 17, 700, .inl ((D kv).2.2.2.2.2)) := (hR r_145 (by rw [ht_150]; simp only [mem_tgS, List.mem_append, List.mem_cons, List.not_mem_nil, or_false]; omega)).symm.trans hF_194
                  refine W.widen (k := 0) (n := 0) (by omega) (by omega) ?_
                  refine pl_cutm (σ := Int32) A (dC, dI) cs ty gm L (tgS ρ 0 ++ [ρ + 10, ρ + 11, ρ + 12, ρ + 13, ρ + 14, ρ + 15, ρ + 16, ρ + 17, ρ + 18, ρ + 19, ρ + 20, ρ + 21, ρ + 22, ρ + 23, ρ + 24, ρ + 25, ρ + 26, ρ + 28, ρ + 29, ρ + 30, ρ + 81, ρ + 82, ρ + 83, ρ + 84, ρ + 85, ρ + 86, ρ + 87, ρ + 88, ρ + 89, ρ + 90]) F 192 6 (fun s4 => [(4, .int s4), (0, .ref h0), (1, .int x1)]) (fun s4 => []) (fun s4 FF => mvW D ze V = (-1) ∧ s4 = nI (wnM D ze V) ∧ FF ak = .inr (14, [.ref rak, .int (nI V.length)]) ∧ FF rak = .inl (cs 17, 6000, .inl gv9) ∧ FF wi = .inr (13, [.ref x_7, .ref y0_8, .ref y1_9, .ref y2_10, .int (nI gg_176.1)]) ∧ FF x_7 = .inr (14, [.ref r_57, .int (nI (flI (TC (D kv).2.2.2.2.2 (D kv).2.2.2.2.1) 0 ((D kv).2.2.2.2.1 - 0)).length)]) ∧ FF r_57 = .inl (cs 17, 700, .inl fc_162) ∧ FF y0_8 = .inl (cs 16, 40, .inl p0_179) ∧ FF y1_9 = .inl (cs 16, 40, .inl p1_180) ∧ FF y2_10 = .inl (cs 16, 40, .inl p2_181)) ?_ (fun jn_205 => ?_)
                  ·
                    rintro s4 F_206 hv_211 hO hR H locs hP hD hS ls hl
                    have hl : lv_has ls 6 [(4, .int s4), (0, .ref h0), (1, .int x1)] := hl
                    have hv_211 : mvW D ze V = (-1) ∧ s4 = nI (wnM D ze V) ∧ F_206 ak = .inr (14, [.ref rak, .int (nI V.length)]) ∧ F_206 rak = .inl (cs 17, 6000, .inl gv9) ∧ F_206 wi = .inr (13, [.ref x_7, .ref y0_8, .ref y1_9, .ref y2_10, .int (nI gg_176.1)]) ∧ F_206 x_7 = .inr (14, [.ref r_57, .int (nI (flI (TC (D kv).2.2.2.2.2 (D kv).2.2.2.2.1) 0 ((D kv).2.2.2.2.1 - 0)).length)]) ∧ F_206 r_57 = .inl (cs 17, 700, .inl fc_162) ∧ F_206 y0_8 = .inl (cs 16, 40, .inl p0_179) ∧ F_206 y1_9 = .inl (cs 16, 40, .inl p1_180) ∧ F_206 y2_10 = .inl (cs 16, 40, .inl p2_181) := hv_211
                    refine W.eq (g2 := F0 m 192 ls []) rfl ?_
                    have hF_212 : F_206 ml = .inl (cs 17, 3000, .inl gl) := (hR ml (by rw [ht_73]; simp only [mem_tgS, List.mem_append, List.mem_cons, List.not_mem_nil, or_false]; omega)).trans hF_207
                    have hF_213 : F_206 va = .inl (cs 23, 40, .inr (.inr (.inr (.inr f_123)))) := (hR va (by rw [ht_122]; simp only [mem_tgS, List.mem_append, List.mem_cons, List.not_mem_nil, or_false]; omega)).trans hF_208
                    have hF_214 : F_206 b_144 = .inr (14, [.ref r_145, .int (nI (D kv).2.2.2.2.1)]) := (hR b_144 (by rw [ht_148]; simp only [mem_tgS, List.mem_append, List.mem_cons, List.not_mem_nil, or_false]; omega)).trans hF_209
                    have hF_215 : F_206 r_145 = .inl (cs 17, 700, .inl ((D kv).2.2.2.2.2)) := (hR r_145 (by rw [ht_150]; simp only [mem_tgS, List.mem_append, List.mem_cons, List.not_mem_nil, or_false]; omega)).trans hF_210
                    obtain ⟨hop, hs4, kc_ak, kc_rak, kc_wi, kc_x_7, kc_r_57, kc_y0_8, kc_y1_9, kc_y2_10⟩ := id hv_211
                    subst hs4
                    refine lv_aload_n hx hb dX15_wish_192 rfl (lv_at hl 1 rfl) ?_
                    have hQso := hR so (by rw [hTs0]; simp only [mem_tgS, List.mem_append, List.mem_cons, List.not_mem_nil, or_false]; omega)
                    have hQad := hR ad (by rw [hTd0]; simp only [mem_tgS, List.mem_append, List.mem_cons, List.not_mem_nil, or_false]; omega)
                    have hQna := hR na (by rw [hTn0]; simp only [mem_tgS, List.mem_append, List.mem_cons, List.not_mem_nil, or_false]; omega)
                    have hQva := hR va (by rw [hTv0]; simp only [mem_tgS, List.mem_append, List.mem_cons, List.not_mem_nil, or_false]; omega)
                    have hDM5 := DIRM.fr hDM hO0 hW0 hLn0 hTn0 hLv0 hTv0 (by omega) hR hQso hQad hQna hQva (fun k hk => ⟨by simp only [mem_tgS, List.mem_append, List.mem_cons, List.not_mem_nil, or_false]; omega, by simp only [mem_tgS, List.mem_append, List.mem_cons, List.not_mem_nil, or_false]; omega⟩)
                    obtain ⟨hi_216, r_1, ht_217⟩ := hW.f_lc hL_h0 hT_h0
                    have hSN5 : sn = 0 ∨ (TXM cs F_206 lc 30 LC ∧ TXM cs F_206 dm 60 DN) := hSN.imp id (fun q => ⟨q.1.fr hO0 hW0 hi_216 ht_217 hR (by simp only [mem_tgS, List.mem_append, List.mem_cons, List.not_mem_nil, or_false]; omega), q.2.fr hO0 hW0 hi_64 ht_65 hR (by simp only [mem_tgS, List.mem_append, List.mem_cons, List.not_mem_nil, or_false]; omega)⟩)
                    obtain ⟨zm9, fm9, hm1, hm2, hm3, hm4⟩ := (hSN5.resolve_left hs0).2.get hO hi_64 ht_65
                    have hFc := pg_free hD hS hA
                    obtain ⟨v14_218, v15_219, v17_220, v18_221, v19_222, v20_223, v21_224, v22_225, v33_226, v52_227, v53_228, v54_229, hF_230, hq_231, hq_232, hq_233, hq_234, hq_235⟩ := hO.mod hL_h0 hT_h0
                    refine va_calli (va_runV (As := []) (rest := []) ⟨hx, hb, hml, hown, hts⟩ (s_X15_permission_c l dC dI cs ty gm L H.size F_206 h0 ρ ta ou so ad na va lc dm tg pe ml bg co sp nb0 nb1 nb2 pl se ke wi hs mo po nu pr sq xa sa n64 m64 ex wh sd tk hd ak ho ot sx s0 s1 s2 nf bd mm zo fm sn hg gc gv ze zt rp D LC DN hW hL_h0 hT_h0 hL_pe hT_pe (hDM5) (hVN) (hSN5)) ⟨callB_of 0 hts (gi kt_1199) rfl rfl rfl (hts _ kt_669) (hts _ kt_1200) (by decide +kernel) ⟨Nat.le_of_ble_eq_true rfl, Nat.le_of_ble_eq_true rfl⟩, (hts _ kt_1201), (hts _ kt_1202)⟩ ⟨fun a U g mk q => ⟨q.1, PTEm.calling q.2⟩, pg_recv hK hP hL_h0 hF_230 (q := (RX15, TX15, 59)) rfl, fun U hU hWm => ⟨rfl, PTEm.mk hU hWm hP hK hD hE hO hG (fun x hx => absurd hx List.not_mem_nil) hS hFc⟩⟩ rfl rfl hl.1 rfl (lv_room (Nat.le_of_ble_eq_true rfl)) dX15_wish_193 ⟨by show _ + 0 ≤ 0; omega, by show _ + 0 ≤ 0; omega⟩) hS (fun q _ h => hFc q h) hFc (fun r_237 gp_236 t H1 locs ht hvm hw hB hz1 hk1 hS => ?_)
                    obtain ⟨F_238, ty9, hty9, hB1, hW9⟩ := hB
                    subst hty9
                    have hR9 := FR.retype (im2 := [ta, ou, so, ad, na, va, lc, dm, tg, pe, ml, bg, co, sp, nb0, nb1, nb2, pl, se, ke, wi, hs, mo, po, nu, pr, sq, xa, sa, n64, m64, ex, wh, sd, tk, hd, ak, ho, ot, sx, s0, s1, s2, nf, bd, mm, zo, fm, sn, (hgr gp_236 hg), (gcr gp_236 gc), (gvr gp_236 gv), ze, zt]) hT_h0 hR
                    have hTU := hT_h0
                    obtain ⟨hP, hD, hO, hR⟩ := QTm.back hB1 ht hFc hR9 (fun q h => by simp only [mem_tgS, List.mem_append, List.mem_cons, List.not_mem_nil, or_false] at h ⊢; omega)
                    obtain ⟨ty, hty, hT_h0, hW, hO, hR⟩ : ∃ t9 : TyM, t9 = rtf ty h0 (15, ρ, [ta, ou, so, ad, na, va, lc, dm, tg, pe, ml, bg, co, sp, nb0, nb1, nb2, pl, se, ke, wi, hs, mo, po, nu, pr, sq, xa, sa, n64, m64, ex, wh, sd, tk, hd, ak, ho, ot, sx, s0, s1, s2, nf, bd, mm, zo, fm, sn, (hgr gp_236 hg), (gcr gp_236 gc), (gvr gp_236 gv), ze, zt]) ∧ t9 h0 = (15, ρ, [ta, ou, so, ad, na, va, lc, dm, tg, pe, ml, bg, co, sp, nb0, nb1, nb2, pl, se, ke, wi, hs, mo, po, nu, pr, sq, xa, sa, n64, m64, ex, wh, sd, tk, hd, ak, ho, ot, sx, s0, s1, s2, nf, bd, mm, zo, fm, sn, (hgr gp_236 hg), (gcr gp_236 gc), (gvr gp_236 gv), ze, zt]) ∧ WTm t9 gm L ∧ OKm cs t9 gm L F_238 ∧ FR t9 (tgS ρ 0 ++ [ρ + 10, ρ + 11, ρ + 12, ρ + 13, ρ + 14, ρ + 15, ρ + 16, ρ + 17, ρ + 18, ρ + 19, ρ + 20, ρ + 21, ρ + 22, ρ + 23, ρ + 24, ρ + 25, ρ + 26, ρ + 28, ρ + 29, ρ + 30, ρ + 81, ρ + 82, ρ + 83, ρ + 84, ρ + 85, ρ + 86, ρ + 87, ρ + 88, ρ + 89, ρ + 90]) F F_238 := ⟨_, rfl, rtf_self, hW9, hO, hR⟩
                    generalize H1 = H at hP hS ⊢
                    have hT3_ak : ty ak = (14, ρ + 28, [rak, 6000]) := by rw [hty]; exact rtf_tr hTU (by decide) hT_ak
                    have hF_239 : F_238 ak = .inr (14, [.ref rak, .int (nI V.length)]) := (hB1.2.2.2 ak (by rw [← hty, hT3_ak]; simp only [mem_tgS, List.mem_append, List.mem_cons, List.not_mem_nil, or_false]; omega)).trans kc_ak
                    have hT3_rak : ty rak = (17, ρ + 28, [6000]) := by rw [hty]; exact rtf_tr hTU (by decide) ht_44
                    have hF_240 : F_238 rak = .inl (cs 17, 6000, .inl gv9) := (hB1.2.2.2 rak (by rw [← hty, hT3_rak]; simp only [mem_tgS, List.mem_append, List.mem_cons, List.not_mem_nil, or_false]; omega)).trans kc_rak
                    have hT3_dm : ty dm = (14, ρ + 32, [r_2, 60]) := by rw [hty]; exact rtf_tr hTU (by decide) ht_65
                    have hF_241 : F_238 dm = .inr (14, [.ref r_2, .int (nI zm9)]) := (hB1.2.2.2 dm (by rw [← hty, hT3_dm]; simp only [mem_tgS, List.mem_append, List.mem_cons, List.not_mem_nil, or_false]; omega)).trans hm1
                    have hT3_r_2 : ty r_2 = (17, ρ + 32, [60]) := by rw [hty]; exact rtf_tr hTU (by decide) ht_67
                    have hF_242 : F_238 r_2 = .inl (cs 17, 60, .inl fm9) := (hB1.2.2.2 r_2 (by rw [← hty, hT3_r_2]; simp only [mem_tgS, List.mem_append, List.mem_cons, List.not_mem_nil, or_false]; omega)).trans hm2
                    have hT3_ml : ty ml = (17, ρ + 8, [3000]) := by rw [hty]; exact rtf_tr hTU (by decide) ht_73
                    have hF_243 : F_238 ml = .inl (cs 17, 3000, .inl gl) := (hB1.2.2.2 ml (by rw [← hty, hT3_ml]; simp only [mem_tgS, List.mem_append, List.mem_cons, List.not_mem_nil, or_false]; omega)).trans hF_212
                    have hT3_sx : ty sx = (14, ρ + 12, [sb, 3000]) := by rw [hty]; exact rtf_tr hTU (by decide) hT_sx
                    have hT3_sb : ty sb = (17, ρ + 12, [3000]) := by rw [hty]; exact rtf_tr hTU (by decide) ht_35
                    have hT3_pl : ty pl = (14, ρ + 10, [rl, 6000]) := by rw [hty]; exact rtf_tr hTU (by decide) hT_pl
                    have hT3_rl : ty rl = (17, ρ + 10, [6000]) := by rw [hty]; exact rtf_tr hTU (by decide) ht_38
                    have hT3_wh : ty wh = (14, ρ + 24, [rwh, 6000]) := by rw [hty]; exact rtf_tr hTU (by decide) hT_wh
                    have hT3_sd : ty sd = (14, ρ + 25, [rsd, 3000]) := by rw [hty]; exact rtf_tr hTU (by decide) hT_sd
                    have hT3_rsd : ty rsd = (17, ρ + 25, [3000]) := by rw [hty]; exact rtf_tr hTU (by decide) ht_70
                    have hT3_se : ty se = (13, ρ + 11, [sx, 3000, 1280, s0, s1, s2]) := by rw [hty]; exact rtf_tr hTU (by decide) ht_25
                    have hT3_wi : ty wi = (13, ρ + 15, [x_7, 700, 700, y0_8, y1_9, y2_10]) := by rw [hty]; exact rtf_tr hTU (by decide) ht_52
                    have hF_244 : F_238 wi = .inr (13, [.ref x_7, .ref y0_8, .ref y1_9, .ref y2_10, .int (nI gg_176.1)]) := (hB1.2.2.2 wi (by rw [← hty, hT3_wi]; simp only [mem_tgS, List.mem_append, List.mem_cons, List.not_mem_nil, or_false]; omega)).trans kc_wi
                    have hT3_x_7 : ty x_7 = (14, ρ + 16, [r_57, 700]) := by rw [hty]; exact rtf_tr hTU (by decide) ht_58
                    have hF_245 : F_238 x_7 = .inr (14, [.ref r_57, .int (nI (flI (TC (D kv).2.2.2.2.2 (D kv).2.2.2.2.1) 0 ((D kv).2.2.2.2.1 - 0)).length)]) := (hB1.2.2.2 x_7 (by rw [← hty, hT3_x_7]; simp only [mem_tgS, List.mem_append, List.mem_cons, List.not_mem_nil, or_false]; omega)).trans kc_x_7
                    have hT3_r_57 : ty r_57 = (17, ρ + 16, [700]) := by rw [hty]; exact rtf_tr hTU (by decide) ht_158
                    have hF_246 : F_238 r_57 = .inl (cs 17, 700, .inl fc_162) := (hB1.2.2.2 r_57 (by rw [← hty, hT3_r_57]; simp only [mem_tgS, List.mem_append, List.mem_cons, List.not_mem_nil, or_false]; omega)).trans kc_r_57
                    have hT3_y0_8 : ty y0_8 = (25, ρ + 15, [40, 700]) := by rw [hty]; exact rtf_tr hTU (by decide) ht_59
                    have hF_247 : F_238 y0_8 = .inl (cs 16, 40, .inl p0_179) := (hB1.2.2.2 y0_8 (by rw [← hty, hT3_y0_8]; simp only [mem_tgS, List.mem_append, List.mem_cons, List.not_mem_nil, or_false]; omega)).trans kc_y0_8
                    have hT3_y1_9 : ty y1_9 = (25, ρ + 85, [40, 700]) := by rw [hty]; exact rtf_tr hTU (by decide) ht_60
                    have hF_248 : F_238 y1_9 = .inl (cs 16, 40, .inl p1_180) := (hB1.2.2.2 y1_9 (by rw [← hty, hT3_y1_9]; simp only [mem_tgS, List.mem_append, List.mem_cons, List.not_mem_nil, or_false]; omega)).trans kc_y1_9
                    have hT3_y2_10 : ty y2_10 = (25, ρ + 86, [40, 700]) := by rw [hty]; exact rtf_tr hTU (by decide) ht_61
                    have hF_249 : F_238 y2_10 = .inl (cs 16, 40, .inl p2_181) := (hB1.2.2.2 y2_10 (by rw [← hty, hT3_y2_10]; simp only [mem_tgS, List.mem_append, List.mem_cons, List.not_mem_nil, or_false]; omega)).trans kc_y2_10
                    have hw : ((sn = 0 ∧ r_237 = (-1) ∧ gp_236 = none) ∨ (¬ sn = 0 ∧ r_237 = nI (CHW D ze (sdM LC DN (nI fm)) (nI fm) 11 DN 0 0).1 ∧ gp_236 = some (CHW D ze (sdM LC DN (nI fm)) (nI fm) 11 DN 0 0).2)) := hw
                    have hw_250 := hw
                    obtain ⟨hq_264, hq_265, hq_266, hq_267, hq_268, hgO, hgA, hgB, hq_269⟩ := hW.sc hL_h0 hT_h0
                    have hpm := (hw_250.resolve_left (fun q => hs0 q.1)).2.2
                    have hpv := (hw_250.resolve_left (fun q => hs0 q.1)).2.1
                    have htyP := hty
                    have hrg := fun a => rtf_reg (a := a) hty hTU
                    obtain ⟨hi_270, r_262, ht_271⟩ := hW.f_ho hL_h0 hT_h0
                    obtain ⟨hi_272, ht_273, hq_274⟩ := hW.txt hi_270 ht_271
                    obtain ⟨hi_275, r_263, ht_276⟩ := hW.f_ot hL_h0 hT_h0
                    obtain ⟨hi_277, ht_278, hq_279⟩ := hW.txt hi_275 ht_276
                    refine lv_iconst (v := 2) hx hb dX15_wish_196 (by decide) ?_
                    obtain ⟨_, _, hq_280⟩ := hW.txt hL_ak hT3_ak
                    obtain ⟨hq_281, hq_282⟩ := hW.octs hi_43 hT3_rak
                    obtain ⟨_, _, _, _, _, _, _, _, hq_283, hq_284⟩ := hW.tags hi_51 hT3_wi
                    obtain ⟨_, _, hq_285⟩ := hW.txt hi_53 hT3_x_7
                    obtain ⟨hq_286, hq_287⟩ := hW.octs hi_157 hT3_r_57
                    have hF_290 : F dm = .inr (14, [.ref r_2, .int (nI zm9)]) := (hR dm (by rw [hT3_dm]; simp only [mem_tgS, List.mem_append, List.mem_cons, List.not_mem_nil, or_false]; omega)).symm.trans hF_241
                    have hF_291 : F r_2 = .inl (cs 17, 60, .inl fm9) := (hR r_2 (by rw [hT3_r_2]; simp only [mem_tgS, List.mem_append, List.mem_cons, List.not_mem_nil, or_false]; omega)).symm.trans hF_242
                    have hF_292 : F ml = .inl (cs 17, 3000, .inl gl) := (hR ml (by rw [hT3_ml]; simp only [mem_tgS, List.mem_append, List.mem_cons, List.not_mem_nil, or_false]; omega)).symm.trans hF_243
                    refine W.widen (k := 0) (n := 0) (by omega) (by omega) ?_
                    refine pl_cutm (σ := Unit) A (dC, dI) cs ty gm L (tgS ρ 0 ++ [ρ + 10, ρ + 11, ρ + 12, ρ + 13, ρ + 14, ρ + 15, ρ + 16, ρ + 17, ρ + 18, ρ + 19, ρ + 20, ρ + 21, ρ + 22, ρ + 23, ρ + 24, ρ + 25, ρ + 26, ρ + 28, ρ + 29, ρ + 30, ρ + 81, ρ + 82, ρ + 83, ρ + 84, ρ + 85, ρ + 86, ρ + 87, ρ + 88, ρ + 89, ρ + 90]) F 230 6 (fun u0 => [(4, .int (nI (wnM D ze V))), (0, .ref h0), (1, .int x1)]) (fun u0 => []) (fun u0 FF => (¬ ((CHW D ze (sdM LC DN (nI fm)) (nI fm) 11 DN 0 0).1 = 2 ∧ ALGm D ze (saM D ze V) DN V)) ∧ FF ak = .inr (14, [.ref rak, .int (nI V.length)]) ∧ FF rak = .inl (cs 17, 6000, .inl gv9) ∧ FF wi = .inr (13, [.ref x_7, .ref y0_8, .ref y1_9, .ref y2_10, .int (nI gg_176.1)]) ∧ FF x_7 = .inr (14, [.ref r_57, .int (nI (flI (TC (D kv).2.2.2.2.2 (D kv).2.2.2.2.1) 0 ((D kv).2.2.2.2.1 - 0)).length)]) ∧ FF r_57 = .inl (cs 17, 700, .inl fc_162) ∧ FF y0_8 = .inl (cs 16, 40, .inl p0_179) ∧ FF y1_9 = .inl (cs 16, 40, .inl p1_180) ∧ FF y2_10 = .inl (cs 16, 40, .inl p2_181)) ?_ (fun jn_288 => ?_)
                    ·
                      rintro u0 F_289 hv_293 hO hR H locs hP hD hS ls hl
                      have hl : lv_has ls 6 [(4, .int (nI (wnM D ze V))), (0, .ref h0), (1, .int x1)] := hl
                      have hv_293 : (¬ ((CHW D ze (sdM LC DN (nI fm)) (nI fm) 11 DN 0 0).1 = 2 ∧ ALGm D ze (saM D ze V) DN V)) ∧ F_289 ak = .inr (14, [.ref rak, .int (nI V.length)]) ∧ F_289 rak = .inl (cs 17, 6000, .inl gv9) ∧ F_289 wi = .inr (13, [.ref x_7, .ref y0_8, .ref y1_9, .ref y2_10, .int (nI gg_176.1)]) ∧ F_289 x_7 = .inr (14, [.ref r_57, .int (nI (flI (TC (D kv).2.2.2.2.2 (D kv).2.2.2.2.1) 0 ((D kv).2.2.2.2.1 - 0)).length)]) ∧ F_289 r_57 = .inl (cs 17, 700, .inl fc_162) ∧ F_289 y0_8 = .inl (cs 16, 40, .inl p0_179) ∧ F_289 y1_9 = .inl (cs 16, 40, .inl p1_180) ∧ F_289 y2_10 = .inl (cs 16, 40, .inl p2_181) := hv_293
                      refine W.eq (g2 := F0 m 230 ls []) rfl ?_
                      have hF_294 : F_289 dm = .inr (14, [.ref r_2, .int (nI zm9)]) := (hR dm (by rw [hT3_dm]; simp only [mem_tgS, List.mem_append, List.mem_cons, List.not_mem_nil, or_false]; omega)).trans hF_290
                      have hF_295 : F_289 r_2 = .inl (cs 17, 60, .inl fm9) := (hR r_2 (by rw [hT3_r_2]; simp only [mem_tgS, List.mem_append, List.mem_cons, List.not_mem_nil, or_false]; omega)).trans hF_291
                      have hF_296 : F_289 ml = .inl (cs 17, 3000, .inl gl) := (hR ml (by rw [hT3_ml]; simp only [mem_tgS, List.mem_append, List.mem_cons, List.not_mem_nil, or_false]; omega)).trans hF_292
                      obtain ⟨hNP, ke_ak, ke_rak, ke_wi, ke_x_7, ke_r_57, ke_y0_8, ke_y1_9, ke_y2_10⟩ := id hv_293
                      refine lv_iconst (v := 0) hx hb dX15_wish_230 (by decide) ?_
                      refine lv_istore (lv' := [(5, .int 0), (4, .int (nI (wnM D ze V))), (0, .ref h0), (1, .int x1)]) hx hb dX15_wish_231 hl (by decide) rfl (fun ls hl => ?_)
                      obtain ⟨_, _, hq_297⟩ := hW.txt hL_ak hT3_ak
                      obtain ⟨hq_298, hq_299⟩ := hW.octs hi_43 hT3_rak
                      obtain ⟨_, _, _, _, _, _, _, _, hq_300, hq_301⟩ := hW.tags hi_51 hT3_wi
                      obtain ⟨_, _, hq_302⟩ := hW.txt hi_53 hT3_x_7
                      obtain ⟨hq_303, hq_304⟩ := hW.octs hi_157 hT3_r_57
                      refine W.widen (k := 0) (n := 0) (by omega) (by omega) ?_
                      have hF_306 : F dm = .inr (14, [.ref r_2, .int (nI zm9)]) := (hR dm (by rw [hT3_dm]; simp only [mem_tgS, List.mem_append, List.mem_cons, List.not_mem_nil, or_false]; omega)).symm.trans hF_294
                      have hF_307 : F r_2 = .inl (cs 17, 60, .inl fm9) := (hR r_2 (by rw [hT3_r_2]; simp only [mem_tgS, List.mem_append, List.mem_cons, List.not_mem_nil, or_false]; omega)).symm.trans hF_295
                      have hF_308 : F ml = .inl (cs 17, 3000, .inl gl) := (hR ml (by rw [hT3_ml]; simp only [mem_tgS, List.mem_append, List.mem_cons, List.not_mem_nil, or_false]; omega)).symm.trans hF_296
                      refine pl_loopm (σ := Nat) A (dC, dI) cs ty gm L (tgS ρ 0 ++ [ρ + 10, ρ + 11, ρ + 12, ρ + 13, ρ + 14, ρ + 15, ρ + 16, ρ + 17, ρ + 18, ρ + 19, ρ + 20, ρ + 21, ρ + 22, ρ + 23, ρ + 24, ρ + 25, ρ + 26, ρ + 28, ρ + 29, ρ + 30, ρ + 81, ρ + 82, ρ + 83, ρ + 84, ρ + 85, ρ + 86, ρ + 87, ρ + 88, ρ + 89, ρ + 90]) F 233 6 (fun j => [(5, .int (nI j)), (4, .int (nI (wnM D ze V))), (0, .ref h0), (1, .int x1)]) (fun j => []) (fun j FF => j ≤ nf ∧ (∀ k9, k9 < j → (fun k9 => NAL (TC gl mm) (gm 0 k9) (gm 1 k9) DKL) k9 → ∃ x9, (fun k9 x9 => SJRm gl mm nf bd k9 (gm 0) (gm 1) gd D ze nw (flT (TC gl mm) (gm 1 k9 + 1) ((gd k9) - (gm 1 k9 + 1))) (flI (TC gl mm) (gm 1 k9 + 1) ((gd k9) - (gm 1 k9 + 1))).length x9) k9 x9 ∧ ¬ (x9 = 2 ∧ (fun k9 => ALGm D ze (skM D ze V) (dmO (flT (TC gl mm) (gm 1 k9 + 1) ((gd k9) - (gm 1 k9 + 1))) (flI (TC gl mm) (gm 1 k9 + 1) ((gd k9) - (gm 1 k9 + 1))).length) V) k9)) ∧ FF ak = .inr (14, [.ref rak, .int (nI V.length)]) ∧ FF rak = .inl (cs 17, 6000, .inl gv9) ∧ FF wi = .inr (13, [.ref x_7, .ref y0_8, .ref y1_9, .ref y2_10, .int (nI gg_176.1)]) ∧ FF x_7 = .inr (14, [.ref r_57, .int (nI (flI (TC (D kv).2.2.2.2.2 (D kv).2.2.2.2.1) 0 ((D kv).2.2.2.2.1 - 0)).length)]) ∧ FF r_57 = .inl (cs 17, 700, .inl fc_162) ∧ FF y0_8 = .inl (cs 16, 40, .inl p0_179) ∧ FF y1_9 = .inl (cs 16, 40, .inl p1_180) ∧ FF y2_10 = .inl (cs 16, 40, .inl p2_181)) (fun j => nf - j) ?_ 0 F_289 (⟨Nat.zero_le _, fun k9 hk => absurd hk (Nat.not_lt_zero _), ke_ak, ke_rak, ke_wi, ke_x_7, ke_r_57, ke_y0_8, ke_y1_9, ke_y2_10⟩) hO hR _ _ hP hD hS ls (lv_sub hl [0, 1, 2, 3] rfl)
                      rintro j F_305 hv_309 hO hR ih_310 H locs hP hD hS ls hl
                      have hl : lv_has ls 6 [(5, .int (nI j)), (4, .int (nI (wnM D ze V))), (0, .ref h0), (1, .int x1)] := hl
                      have hv_309 : j ≤ nf ∧ (∀ k9, k9 < j → (fun k9 => NAL (TC gl mm) (gm 0 k9) (gm 1 k9) DKL) k9 → ∃ x9, (fun k9 x9 => SJRm gl mm nf bd k9 (gm 0) (gm 1) gd D ze nw (flT (TC gl mm) (gm 1 k9 + 1) ((gd k9) - (gm 1 k9 + 1))) (flI (TC gl mm) (gm 1 k9 + 1) ((gd k9) - (gm 1 k9 + 1))).length x9) k9 x9 ∧ ¬ (x9 = 2 ∧ (fun k9 => ALGm D ze (skM D ze V) (dmO (flT (TC gl mm) (gm 1 k9 + 1) ((gd k9) - (gm 1 k9 + 1))) (flI (TC gl mm) (gm 1 k9 + 1) ((gd k9) - (gm 1 k9 + 1))).length) V) k9)) ∧ F_305 ak = .inr (14, [.ref rak, .int (nI V.length)]) ∧ F_305 rak = .inl (cs 17, 6000, .inl gv9) ∧ F_305 wi = .inr (13, [.ref x_7, .ref y0_8, .ref y1_9, .ref y2_10, .int (nI gg_176.1)]) ∧ F_305 x_7 = .inr (14, [.ref r_57, .int (nI (flI (TC (D kv).2.2.2.2.2 (D kv).2.2.2.2.1) 0 ((D kv).2.2.2.2.1 - 0)).length)]) ∧ F_305 r_57 = .inl (cs 17, 700, .inl fc_162) ∧ F_305 y0_8 = .inl (cs 16, 40, .inl p0_179) ∧ F_305 y1_9 = .inl (cs 16, 40, .inl p1_180) ∧ F_305 y2_10 = .inl (cs 16, 40, .inl p2_181) := hv_309
                      refine W.eq (g2 := F0 m 233 ls []) rfl ?_
                      have hF_311 : F_305 dm = .inr (14, [.ref r_2, .int (nI zm9)]) := (hR dm (by rw [hT3_dm]; simp only [mem_tgS, List.mem_append, List.mem_cons, List.not_mem_nil, or_false]; omega)).trans hF_306
                      have hF_312 : F_305 r_2 = .inl (cs 17, 60, .inl fm9) := (hR r_2 (by rw [hT3_r_2]; simp only [mem_tgS, List.mem_append, List.mem_cons, List.not_mem_nil, or_false]; omega)).trans hF_307
                      have hF_313 : F_305 ml = .inl (cs 17, 3000, .inl gl) := (hR ml (by rw [hT3_ml]; simp only [mem_tgS, List.mem_append, List.mem_cons, List.not_mem_nil, or_false]; omega)).trans hF_308
                      obtain ⟨hv1, hv2, kf_ak, kf_rak, kf_wi, kf_x_7, kf_r_57, kf_y0_8, kf_y1_9, kf_y2_10⟩ := id hv_309
                      have hoj := fun h9 : j < nf => hgO j h9
                      refine lv_iload hx hb dX15_wish_233 (lv_at hl 0 rfl) ?_
                      refine lv_aload_n hx hb dX15_wish_235 rfl (lv_at hl 2 rfl) ?_
                      obtain ⟨v14_314, v15_315, v17_316, v18_317, v19_318, v20_319, v21_320, v22_321, v33_322, v52_323, v53_324, v54_325, hF_326, hq_327, hq_328, hq_329, hq_330, hq_331⟩ := hO.mod hL_h0 hT_h0
                      refine pg_get (ci := 15) (v := .int (nI nf)) (C := RX15) (T := TX15) (N := 59) hx hb hts it_15 hown hK hP hL_h0 hF_326 rfl 30 (by decide) (hts _ kt_892) (fun _ h9 => h9) rfl dX15_wish_236 ?_
                      refine lv_icmp_ge (tgt := 304) hx hb dX15_wish_239 (by decide) (fun c_332 => ?_) (fun c_332 => ?_)
                      ·
                        have hi_333 : nf ≤ j := leN (N := nf) c_332
                        refine lv_iload hx hb dX15_wish_304 (lv_at hl 1 rfl) ?_
                        refine W.widen (k := 0) (n := 0) (by omega) (by omega) ?_
                        exact W.iret (v := (nI (wnM D ze V))) hx hb hr (fun t ht hWm => ⟨⟨(nI (wnM D ze V)), gp_236, rfl, (Or.inr (Or.inr ⟨hnz, hn0, _, snr_plr D ze hw_105, Or.inr ⟨by rw [hVe]; exact hop, V, jV, hjV, hPV, hZV, Or.inr ⟨hNP, 0, (by rw [hxe, nI_clamp hnw]; exact Or.inr ⟨rfl, fun k9 h9 => hv2 k9 (by omega)⟩), Or.inr ⟨rfl, rfl⟩⟩⟩⟩)), ⟨F_305, ty, htyP, QTm.mk ht hP hD hO hR, hW, (Or.inr ⟨hs0, Int32.not_lt.mpr c_97, hn0, _, snr_plr D ze hw_105, Or.inl ⟨by rw [hVe]; exact hop, hpm⟩⟩)⟩⟩, hS.F ht⟩) hS.2.2 dX15_wish_306
                      ·
                        have hi_334 : j < nf := ltN (N := nf) c_332
                        have hjn : j < nf := Nat.not_le.mp (fun q => c_332 ((nI_leI (by omega) (by omega)).mpr q))
                        have hoj9 := hgO j hjn
                        refine lv_aload_n hx hb dX15_wish_242 rfl (lv_at hl 2 rfl) ?_
                        refine lv_iload hx hb dX15_wish_243 (lv_at hl 0 rfl) ?_
                        obtain ⟨q_335, v_336, hr_q_335, hX_q_335⟩ := hG.2.2 ("PostGateModel", 376, "dkim-signature", [100, 107, 105, 109, 45, 115, 105, 103, 110, 97, 116, 117, 114, 101]) (by decide +kernel)
                        have hX_q_335 : SXc q_335 v_336 14 (cct [100, 107, 105, 109, 45, 115, 105, 103, 110, 97, 116, 117, 114, 101]) A s s.heap := hX_q_335
                        obtain ⟨xo_q_335, xc_q_335, xv_q_335, xt_q_335, xn_q_335⟩ := id hX_q_335
                        have hr_q_335 : vk_R "PostGateModel" 376 "dkim-signature" q_335 s := hr_q_335
                        refine va_ldcwS hx hb hown hr_q_335 dX15_wish_245 ?_
                        obtain ⟨hq_337, hq_338⟩ := hW.octs hi_72 hT3_ml
                        have hFc := pg_free hD hS hA
                        refine va_calli (va_runV (As := [.int (nI j), .ref q_335]) (rest := []) ⟨hx, hb, hml, hown, hts⟩ (s_X15_isNamed_e l dC dI cs ty gm L H.size F_305 h0 ρ ta ou so ad na va lc dm tg pe ml bg co sp nb0 nb1 nb2 pl se ke wi hs mo po nu pr sq xa sa n64 m64 ex wh sd tk hd ak ho ot sx s0 s1 s2 nf bd mm zo fm sn (hgr gp_236 hg) (gcr gp_236 gc) (gvr gp_236 gv) ze zt j q_335 v_336 14 (cct [100, 107, 105, 109, 45, 115, 105, 103, 110, 97, 116, 117, 114, 101]) gl hW hL_h0 hT_h0 hF_313 (hjn)) ⟨callB_of 2 hts (gi kt_893) rfl rfl rfl (hts _ kt_669) (hts _ kt_894) (by decide +kernel) ⟨Nat.le_of_ble_eq_true rfl, Nat.le_of_ble_eq_true rfl⟩, (hts _ kt_895), (hts _ kt_896)⟩ ⟨fun a U g mk q => ⟨q.1, PTEm.calling q.2⟩, pg_recv hK hP hL_h0 hF_326 (q := (RX15, TX15, 59)) rfl, fun U hU hWm => ⟨rfl, PTEm.mk hU hWm hP hK hD hE hO hG (fun x hx => by rw [List.mem_singleton] at hx; subst hx; exact hX_q_335) hS hFc⟩⟩ rfl rfl hl.1 rfl (lv_room (Nat.le_of_ble_eq_true rfl)) dX15_wish_248 ⟨by show _ + 0 ≤ 0; omega, by show _ + 0 ≤ 0; omega⟩) hS (fun q _ h => hFc q h) hFc (fun r_339 u t H1 locs ht hvm hw hB hz1 hk1 hS => ?_)
                        obtain ⟨F_340, hB1⟩ := hB
                        obtain rfl : F_305 = F_340 := (funext (fun a => hB1.2.2.2 a List.not_mem_nil)).symm
                        obtain ⟨hP, hD, hO, hR⟩ := QTm.back hB1 ht hFc hR (fun q h => absurd h List.not_mem_nil)
                        generalize H1 = H at hP hS ⊢
                        have hw : ((r_339 = 1 ∧ alP gl (gm 0 j) (gm 1 j) (cct [100, 107, 105, 109, 45, 115, 105, 103, 110, 97, 116, 117, 114, 101]) 14) ∨ (r_339 = 0 ∧ ¬ alP gl (gm 0 j) (gm 1 j) (cct [100, 107, 105, 109, 45, 115, 105, 103, 110, 97, 116, 117, 114, 101]) 14)) := hw
                        have hw_341 := hw
                        refine lv_if_eq (tgt := 298) hx hb dX15_wish_251 (by decide) (fun c_342 => ?_) (fun c_342 => ?_)
                        ·
                          have hNN : ¬ NAL (TC gl mm) (gm 0 j) (gm 1 j) DKL := fun q => orp0 hw_341 c_342 ((nal_dk ⟨rfl, by decide +kernel⟩ (by omega)).mpr q)
                          refine lv_iinc (v := (nI (j + 1))) (lv' := [(5, .int (nI (j + 1))), (4, .int (nI (wnM D ze V))), (0, .ref h0), (1, .int x1)]) hx hb dX15_wish_298 hl (k := 0) rfl (nI_1 _) (by decide) rfl (fun ls hl => ?_)
                          refine lv_goto (tgt := 233) hx hb dX15_wish_301 (by decide) ?_
                          refine W.widen (k := 0) (n := 0) (by omega) (by omega) ?_
                          exact ih_310 (j + 1) F_305 (⟨by omega, all_step hv2 (fun hk => absurd hk hNN), kf_ak, kf_rak, kf_wi, kf_x_7, kf_r_57, kf_y0_8, kf_y1_9, kf_y2_10⟩) (by show nf - (j + 1) < nf - j; omega) hO hR _ _ hP hD hS ls (lv_sub hl [0, 1, 2, 3] rfl)
                        ·
                          have hNN : NAL (TC gl mm) (gm 0 j) (gm 1 j) DKL := (nal_dk ⟨rfl, by decide +kernel⟩ (by omega)).mp (orp1 hw_341 c_342)
                          refine lv_aload_n hx hb dX15_wish_254 rfl (lv_at hl 2 rfl) ?_
                          refine lv_iload hx hb dX15_wish_255 (lv_at hl 0 rfl) ?_
                          refine lv_iload_n hx hb dX15_wish_257 rfl (lv_at hl 3 rfl) ?_
                          have hRo := FR.reg hR hrg
                          have hQso := hRo so (by rw [hTs0]; simp only [mem_tgS, List.mem_append, List.mem_cons, List.not_mem_nil, or_false]; omega)
                          have hQad := hRo ad (by rw [hTd0]; simp only [mem_tgS, List.mem_append, List.mem_cons, List.not_mem_nil, or_false]; omega)
                          have hQna := hRo na (by rw [hTn0]; simp only [mem_tgS, List.mem_append, List.mem_cons, List.not_mem_nil, or_false]; omega)
                          have hQva := hRo va (by rw [hTv0]; simp only [mem_tgS, List.mem_append, List.mem_cons, List.not_mem_nil, or_false]; omega)
                          have hDMB := DIRM.fr hDM hO0 hW0 hLn0 hTn0 hLv0 hTv0 (by omega) hRo hQso hQad hQna hQva (fun k hk => ⟨by simp only [mem_tgS, List.mem_append, List.mem_cons, List.not_mem_nil, or_false]; omega, by simp only [mem_tgS, List.mem_append, List.mem_cons, List.not_mem_nil, or_false]; omega⟩)
                          refine W.eq (g2 := F0 m 258 ls [.int (nI nw), .int (nI j), .ref h0]) (by rw [hxe]) ?_
                          obtain ⟨_, _, hq_343⟩ := hW.txt hL_sx hT3_sx
                          obtain ⟨_, _, hq_344⟩ := hW.txt hL_pl hT3_pl
                          obtain ⟨hi_345, ht_346, hq_347⟩ := hW.txt hL_wh hT3_wh
                          obtain ⟨_, _, hq_348⟩ := hW.txt hL_sd hT3_sd
                          have hFc := pg_free hD hS hA
                          refine va_calli (va_runV (As := [.int (nI j), .int (nI nw)]) (rest := []) ⟨hx, hb, hml, hown, hts⟩ (s_X15_sealOf_x l dC dI cs ty gm L H.size F_305 h0 ρ ta ou so ad na va lc dm tg pe ml bg co sp nb0 nb1 nb2 pl se ke wi hs mo po nu pr sq xa sa n64 m64 ex wh sd tk hd ak ho ot sx s0 s1 s2 nf bd mm zo fm sn (hgr gp_236 hg) (gcr gp_236 gc) (gvr gp_236 gv) ze zt sb rl rwh rsd j nw gl D gd hW hL_h0 hT_h0 hL_sx hT3_sx hL_pl hT3_pl hL_wh hT3_wh hL_sd hT3_sd hF_313 (hpos) (hjn) (hnw) (hDMB) (hbd) (hby.resolve_left hn0)) ⟨callB_of 2 hts (gi kt_989) rfl rfl rfl (hts _ kt_669) (hts _ kt_990) (by decide +kernel) ⟨Nat.le_of_ble_eq_true rfl, Nat.le_of_ble_eq_true rfl⟩, (hts _ kt_991), (hts _ kt_992)⟩ ⟨fun a U g mk q => ⟨q.1, PTEm.calling q.2⟩, pg_recv hK hP hL_h0 hF_326 (q := (RX15, TX15, 59)) rfl, fun U hU hWm => ⟨rfl, PTEm.mk hU hWm hP hK hD hE hO hG (fun x hx => absurd hx List.not_mem_nil) hS hFc⟩⟩ rfl rfl hl.1 rfl (lv_room (Nat.le_of_ble_eq_true rfl)) dX15_wish_258 ⟨by show _ + 0 ≤ 0; omega, by show _ + 0 ≤ 0; omega⟩) hS (fun q _ h => hFc q h) hFc (fun r_349 u t H1 locs ht hvm hw hB hz1 hk1 hS => ?_)
                          obtain ⟨F_350, hB1, hq_351⟩ := hB
                          obtain ⟨hP, hD, hO, hR⟩ := QTm.back hB1 ht hFc hR (fun q h => by simp only [mem_tgS, List.mem_append, List.mem_cons, List.not_mem_nil, or_false] at h ⊢; omega)
                          have hF_352 : F_350 dm = .inr (14, [.ref r_2, .int (nI zm9)]) := (hB1.2.2.2 dm (by rw [hT3_dm]; simp)).trans hF_311
                          have hF_353 : F_350 r_2 = .inl (cs 17, 60, .inl fm9) := (hB1.2.2.2 r_2 (by rw [hT3_r_2]; simp)).trans hF_312
                          have hF_354 : F_350 ml = .inl (cs 17, 3000, .inl gl) := (hB1.2.2.2 ml (by rw [hT3_ml]; simp)).trans hF_313
                          have hF_355 : F_350 ak = .inr (14, [.ref rak, .int (nI V.length)]) := (hB1.2.2.2 ak (by rw [hT3_ak]; simp)).trans kf_ak
                          have hF_356 : F_350 rak = .inl (cs 17, 6000, .inl gv9) := (hB1.2.2.2 rak (by rw [hT3_rak]; simp)).trans kf_rak
                          have hF_357 : F_350 wi = .inr (13, [.ref x_7, .ref y0_8, .ref y1_9, .ref y2_10, .int (nI gg_176.1)]) := (hB1.2.2.2 wi (by rw [hT3_wi]; simp)).trans kf_wi
                          have hF_358 : F_350 x_7 = .inr (14, [.ref r_57, .int (nI (flI (TC (D kv).2.2.2.2.2 (D kv).2.2.2.2.1) 0 ((D kv).2.2.2.2.1 - 0)).length)]) := (hB1.2.2.2 x_7 (by rw [hT3_x_7]; simp)).trans kf_x_7
                          have hF_359 : F_350 r_57 = .inl (cs 17, 700, .inl fc_162) := (hB1.2.2.2 r_57 (by rw [hT3_r_57]; simp)).trans kf_r_57
                          have hF_360 : F_350 y0_8 = .inl (cs 16, 40, .inl p0_179) := (hB1.2.2.2 y0_8 (by rw [hT3_y0_8]; simp)).trans kf_y0_8
                          have hF_361 : F_350 y1_9 = .inl (cs 16, 40, .inl p1_180) := (hB1.2.2.2 y1_9 (by rw [hT3_y1_9]; simp)).trans kf_y1_9
                          have hF_362 : F_350 y2_10 = .inl (cs 16, 40, .inl p2_181) := (hB1.2.2.2 y2_10 (by rw [hT3_y2_10]; simp)).trans kf_y2_10
                          generalize H1 = H at hP hS ⊢
                          have hw : SJRm gl mm nf bd j (gm 0) (gm 1) gd D ze nw (flT (TC gl mm) (gm 1 j + 1) ((gd j) - (gm 1 j + 1))) (flI (TC gl mm) (gm 1 j + 1) ((gd j) - (gm 1 j + 1))).length r_349 := hw
                          have hw_363 := hw
                          have hSJ : SJRm gl mm nf bd j (gm 0) (gm 1) gd D ze nw (flT (TC gl mm) (gm 1 j + 1) ((gd j) - (gm 1 j + 1))) (flI (TC gl mm) (gm 1 j + 1) ((gd j) - (gm 1 j + 1))).length r_349 := hw_363
                          have hTD := hq_351
                          refine lv_iconst (v := 2) hx hb dX15_wish_261 (by decide) ?_
                          refine lv_icmp_eq (tgt := 268) hx hb dX15_wish_262 (by decide) (fun c_364 => ?_) (fun c_364 => ?_)
                          ·
                            obtain ⟨g7, hg7, hs7⟩ : ∃ gg, tgT (flT (TC gl mm) (gm 1 j + 1) ((gd j) - (gm 1 j + 1))) (flI (TC gl mm) (gm 1 j + 1) ((gd j) - (gm 1 j + 1))).length = some gg ∧ SWB (flT (TC gl mm) (gm 1 j + 1) ((gd j) - (gm 1 j + 1))) gg.2 gg.1 := by rcases hSJ with q | q; exact absurd (q.2.symm.trans c_364) (by decide); obtain ⟨gg, q1, q2, -⟩ := q; exact ⟨gg, q1, q2⟩
                            obtain ⟨zd7, fd7, hd1_, hd2_, hd3_, hd4_⟩ := (hTD g7 hg7 hs7).get hO hL_sd hT3_sd
                            rw [← dmO_e hg7] at hd3_
                            have hRo := FR.reg hR hrg
                            have hQso := hRo so (by rw [hTs0]; simp only [mem_tgS, List.mem_append, List.mem_cons, List.not_mem_nil, or_false]; omega)
                            have hQad := hRo ad (by rw [hTd0]; simp only [mem_tgS, List.mem_append, List.mem_cons, List.not_mem_nil, or_false]; omega)
                            have hQna := hRo na (by rw [hTn0]; simp only [mem_tgS, List.mem_append, List.mem_cons, List.not_mem_nil, or_false]; omega)
                            have hQva := hRo va (by rw [hTv0]; simp only [mem_tgS, List.mem_append, List.mem_cons, List.not_mem_nil, or_false]; omega)
                            have hDMC := DIRM.fr hDM hO0 hW0 hLn0 hTn0 hLv0 hTv0 (by omega) hRo hQso hQad hQna hQva (fun k hk => ⟨by simp only [mem_tgS, List.mem_append, List.mem_cons, List.not_mem_nil, or_false]; omega, by simp only [mem_tgS, List.mem_append, List.mem_cons, List.not_mem_nil, or_false]; omega⟩)
                            refine lv_aload_n hx hb dX15_wish_268 rfl (lv_at hl 2 rfl) ?_
                            refine lv_aload_n hx hb dX15_wish_269 rfl (lv_at hl 2 rfl) ?_
                            obtain ⟨v14_365, v15_366, v17_367, v18_368, v19_369, v20_370, v21_371, v22_372, v33_373, v52_374, v53_375, v54_376, hF_377, hq_378, hq_379, hq_380, hq_381, hq_382⟩ := hO.mod hL_h0 hT_h0
                            refine pg_get (ci := 15) (v := .ref sd) (C := RX15) (T := TX15) (N := 59) hx hb hts it_15 hown hK hP hL_h0 hF_377 rfl 50 (by decide) (hts _ kt_961) (fun _ h9 => h9) rfl dX15_wish_270 ?_
                            refine lv_aload_n hx hb dX15_wish_273 rfl (lv_at hl 2 rfl) ?_
                            refine pg_get (ci := 15) (v := .ref ak) (C := RX15) (T := TX15) (N := 59) hx hb hts it_15 hown hK hP hL_h0 hF_377 rfl 56 (by decide) (hts _ kt_993) (fun _ h9 => h9) rfl dX15_wish_274 ?_
                            refine lv_aload_n hx hb dX15_wish_277 rfl (lv_at hl 2 rfl) ?_
                            refine pg_get (ci := 15) (v := .ref wi) (C := RX15) (T := TX15) (N := 59) hx hb hts it_15 hown hK hP hL_h0 hF_377 rfl 37 (by decide) (hts _ kt_1132) (fun _ h9 => h9) rfl dX15_wish_278 ?_
                            obtain ⟨q_383, v_384, hr_q_383, hX_q_383⟩ := hG.2.2 ("PostGateModel", 601, "adkim", [97, 100, 107, 105, 109]) (by decide +kernel)
                            have hX_q_383 : SXc q_383 v_384 5 (cct [97, 100, 107, 105, 109]) A s s.heap := hX_q_383
                            obtain ⟨xo_q_383, xc_q_383, xv_q_383, xt_q_383, xn_q_383⟩ := id hX_q_383
                            have hr_q_383 : vk_R "PostGateModel" 601 "adkim" q_383 s := hr_q_383
                            refine va_ldcwS hx hb hown hr_q_383 dX15_wish_281 ?_
                            obtain ⟨q_385, v_386, hr_q_385, hX_q_385⟩ := hG.2.2 ("PostGateModel", 460, "s", [115]) (by decide +kernel)
                            have hX_q_385 : SXc q_385 v_386 1 (cct [115]) A s s.heap := hX_q_385
                            obtain ⟨xo_q_385, xc_q_385, xv_q_385, xt_q_385, xn_q_385⟩ := id hX_q_385
                            have hr_q_385 : vk_R "PostGateModel" 460 "s" q_385 s := hr_q_385
                            refine va_ldcwS hx hb hown hr_q_385 dX15_wish_284 ?_
                            have hFc := pg_free hD hS hA
                            refine va_calli (va_runV (As := [.ref q_383, .ref q_385]) (rest := [.ref ak, .ref sd, .ref h0]) ⟨hx, hb, hml, hown, hts⟩ (s_X13_has_x l dC dI cs ty gm L H.size F_350 wi (ρ + 15) x_7 700 700 y0_8 y1_9 y2_10 r_57 ((flI (TC (D kv).2.2.2.2.2 (D kv).2.2.2.2.1) 0 ((D kv).2.2.2.2.1 - 0)).length) gg_176.1 fc_162 p0_179 p1_180 p2_181 gg_176.2 q_383 v_384 5 (cct [97, 100, 107, 105, 109]) q_385 v_386 1 (cct [115]) ADK ([115]) hW hi_51 hT3_wi hi_53 hT3_x_7 hF_358 hF_359 (by omega) hF_357 hF_360 hF_361 hF_362 (hti2) (hHLw) (hti1) (by omega) (⟨rfl, by decide +kernel⟩) (⟨rfl, by decide +kernel⟩)) ⟨callB_of 2 hts (gi kt_863) rfl rfl rfl (hts _ kt_829) (hts _ kt_864) (by decide +kernel) ⟨Nat.le_of_ble_eq_true rfl, Nat.le_of_ble_eq_true rfl⟩, (hts _ kt_865), (hts _ kt_866)⟩ ⟨fun a U g mk q => ⟨q.1, PTEm.calling q.2⟩, pg_recv hK hP hi_51 hF_357 (q := (RX13, TX13, 5)) rfl, fun U hU hWm => ⟨rfl, PTEm.mk hU hWm hP hK hD hE hO hG (fun x hx => by simp only [mem_tgS, List.mem_append, List.mem_cons, List.not_mem_nil, or_false] at hx; rcases hx with hx | hx <;> subst hx <;> first | exact hX_q_383 | exact hX_q_385) hS hFc⟩⟩ rfl rfl hl.1 rfl (lv_room (Nat.le_of_ble_eq_true rfl)) dX15_wish_287 ⟨by show _ + 0 ≤ 0; omega, by show _ + 0 ≤ 0; omega⟩) hS (fun q _ h => hFc q h) hFc (fun r_387 u t H1 locs ht hvm hw hB hz1 hk1 hS => ?_)
                            obtain ⟨F_388, hB1⟩ := hB
                            obtain rfl : F_350 = F_388 := (funext (fun a => hB1.2.2.2 a List.not_mem_nil)).symm
                            obtain ⟨hP, hD, hO, hR⟩ := QTm.back hB1 ht hFc hR (fun q h => absurd h List.not_mem_nil)
                            generalize H1 = H at hP hS ⊢
                            have hw : ((r_387 = 1 ∧ TGV (TC fc_162 (flI (TC (D kv).2.2.2.2.2 (D kv).2.2.2.2.1) 0 ((D kv).2.2.2.2.1 - 0)).length) gg_176.2 gg_176.1 ADK [115]) ∨ (r_387 = 0 ∧ ¬ TGV (TC fc_162 (flI (TC (D kv).2.2.2.2.2 (D kv).2.2.2.2.1) 0 ((D kv).2.2.2.2.1 - 0)).length) gg_176.2 gg_176.1 ADK [115])) := hw
                            have hw_389 := hw
                            have hsk9 : r_387 = skM D ze V := by have h9 := sfl_r hw_389; rw [hwT] at h9; rw [h9]; show _ = rcF (D (rwM D ze V).1) ADK; rw [hrw]; exact (hrc2 ADK).symm
                            obtain ⟨hq_390, hq_391⟩ := hW.octs hi_69 hT3_rsd
                            have hFc := pg_free hD hS hA
                            refine va_calli (va_runV (As := [.ref sd, .ref ak, .int r_387]) (rest := []) ⟨hx, hb, hml, hown, hts⟩ (s_X15_isAligned_x l dC dI cs ty gm L H.size F_350 h0 ρ ta ou so ad na va lc dm tg pe ml bg co sp nb0 nb1 nb2 pl se ke wi hs mo po nu pr sq xa sa n64 m64 ex wh sd tk hd ak ho ot sx s0 s1 s2 nf bd mm zo fm sn (hgr gp_236 hg) (gcr gp_236 gc) (gvr gp_236 gv) ze zt sd (ρ + 25) rsd 3000 ak (ρ + 28) rak 6000 zd7 V.length fd7 gv9 (dmO (flT (TC gl mm) (gm 1 j + 1) ((gd j) - (gm 1 j + 1))) (flI (TC gl mm) (gm 1 j + 1) ((gd j) - (gm 1 j + 1))).length) V D r_387 hW hL_h0 hT_h0 hL_sd hT3_sd hL_ak hT3_ak hd1_ hd2_ (hd4_) (hd3_) hF_355 hF_356 (by omega) (hz3v) (by omega) (by omega) (hDMC)) ⟨callB_of 3 hts (gi kt_1203) rfl rfl rfl (hts _ kt_669) (hts _ kt_1204) (by decide +kernel) ⟨Nat.le_of_ble_eq_true rfl, Nat.le_of_ble_eq_true rfl⟩, (hts _ kt_1205), (hts _ kt_1206)⟩ ⟨fun a U g mk q => ⟨q.1, PTm.calling q.2⟩, pg_recv hK hP hL_h0 hF_377 (q := (RX15, TX15, 59)) rfl, fun U hU hWm => ⟨rfl, PTm.mk hU hWm hP hK hD hE hO⟩⟩ rfl rfl hl.1 rfl (lv_room (Nat.le_of_ble_eq_true rfl)) dX15_wish_290 ⟨by show _ + 0 ≤ 0; omega, by show _ + 0 ≤ 0; omega⟩) hS (fun q _ h => hFc q h) hFc (fun r_392 u t H1 locs ht hvm hw hB hz1 hk1 hS => ?_)
                            obtain ⟨F_393, hB1⟩ := hB
                            obtain ⟨hP, hD, hO, hR⟩ := QTm.back hB1 ht hFc hR (fun q h => by simp only [mem_tgS, List.mem_append, List.mem_cons, List.not_mem_nil, or_false] at h ⊢; omega)
                            have hF_394 : F_393 dm = .inr (14, [.ref r_2, .int (nI zm9)]) := (hB1.2.2.2 dm (by rw [hT3_dm]; simp)).trans hF_352
                            have hF_395 : F_393 r_2 = .inl (cs 17, 60, .inl fm9) := (hB1.2.2.2 r_2 (by rw [hT3_r_2]; simp)).trans hF_353
                            have hF_396 : F_393 ml = .inl (cs 17, 3000, .inl gl) := (hB1.2.2.2 ml (by rw [hT3_ml]; simp)).trans hF_354
                            have hF_397 : F_393 ak = .inr (14, [.ref rak, .int (nI V.length)]) := (hB1.2.2.2 ak (by rw [hT3_ak]; simp)).trans hF_355
                            have hF_398 : F_393 rak = .inl (cs 17, 6000, .inl gv9) := (hB1.2.2.2 rak (by rw [hT3_rak]; simp)).trans hF_356
                            have hF_399 : F_393 wi = .inr (13, [.ref x_7, .ref y0_8, .ref y1_9, .ref y2_10, .int (nI gg_176.1)]) := (hB1.2.2.2 wi (by rw [hT3_wi]; simp)).trans hF_357
                            have hF_400 : F_393 x_7 = .inr (14, [.ref r_57, .int (nI (flI (TC (D kv).2.2.2.2.2 (D kv).2.2.2.2.1) 0 ((D kv).2.2.2.2.1 - 0)).length)]) := (hB1.2.2.2 x_7 (by rw [hT3_x_7]; simp)).trans hF_358
                            have hF_401 : F_393 r_57 = .inl (cs 17, 700, .inl fc_162) := (hB1.2.2.2 r_57 (by rw [hT3_r_57]; simp)).trans hF_359
                            have hF_402 : F_393 y0_8 = .inl (cs 16, 40, .inl p0_179) := (hB1.2.2.2 y0_8 (by rw [hT3_y0_8]; simp)).trans hF_360
                            have hF_403 : F_393 y1_9 = .inl (cs 16, 40, .inl p1_180) := (hB1.2.2.2 y1_9 (by rw [hT3_y1_9]; simp)).trans hF_361
                            have hF_404 : F_393 y2_10 = .inl (cs 16, 40, .inl p2_181) := (hB1.2.2.2 y2_10 (by rw [hT3_y2_10]; simp)).trans hF_362
                            have hF_405 : F_393 sd = .inr (14, [.ref rsd, .int (nI zd7)]) := (hB1.2.2.2 sd (by rw [hT3_sd]; simp)).trans hd1_
                            have hF_406 : F_393 rsd = .inl (cs 17, 3000, .inl fd7) := (hB1.2.2.2 rsd (by rw [hT3_rsd]; simp)).trans hd2_
                            have hF_407 : F_393 h0 = .inr (15, (.ref ta) :: (.int (nI zt)) :: (.int (nI zo)) :: (.int (nI ze)) :: (.ref ou) :: (.ref so) :: (.ref ad) :: (.ref na) :: (.ref va) :: (.ref lc) :: (.ref dm) :: (.int (nI fm)) :: (.int (nI sn)) :: (.ref tg) :: (.int v14_365) :: (.int v15_366) :: (.ref pe) :: (.int v17_367) :: (.int v18_368) :: (.int v19_369) :: (.int v20_370) :: (.int v21_371) :: (.int v22_372) :: (.ref ml) :: (.ref bg) :: (.ref co) :: (.ref sp) :: (.ref nb0) :: (.ref nb1) :: (.ref nb2) :: (.int (nI nf)) :: (.int (nI bd)) :: (.int (nI mm)) :: (.int v33_373) :: (.ref pl) :: (.ref se) :: (.ref ke) :: (.ref wi) :: (.ref hs) :: (.ref mo) :: (.ref po) :: (.ref nu) :: (.ref pr) :: (.ref sq) :: (.ref xa) :: (.ref sa) :: (.ref n64) :: (.ref m64) :: (.ref ex) :: (.ref wh) :: (.ref sd) :: (.ref tk) :: (.int v52_374) :: (.int v53_375) :: (.int v54_376) :: (.ref hd) :: (.ref ak) :: (.ref ho) :: (.ref ot) :: []) := (hB1.2.2.2 h0 (by rw [hT_h0]; simp)).trans hF_377
                            generalize H1 = H at hP hS ⊢
                            have hw : ((r_392 = 1 ∧ ALGm D ze r_387 (dmO (flT (TC gl mm) (gm 1 j + 1) ((gd j) - (gm 1 j + 1))) (flI (TC gl mm) (gm 1 j + 1) ((gd j) - (gm 1 j + 1))).length) V) ∨ (r_392 = 0 ∧ ¬ ALGm D ze r_387 (dmO (flT (TC gl mm) (gm 1 j + 1) ((gd j) - (gm 1 j + 1))) (flI (TC gl mm) (gm 1 j + 1) ((gd j) - (gm 1 j + 1))).length) V)) := hw
                            have hw_408 := hw
                            refine lv_if_eq (tgt := 298) hx hb dX15_wish_293 (by decide) (fun c_409 => ?_) (fun c_409 => ?_)
                            ·
                              have hAK : ¬ ALGm D ze (skM D ze V) (dmO (flT (TC gl mm) (gm 1 j + 1) ((gd j) - (gm 1 j + 1))) (flI (TC gl mm) (gm 1 j + 1) ((gd j) - (gm 1 j + 1))).length) V := by rw [← hsk9]; exact orp0 hw_408 c_409
                              refine lv_iinc (v := (nI (j + 1))) (lv' := [(5, .int (nI (j + 1))), (4, .int (nI (wnM D ze V))), (0, .ref h0), (1, .int x1)]) hx hb dX15_wish_298 hl (k := 0) rfl (nI_1 _) (by decide) rfl (fun ls hl => ?_)
                              refine lv_goto (tgt := 233) hx hb dX15_wish_301 (by decide) ?_
                              refine W.widen (k := 0) (n := 0) (by omega) (by omega) ?_
                              exact ih_310 (j + 1) F_393 (⟨by omega, all_step hv2 (fun _ => ⟨_, hSJ, fun q => hAK q.2⟩), hF_397, hF_398, hF_399, hF_400, hF_401, hF_402, hF_403, hF_404⟩) (by show nf - (j + 1) < nf - j; omega) hO hR _ _ hP hD hS ls (lv_sub hl [0, 1, 2, 3] rfl)
                            ·
                              have hAK : ALGm D ze (skM D ze V) (dmO (flT (TC gl mm) (gm 1 j + 1) ((gd j) - (gm 1 j + 1))) (flI (TC gl mm) (gm 1 j + 1) ((gd j) - (gm 1 j + 1))).length) V := by rw [← hsk9]; exact orp1 hw_408 c_409
                              refine lv_iconst (v := 2) hx hb dX15_wish_296 (by decide) ?_
                              refine W.widen (k := 0) (n := 0) (by omega) (by omega) ?_
                              exact W.iret (v := 2) hx hb hr (fun t ht hWm => ⟨⟨2, gp_236, rfl, (Or.inr (Or.inr ⟨hnz, hn0, _, snr_plr D ze hw_105, Or.inr ⟨by rw [hVe]; exact hop, V, jV, hjV, hPV, hZV, Or.inr ⟨hNP, 1, (by rw [hxe, nI_clamp hnw]; exact Or.inl ⟨rfl, j, hjn, hNN, (by have h9 := hSJ; rw [c_364] at h9; exact h9), hAK, hv2⟩), Or.inl ⟨rfl, rfl⟩⟩⟩⟩)), ⟨F_393, ty, htyP, QTm.mk ht hP hD hO hR, hW, (Or.inr ⟨hs0, Int32.not_lt.mpr c_97, hn0, _, snr_plr D ze hw_105, Or.inl ⟨by rw [hVe]; exact hop, hpm⟩⟩)⟩⟩, hS.F ht⟩) hS.2.2 dX15_wish_297
                          ·
                            refine lv_goto (tgt := 298) hx hb dX15_wish_265 (by decide) ?_
                            refine lv_iinc (v := (nI (j + 1))) (lv' := [(5, .int (nI (j + 1))), (4, .int (nI (wnM D ze V))), (0, .ref h0), (1, .int x1)]) hx hb dX15_wish_298 hl (k := 0) rfl (nI_1 _) (by decide) rfl (fun ls hl => ?_)
                            refine lv_goto (tgt := 233) hx hb dX15_wish_301 (by decide) ?_
                            refine W.widen (k := 0) (n := 0) (by omega) (by omega) ?_
                            exact ih_310 (j + 1) F_350 (⟨by omega, all_step hv2 (fun _ => ⟨_, hSJ, fun q => c_364 q.1⟩), hF_355, hF_356, hF_357, hF_358, hF_359, hF_360, hF_361, hF_362⟩) (by show nf - (j + 1) < nf - j; omega) hO hR _ _ hP hD hS ls (lv_sub hl [0, 1, 2, 3] rfl)
                    ·
                      refine lv_icmp_ne (tgt := 230) hx hb dX15_wish_197 (by decide) (fun c_410 => ?_) (fun c_410 => ?_)
                      ·
                        have hp2 : ¬ (CHW D ze (sdM LC DN (nI fm)) (nI fm) 11 DN 0 0).1 = 2 := fun q => c_410 (by rw [hpv, q]; rfl)
                        refine W.widen (k := 0) (n := 0) (by omega) (by omega) ?_
                        exact jn_288 () F_238 (⟨fun q => hp2 q.1, hF_239, hF_240, hF_244, hF_245, hF_246, hF_247, hF_248, hF_249⟩) hO hR _ _ hP hD hS ls (lv_sub hl [0, 1, 2] rfl)
                      ·
                        have hp2 : (CHW D ze (sdM LC DN (nI fm)) (nI fm) 11 DN 0 0).1 = 2 := by have h9 := c_410; rw [hpv] at h9; exact (nI_eq (b := 2) (by have h8 := CHW_b9m D ze (sdM LC DN (nI fm)) (nI fm) DN; omega) (by omega)).mp h9
                        have hRo := FR.reg hR hrg
                        have hQso := hRo so (by rw [hTs0]; simp only [mem_tgS, List.mem_append, List.mem_cons, List.not_mem_nil, or_false]; omega)
                        have hQad := hRo ad (by rw [hTd0]; simp only [mem_tgS, List.mem_append, List.mem_cons, List.not_mem_nil, or_false]; omega)
                        have hQna := hRo na (by rw [hTn0]; simp only [mem_tgS, List.mem_append, List.mem_cons, List.not_mem_nil, or_false]; omega)
                        have hQva := hRo va (by rw [hTv0]; simp only [mem_tgS, List.mem_append, List.mem_cons, List.not_mem_nil, or_false]; omega)
                        have hDMA := DIRM.fr hDM hO0 hW0 hLn0 hTn0 hLv0 hTv0 (by omega) hRo hQso hQad hQna hQva (fun k hk => ⟨by simp only [mem_tgS, List.mem_append, List.mem_cons, List.not_mem_nil, or_false]; omega, by simp only [mem_tgS, List.mem_append, List.mem_cons, List.not_mem_nil, or_false]; omega⟩)
                        refine lv_aload_n hx hb dX15_wish_200 rfl (lv_at hl 1 rfl) ?_
                        refine lv_aload_n hx hb dX15_wish_201 rfl (lv_at hl 1 rfl) ?_
                        obtain ⟨v14_411, v15_412, v17_413, v18_414, v19_415, v20_416, v21_417, v22_418, v33_419, v52_420, v53_421, v54_422, hF_423, hq_424, hq_425, hq_426, hq_427, hq_428⟩ := hO.mod hL_h0 hT_h0
                        refine pg_get (ci := 15) (v := .ref dm) (C := RX15) (T := TX15) (N := 59) hx hb hts it_15 hown hK hP hL_h0 hF_423 rfl 10 (by decide) (hts _ kt_1124) (fun _ h9 => h9) rfl dX15_wish_202 ?_
                        refine lv_aload_n hx hb dX15_wish_205 rfl (lv_at hl 1 rfl) ?_
                        refine pg_get (ci := 15) (v := .ref ak) (C := RX15) (T := TX15) (N := 59) hx hb hts it_15 hown hK hP hL_h0 hF_423 rfl 56 (by decide) (hts _ kt_993) (fun _ h9 => h9) rfl dX15_wish_206 ?_
                        refine lv_aload_n hx hb dX15_wish_209 rfl (lv_at hl 1 rfl) ?_
                        refine pg_get (ci := 15) (v := .ref wi) (C := RX15) (T := TX15) (N := 59) hx hb hts it_15 hown hK hP hL_h0 hF_423 rfl 37 (by decide) (hts _ kt_1132) (fun _ h9 => h9) rfl dX15_wish_210 ?_
                        obtain ⟨q_429, v_430, hr_q_429, hX_q_429⟩ := hG.2.2 ("PostGateModel", 595, "aspf", [97, 115, 112, 102]) (by decide +kernel)
                        have hX_q_429 : SXc q_429 v_430 4 (cct [97, 115, 112, 102]) A s s.heap := hX_q_429
                        obtain ⟨xo_q_429, xc_q_429, xv_q_429, xt_q_429, xn_q_429⟩ := id hX_q_429
                        have hr_q_429 : vk_R "PostGateModel" 595 "aspf" q_429 s := hr_q_429
                        refine va_ldcwS hx hb hown hr_q_429 dX15_wish_213 ?_
                        obtain ⟨q_431, v_432, hr_q_431, hX_q_431⟩ := hG.2.2 ("PostGateModel", 460, "s", [115]) (by decide +kernel)
                        have hX_q_431 : SXc q_431 v_432 1 (cct [115]) A s s.heap := hX_q_431
                        obtain ⟨xo_q_431, xc_q_431, xv_q_431, xt_q_431, xn_q_431⟩ := id hX_q_431
                        have hr_q_431 : vk_R "PostGateModel" 460 "s" q_431 s := hr_q_431
                        refine va_ldcwS hx hb hown hr_q_431 dX15_wish_216 ?_
                        have hFc := pg_free hD hS hA
                        refine va_calli (va_runV (As := [.ref q_429, .ref q_431]) (rest := [.ref ak, .ref dm, .ref h0]) ⟨hx, hb, hml, hown, hts⟩ (s_X13_has_x l dC dI cs ty gm L H.size F_238 wi (ρ + 15) x_7 700 700 y0_8 y1_9 y2_10 r_57 ((flI (TC (D kv).2.2.2.2.2 (D kv).2.2.2.2.1) 0 ((D kv).2.2.2.2.1 - 0)).length) gg_176.1 fc_162 p0_179 p1_180 p2_181 gg_176.2 q_429 v_430 4 (cct [97, 115, 112, 102]) q_431 v_432 1 (cct [115]) ASF ([115]) hW hi_51 hT3_wi hi_53 hT3_x_7 hF_245 hF_246 (by omega) hF_244 hF_247 hF_248 hF_249 (hti2) (hHLw) (hti1) (by omega) (⟨rfl, by decide +kernel⟩) (⟨rfl, by decide +kernel⟩)) ⟨callB_of 2 hts (gi kt_863) rfl rfl rfl (hts _ kt_829) (hts _ kt_864) (by decide +kernel) ⟨Nat.le_of_ble_eq_true rfl, Nat.le_of_ble_eq_true rfl⟩, (hts _ kt_865), (hts _ kt_866)⟩ ⟨fun a U g mk q => ⟨q.1, PTEm.calling q.2⟩, pg_recv hK hP hi_51 hF_244 (q := (RX13, TX13, 5)) rfl, fun U hU hWm => ⟨rfl, PTEm.mk hU hWm hP hK hD hE hO hG (fun x hx => by simp only [mem_tgS, List.mem_append, List.mem_cons, List.not_mem_nil, or_false] at hx; rcases hx with hx | hx <;> subst hx <;> first | exact hX_q_429 | exact hX_q_431) hS hFc⟩⟩ rfl rfl hl.1 rfl (lv_room (Nat.le_of_ble_eq_true rfl)) dX15_wish_219 ⟨by show _ + 0 ≤ 0; omega, by show _ + 0 ≤ 0; omega⟩) hS (fun q _ h => hFc q h) hFc (fun r_433 u t H1 locs ht hvm hw hB hz1 hk1 hS => ?_)
                        obtain ⟨F_434, hB1⟩ := hB
                        obtain rfl : F_238 = F_434 := (funext (fun a => hB1.2.2.2 a List.not_mem_nil)).symm
                        obtain ⟨hP, hD, hO, hR⟩ := QTm.back hB1 ht hFc hR (fun q h => absurd h List.not_mem_nil)
                        generalize H1 = H at hP hS ⊢
                        have hw : ((r_433 = 1 ∧ TGV (TC fc_162 (flI (TC (D kv).2.2.2.2.2 (D kv).2.2.2.2.1) 0 ((D kv).2.2.2.2.1 - 0)).length) gg_176.2 gg_176.1 ASF [115]) ∨ (r_433 = 0 ∧ ¬ TGV (TC fc_162 (flI (TC (D kv).2.2.2.2.2 (D kv).2.2.2.2.1) 0 ((D kv).2.2.2.2.1 - 0)).length) gg_176.2 gg_176.1 ASF [115])) := hw
                        have hw_435 := hw
                        have hsa9 : r_433 = saM D ze V := by have h9 := sfl_r hw_435; rw [hwT] at h9; rw [h9]; show _ = rcF (D (rwM D ze V).1) ASF; rw [hrw]; exact (hrc2 ASF).symm
                        obtain ⟨_, _, hq_436⟩ := hW.txt hi_64 hT3_dm
                        obtain ⟨hq_437, hq_438⟩ := hW.octs hi_66 hT3_r_2
                        have hFc := pg_free hD hS hA
                        refine va_calli (va_runV (As := [.ref dm, .ref ak, .int r_433]) (rest := []) ⟨hx, hb, hml, hown, hts⟩ (s_X15_isAligned_x l dC dI cs ty gm L H.size F_238 h0 ρ ta ou so ad na va lc dm tg pe ml bg co sp nb0 nb1 nb2 pl se ke wi hs mo po nu pr sq xa sa n64 m64 ex wh sd tk hd ak ho ot sx s0 s1 s2 nf bd mm zo fm sn (hgr gp_236 hg) (gcr gp_236 gc) (gvr gp_236 gv) ze zt dm (ρ + 32) r_2 60 ak (ρ + 28) rak 6000 zm9 V.length fm9 gv9 DN V D r_433 hW hL_h0 hT_h0 hi_64 hT3_dm hL_ak hT3_ak hF_241 hF_242 (hm4) (hm3) hF_239 hF_240 (by omega) (hz3v) (by omega) (by omega) (hDMA)) ⟨callB_of 3 hts (gi kt_1203) rfl rfl rfl (hts _ kt_669) (hts _ kt_1204) (by decide +kernel) ⟨Nat.le_of_ble_eq_true rfl, Nat.le_of_ble_eq_true rfl⟩, (hts _ kt_1205), (hts _ kt_1206)⟩ ⟨fun a U g mk q => ⟨q.1, PTm.calling q.2⟩, pg_recv hK hP hL_h0 hF_423 (q := (RX15, TX15, 59)) rfl, fun U hU hWm => ⟨rfl, PTm.mk hU hWm hP hK hD hE hO⟩⟩ rfl rfl hl.1 rfl (lv_room (Nat.le_of_ble_eq_true rfl)) dX15_wish_222 ⟨by show _ + 0 ≤ 0; omega, by show _ + 0 ≤ 0; omega⟩) hS (fun q _ h => hFc q h) hFc (fun r_439 u t H1 locs ht hvm hw hB hz1 hk1 hS => ?_)
                        obtain ⟨F_440, hB1⟩ := hB
                        obtain ⟨hP, hD, hO, hR⟩ := QTm.back hB1 ht hFc hR (fun q h => by simp only [mem_tgS, List.mem_append, List.mem_cons, List.not_mem_nil, or_false] at h ⊢; omega)
                        have hF_441 : F_440 ak = .inr (14, [.ref rak, .int (nI V.length)]) := (hB1.2.2.2 ak (by rw [hT3_ak]; simp)).trans hF_239
                        have hF_442 : F_440 rak = .inl (cs 17, 6000, .inl gv9) := (hB1.2.2.2 rak (by rw [hT3_rak]; simp)).trans hF_240
                        have hF_443 : F_440 dm = .inr (14, [.ref r_2, .int (nI zm9)]) := (hB1.2.2.2 dm (by rw [hT3_dm]; simp)).trans hF_241
                        have hF_444 : F_440 r_2 = .inl (cs 17, 60, .inl fm9) := (hB1.2.2.2 r_2 (by rw [hT3_r_2]; simp)).trans hF_242
                        have hF_445 : F_440 ml = .inl (cs 17, 3000, .inl gl) := (hB1.2.2.2 ml (by rw [hT3_ml]; simp)).trans hF_243
                        have hF_446 : F_440 wi = .inr (13, [.ref x_7, .ref y0_8, .ref y1_9, .ref y2_10, .int (nI gg_176.1)]) := (hB1.2.2.2 wi (by rw [hT3_wi]; simp)).trans hF_244
                        have hF_447 : F_440 x_7 = .inr (14, [.ref r_57, .int (nI (flI (TC (D kv).2.2.2.2.2 (D kv).2.2.2.2.1) 0 ((D kv).2.2.2.2.1 - 0)).length)]) := (hB1.2.2.2 x_7 (by rw [hT3_x_7]; simp)).trans hF_245
                        have hF_448 : F_440 r_57 = .inl (cs 17, 700, .inl fc_162) := (hB1.2.2.2 r_57 (by rw [hT3_r_57]; simp)).trans hF_246
                        have hF_449 : F_440 y0_8 = .inl (cs 16, 40, .inl p0_179) := (hB1.2.2.2 y0_8 (by rw [hT3_y0_8]; simp)).trans hF_247
                        have hF_450 : F_440 y1_9 = .inl (cs 16, 40, .inl p1_180) := (hB1.2.2.2 y1_9 (by rw [hT3_y1_9]; simp)).trans hF_248
                        have hF_451 : F_440 y2_10 = .inl (cs 16, 40, .inl p2_181) := (hB1.2.2.2 y2_10 (by rw [hT3_y2_10]; simp)).trans hF_249
                        have hF_452 : F_440 h0 = .inr (15, (.ref ta) :: (.int (nI zt)) :: (.int (nI zo)) :: (.int (nI ze)) :: (.ref ou) :: (.ref so) :: (.ref ad) :: (.ref na) :: (.ref va) :: (.ref lc) :: (.ref dm) :: (.int (nI fm)) :: (.int (nI sn)) :: (.ref tg) :: (.int v14_411) :: (.int v15_412) :: (.ref pe) :: (.int v17_413) :: (.int v18_414) :: (.int v19_415) :: (.int v20_416) :: (.int v21_417) :: (.int v22_418) :: (.ref ml) :: (.ref bg) :: (.ref co) :: (.ref sp) :: (.ref nb0) :: (.ref nb1) :: (.ref nb2) :: (.int (nI nf)) :: (.int (nI bd)) :: (.int (nI mm)) :: (.int v33_419) :: (.ref pl) :: (.ref se) :: (.ref ke) :: (.ref wi) :: (.ref hs) :: (.ref mo) :: (.ref po) :: (.ref nu) :: (.ref pr) :: (.ref sq) :: (.ref xa) :: (.ref sa) :: (.ref n64) :: (.ref m64) :: (.ref ex) :: (.ref wh) :: (.ref sd) :: (.ref tk) :: (.int v52_420) :: (.int v53_421) :: (.int v54_422) :: (.ref hd) :: (.ref ak) :: (.ref ho) :: (.ref ot) :: []) := (hB1.2.2.2 h0 (by rw [hT_h0]; simp)).trans hF_423
                        generalize H1 = H at hP hS ⊢
                        have hw : ((r_439 = 1 ∧ ALGm D ze r_433 DN V) ∨ (r_439 = 0 ∧ ¬ ALGm D ze r_433 DN V)) := hw
                        have hw_453 := hw
                        refine lv_if_eq (tgt := 230) hx hb dX15_wish_225 (by decide) (fun c_454 => ?_) (fun c_454 => ?_)
                        ·
                          have hAL : ¬ ALGm D ze (saM D ze V) DN V := by rw [← hsa9]; exact orp0 hw_453 c_454
                          refine W.widen (k := 0) (n := 0) (by omega) (by omega) ?_
                          exact jn_288 () F_440 (⟨fun q => hAL q.2, hF_441, hF_442, hF_446, hF_447, hF_448, hF_449, hF_450, hF_451⟩) hO hR _ _ hP hD hS ls (lv_sub hl [0, 1, 2] rfl)
                        ·
                          have hAL : ALGm D ze (saM D ze V) DN V := by rw [← hsa9]; exact orp1 hw_453 c_454
                          refine lv_iconst (v := 2) hx hb dX15_wish_228 (by decide) ?_
                          refine W.widen (k := 0) (n := 0) (by omega) (by omega) ?_
                          exact W.iret (v := 2) hx hb hr (fun t ht hWm => ⟨⟨2, gp_236, rfl, (Or.inr (Or.inr ⟨hnz, hn0, _, snr_plr D ze hw_105, Or.inr ⟨by rw [hVe]; exact hop, V, jV, hjV, hPV, hZV, Or.inl ⟨hp2, hAL, rfl⟩⟩⟩)), ⟨F_440, ty, htyP, QTm.mk ht hP hD hO hR, hW, (Or.inr ⟨hs0, Int32.not_lt.mpr c_97, hn0, _, snr_plr D ze hw_105, Or.inl ⟨by rw [hVe]; exact hop, hpm⟩⟩)⟩⟩, hS.F ht⟩) hS.2.2 dX15_wish_229
                  ·
                    refine lv_iload_n hx hb dX15_wish_153 rfl (lv_at hl 2 rfl) ?_
                    refine lv_if_ne (tgt := 192) hx hb dX15_wish_154 (by decide) (fun c_455 => ?_) (fun c_455 => ?_)
                    ·
                      refine W.widen (k := 0) (n := 0) (by omega) (by omega) ?_
                      exact jn_205 (nI (wnW (flT (TC (D kv).2.2.2.2.2 (D kv).2.2.2.2.1) 0 ((D kv).2.2.2.2.1 - 0)) gg_176.2 gg_176.1 [112])) F_178 (⟨(by rw [hmv]; unfold rrW; rw [show tgT (flT (TC (D kv).2.2.2.2.2 (D kv).2.2.2.2.1) 0 ((D kv).2.2.2.2.1 - 0)) (flI (TC (D kv).2.2.2.2.2 (D kv).2.2.2.2.1) 0 ((D kv).2.2.2.2.1 - 0)).length = some gg_176 from by rcases hw_197 with h9 | h9; have h8 := h9.2; rw [hwT] at h8; exact h8; exact absurd h9.1 c_198]; show (if (wnW (flT (TC (D kv).2.2.2.2.2 (D kv).2.2.2.2.1) 0 ((D kv).2.2.2.2.1 - 0)) gg_176.2 gg_176.1 [112]) = 6 then 6 else _) = (-1 : Int32); rw [if_neg hw147, if_neg (show ¬ (sw2 = 0 ∧ (TGE (flT (TC (D kv).2.2.2.2.2 (D kv).2.2.2.2.1) 0 ((D kv).2.2.2.2.1 - 0)) gg_176.2 gg_176.1 [115, 112])) from fun q => c_455 q.1)]), (by show _ = nI (rcW (D (rwM D ze V).1) (rwM D ze V).2); rw [hrw]; show _ = nI (rcW (D kv) sw2); rw [hrc1]; unfold wn3; rw [if_neg (show ¬ (_ ∧ sw2 = 0 ∧ _) from fun q => c_455 q.2.1)]; rfl), hF_189, hF_190, hq_182, hF_195, hF_196, hq_183, hq_184, hq_185⟩) hO hR _ _ hP hD hS ls (lv_sub hl [0, 3, 4] rfl)
                    ·
                      refine lv_aload_n hx hb dX15_wish_157 rfl (lv_at hl 3 rfl) ?_
                      refine pg_get (ci := 15) (v := .ref wi) (C := RX15) (T := TX15) (N := 59) hx hb hts it_15 hown hK hP hL_h0 hF_192 rfl 37 (by decide) (hts _ kt_1132) (fun _ h9 => h9) rfl dX15_wish_158 ?_
                      obtain ⟨q_456, v_457, hr_q_456, hX_q_456⟩ := hG.2.2 ("PostGateModel", 590, "sp", [115, 112]) (by decide +kernel)
                      have hX_q_456 : SXc q_456 v_457 2 (cct [115, 112]) A s s.heap := hX_q_456
                      obtain ⟨xo_q_456, xc_q_456, xv_q_456, xt_q_456, xn_q_456⟩ := id hX_q_456
                      have hr_q_456 : vk_R "PostGateModel" 590 "sp" q_456 s := hr_q_456
                      refine va_ldcwS hx hb hown hr_q_456 dX15_wish_161 ?_
                      have hFc := pg_free hD hS hA
                      refine va_calli (va_runV (As := [.ref q_456]) (rest := []) ⟨hx, hb, hml, hown, hts⟩ (s_X13_find_x l dC dI cs ty gm L H.size F_178 wi (ρ + 15) x_7 700 700 y0_8 y1_9 y2_10 r_57 ((flI (TC (D kv).2.2.2.2.2 (D kv).2.2.2.2.1) 0 ((D kv).2.2.2.2.1 - 0)).length) gg_176.1 fc_162 p0_179 p1_180 p2_181 gg_176.2 q_456 v_457 2 (cct [115, 112]) ([115, 112]) hW hi_51 ht_52 hi_53 ht_58 hF_195 hF_196 (by omega) hq_182 hq_183 hq_184 hq_185 (hti2) (hq_186) (hti1) (by omega) (⟨rfl, by decide +kernel⟩)) ⟨callB_of 1 hts (gi kt_828) rfl rfl rfl (hts _ kt_829) (hts _ kt_839) (by decide +kernel) ⟨Nat.le_of_ble_eq_true rfl, Nat.le_of_ble_eq_true rfl⟩, (hts _ kt_831), (hts _ kt_832)⟩ ⟨fun a U g mk q => ⟨q.1, PTEm.calling q.2⟩, pg_recv hK hP hi_51 hq_182 (q := (RX13, TX13, 5)) rfl, fun U hU hWm => ⟨rfl, PTEm.mk hU hWm hP hK hD hE hO hG (fun x hx => by rw [List.mem_singleton] at hx; subst hx; exact hX_q_456) hS hFc⟩⟩ rfl rfl hl.1 rfl (lv_room (Nat.le_of_ble_eq_true rfl)) dX15_wish_164 ⟨by show _ + 0 ≤ 0; omega, by show _ + 0 ≤ 0; omega⟩) hS (fun q _ h => hFc q h) hFc (fun r_458 u t H1 locs ht hvm hw hB hz1 hk1 hS => ?_)
                      obtain ⟨F_459, hB1⟩ := hB
                      obtain rfl : F_178 = F_459 := (funext (fun a => hB1.2.2.2 a List.not_mem_nil)).symm
                      obtain ⟨hP, hD, hO, hR⟩ := QTm.back hB1 ht hFc hR (fun q h => absurd h List.not_mem_nil)
                      generalize H1 = H at hP hS ⊢
                      have hw : RWX (TC fc_162 (flI (TC (D kv).2.2.2.2.2 (D kv).2.2.2.2.1) 0 ((D kv).2.2.2.2.1 - 0)).length) gg_176.2 gg_176.1 [115, 112] r_458 := hw
                      have hw_460 := hw
                      refine lv_if_lt (tgt := 192) hx hb dX15_wish_167 (by decide) (fun c_461 => ?_) (fun c_461 => ?_)
                      ·
                        have hsp : ¬ (TGE (flT (TC (D kv).2.2.2.2.2 (D kv).2.2.2.2.1) 0 ((D kv).2.2.2.2.1 - 0)) gg_176.2 gg_176.1 [115, 112]) := tge_n (rwx_n (by have h9 := hw_460; rw [hwT] at h9; exact h9) hti2 c_461)
                        refine W.widen (k := 0) (n := 0) (by omega) (by omega) ?_
                        exact jn_205 (nI (wnW (flT (TC (D kv).2.2.2.2.2 (D kv).2.2.2.2.1) 0 ((D kv).2.2.2.2.1 - 0)) gg_176.2 gg_176.1 [112])) F_178 (⟨(by rw [hmv]; unfold rrW; rw [show tgT (flT (TC (D kv).2.2.2.2.2 (D kv).2.2.2.2.1) 0 ((D kv).2.2.2.2.1 - 0)) (flI (TC (D kv).2.2.2.2.2 (D kv).2.2.2.2.1) 0 ((D kv).2.2.2.2.1 - 0)).length = some gg_176 from by rcases hw_197 with h9 | h9; have h8 := h9.2; rw [hwT] at h8; exact h8; exact absurd h9.1 c_198]; show (if (wnW (flT (TC (D kv).2.2.2.2.2 (D kv).2.2.2.2.1) 0 ((D kv).2.2.2.2.1 - 0)) gg_176.2 gg_176.1 [112]) = 6 then 6 else _) = (-1 : Int32); rw [if_neg hw147, if_neg (show ¬ (sw2 = 0 ∧ (TGE (flT (TC (D kv).2.2.2.2.2 (D kv).2.2.2.2.1) 0 ((D kv).2.2.2.2.1 - 0)) gg_176.2 gg_176.1 [115, 112])) from fun q => hsp q.2)]), (by show _ = nI (rcW (D (rwM D ze V).1) (rwM D ze V).2); rw [hrw]; show _ = nI (rcW (D kv) sw2); rw [hrc1]; unfold wn3; rw [if_neg (show ¬ (_ ∧ sw2 = 0 ∧ TGE (kyT (D kv)) gg_176.2 gg_176.1 [115, 112]) from fun q => hsp q.2.2)]; rfl), hF_189, hF_190, hq_182, hF_195, hF_196, hq_183, hq_184, hq_185⟩) hO hR _ _ hP hD hS ls (lv_sub hl [0, 3, 4] rfl)
                      ·
                        have hsp : (TGE (flT (TC (D kv).2.2.2.2.2 (D kv).2.2.2.2.1) 0 ((D kv).2.2.2.2.1 - 0)) gg_176.2 gg_176.1 [115, 112]) := by obtain ⟨k9, h1, -, h3, -⟩ := rwx_y (by have h9 := hw_460; rw [hwT] at h9; exact h9) c_461; exact ⟨k9, h1, h3⟩
                        refine lv_aload_n hx hb dX15_wish_170 rfl (lv_at hl 3 rfl) ?_
                        refine pg_get (ci := 15) (v := .ref wi) (C := RX15) (T := TX15) (N := 59) hx hb hts it_15 hown hK hP hL_h0 hF_192 rfl 37 (by decide) (hts _ kt_1132) (fun _ h9 => h9) rfl dX15_wish_171 ?_
                        refine va_ldcwS hx hb hown hr_q_456 dX15_wish_174 ?_
                        have hFc := pg_free hD hS hA
                        refine va_calli (va_runS (As := [.ref wi, .ref q_456]) (rest := []) ⟨hx, hb, hml, hown, hts⟩ (s_X15_wanted_x l dC dI cs ty gm L H.size F_178 wi (ρ + 15) x_7 700 700 y0_8 y1_9 y2_10 r_57 ((flI (TC (D kv).2.2.2.2.2 (D kv).2.2.2.2.1) 0 ((D kv).2.2.2.2.1 - 0)).length) gg_176.1 fc_162 p0_179 p1_180 p2_181 gg_176.2 q_456 v_457 2 (cct [115, 112]) ([115, 112]) hW hi_51 ht_52 hi_53 ht_58 hF_195 hF_196 (by omega) hq_182 hq_183 hq_184 hq_185 (hti2) (hq_186) (hti1) (by omega) (⟨rfl, by decide +kernel⟩)) ⟨callB_of 2 hts (gi kt_1196) rfl rfl rfl (hts _ kt_669) (hts _ kt_1197) (by decide +kernel) ⟨Nat.le_of_ble_eq_true rfl, Nat.le_of_ble_eq_true rfl⟩, (hts _ kt_1198)⟩ ⟨fun a U g mk q => ⟨q.1, PTEm.calling q.2⟩, fun U hU hWm => ⟨rfl, PTEm.mk hU hWm hP hK hD hE hO hG (fun x hx => by rw [List.mem_singleton] at hx; subst hx; exact hX_q_456) hS hFc⟩⟩ rfl rfl hl.1 rfl (lv_room (Nat.le_of_ble_eq_true rfl)) dX15_wish_177 ⟨by show _ + 0 ≤ 0; omega, by show _ + 0 ≤ 0; omega⟩) hS (fun q _ h => hFc q h) hFc (fun r_462 u t H1 locs ht hvm hw hB hz1 hk1 hS => ?_)
                        obtain ⟨F_463, hB1⟩ := hB
                        obtain rfl : F_178 = F_463 := (funext (fun a => hB1.2.2.2 a List.not_mem_nil)).symm
                        obtain ⟨hP, hD, hO, hR⟩ := QTm.back hB1 ht hFc hR (fun q h => absurd h List.not_mem_nil)
                        generalize H1 = H at hP hS ⊢
                        have hw : r_462 = nI (wnW (TC fc_162 (flI (TC (D kv).2.2.2.2.2 (D kv).2.2.2.2.1) 0 ((D kv).2.2.2.2.1 - 0)).length) gg_176.2 gg_176.1 [115, 112]) := hw
                        subst hw
                        refine lv_topi (fun x9 ex9 => ?_)
                        obtain rfl : x9 = nI (wnW (flT (TC (D kv).2.2.2.2.2 (D kv).2.2.2.2.1) 0 ((D kv).2.2.2.2.1 - 0)) gg_176.2 gg_176.1 [115, 112]) := ex9.trans (by rw [hwT])
                        have hwb10 := wnW_le (T := (flT (TC (D kv).2.2.2.2.2 (D kv).2.2.2.2.1) 0 ((D kv).2.2.2.2.1 - 0))) (g := gg_176.2) (n := gg_176.1) (l := [115, 112])
                        refine lv_istore (lv' := [(4, .int (nI (wnW (flT (TC (D kv).2.2.2.2.2 (D kv).2.2.2.2.1) 0 ((D kv).2.2.2.2.1 - 0)) gg_176.2 gg_176.1 [115, 112]))), (3, .int (nI kv)), (2, .int sw2), (0, .ref h0), (1, .int x1)]) hx hb dX15_wish_180 hl (by decide) rfl (fun ls hl => ?_)
                        refine lv_iload hx hb dX15_wish_182 (lv_at hl 0 rfl) ?_
                        refine lv_bipush (v := 6) hx hb dX15_wish_184 (by decide) ?_
                        refine lv_icmp_ne (tgt := 192) hx hb dX15_wish_186 (by decide) (fun c_464 => ?_) (fun c_464 => ?_)
                        ·
                          have hi_465 : (wnW (flT (TC (D kv).2.2.2.2.2 (D kv).2.2.2.2.1) 0 ((D kv).2.2.2.2.1 - 0)) gg_176.2 gg_176.1 [115, 112]) ≠ 6 := fun q => c_464 (by rw [q]; rfl)
                          have hw186 : ¬ (wnW (flT (TC (D kv).2.2.2.2.2 (D kv).2.2.2.2.1) 0 ((D kv).2.2.2.2.1 - 0)) gg_176.2 gg_176.1 [115, 112]) = 6 := fun q => c_464 (by rw [q]; rfl)
                          refine W.widen (k := 0) (n := 0) (by omega) (by omega) ?_
                          exact jn_205 (nI (wnW (flT (TC (D kv).2.2.2.2.2 (D kv).2.2.2.2.1) 0 ((D kv).2.2.2.2.1 - 0)) gg_176.2 gg_176.1 [115, 112])) F_178 (⟨(by rw [hmv]; unfold rrW; rw [show tgT (flT (TC (D kv).2.2.2.2.2 (D kv).2.2.2.2.1) 0 ((D kv).2.2.2.2.1 - 0)) (flI (TC (D kv).2.2.2.2.2 (D kv).2.2.2.2.1) 0 ((D kv).2.2.2.2.1 - 0)).length = some gg_176 from by rcases hw_197 with h9 | h9; have h8 := h9.2; rw [hwT] at h8; exact h8; exact absurd h9.1 c_198]; show (if (wnW (flT (TC (D kv).2.2.2.2.2 (D kv).2.2.2.2.1) 0 ((D kv).2.2.2.2.1 - 0)) gg_176.2 gg_176.1 [112]) = 6 then 6 else _) = (-1 : Int32); rw [if_neg hw147, if_pos (show sw2 = 0 ∧ (TGE (flT (TC (D kv).2.2.2.2.2 (D kv).2.2.2.2.1) 0 ((D kv).2.2.2.2.1 - 0)) gg_176.2 gg_176.1 [115, 112]) from ⟨c_455, hsp⟩), if_neg hw186]), (by show _ = nI (rcW (D (rwM D ze V).1) (rwM D ze V).2); rw [hrw]; show _ = nI (rcW (D kv) sw2); rw [hrc1]; unfold wn3; rw [if_pos (show (¬ wnW (kyT (D kv)) gg_176.2 gg_176.1 [112] = 6) ∧ sw2 = 0 ∧ TGE (kyT (D kv)) gg_176.2 gg_176.1 [115, 112] from ⟨hw147, c_455, hsp⟩)]; rfl), hF_189, hF_190, hq_182, hF_195, hF_196, hq_183, hq_184, hq_185⟩) hO hR _ _ hP hD hS ls (lv_sub hl [0, 3, 4] rfl)
                        ·
                          have hi_466 : (wnW (flT (TC (D kv).2.2.2.2.2 (D kv).2.2.2.2.1) 0 ((D kv).2.2.2.2.1 - 0)) gg_176.2 gg_176.1 [115, 112]) = 6 := (nI_eq (a := (wnW (flT (TC (D kv).2.2.2.2.2 (D kv).2.2.2.2.1) 0 ((D kv).2.2.2.2.1 - 0)) gg_176.2 gg_176.1 [115, 112])) (b := 6) (by omega) (by omega)).mp c_464
                          have hw186 : (wnW (flT (TC (D kv).2.2.2.2.2 (D kv).2.2.2.2.1) 0 ((D kv).2.2.2.2.1 - 0)) gg_176.2 gg_176.1 [115, 112]) = 6 := (nI_eq (b := 6) (by have h8 := wnW_le (T := (flT (TC (D kv).2.2.2.2.2 (D kv).2.2.2.2.1) 0 ((D kv).2.2.2.2.1 - 0))) (g := gg_176.2) (n := gg_176.1) (l := [115, 112]); omega) (by omega)).mp c_464
                          refine lv_bipush (v := 6) hx hb dX15_wish_189 (by decide) ?_
                          refine W.widen (k := 0) (n := 0) (by omega) (by omega) ?_
                          exact W.iret (v := 6) hx hb hr (fun t ht hWm => ⟨⟨6, none, rfl, (Or.inr (Or.inr ⟨hnz, hn0, _, snr_plr D ze hw_105, Or.inl ⟨by rw [hVe]; exact (by show ¬ mvW D ze V = (-1); rw [hmv]; unfold rrW; rw [show tgT (flT (TC (D kv).2.2.2.2.2 (D kv).2.2.2.2.1) 0 ((D kv).2.2.2.2.1 - 0)) (flI (TC (D kv).2.2.2.2.2 (D kv).2.2.2.2.1) 0 ((D kv).2.2.2.2.1 - 0)).length = some gg_176 from by rcases hw_197 with h9 | h9; have h8 := h9.2; rw [hwT] at h8; exact h8; exact absurd h9.1 c_198]; show ¬ (if (wnW (flT (TC (D kv).2.2.2.2.2 (D kv).2.2.2.2.1) 0 ((D kv).2.2.2.2.1 - 0)) gg_176.2 gg_176.1 [112]) = 6 then 6 else _) = (-1 : Int32); rw [if_neg hw147, if_pos (show sw2 = 0 ∧ (TGE (flT (TC (D kv).2.2.2.2.2 (D kv).2.2.2.2.1) 0 ((D kv).2.2.2.2.1 - 0)) gg_176.2 gg_176.1 [115, 112]) from ⟨c_455, hsp⟩), if_pos hw186]; decide), by rw [hVe]; show (6 : Int32) = mvW D ze V; exact (by rw [hmv]; unfold rrW; rw [show tgT (flT (TC (D kv).2.2.2.2.2 (D kv).2.2.2.2.1) 0 ((D kv).2.2.2.2.1 - 0)) (flI (TC (D kv).2.2.2.2.2 (D kv).2.2.2.2.1) 0 ((D kv).2.2.2.2.1 - 0)).length = some gg_176 from hgt]; show (6 : Int32) = (if (wnW (flT (TC (D kv).2.2.2.2.2 (D kv).2.2.2.2.1) 0 ((D kv).2.2.2.2.1 - 0)) gg_176.2 gg_176.1 [112]) = 6 then 6 else _); rw [if_neg hw147, if_pos (show sw2 = 0 ∧ TGE (flT (TC (D kv).2.2.2.2.2 (D kv).2.2.2.2.1) 0 ((D kv).2.2.2.2.1 - 0)) gg_176.2 gg_176.1 [115, 112] from ⟨c_455, hsp⟩), if_pos hw186])⟩⟩)), ⟨F_178, ty, (rtf_idw hT_h0), QTm.mk ht hP hD hO hR, hW, (Or.inr ⟨hs0, Int32.not_lt.mpr c_97, hn0, _, snr_plr D ze hw_105, Or.inr ⟨by rw [hVe]; exact (by show ¬ mvW D ze V = (-1); rw [hmv]; unfold rrW; rw [show tgT (flT (TC (D kv).2.2.2.2.2 (D kv).2.2.2.2.1) 0 ((D kv).2.2.2.2.1 - 0)) (flI (TC (D kv).2.2.2.2.2 (D kv).2.2.2.2.1) 0 ((D kv).2.2.2.2.1 - 0)).length = some gg_176 from by rcases hw_197 with h9 | h9; have h8 := h9.2; rw [hwT] at h8; exact h8; exact absurd h9.1 c_198]; show ¬ (if (wnW (flT (TC (D kv).2.2.2.2.2 (D kv).2.2.2.2.1) 0 ((D kv).2.2.2.2.1 - 0)) gg_176.2 gg_176.1 [112]) = 6 then 6 else _) = (-1 : Int32); rw [if_neg hw147, if_pos (show sw2 = 0 ∧ (TGE (flT (TC (D kv).2.2.2.2.2 (D kv).2.2.2.2.1) 0 ((D kv).2.2.2.2.1 - 0)) gg_176.2 gg_176.1 [115, 112]) from ⟨c_455, hsp⟩), if_pos hw186]; decide), rfl⟩⟩)⟩⟩, hS.F ht⟩) hS.2.2 dX15_wish_191
                ·
                  have hi_467 : (wnW (flT (TC (D kv).2.2.2.2.2 (D kv).2.2.2.2.1) 0 ((D kv).2.2.2.2.1 - 0)) gg_176.2 gg_176.1 [112]) = 6 := (nI_eq (a := (wnW (flT (TC (D kv).2.2.2.2.2 (D kv).2.2.2.2.1) 0 ((D kv).2.2.2.2.1 - 0)) gg_176.2 gg_176.1 [112])) (b := 6) (by omega) (by omega)).mp c_203
                  have hw147 : (wnW (flT (TC (D kv).2.2.2.2.2 (D kv).2.2.2.2.1) 0 ((D kv).2.2.2.2.1 - 0)) gg_176.2 gg_176.1 [112]) = 6 := (nI_eq (b := 6) (by have h8 := wnW_le (T := (flT (TC (D kv).2.2.2.2.2 (D kv).2.2.2.2.1) 0 ((D kv).2.2.2.2.1 - 0))) (g := gg_176.2) (n := gg_176.1) (l := [112]); omega) (by omega)).mp c_203
                  refine lv_bipush (v := 6) hx hb dX15_wish_150 (by decide) ?_
                  refine W.widen (k := 0) (n := 0) (by omega) (by omega) ?_
                  exact W.iret (v := 6) hx hb hr (fun t ht hWm => ⟨⟨6, none, rfl, (Or.inr (Or.inr ⟨hnz, hn0, _, snr_plr D ze hw_105, Or.inl ⟨by rw [hVe]; exact (by show ¬ mvW D ze V = (-1); rw [hmv]; unfold rrW; rw [show tgT (flT (TC (D kv).2.2.2.2.2 (D kv).2.2.2.2.1) 0 ((D kv).2.2.2.2.1 - 0)) (flI (TC (D kv).2.2.2.2.2 (D kv).2.2.2.2.1) 0 ((D kv).2.2.2.2.1 - 0)).length = some gg_176 from by rcases hw_197 with h9 | h9; have h8 := h9.2; rw [hwT] at h8; exact h8; exact absurd h9.1 c_198]; show ¬ (if (wnW (flT (TC (D kv).2.2.2.2.2 (D kv).2.2.2.2.1) 0 ((D kv).2.2.2.2.1 - 0)) gg_176.2 gg_176.1 [112]) = 6 then 6 else _) = (-1 : Int32); rw [if_pos hw147]; decide), by rw [hVe]; show (6 : Int32) = mvW D ze V; exact (by rw [hmv]; unfold rrW; rw [show tgT (flT (TC (D kv).2.2.2.2.2 (D kv).2.2.2.2.1) 0 ((D kv).2.2.2.2.1 - 0)) (flI (TC (D kv).2.2.2.2.2 (D kv).2.2.2.2.1) 0 ((D kv).2.2.2.2.1 - 0)).length = some gg_176 from hgt]; show (6 : Int32) = (if (wnW (flT (TC (D kv).2.2.2.2.2 (D kv).2.2.2.2.1) 0 ((D kv).2.2.2.2.1 - 0)) gg_176.2 gg_176.1 [112]) = 6 then 6 else _); rw [if_pos hw147])⟩⟩)), ⟨F_178, ty, (rtf_idw hT_h0), QTm.mk ht hP hD hO hR, hW, (Or.inr ⟨hs0, Int32.not_lt.mpr c_97, hn0, _, snr_plr D ze hw_105, Or.inr ⟨by rw [hVe]; exact (by show ¬ mvW D ze V = (-1); rw [hmv]; unfold rrW; rw [show tgT (flT (TC (D kv).2.2.2.2.2 (D kv).2.2.2.2.1) 0 ((D kv).2.2.2.2.1 - 0)) (flI (TC (D kv).2.2.2.2.2 (D kv).2.2.2.2.1) 0 ((D kv).2.2.2.2.1 - 0)).length = some gg_176 from by rcases hw_197 with h9 | h9; have h8 := h9.2; rw [hwT] at h8; exact h8; exact absurd h9.1 c_198]; show ¬ (if (wnW (flT (TC (D kv).2.2.2.2.2 (D kv).2.2.2.2.1) 0 ((D kv).2.2.2.2.1 - 0)) gg_176.2 gg_176.1 [112]) = 6 then 6 else _) = (-1 : Int32); rw [if_pos hw147]; decide), rfl⟩⟩)⟩⟩, hS.F ht⟩) hS.2.2 dX15_wish_152
              ·
                refine lv_bipush (v := 6) hx hb dX15_wish_128 (by decide) ?_
                refine W.widen (k := 0) (n := 0) (by omega) (by omega) ?_
                exact W.iret (v := 6) hx hb hr (fun t ht hWm => ⟨⟨6, none, rfl, (Or.inr (Or.inr ⟨hnz, hn0, _, snr_plr D ze hw_105, Or.inl ⟨by rw [hVe]; exact (by show ¬ mvW D ze V = (-1); rw [hmv]; unfold rrW; rw [show tgT (flT (TC (D kv).2.2.2.2.2 (D kv).2.2.2.2.1) 0 ((D kv).2.2.2.2.1 - 0)) (flI (TC (D kv).2.2.2.2.2 (D kv).2.2.2.2.1) 0 ((D kv).2.2.2.2.1 - 0)).length = none from by rcases hw_197 with h9 | h9; exact absurd (h9.1.symm.trans c_198) (by decide); have h8 := h9.2; rw [hwT] at h8; exact h8]; show ¬ (6 : Int32) = (-1); decide), by rw [hVe]; show (6 : Int32) = mvW D ze V; exact (by rw [hmv]; unfold rrW; rw [show tgT (flT (TC (D kv).2.2.2.2.2 (D kv).2.2.2.2.1) 0 ((D kv).2.2.2.2.1 - 0)) (flI (TC (D kv).2.2.2.2.2 (D kv).2.2.2.2.1) 0 ((D kv).2.2.2.2.1 - 0)).length = none from by rcases hw_197 with h9 | h9; exact absurd (h9.1.symm.trans c_198) (by decide); have h8 := h9.2; rw [hwT] at h8; exact h8]; rfl)⟩⟩)), ⟨F_178, ty, (rtf_idw hT_h0), QTm.mk ht hP hD hO hR, hW, (Or.inr ⟨hs0, Int32.not_lt.mpr c_97, hn0, _, snr_plr D ze hw_105, Or.inr ⟨by rw [hVe]; exact (by show ¬ mvW D ze V = (-1); rw [hmv]; unfold rrW; rw [show tgT (flT (TC (D kv).2.2.2.2.2 (D kv).2.2.2.2.1) 0 ((D kv).2.2.2.2.1 - 0)) (flI (TC (D kv).2.2.2.2.2 (D kv).2.2.2.2.1) 0 ((D kv).2.2.2.2.1 - 0)).length = none from by rcases hw_197 with h9 | h9; exact absurd (h9.1.symm.trans c_198) (by decide); have h8 := h9.2; rw [hwT] at h8; exact h8]; show ¬ (6 : Int32) = (-1); decide), rfl⟩⟩)⟩⟩, hS.F ht⟩) hS.2.2 dX15_wish_130
            ·
              have hmn := w71_n h71 (by omega) (Int32.not_le.mp c_120)
              refine lv_iload_n hx hb dX15_wish_75 rfl (lv_at hl 0 rfl) ?_
              refine lv_bipush (v := (-2)) hx hb dX15_wish_76 (by decide) ?_
              refine lv_icmp_ne (tgt := 85) hx hb dX15_wish_78 (by decide) (fun c_468 => ?_) (fun c_468 => ?_)
              ·
                refine lv_iconst (v := 0) hx hb dX15_wish_85 (by decide) ?_
                refine W.widen (k := 0) (n := 0) (by omega) (by omega) ?_
                exact W.iret (v := 0) hx hb hr (fun t ht hWm => ⟨⟨0, none, rfl, (Or.inr (Or.inr ⟨hnz, hn0, _, snr_plr D ze hw_105, Or.inl ⟨by rw [hVe]; exact hmn, by rw [hVe]; show (_ : Int32) = mvW D ze V; rw [w71_r h71 (by omega) (Int32.not_le.mp c_120), if_neg c_468]⟩⟩)), ⟨F_116, ty, (rtf_idw hT_h0), QTm.mk ht hP hD hO hR, hW, (Or.inr ⟨hs0, Int32.not_lt.mpr c_97, hn0, _, snr_plr D ze hw_105, Or.inr ⟨by rw [hVe]; exact hmn, rfl⟩⟩)⟩⟩, hS.F ht⟩) hS.2.2 dX15_wish_86
              ·
                refine lv_iconst (v := 5) hx hb dX15_wish_81 (by decide) ?_
                refine lv_goto (tgt := 86) hx hb dX15_wish_82 (by decide) ?_
                refine W.widen (k := 0) (n := 0) (by omega) (by omega) ?_
                exact W.iret (v := 5) hx hb hr (fun t ht hWm => ⟨⟨5, none, rfl, (Or.inr (Or.inr ⟨hnz, hn0, _, snr_plr D ze hw_105, Or.inl ⟨by rw [hVe]; exact hmn, by rw [hVe]; show (_ : Int32) = mvW D ze V; rw [w71_r h71 (by omega) (Int32.not_le.mp c_120), if_pos c_468]⟩⟩)), ⟨F_116, ty, (rtf_idw hT_h0), QTm.mk ht hP hD hO hR, hW, (Or.inr ⟨hs0, Int32.not_lt.mpr c_97, hn0, _, snr_plr D ze hw_105, Or.inr ⟨by rw [hVe]; exact hmn, rfl⟩⟩)⟩⟩, hS.F ht⟩) hS.2.2 dX15_wish_86
          ·
            refine lv_iload_n hx hb dX15_wish_43 rfl (lv_at hl 0 rfl) ?_
            refine lv_iconst (v := (-1)) hx hb dX15_wish_44 (by decide) ?_
            refine lv_icmp_ne (tgt := 71) hx hb dX15_wish_45 (by decide) (fun c_469 => ?_) (fun c_469 => ?_)
            ·
              have hw45 := c_469
              refine W.widen (k := 0) (n := 0) (by omega) (by omega) ?_
              exact jn_115 ((woW D ze (DMU V 0)), 1) F_110 (⟨Or.inl ⟨rfl, rfl, hw45⟩, hF_113, hF_114⟩) hO hR _ _ hP hD hS ls (lv_sub hl [0, 1, 2, 3] rfl)
            ·
              have hw45 := c_469
              refine lv_iconst (v := 0) hx hb dX15_wish_48 (by decide) ?_
              refine lv_istore_n (lv' := [(2, .int 0), (3, .int (woW D ze (DMU V 0))), (0, .ref h0), (1, .int x1)]) hx hb dX15_wish_49 rfl hl (by decide) rfl (fun ls hl => ?_)
              refine lv_aload_n hx hb dX15_wish_50 rfl (lv_at hl 2 rfl) ?_
              refine lv_aload_n hx hb dX15_wish_51 rfl (lv_at hl 2 rfl) ?_
              refine pg_get (ci := 15) (v := .ref ak) (C := RX15) (T := TX15) (N := 59) hx hb hts it_15 hown hK hP hL_h0 hF_112 rfl 56 (by decide) (hts _ kt_993) (fun _ h9 => h9) rfl dX15_wish_52 ?_
              refine lv_aload_n hx hb dX15_wish_55 rfl (lv_at hl 2 rfl) ?_
              refine pg_get (ci := 15) (v := .ref ho) (C := RX15) (T := TX15) (N := 59) hx hb hts it_15 hown hK hP hL_h0 hF_112 rfl 57 (by decide) (hts _ kt_950) (fun _ h9 => h9) rfl dX15_wish_56 ?_
              have hQso := hR so (by rw [hTs0]; simp only [mem_tgS, List.mem_append, List.mem_cons, List.not_mem_nil, or_false]; omega)
              have hQad := hR ad (by rw [hTd0]; simp only [mem_tgS, List.mem_append, List.mem_cons, List.not_mem_nil, or_false]; omega)
              have hQna := hR na (by rw [hTn0]; simp only [mem_tgS, List.mem_append, List.mem_cons, List.not_mem_nil, or_false]; omega)
              have hQva := hR va (by rw [hTv0]; simp only [mem_tgS, List.mem_append, List.mem_cons, List.not_mem_nil, or_false]; omega)
              have hDM7 := DIRM.fr hDM hO0 hW0 hLn0 hTn0 hLv0 hTv0 (by omega) hR hQso hQad hQna hQva (fun k hk => ⟨by simp only [mem_tgS, List.mem_append, List.mem_cons, List.not_mem_nil, or_false]; omega, by simp only [mem_tgS, List.mem_append, List.mem_cons, List.not_mem_nil, or_false]; omega⟩)
              have hFc := pg_free hD hS hA
              refine va_callv (va_runV (As := [.ref ak, .ref ho]) (rest := []) ⟨hx, hb, hml, hown, hts⟩ (s_X15_houseOf_e l dC dI cs ty gm L H.size F_110 h0 ρ ta ou so ad na va lc dm tg pe ml bg co sp nb0 nb1 nb2 pl se ke wi hs mo po nu pr sq xa sa n64 m64 ex wh sd tk hd ak ho ot sx s0 s1 s2 nf bd mm zo fm sn hg gc gv ze zt ak (ρ + 28) rak 6000 ho (ρ + 29) r_16 6000 V.length gv9 D hW hL_h0 hT_h0 hL_ak hT_ak hi_46 ht_47 hF_113 hF_114 (by omega) (by omega) (hDM7)) ⟨callB_of 2 hts (gi kt_951) rfl rfl rfl (hts _ kt_669) (hts _ kt_952) (by decide +kernel) ⟨Nat.le_of_ble_eq_true rfl, Nat.le_of_ble_eq_true rfl⟩, (hts _ kt_953), (hts _ kt_954)⟩ ⟨fun a U g mk q => ⟨q.1, PTm.calling q.2⟩, pg_recv hK hP hL_h0 hF_112 (q := (RX15, TX15, 59)) rfl, fun U hU hWm => ⟨rfl, PTm.mk hU hWm hP hK hD hE hO⟩⟩ rfl rfl hl.1 rfl (lv_room (Nat.le_of_ble_eq_true rfl)) dX15_wish_59 ⟨by show _ + 0 ≤ 0; omega, by show _ + 0 ≤ 0; omega⟩) hS (fun q _ h => hFc q h) hFc (fun u t H1 locs ht hvm hw hB hz1 hk1 hS => ?_)
              obtain ⟨F_471, y2_472, fc_473, hB1, hq_474, hq_475, hq_476, hq_477⟩ := hB
              obtain ⟨hP, hD, hO, hR⟩ := QTm.back hB1 ht hFc hR (fun q h => by simp only [mem_tgS, List.mem_append, List.mem_cons, List.not_mem_nil, or_false] at h ⊢; omega)
              have hF_478 : F_471 ml = .inl (cs 17, 3000, .inl gl) := (hB1.2.2.2 ml (by rw [ht_73]; simp)).trans hF_111
              have hF_479 : F_471 h0 = .inr (15, (.ref ta) :: (.int (nI zt)) :: (.int (nI zo)) :: (.int (nI ze)) :: (.ref ou) :: (.ref so) :: (.ref ad) :: (.ref na) :: (.ref va) :: (.ref lc) :: (.ref dm) :: (.int (nI fm)) :: (.int (nI sn)) :: (.ref tg) :: (.int v14_76) :: (.int v15_77) :: (.ref pe) :: (.int v17_78) :: (.int v18_79) :: (.int v19_80) :: (.int v20_81) :: (.int v21_82) :: (.int v22_83) :: (.ref ml) :: (.ref bg) :: (.ref co) :: (.ref sp) :: (.ref nb0) :: (.ref nb1) :: (.ref nb2) :: (.int (nI nf)) :: (.int (nI bd)) :: (.int (nI mm)) :: (.int v33_84) :: (.ref pl) :: (.ref se) :: (.ref ke) :: (.ref wi) :: (.ref hs) :: (.ref mo) :: (.ref po) :: (.ref nu) :: (.ref pr) :: (.ref sq) :: (.ref xa) :: (.ref sa) :: (.ref n64) :: (.ref m64) :: (.ref ex) :: (.ref wh) :: (.ref sd) :: (.ref tk) :: (.int v52_85) :: (.int v53_86) :: (.int v54_87) :: (.ref hd) :: (.ref ak) :: (.ref ho) :: (.ref ot) :: []) := (hB1.2.2.2 h0 (by rw [hT_h0]; simp)).trans hF_112
              have hF_480 : F_471 ak = .inr (14, [.ref rak, .int (nI V.length)]) := (hB1.2.2.2 ak (by rw [hT_ak]; simp)).trans hF_113
              have hF_481 : F_471 rak = .inl (cs 17, 6000, .inl gv9) := (hB1.2.2.2 rak (by rw [ht_44]; simp)).trans hF_114
              generalize H1 = H at hP hS ⊢
              have hHO : SRC (rgL V (hsM D ze V) (V.length - hsM D ze V)) y2_472 fc_473 := src_hs hz3v (hq_476) (hq_477)
              refine lv_aload_n hx hb dX15_wish_62 rfl (lv_at hl 2 rfl) ?_
              refine lv_aload_n hx hb dX15_wish_63 rfl (lv_at hl 2 rfl) ?_
              refine pg_get (ci := 15) (v := .ref ho) (C := RX15) (T := TX15) (N := 59) hx hb hts it_15 hown hK hP hL_h0 hF_479 rfl 57 (by decide) (hts _ kt_950) (fun _ h9 => h9) rfl dX15_wish_64 ?_
              have hQso := hR so (by rw [hTs0]; simp only [mem_tgS, List.mem_append, List.mem_cons, List.not_mem_nil, or_false]; omega)
              have hQad := hR ad (by rw [hTd0]; simp only [mem_tgS, List.mem_append, List.mem_cons, List.not_mem_nil, or_false]; omega)
              have hQna := hR na (by rw [hTn0]; simp only [mem_tgS, List.mem_append, List.mem_cons, List.not_mem_nil, or_false]; omega)
              have hQva := hR va (by rw [hTv0]; simp only [mem_tgS, List.mem_append, List.mem_cons, List.not_mem_nil, or_false]; omega)
              have hDM8 := DIRM.fr hDM hO0 hW0 hLn0 hTn0 hLv0 hTv0 (by omega) hR hQso hQad hQna hQva (fun k hk => ⟨by simp only [mem_tgS, List.mem_append, List.mem_cons, List.not_mem_nil, or_false]; omega, by simp only [mem_tgS, List.mem_append, List.mem_cons, List.not_mem_nil, or_false]; omega⟩)
              obtain ⟨hq_482, hq_483⟩ := hW.octs hi_48 ht_49
              have hFc := pg_free hD hS hA
              refine va_calli (va_runV (As := [.ref ho]) (rest := []) ⟨hx, hb, hml, hown, hts⟩ (s_X15_wantedOf_x l dC dI cs ty gm L H.size F_471 h0 ρ ta ou so ad na va lc dm tg pe ml bg co sp nb0 nb1 nb2 pl se ke wi hs mo po nu pr sq xa sa n64 m64 ex wh sd tk hd ak ho ot sx s0 s1 s2 nf bd mm zo fm sn hg gc gv ze zt ho (ρ + 29) r_16 6000 y2_472 fc_473 (rgL V (hsM D ze V) (V.length - hsM D ze V)) D hW hL_h0 hT_h0 hi_46 ht_47 hq_474 hq_475 (by have h9 := hHO.1; rw [rgL_len] at h9; omega) (by have h9 := hHO.1; rw [rgL_len] at h9; omega) (by omega) (by omega) (hHO) (by omega) (hDM8)) ⟨callB_of 1 hts (gi kt_1192) rfl rfl rfl (hts _ kt_669) (hts _ kt_1193) (by decide +kernel) ⟨Nat.le_of_ble_eq_true rfl, Nat.le_of_ble_eq_true rfl⟩, (hts _ kt_1194), (hts _ kt_1195)⟩ ⟨fun a U g mk q => ⟨q.1, PTEm.calling q.2⟩, pg_recv hK hP hL_h0 hF_479 (q := (RX15, TX15, 59)) rfl, fun U hU hWm => ⟨rfl, PTEm.mk hU hWm hP hK hD hE hO hG (fun x hx => absurd hx List.not_mem_nil) hS hFc⟩⟩ rfl rfl hl.1 rfl (lv_room (Nat.le_of_ble_eq_true rfl)) dX15_wish_67 ⟨by show _ + 0 ≤ 0; omega, by show _ + 0 ≤ 0; omega⟩) hS (fun q _ h => hFc q h) hFc (fun r_484 u t H1 locs ht hvm hw hB hz1 hk1 hS => ?_)
              obtain ⟨F_485, hB1⟩ := hB
              obtain ⟨hP, hD, hO, hR⟩ := QTm.back hB1 ht hFc hR (fun q h => by simp only [mem_tgS, List.mem_append, List.mem_cons, List.not_mem_nil, or_false] at h ⊢; omega)
              have hF_486 : F_485 ml = .inl (cs 17, 3000, .inl gl) := (hB1.2.2.2 ml (by rw [ht_73]; simp)).trans hF_478
              have hF_487 : F_485 h0 = .inr (15, (.ref ta) :: (.int (nI zt)) :: (.int (nI zo)) :: (.int (nI ze)) :: (.ref ou) :: (.ref so) :: (.ref ad) :: (.ref na) :: (.ref va) :: (.ref lc) :: (.ref dm) :: (.int (nI fm)) :: (.int (nI sn)) :: (.ref tg) :: (.int v14_76) :: (.int v15_77) :: (.ref pe) :: (.int v17_78) :: (.int v18_79) :: (.int v19_80) :: (.int v20_81) :: (.int v21_82) :: (.int v22_83) :: (.ref ml) :: (.ref bg) :: (.ref co) :: (.ref sp) :: (.ref nb0) :: (.ref nb1) :: (.ref nb2) :: (.int (nI nf)) :: (.int (nI bd)) :: (.int (nI mm)) :: (.int v33_84) :: (.ref pl) :: (.ref se) :: (.ref ke) :: (.ref wi) :: (.ref hs) :: (.ref mo) :: (.ref po) :: (.ref nu) :: (.ref pr) :: (.ref sq) :: (.ref xa) :: (.ref sa) :: (.ref n64) :: (.ref m64) :: (.ref ex) :: (.ref wh) :: (.ref sd) :: (.ref tk) :: (.int v52_85) :: (.int v53_86) :: (.int v54_87) :: (.ref hd) :: (.ref ak) :: (.ref ho) :: (.ref ot) :: []) := (hB1.2.2.2 h0 (by rw [hT_h0]; simp)).trans hF_479
              have hF_488 : F_485 ak = .inr (14, [.ref rak, .int (nI V.length)]) := (hB1.2.2.2 ak (by rw [hT_ak]; simp)).trans hF_480
              have hF_489 : F_485 rak = .inl (cs 17, 6000, .inl gv9) := (hB1.2.2.2 rak (by rw [ht_44]; simp)).trans hF_481
              have hF_490 : F_485 ho = .inr (14, [.ref r_16, .int (nI y2_472)]) := (hB1.2.2.2 ho (by rw [ht_47]; simp)).trans hq_474
              have hF_491 : F_485 r_16 = .inl (cs 17, 6000, .inl fc_473) := (hB1.2.2.2 r_16 (by rw [ht_49]; simp)).trans hq_475
              generalize H1 = H at hP hS ⊢
              have hw : r_484 = woW D ze ([95, 100, 109, 97, 114, 99, 46] ++ (rgL V (hsM D ze V) (V.length - hsM D ze V))) := hw
              subst hw
              refine lv_topi (fun x9 ex9 => ?_)
              obtain rfl : x9 = woW D ze (DMU V (hsM D ze V)) := ex9.trans rfl
              refine lv_istore_n (lv' := [(3, .int (woW D ze (DMU V (hsM D ze V)))), (2, .int 0), (0, .ref h0), (1, .int x1)]) hx hb dX15_wish_70 rfl hl (by decide) rfl (fun ls hl => ?_)
              refine W.widen (k := 0) (n := 0) (by omega) (by omega) ?_
              exact jn_115 ((woW D ze (DMU V (hsM D ze V))), 0) F_485 (⟨Or.inr ⟨rfl, hw45, rfl⟩, hF_488, hF_489⟩) hO hR _ _ hP hD hS ls (lv_sub hl [0, 1, 2, 3] rfl)
        ·
          have hgn := snr_z hw_105 c_106
          refine lv_iconst (v := 1) hx hb dX15_wish_30 (by decide) ?_
          refine W.widen (k := 0) (n := 0) (by omega) (by omega) ?_
          exact W.iret (v := 1) hx hb hr (fun t ht hWm => ⟨⟨1, none, rfl, (Or.inr (Or.inr ⟨hnz, hn0, _, snr_plr D ze hw_105, Or.inl ⟨by rw [hgn]; exact (by decide : ¬ (1 : Int32) = (-1)), by rw [hgn]; rfl⟩⟩)), ⟨F_101, ty, (rtf_idw hT_h0), QTm.mk ht hP hD hO hR, hW, (Or.inr ⟨hs0, Int32.not_lt.mpr c_97, hn0, _, snr_plr D ze hw_105, Or.inr ⟨by rw [hgn]; exact (by decide : ¬ (1 : Int32) = (-1)), rfl⟩⟩)⟩⟩, hS.F ht⟩) hS.2.2 dX15_wish_31
      ·
        have hn0 : nf = 0 := by rcases hq_91 with q | q; exact q.2; exact absurd (q.1.symm.trans c_98) (by decide)
        refine lv_bipush (v := (-2)) hx hb dX15_wish_20 (by decide) ?_
        refine W.widen (k := 0) (n := 0) (by omega) (by omega) ?_
        exact W.iret (v := (-2)) hx hb hr (fun t ht hWm => ⟨⟨(-2), none, rfl, (Or.inr (Or.inl ⟨hnz, hn0, rfl⟩)), ⟨F, ty, (rtf_idw hT_h0), QTm.mk ht hP hD hO hR, hW, (Or.inl ⟨Or.inr (Or.inr hn0), rfl⟩)⟩⟩, hS.F ht⟩) hS.2.2 dX15_wish_22
    ·
      refine lv_iconst (v := (-1)) hx hb dX15_wish_11 (by decide) ?_
      refine W.widen (k := 0) (n := 0) (by omega) (by omega) ?_
      exact W.iret (v := (-1)) hx hb hr (fun t ht hWm => ⟨⟨(-1), none, rfl, (Or.inl ⟨Or.inr (Int32.not_le.mp c_97), rfl⟩), ⟨F, ty, (rtf_idw hT_h0), QTm.mk ht hP hD hO hR, hW, (Or.inl ⟨Or.inr (Or.inl (Int32.not_le.mp c_97)), rfl⟩)⟩⟩, hS.F ht⟩) hS.2.2 dX15_wish_12
