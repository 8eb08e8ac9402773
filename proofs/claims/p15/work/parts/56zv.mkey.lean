theorem kyb_s : ∀ c, c < 256 → (0 ≤ vp_nar .byte (nI c) ↔ ¬ 128 ≤ c) := by decide +kernel
theorem kyb_1 : ∀ c, c < 256 → (vp_nar .byte (nI c) &&& 1 = 1 ↔ c % 2 = 1) := by decide +kernel
theorem hau_s {D : Nat → ETY} {j : Nat} {x : Int32} {U : List Nat} (h : ¬ HAU D j x U) (hn : ¬ ((D j).1 = x ∧ SAMN (D j) (ooU U) (yU U) (faU U))) : ¬ HAU D (j + 1) x U := has_s h hn
theorem hau_0 {D : Nat → ETY} {x : Int32} {U : List Nat} : ¬ HAU D 0 x U := fun q => by
  obtain ⟨k, hk, -⟩ := q
  omega
set_option maxHeartbeats 4000000 in
set_option maxRecDepth 100000 in
theorem s_X15_keyOf_x (l : Launch) (dC : Nat → ClassId) (dI : Nat → Nat → Nat) (cs : Nat → ClassId) (ty : TyM) (gm : Nat → Nat → Nat) (L : List Nat) (sz : Nat) (F : Nat → va_E) (h0 : Nat) (ρ : Nat) (ta : Nat) (ou : Nat) (so : Nat) (ad : Nat) (na : Nat) (va : Nat) (lc : Nat) (dm : Nat) (tg : Nat) (pe : Nat) (ml : Nat) (bg : Nat) (co : Nat) (sp : Nat) (nb0 : Nat) (nb1 : Nat) (nb2 : Nat) (pl : Nat) (se : Nat) (ke : Nat) (wi : Nat) (hs : Nat) (mo : Nat) (po : Nat) (nu : Nat) (pr : Nat) (sq : Nat) (xa : Nat) (sa : Nat) (n64 : Nat) (m64 : Nat) (ex : Nat) (wh : Nat) (sd : Nat) (tk : Nat) (hd : Nat) (ak : Nat) (ho : Nat) (ot : Nat) (sx : Nat) (s0 : Nat) (s1 : Nat) (s2 : Nat) (nf : Nat) (bd : Nat) (mm : Nat) (zo : Nat) (fm : Nat) (sn : Nat) (hg : Nat) (gc : Nat) (gv : Nat) (ze : Nat) (zt : Nat) (rwh : Nat) (y : Nat) (hf : Nat → Int32) (U : List Nat) (D : Nat → ETY) (hW : WTm ty gm L) (hL_h0 : h0 ∈ L) (hT_h0 : ty h0 = (15, ρ, [ta, ou, so, ad, na, va, lc, dm, tg, pe, ml, bg, co, sp, nb0, nb1, nb2, pl, se, ke, wi, hs, mo, po, nu, pr, sq, xa, sa, n64, m64, ex, wh, sd, tk, hd, ak, ho, ot, sx, s0, s1, s2, nf, bd, mm, zo, fm, sn, hg, gc, gv, ze, zt])) (hL_wh : wh ∈ L) (hT_wh : ty wh = (14, ρ + 24, [rwh, 6000])) (hFw : F wh = .inr (14, [.ref rwh, .int (nI y)])) (hFw2 : F rwh = .inl (cs 17, 6000, .inl hf)) (hyn : y ≤ 6000) (hTU : TGL U y hf) (hDM : DIRM cs F so ad na va ze D) (hbd : ∀ k, k < ze → ∀ j, j < (D k).2.2.2.2.1 → BYQ ((D k).2.2.2.2.2 j)) : Met l yX15_keyOf (.code yX15_keyOf cX15_keyOf 3 (some .int) :: tb) ({ frames := 7, cells := 0, slots := 0, locals := 164 }) (va_Pc [.ref h0] (PTEm (dC, dI) cs ty gm L F sz [])) (va_Qi (fun (r : Int32) (gk : Nat) => KYX D ze U gk r) (fun (gk : Nat) T9 => ∃ F2 : Nat → va_E, ∃ fM : Nat → Int32, QTm (dC, dI) cs ty gm L [ρ + 13, ρ + 14, ρ + 22, ρ + 83, ρ + 84] F F2 (va_A (va_pl L F) sz) T9 ∧ (KYX D ze U gk 2 → F2 m64 = .inl (cs 17, 64, .inl fM) ∧ BYM (kyM (D gk)) 64 fM)) (va_A (va_pl L F) sz)) 0 0 (va_A (va_pl L F) sz) := by
  refine Met.ofW (cc := cX15_keyOf) (maxL := 3) (ret := (some .int)) (by decide) rfl ?_
  intro p e s m args below meth c s₁ B hml hv
  obtain ⟨rfl, ⟨hsz, hP, hK, hD0, hE, hO⟩, hG, hX⟩ := hv
  have hx := B.exec
  have hb := B.bytes
  have hr := B.returns
  have hts : ∀ w ∈ tb, w.before _ s = true := fun w h => atoms_spec (ws := .code yX15_keyOf cX15_keyOf 3 (some .int) :: tb) B.pre w (List.mem_cons_of_mem _ h)
  have hown : s.vm.findClass RX15 = some m.cls := findClass_of_methodNamed B.named
  have hlocks := B.notSynchronized
  subst hsz
  have hD := hD0.self (sz := s.heap.size)
  generalize hAe : va_A (va_pl L F) s.heap.size = A at hD hG hX ⊢
  have hA : ∀ q : Nat, s.heap.size ≤ q → A q := fun q h => by rw [← hAe]; exact Or.inr h
  have hS : va_S A s.heap s.heap [] := va_S.rf
  have hR : FR ty [ρ + 13, ρ + 14, ρ + 22, ρ + 83, ρ + 84] F F := FR.refl
  have hl := lv_entry ([.ref h0]) (n := 3) (Nat.le_of_ble_eq_true rfl)
  rw [lg_entry_eq]
  generalize (lg_sl ([.ref h0]) ++ List.replicate (3 - (lg_sl ([.ref h0])).length) Slot.unset).toArray = ls at hl ⊢
  have hl : lv_has ls 3 [(0, .ref h0)] := hl
  obtain ⟨hq_22, hq_23, hq_24, hq_25, hq_26, hgO, hgA, hgB, hq_27⟩ := hW.sc hL_h0 hT_h0
  obtain ⟨hi_28, ht_29, hq_30⟩ := hW.txt hL_wh hT_wh
  obtain ⟨hi_31, x_5, y0_6, y1_7, y2_8, ht_32⟩ := hW.f_ke hL_h0 hT_h0
  obtain ⟨hi_33, hi_34, hi_35, hi_36, ⟨r_37, ht_38⟩, ht_39, ht_40, ht_41, hq_42, hq_43⟩ := hW.tags hi_31 ht_32
  have ht_38 : ty x_5 = (14, ρ + 14, [r_37, 700]) := ht_38
  have ht_40 : ty y1_7 = (25, ρ + 83, [40, 700]) := ht_40
  have ht_41 : ty y2_8 = (25, ρ + 84, [40, 700]) := ht_41
  obtain ⟨hi_44, ht_45⟩ := hW.f_m64 hL_h0 hT_h0
  obtain ⟨hq_46, hq_47⟩ := hW.octs hi_44 ht_45
  obtain ⟨v14_48, v15_49, v17_50, v18_51, v19_52, v20_53, v21_54, v22_55, v33_56, v52_57, v53_58, v54_59, hF_60, hq_61, hq_62, hq_63, hq_64, hq_65⟩ := hO.mod hL_h0 hT_h0
  obtain ⟨hi_66, ht_67, hq_68⟩ := hW.txt hi_33 ht_38
  have hO0 := hO
  have hW0 := hW
  obtain ⟨hLs0, hTs0⟩ := hW.f_so hL_h0 hT_h0
  obtain ⟨hLd0, hTd0⟩ := hW.f_ad hL_h0 hT_h0
  obtain ⟨hLn0, hTn0⟩ := hW.f_na hL_h0 hT_h0
  obtain ⟨hLv0, hTv0⟩ := hW.f_va hL_h0 hT_h0
  refine lv_aload_n hx hb dX15_keyOf_0 rfl (lv_at hl 0 rfl) ?_
  refine lv_aload_n hx hb dX15_keyOf_1 rfl (lv_at hl 0 rfl) ?_
  refine pg_get (ci := 15) (v := .ref wh) (C := RX15) (T := TX15) (N := 59) hx hb hts it_15 hown hK hP hL_h0 hF_60 rfl 49 (by decide) (hts _ kt_924) (fun _ h9 => h9) rfl dX15_keyOf_2 ?_
  obtain ⟨hq_69, hq_70⟩ := hW.octs hi_28 ht_29
  have hFc := pg_free hD hS hA
  refine va_calli (va_runV (As := [.ref wh]) (rest := []) ⟨hx, hb, hml, hown, hts⟩ (s_X15_isTrouble_l l dC dI cs ty gm L s.heap.size F h0 ρ ta ou so ad na va lc dm tg pe ml bg co sp nb0 nb1 nb2 pl se ke wi hs mo po nu pr sq xa sa n64 m64 ex wh sd tk hd ak ho ot sx s0 s1 s2 nf bd mm zo fm sn hg gc gv ze zt wh (ρ + 24) rwh 6000 y hf U D hW hL_h0 hT_h0 hL_wh hT_wh hFw hFw2 (hyn) (hTU) (hDM)) ⟨callB_of 1 hts (gi kt_736) rfl rfl rfl (hts _ kt_669) (hts _ kt_737) (by decide +kernel) ⟨Nat.le_of_ble_eq_true rfl, Nat.le_of_ble_eq_true rfl⟩, (hts _ kt_738), (hts _ kt_739)⟩ ⟨fun a U g mk q => ⟨q.1, PTm.calling q.2⟩, pg_recv hK hP hL_h0 hF_60 (q := (RX15, TX15, 59)) rfl, fun U hU hWm => ⟨rfl, PTm.mk hU hWm hP hK hD hE hO⟩⟩ rfl rfl hl.1 rfl (lv_room (Nat.le_of_ble_eq_true rfl)) dX15_keyOf_5 ⟨by show _ + 0 ≤ 0; omega, by show _ + 0 ≤ 0; omega⟩) hS (fun q _ h => hFc q h) hFc (fun r_71 u t H1 locs ht hvm hw hB hz1 hk1 hS => ?_)
  obtain ⟨F_72, hB1⟩ := hB
  obtain rfl : F = F_72 := (funext (fun a => hB1.2.2.2 a List.not_mem_nil)).symm
  obtain ⟨hP, hD, hO, hR⟩ := QTm.back hB1 ht hFc hR (fun q h => absurd h List.not_mem_nil)
  generalize H1 = H at hP hS ⊢
  have hw : ((r_71 = 1 ∧ HAS D ze 3 (ooU U) (yU U) (faU U)) ∨ (r_71 = 0 ∧ ¬ HAS D ze 3 (ooU U) (yU U) (faU U))) := hw
  have hw_73 := hw
  refine lv_if_eq (tgt := 13) hx hb dX15_keyOf_8 (by decide) (fun c_74 => ?_) (fun c_74 => ?_)
  ·
    have hH3 : ¬ HAU D ze 3 U := orp0 hw_73 c_74
    refine lv_iconst (v := 0) hx hb dX15_keyOf_13 (by decide) ?_
    refine lv_istore_n (lv' := [(1, .int 0), (0, .ref h0)]) hx hb dX15_keyOf_14 rfl hl (by decide) rfl (fun ls hl => ?_)
    refine W.widen (k := 0) (n := 0) (by omega) (by omega) ?_
    have hF_76 : F wh = .inr (14, [.ref rwh, .int (nI y)]) := (hR wh (by rw [hT_wh]; simp)).symm.trans hFw
    have hF_77 : F rwh = .inl (cs 17, 6000, .inl hf) := (hR rwh (by rw [ht_29]; simp)).symm.trans hFw2
    have hF_78 : F h0 = .inr (15, (.ref ta) :: (.int (nI zt)) :: (.int (nI zo)) :: (.int (nI ze)) :: (.ref ou) :: (.ref so) :: (.ref ad) :: (.ref na) :: (.ref va) :: (.ref lc) :: (.ref dm) :: (.int (nI fm)) :: (.int (nI sn)) :: (.ref tg) :: (.int v14_48) :: (.int v15_49) :: (.ref pe) :: (.int v17_50) :: (.int v18_51) :: (.int v19_52) :: (.int v20_53) :: (.int v21_54) :: (.int v22_55) :: (.ref ml) :: (.ref bg) :: (.ref co) :: (.ref sp) :: (.ref nb0) :: (.ref nb1) :: (.ref nb2) :: (.int (nI nf)) :: (.int (nI bd)) :: (.int (nI mm)) :: (.int v33_56) :: (.ref pl) :: (.ref se) :: (.ref ke) :: (.ref wi) :: (.ref hs) :: (.ref mo) :: (.ref po) :: (.ref nu) :: (.ref pr) :: (.ref sq) :: (.ref xa) :: (.ref sa) :: (.ref n64) :: (.ref m64) :: (.ref ex) :: (.ref wh) :: (.ref sd) :: (.ref tk) :: (.int v52_57) :: (.int v53_58) :: (.int v54_59) :: (.ref hd) :: (.ref ak) :: (.ref ho) :: (.ref ot) :: []) := (hR h0 (by rw [hT_h0]; simp)).symm.trans hF_60
    refine pl_loopm (σ := Nat) A (dC, dI) cs ty gm L [ρ + 13, ρ + 14, ρ + 22, ρ + 83, ρ + 84] F 15 3 (fun j => [(1, .int (nI j)), (0, .ref h0)]) (fun j => []) (fun j _ => j ≤ ze ∧ ¬ HAU D j 0 U) (fun j => ze - j) ?_ 0 F (⟨Nat.zero_le _, hau_0⟩) hO hR _ _ hP hD hS ls (lv_sub hl [0, 1] rfl)
    rintro j F_75 hv_79 hO hR ih_80 H locs hP hD hS ls hl
    have hl : lv_has ls 3 [(1, .int (nI j)), (0, .ref h0)] := hl
    have hv_79 : j ≤ ze ∧ ¬ HAU D j 0 U := hv_79
    refine W.eq (g2 := F0 m 15 ls []) rfl ?_
    have hF_81 : F_75 wh = .inr (14, [.ref rwh, .int (nI y)]) := (hR wh (by rw [hT_wh]; simp)).trans hF_76
    have hF_82 : F_75 rwh = .inl (cs 17, 6000, .inl hf) := (hR rwh (by rw [ht_29]; simp)).trans hF_77
    have hF_83 : F_75 h0 = .inr (15, (.ref ta) :: (.int (nI zt)) :: (.int (nI zo)) :: (.int (nI ze)) :: (.ref ou) :: (.ref so) :: (.ref ad) :: (.ref na) :: (.ref va) :: (.ref lc) :: (.ref dm) :: (.int (nI fm)) :: (.int (nI sn)) :: (.ref tg) :: (.int v14_48) :: (.int v15_49) :: (.ref pe) :: (.int v17_50) :: (.int v18_51) :: (.int v19_52) :: (.int v20_53) :: (.int v21_54) :: (.int v22_55) :: (.ref ml) :: (.ref bg) :: (.ref co) :: (.ref sp) :: (.ref nb0) :: (.ref nb1) :: (.ref nb2) :: (.int (nI nf)) :: (.int (nI bd)) :: (.int (nI mm)) :: (.int v33_56) :: (.ref pl) :: (.ref se) :: (.ref ke) :: (.ref wi) :: (.ref hs) :: (.ref mo) :: (.ref po) :: (.ref nu) :: (.ref pr) :: (.ref sq) :: (.ref xa) :: (.ref sa) :: (.ref n64) :: (.ref m64) :: (.ref ex) :: (.ref wh) :: (.ref sd) :: (.ref tk) :: (.int v52_57) :: (.int v53_58) :: (.int v54_59) :: (.ref hd) :: (.ref ak) :: (.ref ho) :: (.ref ot) :: []) := (hR h0 (by rw [hT_h0]; simp)).trans hF_78
    obtain ⟨hv1, hv2⟩ := id hv_79
    have hQso := hR so (by rw [hTs0]; simp only [List.mem_cons, List.not_mem_nil, or_false]; omega)
    have hQad := hR ad (by rw [hTd0]; simp only [List.mem_cons, List.not_mem_nil, or_false]; omega)
    have hQna := hR na (by rw [hTn0]; simp only [List.mem_cons, List.not_mem_nil, or_false]; omega)
    have hQva := hR va (by rw [hTv0]; simp only [List.mem_cons, List.not_mem_nil, or_false]; omega)
    have hDM5 := DIRM.fr hDM hO0 hW0 hLn0 hTn0 hLv0 hTv0 (by omega) hR hQso hQad hQna hQva (fun k hk => ⟨by simp only [List.mem_cons, List.not_mem_nil, or_false]; omega, by simp only [List.mem_cons, List.not_mem_nil, or_false]; omega⟩)
    refine lv_iload_n hx hb dX15_keyOf_15 rfl (lv_at hl 0 rfl) ?_
    refine lv_aload_n hx hb dX15_keyOf_16 rfl (lv_at hl 1 rfl) ?_
    refine pg_get (ci := 15) (v := .int (nI ze)) (C := RX15) (T := TX15) (N := 59) hx hb hts it_15 hown hK hP hL_h0 hF_83 rfl 3 (by decide) (hts _ kt_724) (fun _ h9 => h9) rfl dX15_keyOf_17 ?_
    refine lv_icmp_ge (tgt := 42) hx hb dX15_keyOf_20 (by decide) (fun c_84 => ?_) (fun c_84 => ?_)
    ·
      have hi_85 : ze ≤ j := leN (N := ze) c_84
      have hjz : j = ze := by have h9 : ze ≤ j := (nI_leI (by omega) (by omega)).mp c_84; omega
      refine lv_iload_n hx hb dX15_keyOf_42 rfl (lv_at hl 0 rfl) ?_
      refine lv_aload_n hx hb dX15_keyOf_43 rfl (lv_at hl 1 rfl) ?_
      refine pg_get (ci := 15) (v := .int (nI ze)) (C := RX15) (T := TX15) (N := 59) hx hb hts it_15 hown hK hP hL_h0 hF_83 rfl 3 (by decide) (hts _ kt_724) (fun _ h9 => h9) rfl dX15_keyOf_44 ?_
      refine lv_icmp_ne (tgt := 53) hx hb dX15_keyOf_47 (by decide) (fun c_86 => ?_) (fun c_86 => ?_)
      ·
        have hi_87 : j ≠ ze := fun q => c_86 (by rw [q])
        exact absurd (show nI j = nI ze by rw [hjz]) c_86
      ·
        have hi_88 : j = ze := (nI_eq (a := j) (b := ze) (by omega) (by omega)).mp c_86
        refine lv_bipush (v := 6) hx hb dX15_keyOf_50 (by decide) ?_
        refine W.widen (k := 0) (n := 0) (by omega) (by omega) ?_
        exact W.iret (v := 6) hx hb hr (fun t ht hWm => ⟨⟨6, 0, rfl, (Or.inr (Or.inl ⟨hH3, (by rw [← hjz]; exact hv2), rfl⟩)), ⟨F_75, (fun _ => 0), QTm.mk ht hP hD hO hR, (fun q => by obtain ⟨h8, h9⟩ := kyx_2 q rfl; rcases q with q | q | q; exact absurd q.1 hH3; exact absurd q.2.2 (by decide); exact absurd (show HAU D ze 0 U from ⟨0, q.2.1, q.2.2.1, q.2.2.2.1⟩) (by rw [← hjz]; exact hv2))⟩⟩, hS.F ht⟩) hS.2.2 dX15_keyOf_52
    ·
      have hi_89 : j < ze := ltN (N := ze) c_84
      have hjz : j < ze := Nat.not_le.mp (fun q => c_84 ((nI_leI (by omega) (by omega)).mpr q))
      refine lv_aload_n hx hb dX15_keyOf_23 rfl (lv_at hl 1 rfl) ?_
      refine lv_iload_n hx hb dX15_keyOf_24 rfl (lv_at hl 0 rfl) ?_
      refine lv_iconst (v := 0) hx hb dX15_keyOf_25 (by decide) ?_
      refine lv_aload_n hx hb dX15_keyOf_26 rfl (lv_at hl 1 rfl) ?_
      refine pg_get (ci := 15) (v := .ref wh) (C := RX15) (T := TX15) (N := 59) hx hb hts it_15 hown hK hP hL_h0 hF_83 rfl 49 (by decide) (hts _ kt_924) (fun _ h9 => h9) rfl dX15_keyOf_27 ?_
      have hFc := pg_free hD hS hA
      refine va_calli (va_runV (As := [.int (nI j), .int 0, .ref wh]) (rest := []) ⟨hx, hb, hml, hown, hts⟩ (s_X15_isOf_l l dC dI cs ty gm L H.size F_75 h0 ρ ta ou so ad na va lc dm tg pe ml bg co sp nb0 nb1 nb2 pl se ke wi hs mo po nu pr sq xa sa n64 m64 ex wh sd tk hd ak ho ot sx s0 s1 s2 nf bd mm zo fm sn hg gc gv ze zt j wh (ρ + 24) rwh 6000 y hf U D 0 hW hL_h0 hT_h0 hL_wh hT_wh hF_81 hF_82 (hyn) (hTU) (by omega) (hDM5)) ⟨callB_of 3 hts (gi kt_725) rfl rfl rfl (hts _ kt_669) (hts _ kt_726) (by decide +kernel) ⟨Nat.le_of_ble_eq_true rfl, Nat.le_of_ble_eq_true rfl⟩, (hts _ kt_727), (hts _ kt_728)⟩ ⟨fun a U g mk q => ⟨q.1, PTm.calling q.2⟩, pg_recv hK hP hL_h0 hF_83 (q := (RX15, TX15, 59)) rfl, fun U hU hWm => ⟨rfl, PTm.mk hU hWm hP hK hD hE hO⟩⟩ rfl rfl hl.1 rfl (lv_room (Nat.le_of_ble_eq_true rfl)) dX15_keyOf_30 ⟨by show _ + 0 ≤ 0; omega, by show _ + 0 ≤ 0; omega⟩) hS (fun q _ h => hFc q h) hFc (fun r_90 u t H1 locs ht hvm hw hB hz1 hk1 hS => ?_)
      obtain ⟨F_91, hB1⟩ := hB
      obtain rfl : F_75 = F_91 := (funext (fun a => hB1.2.2.2 a List.not_mem_nil)).symm
      obtain ⟨hP, hD, hO, hR⟩ := QTm.back hB1 ht hFc hR (fun q h => absurd h List.not_mem_nil)
      generalize H1 = H at hP hS ⊢
      have hw : ((r_90 = 1 ∧ ((D j).1 = 0 ∧ SAMN (D j) (ooU U) (yU U) (faU U))) ∨ (r_90 = 0 ∧ ¬ ((D j).1 = 0 ∧ SAMN (D j) (ooU U) (yU U) (faU U)))) := hw
      have hw_92 := hw
      refine lv_if_ne (tgt := 42) hx hb dX15_keyOf_33 (by decide) (fun c_93 => ?_) (fun c_93 => ?_)
      ·
        obtain ⟨hj0, hjs⟩ := orp1 hw_92 c_93
        refine lv_iload_n hx hb dX15_keyOf_42 rfl (lv_at hl 0 rfl) ?_
        refine lv_aload_n hx hb dX15_keyOf_43 rfl (lv_at hl 1 rfl) ?_
        refine pg_get (ci := 15) (v := .int (nI ze)) (C := RX15) (T := TX15) (N := 59) hx hb hts it_15 hown hK hP hL_h0 hF_83 rfl 3 (by decide) (hts _ kt_724) (fun _ h9 => h9) rfl dX15_keyOf_44 ?_
        refine lv_icmp_ne (tgt := 53) hx hb dX15_keyOf_47 (by decide) (fun c_94 => ?_) (fun c_94 => ?_)
        ·
          have hi_95 : j ≠ ze := fun q => c_94 (by rw [q])
          obtain ⟨fs, fd, fn, fv, hd1, hd2, hd3, hd4, hd5⟩ := id hDM5
          obtain ⟨hi_96, ht_97⟩ := hW.f_va hL_h0 hT_h0
          obtain ⟨f_98, hF_99, hq_100⟩ := hO.rtxj hi_96 ht_97
          obtain rfl : f_98 = fv := by have e9 := hF_99.symm.trans hd4; simpa using e9
          refine lv_aload_n hx hb dX15_keyOf_53 rfl (lv_at hl 1 rfl) ?_
          refine pg_get (ci := 15) (v := .ref va) (C := RX15) (T := TX15) (N := 59) hx hb hts it_15 hown hK hP hL_h0 hF_83 rfl 8 (by decide) (hts _ kt_732) (fun _ h9 => h9) rfl dX15_keyOf_54 ?_
          refine lv_iload_n hx hb dX15_keyOf_57 rfl (lv_at hl 0 rfl) ?_
          obtain ⟨b_101, r_102, hbf_103, hi_104, ht_105⟩ := hq_100 j (by omega)
          refine pg_aald (r := b_101) hx hb hK hP hi_96 7 hF_99 rfl (vp_in_nI (by omega) (by omega)) (show f_98 ((nI j) : Int32).toNatClampNeg = _ from by rw [show ((nI j) : Int32) = nI j from rfl, nI_clamp (by omega)]; exact hbf_103) dX15_keyOf_58 ?_
          obtain ⟨hen1a, hen1b, hen1c⟩ := ENM.get (hd5 j hjz).2.2.2 hbf_103 hO hi_104 ht_105
          obtain ⟨hi_106, ht_107, hq_108⟩ := hW.txt hi_104 ht_105
          refine pg_get (ci := 14) (v := .ref r_102) (C := RX14) (T := TX14) (N := 2) hx hb hts it_14 hown hK hP hi_104 hen1a rfl 0 (by decide) (hts _ kt_710) (fun _ h9 => h9) rfl dX15_keyOf_59 ?_
          refine lv_iconst (v := 0) hx hb dX15_keyOf_62 (by decide) ?_
          refine lv_aload_n hx hb dX15_keyOf_63 rfl (lv_at hl 1 rfl) ?_
          refine pg_get (ci := 15) (v := .ref va) (C := RX15) (T := TX15) (N := 59) hx hb hts it_15 hown hK hP hL_h0 hF_83 rfl 8 (by decide) (hts _ kt_732) (fun _ h9 => h9) rfl dX15_keyOf_64 ?_
          refine lv_iload_n hx hb dX15_keyOf_67 rfl (lv_at hl 0 rfl) ?_
          refine pg_aald (r := b_101) hx hb hK hP hi_96 7 hF_99 rfl (vp_in_nI (by omega) (by omega)) (show f_98 ((nI j) : Int32).toNatClampNeg = _ from by rw [show ((nI j) : Int32) = nI j from rfl, nI_clamp (by omega)]; exact hbf_103) dX15_keyOf_68 ?_
          refine pg_get (ci := 14) (v := .int (nI (D j).2.2.2.2.1)) (C := RX14) (T := TX14) (N := 2) hx hb hts it_14 hown hK hP hi_104 hen1a rfl 1 (by decide) (hts _ kt_709) (fun _ h9 => h9) rfl dX15_keyOf_69 ?_
          refine lv_aload_n hx hb dX15_keyOf_72 rfl (lv_at hl 1 rfl) ?_
          refine pg_get (ci := 15) (v := .ref ke) (C := RX15) (T := TX15) (N := 59) hx hb hts it_15 hown hK hP hL_h0 hF_83 rfl 36 (by decide) (hts _ kt_925) (fun _ h9 => h9) rfl dX15_keyOf_73 ?_
          obtain ⟨z_109, hF_110, hq_111⟩ := hO.tags hi_31 ht_32
          refine pg_get (ci := 13) (v := .ref x_5) (C := RX13) (T := TX13) (N := 5) hx hb hts it_13 hown hK hP hi_31 hF_110 rfl 0 (by decide) (hts _ kt_842) (fun _ h9 => h9) rfl dX15_keyOf_76 ?_
          refine W.eq (g2 := F0 m 79 ls [.ref x_5, .int (nI (D j).2.2.2.2.1), .int (nI 0), .ref r_102]) rfl ?_
          obtain ⟨hq_112, hq_113⟩ := hW.octs hi_106 ht_107
          have hFc := pg_free hD hS hA
          refine va_callv (va_runS (As := [.ref r_102, .int (nI 0), .int (nI (D j).2.2.2.2.1), .ref x_5]) (rest := []) ⟨hx, hb, hml, hown, hts⟩ (s_X15_withoutWhite_x l dC dI cs ty gm L H.size F_75 r_102 (ρ + 50 + j + 100) 700 x_5 (ρ + 14) r_37 700 0 ((D j).2.2.2.2.1) ((D j).2.2.2.2.1) ((D j).2.2.2.2.2) hW hi_106 ht_107 hi_33 ht_38 hen1b (Nat.zero_le _) (Nat.le_refl _) (hen1c) (by omega) (by omega) (hbd j hjz)) ⟨callB_of 4 hts (gi kt_926) rfl rfl rfl (hts _ kt_669) (hts _ kt_927) (by decide +kernel) ⟨Nat.le_of_ble_eq_true rfl, Nat.le_of_ble_eq_true rfl⟩, (hts _ kt_928)⟩ ⟨fun a U g mk q => ⟨q.1, PTm.calling q.2⟩, fun U hU hWm => ⟨rfl, PTm.mk hU hWm hP hK hD hE hO⟩⟩ rfl rfl hl.1 rfl (lv_room (Nat.le_of_ble_eq_true rfl)) dX15_keyOf_79 ⟨by show _ + 0 ≤ 0; omega, by show _ + 0 ≤ 0; omega⟩) hS (fun q _ h => hFc q h) hFc (fun u t H1 locs ht hvm hw hB hz1 hk1 hS => ?_)
          obtain ⟨F_115, fc_116, hB1, hq_117, hq_118, hq_119⟩ := hB
          obtain ⟨hP, hD, hO, hR⟩ := QTm.back hB1 ht hFc hR (fun q h => by simp only [List.mem_cons, List.not_mem_nil, or_false] at h ⊢; omega)
          have hF_120 : F_115 wh = .inr (14, [.ref rwh, .int (nI y)]) := (hB1.2.2.2 wh (by rw [hT_wh]; simp)).trans hF_81
          have hF_121 : F_115 rwh = .inl (cs 17, 6000, .inl hf) := (hB1.2.2.2 rwh (by rw [ht_29]; simp)).trans hF_82
          have hF_122 : F_115 h0 = .inr (15, (.ref ta) :: (.int (nI zt)) :: (.int (nI zo)) :: (.int (nI ze)) :: (.ref ou) :: (.ref so) :: (.ref ad) :: (.ref na) :: (.ref va) :: (.ref lc) :: (.ref dm) :: (.int (nI fm)) :: (.int (nI sn)) :: (.ref tg) :: (.int v14_48) :: (.int v15_49) :: (.ref pe) :: (.int v17_50) :: (.int v18_51) :: (.int v19_52) :: (.int v20_53) :: (.int v21_54) :: (.int v22_55) :: (.ref ml) :: (.ref bg) :: (.ref co) :: (.ref sp) :: (.ref nb0) :: (.ref nb1) :: (.ref nb2) :: (.int (nI nf)) :: (.int (nI bd)) :: (.int (nI mm)) :: (.int v33_56) :: (.ref pl) :: (.ref se) :: (.ref ke) :: (.ref wi) :: (.ref hs) :: (.ref mo) :: (.ref po) :: (.ref nu) :: (.ref pr) :: (.ref sq) :: (.ref xa) :: (.ref sa) :: (.ref n64) :: (.ref m64) :: (.ref ex) :: (.ref wh) :: (.ref sd) :: (.ref tk) :: (.int v52_57) :: (.int v53_58) :: (.int v54_59) :: (.ref hd) :: (.ref ak) :: (.ref ho) :: (.ref ot) :: []) := (hB1.2.2.2 h0 (by rw [hT_h0]; simp)).trans hF_83
          have hF_123 : F_115 va = .inl (cs 23, 40, .inr (.inr (.inr (.inr f_98)))) := (hB1.2.2.2 va (by rw [ht_97]; simp)).trans hF_99
          have hF_124 : F_115 b_101 = .inr (14, [.ref r_102, .int (nI (D j).2.2.2.2.1)]) := (hB1.2.2.2 b_101 (by rw [ht_105]; simp only [List.mem_cons, List.not_mem_nil, or_false]; omega)).trans hen1a
          have hF_125 : F_115 r_102 = .inl (cs 17, 700, .inl ((D j).2.2.2.2.2)) := (hB1.2.2.2 r_102 (by rw [ht_107]; simp only [List.mem_cons, List.not_mem_nil, or_false]; omega)).trans hen1b
          have hF_126 : F_115 ke = .inr (13, [.ref x_5, .ref y0_6, .ref y1_7, .ref y2_8, .int (nI z_109)]) := (hB1.2.2.2 ke (by rw [ht_32]; simp)).trans hF_110
          generalize H1 = H at hP hS ⊢
          obtain ⟨hwT, hwL⟩ := hq_119
          refine lv_aload_n hx hb dX15_keyOf_82 rfl (lv_at hl 1 rfl) ?_
          refine pg_get (ci := 15) (v := .ref ke) (C := RX15) (T := TX15) (N := 59) hx hb hts it_15 hown hK hP hL_h0 hF_122 rfl 36 (by decide) (hts _ kt_925) (fun _ h9 => h9) rfl dX15_keyOf_83 ?_
          refine lv_bipush (v := 8) hx hb dX15_keyOf_86 (by decide) ?_
          obtain ⟨hq_127, hq_128⟩ := hW.octs hi_66 ht_67
          have hFc := pg_free hD hS hA
          refine va_calli (va_runV (As := [.int 8]) (rest := []) ⟨hx, hb, hml, hown, hts⟩ (s_X13_read_x l dC dI cs ty gm L H.size F_115 ke (ρ + 13) x_5 700 700 y0_6 y1_7 y2_8 r_37 ((flI (TC (D j).2.2.2.2.2 (D j).2.2.2.2.1) 0 ((D j).2.2.2.2.1 - 0)).length) fc_116 hW hi_31 ht_32 hi_33 ht_38 hq_117 hq_118 (by omega) (by omega)) ⟨callB_of 1 hts (gi kt_859) rfl rfl rfl (hts _ kt_829) (hts _ kt_860) (by decide +kernel) ⟨Nat.le_of_ble_eq_true rfl, Nat.le_of_ble_eq_true rfl⟩, (hts _ kt_861), (hts _ kt_862)⟩ ⟨fun a U g mk q => ⟨q.1, PTm.calling q.2⟩, pg_recv hK hP hi_31 hF_126 (q := (RX13, TX13, 5)) rfl, fun U hU hWm => ⟨rfl, PTm.mk hU hWm hP hK hD hE hO⟩⟩ rfl rfl hl.1 rfl (lv_room (Nat.le_of_ble_eq_true rfl)) dX15_keyOf_88 ⟨by show _ + 0 ≤ 0; omega, by show _ + 0 ≤ 0; omega⟩) hS (fun q _ h => hFc q h) hFc (fun r_130 gg_129 t H1 locs ht hvm hw hB hz1 hk1 hS => ?_)
          obtain ⟨F_131, p0_132, p1_133, p2_134, hB1, hq_135, hq_136, hq_137, hq_138, hq_139, hq_140⟩ := hB
          obtain ⟨hP, hD, hO, hR⟩ := QTm.back hB1 ht hFc hR (fun q h => by simp only [List.mem_cons, List.not_mem_nil, or_false] at h ⊢; omega)
          have hF_141 : F_131 wh = .inr (14, [.ref rwh, .int (nI y)]) := (hB1.2.2.2 wh (by rw [hT_wh]; simp <;> omega)).trans hF_120
          have hF_142 : F_131 rwh = .inl (cs 17, 6000, .inl hf) := (hB1.2.2.2 rwh (by rw [ht_29]; simp <;> omega)).trans hF_121
          have hF_143 : F_131 h0 = .inr (15, (.ref ta) :: (.int (nI zt)) :: (.int (nI zo)) :: (.int (nI ze)) :: (.ref ou) :: (.ref so) :: (.ref ad) :: (.ref na) :: (.ref va) :: (.ref lc) :: (.ref dm) :: (.int (nI fm)) :: (.int (nI sn)) :: (.ref tg) :: (.int v14_48) :: (.int v15_49) :: (.ref pe) :: (.int v17_50) :: (.int v18_51) :: (.int v19_52) :: (.int v20_53) :: (.int v21_54) :: (.int v22_55) :: (.ref ml) :: (.ref bg) :: (.ref co) :: (.ref sp) :: (.ref nb0) :: (.ref nb1) :: (.ref nb2) :: (.int (nI nf)) :: (.int (nI bd)) :: (.int (nI mm)) :: (.int v33_56) :: (.ref pl) :: (.ref se) :: (.ref ke) :: (.ref wi) :: (.ref hs) :: (.ref mo) :: (.ref po) :: (.ref nu) :: (.ref pr) :: (.ref sq) :: (.ref xa) :: (.ref sa) :: (.ref n64) :: (.ref m64) :: (.ref ex) :: (.ref wh) :: (.ref sd) :: (.ref tk) :: (.int v52_57) :: (.int v53_58) :: (.int v54_59) :: (.ref hd) :: (.ref ak) :: (.ref ho) :: (.ref ot) :: []) := (hB1.2.2.2 h0 (by rw [hT_h0]; simp <;> omega)).trans hF_122
          have hF_144 : F_131 va = .inl (cs 23, 40, .inr (.inr (.inr (.inr f_98)))) := (hB1.2.2.2 va (by rw [ht_97]; simp <;> omega)).trans hF_123
          have hF_145 : F_131 b_101 = .inr (14, [.ref r_102, .int (nI (D j).2.2.2.2.1)]) := (hB1.2.2.2 b_101 (by rw [ht_105]; simp only [List.mem_cons, List.not_mem_nil, or_false]; omega)).trans hF_124
          have hF_146 : F_131 r_102 = .inl (cs 17, 700, .inl ((D j).2.2.2.2.2)) := (hB1.2.2.2 r_102 (by rw [ht_107]; simp only [List.mem_cons, List.not_mem_nil, or_false]; omega)).trans hF_125
          have hF_147 : F_131 x_5 = .inr (14, [.ref r_37, .int (nI (flI (TC (D j).2.2.2.2.2 (D j).2.2.2.2.1) 0 ((D j).2.2.2.2.1 - 0)).length)]) := (hB1.2.2.2 x_5 (by rw [ht_38]; simp <;> omega)).trans hq_117
          have hF_148 : F_131 r_37 = .inl (cs 17, 700, .inl fc_116) := (hB1.2.2.2 r_37 (by rw [ht_67]; simp <;> omega)).trans hq_118
          generalize H1 = H at hP hS ⊢
          have hw : TGX (TC fc_116 (flI (TC (D j).2.2.2.2.2 (D j).2.2.2.2.1) 0 ((D j).2.2.2.2.1 - 0)).length) (flI (TC (D j).2.2.2.2.2 (D j).2.2.2.2.1) 0 ((D j).2.2.2.2.1 - 0)).length r_130 gg_129 := hw
          have hw_149 := hw
          have hHL := hq_139
          obtain ⟨hti1, hti2⟩ := hq_140
          have hRD := hw_149
          refine lv_if_eq (tgt := 139) hx hb dX15_keyOf_91 (by decide) (fun c_150 => ?_) (fun c_150 => ?_)
          ·
            have hgt : tgT (kyT (D j)) (kyY (D j)) = none := by rcases hRD with h9 | h9; exact absurd (h9.1.symm.trans c_150) (by decide); have h8 := h9.2; rw [hwT] at h8; exact h8
            refine lv_iconst (v := 0) hx hb dX15_keyOf_139 (by decide) ?_
            refine lv_istore_n (lv' := [(2, .int 0), (1, .int (nI j)), (0, .ref h0)]) hx hb dX15_keyOf_140 rfl hl (by decide) rfl (fun ls hl => ?_)
            refine lv_iload_n hx hb dX15_keyOf_141 rfl (lv_at hl 0 rfl) ?_
            refine lv_aload_n hx hb dX15_keyOf_142 rfl (lv_at hl 2 rfl) ?_
            refine pg_get (ci := 15) (v := .ref ke) (C := RX15) (T := TX15) (N := 59) hx hb hts it_15 hown hK hP hL_h0 hF_143 rfl 36 (by decide) (hts _ kt_925) (fun _ h9 => h9) rfl dX15_keyOf_143 ?_
            obtain ⟨q_151, v_152, hr_q_151, hX_q_151⟩ := hG.2.2 ("PostGateModel", 444, "v", [118]) (by decide +kernel)
            have hX_q_151 : SXc q_151 v_152 1 (cct [118]) A s s.heap := hX_q_151
            obtain ⟨xo_q_151, xc_q_151, xv_q_151, xt_q_151, xn_q_151⟩ := id hX_q_151
            have hr_q_151 : vk_R "PostGateModel" 444 "v" q_151 s := hr_q_151
            refine va_ldcwS hx hb hown hr_q_151 dX15_keyOf_146 ?_
            have hFc := pg_free hD hS hA
            refine va_calli (va_runV (As := [.ref q_151]) (rest := [.int 0]) ⟨hx, hb, hml, hown, hts⟩ (s_X13_find_x l dC dI cs ty gm L H.size F_131 ke (ρ + 13) x_5 700 700 y0_6 y1_7 y2_8 r_37 ((flI (TC (D j).2.2.2.2.2 (D j).2.2.2.2.1) 0 ((D j).2.2.2.2.1 - 0)).length) gg_129.1 fc_116 p0_132 p1_133 p2_134 gg_129.2 q_151 v_152 1 (cct [118]) ([118]) hW hi_31 ht_32 hi_33 ht_38 hF_147 hF_148 (by omega) hq_135 hq_136 hq_137 hq_138 (hti2) (hHL) (hti1) (by omega) (⟨rfl, by decide +kernel⟩)) ⟨callB_of 1 hts (gi kt_828) rfl rfl rfl (hts _ kt_829) (hts _ kt_839) (by decide +kernel) ⟨Nat.le_of_ble_eq_true rfl, Nat.le_of_ble_eq_true rfl⟩, (hts _ kt_831), (hts _ kt_832)⟩ ⟨fun a U g mk q => ⟨q.1, PTEm.calling q.2⟩, pg_recv hK hP hi_31 hq_135 (q := (RX13, TX13, 5)) rfl, fun U hU hWm => ⟨rfl, PTEm.mk hU hWm hP hK hD hE hO hG (fun x hx => by rw [List.mem_singleton] at hx; subst hx; exact hX_q_151) hS hFc⟩⟩ rfl rfl hl.1 rfl (lv_room (Nat.le_of_ble_eq_true rfl)) dX15_keyOf_149 ⟨by show _ + 0 ≤ 0; omega, by show _ + 0 ≤ 0; omega⟩) hS (fun q _ h => hFc q h) hFc (fun r_153 u t H1 locs ht hvm hw hB hz1 hk1 hS => ?_)
            obtain ⟨F_154, hB1⟩ := hB
            obtain rfl : F_131 = F_154 := (funext (fun a => hB1.2.2.2 a List.not_mem_nil)).symm
            obtain ⟨hP, hD, hO, hR⟩ := QTm.back hB1 ht hFc hR (fun q h => absurd h List.not_mem_nil)
            generalize H1 = H at hP hS ⊢
            have hw : RWX (TC fc_116 (flI (TC (D j).2.2.2.2.2 (D j).2.2.2.2.1) 0 ((D j).2.2.2.2.1 - 0)).length) gg_129.2 gg_129.1 [118] r_153 := hw
            have hw_155 := hw
            refine lv_if_lt (tgt := 171) hx hb dX15_keyOf_152 (by decide) (fun c_156 => ?_) (fun c_156 => ?_)
            ·
              have ht152 : ¬ TGE (TC fc_116 (flI (TC (D j).2.2.2.2.2 (D j).2.2.2.2.1) 0 ((D j).2.2.2.2.1 - 0)).length) gg_129.2 gg_129.1 [118] := tge_n (rwx_n hw_155 hti2 c_156)
              refine lv_iconst (v := 1) hx hb dX15_keyOf_171 (by decide) ?_
              refine lv_goto (tgt := 176) hx hb dX15_keyOf_172 (by decide) ?_
              refine lv_iand hx hb dX15_keyOf_176 ?_
              refine lv_topi (fun x_157 ex_157 => ?_)
              obtain rfl : x_157 = 0 := ex_157.trans (by decide)
              refine lv_istore_n (lv' := [(2, .int 0), (1, .int (nI j)), (0, .ref h0)]) hx hb dX15_keyOf_177 rfl hl (by decide) rfl (fun ls hl => ?_)
              refine lv_iload_n hx hb dX15_keyOf_178 rfl (lv_at hl 0 rfl) ?_
              refine lv_aload_n hx hb dX15_keyOf_179 rfl (lv_at hl 2 rfl) ?_
              refine pg_get (ci := 15) (v := .ref ke) (C := RX15) (T := TX15) (N := 59) hx hb hts it_15 hown hK hP hL_h0 hF_143 rfl 36 (by decide) (hts _ kt_925) (fun _ h9 => h9) rfl dX15_keyOf_180 ?_
              obtain ⟨q_158, v_159, hr_q_158, hX_q_158⟩ := hG.2.2 ("PostGateModel", 537, "k", [107]) (by decide +kernel)
              have hX_q_158 : SXc q_158 v_159 1 (cct [107]) A s s.heap := hX_q_158
              obtain ⟨xo_q_158, xc_q_158, xv_q_158, xt_q_158, xn_q_158⟩ := id hX_q_158
              have hr_q_158 : vk_R "PostGateModel" 537 "k" q_158 s := hr_q_158
              refine va_ldcwS hx hb hown hr_q_158 dX15_keyOf_183 ?_
              have hFc := pg_free hD hS hA
              refine va_calli (va_runV (As := [.ref q_158]) (rest := [.int 0]) ⟨hx, hb, hml, hown, hts⟩ (s_X13_find_x l dC dI cs ty gm L H.size F_131 ke (ρ + 13) x_5 700 700 y0_6 y1_7 y2_8 r_37 ((flI (TC (D j).2.2.2.2.2 (D j).2.2.2.2.1) 0 ((D j).2.2.2.2.1 - 0)).length) gg_129.1 fc_116 p0_132 p1_133 p2_134 gg_129.2 q_158 v_159 1 (cct [107]) ([107]) hW hi_31 ht_32 hi_33 ht_38 hF_147 hF_148 (by omega) hq_135 hq_136 hq_137 hq_138 (hti2) (hHL) (hti1) (by omega) (⟨rfl, by decide +kernel⟩)) ⟨callB_of 1 hts (gi kt_828) rfl rfl rfl (hts _ kt_829) (hts _ kt_839) (by decide +kernel) ⟨Nat.le_of_ble_eq_true rfl, Nat.le_of_ble_eq_true rfl⟩, (hts _ kt_831), (hts _ kt_832)⟩ ⟨fun a U g mk q => ⟨q.1, PTEm.calling q.2⟩, pg_recv hK hP hi_31 hq_135 (q := (RX13, TX13, 5)) rfl, fun U hU hWm => ⟨rfl, PTEm.mk hU hWm hP hK hD hE hO hG (fun x hx => by rw [List.mem_singleton] at hx; subst hx; exact hX_q_158) hS hFc⟩⟩ rfl rfl hl.1 rfl (lv_room (Nat.le_of_ble_eq_true rfl)) dX15_keyOf_186 ⟨by show _ + 0 ≤ 0; omega, by show _ + 0 ≤ 0; omega⟩) hS (fun q _ h => hFc q h) hFc (fun r_160 u t H1 locs ht hvm hw hB hz1 hk1 hS => ?_)
              obtain ⟨F_161, hB1⟩ := hB
              obtain rfl : F_131 = F_161 := (funext (fun a => hB1.2.2.2 a List.not_mem_nil)).symm
              obtain ⟨hP, hD, hO, hR⟩ := QTm.back hB1 ht hFc hR (fun q h => absurd h List.not_mem_nil)
              generalize H1 = H at hP hS ⊢
              have hw : RWX (TC fc_116 (flI (TC (D j).2.2.2.2.2 (D j).2.2.2.2.1) 0 ((D j).2.2.2.2.1 - 0)).length) gg_129.2 gg_129.1 [107] r_160 := hw
              have hw_162 := hw
              refine lv_if_lt (tgt := 208) hx hb dX15_keyOf_189 (by decide) (fun c_163 => ?_) (fun c_163 => ?_)
              ·
                have ht189 : ¬ TGE (TC fc_116 (flI (TC (D j).2.2.2.2.2 (D j).2.2.2.2.1) 0 ((D j).2.2.2.2.1 - 0)).length) gg_129.2 gg_129.1 [107] := tge_n (rwx_n hw_162 hti2 c_163)
                refine lv_iconst (v := 1) hx hb dX15_keyOf_208 (by decide) ?_
                refine lv_goto (tgt := 213) hx hb dX15_keyOf_209 (by decide) ?_
                refine lv_iand hx hb dX15_keyOf_213 ?_
                refine lv_topi (fun x_164 ex_164 => ?_)
                obtain rfl : x_164 = 0 := ex_164.trans (by decide)
                refine lv_istore_n (lv' := [(2, .int 0), (1, .int (nI j)), (0, .ref h0)]) hx hb dX15_keyOf_214 rfl hl (by decide) rfl (fun ls hl => ?_)
                refine lv_iload_n hx hb dX15_keyOf_215 rfl (lv_at hl 0 rfl) ?_
                refine lv_if_eq (tgt := 223) hx hb dX15_keyOf_216 (by decide) (fun c_165 => ?_) (fun c_165 => absurd (by decide) c_165)
                refine lv_bipush (v := 6) hx hb dX15_keyOf_223 (by decide) ?_
                refine W.widen (k := 0) (n := 0) (by omega) (by omega) ?_
                exact W.iret (v := 6) hx hb hr (fun t ht hWm => ⟨⟨6, j, rfl, (Or.inr (Or.inr ⟨hH3, hjz, hj0, hjs, hv2, Or.inr ⟨kyo_0 hgt, rfl⟩⟩)), ⟨F_131, (fun _ => 0), QTm.mk ht hP hD hO hR, (fun q => absurd (kyx_2 q rfl).2 (kyo_0 hgt))⟩⟩, hS.F ht⟩) hS.2.2 dX15_keyOf_225
              ·
                have ht189 : TGE (TC fc_116 (flI (TC (D j).2.2.2.2.2 (D j).2.2.2.2.1) 0 ((D j).2.2.2.2.1 - 0)).length) gg_129.2 gg_129.1 [107] := by obtain ⟨k9, h1, -, h3, -⟩ := rwx_y hw_162 c_163; exact ⟨k9, h1, h3⟩
                refine lv_aload_n hx hb dX15_keyOf_192 rfl (lv_at hl 2 rfl) ?_
                refine pg_get (ci := 15) (v := .ref ke) (C := RX15) (T := TX15) (N := 59) hx hb hts it_15 hown hK hP hL_h0 hF_143 rfl 36 (by decide) (hts _ kt_925) (fun _ h9 => h9) rfl dX15_keyOf_193 ?_
                refine va_ldcwS hx hb hown hr_q_158 dX15_keyOf_196 ?_
                obtain ⟨q_166, v_167, hr_q_166, hX_q_166⟩ := hG.2.2 ("PostGateModel", 539, "rsa", [114, 115, 97]) (by decide +kernel)
                have hX_q_166 : SXc q_166 v_167 3 (cct [114, 115, 97]) A s s.heap := hX_q_166
                obtain ⟨xo_q_166, xc_q_166, xv_q_166, xt_q_166, xn_q_166⟩ := id hX_q_166
                have hr_q_166 : vk_R "PostGateModel" 539 "rsa" q_166 s := hr_q_166
                refine va_ldcwS hx hb hown hr_q_166 dX15_keyOf_199 ?_
                have hFc := pg_free hD hS hA
                refine va_calli (va_runV (As := [.ref q_158, .ref q_166]) (rest := [.int 0]) ⟨hx, hb, hml, hown, hts⟩ (s_X13_has_x l dC dI cs ty gm L H.size F_131 ke (ρ + 13) x_5 700 700 y0_6 y1_7 y2_8 r_37 ((flI (TC (D j).2.2.2.2.2 (D j).2.2.2.2.1) 0 ((D j).2.2.2.2.1 - 0)).length) gg_129.1 fc_116 p0_132 p1_133 p2_134 gg_129.2 q_158 v_159 1 (cct [107]) q_166 v_167 3 (cct [114, 115, 97]) ([107]) RSA3 hW hi_31 ht_32 hi_33 ht_38 hF_147 hF_148 (by omega) hq_135 hq_136 hq_137 hq_138 (hti2) (hHL) (hti1) (by omega) (⟨rfl, by decide +kernel⟩) (⟨rfl, by decide +kernel⟩)) ⟨callB_of 2 hts (gi kt_863) rfl rfl rfl (hts _ kt_829) (hts _ kt_864) (by decide +kernel) ⟨Nat.le_of_ble_eq_true rfl, Nat.le_of_ble_eq_true rfl⟩, (hts _ kt_865), (hts _ kt_866)⟩ ⟨fun a U g mk q => ⟨q.1, PTEm.calling q.2⟩, pg_recv hK hP hi_31 hq_135 (q := (RX13, TX13, 5)) rfl, fun U hU hWm => ⟨rfl, PTEm.mk hU hWm hP hK hD hE hO hG (fun x hx => by simp only [List.mem_cons, List.not_mem_nil, or_false] at hx; rcases hx with hx | hx <;> subst hx <;> first | exact hX_q_158 | exact hX_q_166) hS hFc⟩⟩ rfl rfl hl.1 rfl (lv_room (Nat.le_of_ble_eq_true rfl)) dX15_keyOf_202 ⟨by show _ + 0 ≤ 0; omega, by show _ + 0 ≤ 0; omega⟩) hS (fun q _ h => hFc q h) hFc (fun r_168 u t H1 locs ht hvm hw hB hz1 hk1 hS => ?_)
                obtain ⟨F_169, hB1⟩ := hB
                obtain rfl : F_131 = F_169 := (funext (fun a => hB1.2.2.2 a List.not_mem_nil)).symm
                obtain ⟨hP, hD, hO, hR⟩ := QTm.back hB1 ht hFc hR (fun q h => absurd h List.not_mem_nil)
                generalize H1 = H at hP hS ⊢
                have hw : ((r_168 = 1 ∧ TGV (TC fc_116 (flI (TC (D j).2.2.2.2.2 (D j).2.2.2.2.1) 0 ((D j).2.2.2.2.1 - 0)).length) gg_129.2 gg_129.1 [107] RSA3) ∨ (r_168 = 0 ∧ ¬ TGV (TC fc_116 (flI (TC (D j).2.2.2.2.2 (D j).2.2.2.2.1) 0 ((D j).2.2.2.2.1 - 0)).length) gg_129.2 gg_129.1 [107] RSA3)) := hw
                have hw_170 := hw
                refine lv_if_eq (tgt := 212) hx hb dX15_keyOf_205 (by decide) (fun c_171 => ?_) (fun c_171 => ?_)
                ·
                  refine lv_iconst (v := 0) hx hb dX15_keyOf_212 (by decide) ?_
                  refine lv_iand hx hb dX15_keyOf_213 ?_
                  refine lv_topi (fun x_172 ex_172 => ?_)
                  obtain rfl : x_172 = 0 := ex_172.trans (by decide)
                  refine lv_istore_n (lv' := [(2, .int 0), (1, .int (nI j)), (0, .ref h0)]) hx hb dX15_keyOf_214 rfl hl (by decide) rfl (fun ls hl => ?_)
                  refine lv_iload_n hx hb dX15_keyOf_215 rfl (lv_at hl 0 rfl) ?_
                  refine lv_if_eq (tgt := 223) hx hb dX15_keyOf_216 (by decide) (fun c_173 => ?_) (fun c_173 => absurd (by decide) c_173)
                  refine lv_bipush (v := 6) hx hb dX15_keyOf_223 (by decide) ?_
                  refine W.widen (k := 0) (n := 0) (by omega) (by omega) ?_
                  exact W.iret (v := 6) hx hb hr (fun t ht hWm => ⟨⟨6, j, rfl, (Or.inr (Or.inr ⟨hH3, hjz, hj0, hjs, hv2, Or.inr ⟨kyo_0 hgt, rfl⟩⟩)), ⟨F_131, (fun _ => 0), QTm.mk ht hP hD hO hR, (fun q => absurd (kyx_2 q rfl).2 (kyo_0 hgt))⟩⟩, hS.F ht⟩) hS.2.2 dX15_keyOf_225
                ·
                  refine lv_iconst (v := 1) hx hb dX15_keyOf_208 (by decide) ?_
                  refine lv_goto (tgt := 213) hx hb dX15_keyOf_209 (by decide) ?_
                  refine lv_iand hx hb dX15_keyOf_213 ?_
                  refine lv_topi (fun x_174 ex_174 => ?_)
                  obtain rfl : x_174 = 0 := ex_174.trans (by decide)
                  refine lv_istore_n (lv' := [(2, .int 0), (1, .int (nI j)), (0, .ref h0)]) hx hb dX15_keyOf_214 rfl hl (by decide) rfl (fun ls hl => ?_)
                  refine lv_iload_n hx hb dX15_keyOf_215 rfl (lv_at hl 0 rfl) ?_
                  refine lv_if_eq (tgt := 223) hx hb dX15_keyOf_216 (by decide) (fun c_175 => ?_) (fun c_175 => absurd (by decide) c_175)
                  refine lv_bipush (v := 6) hx hb dX15_keyOf_223 (by decide) ?_
                  refine W.widen (k := 0) (n := 0) (by omega) (by omega) ?_
                  exact W.iret (v := 6) hx hb hr (fun t ht hWm => ⟨⟨6, j, rfl, (Or.inr (Or.inr ⟨hH3, hjz, hj0, hjs, hv2, Or.inr ⟨kyo_0 hgt, rfl⟩⟩)), ⟨F_131, (fun _ => 0), QTm.mk ht hP hD hO hR, (fun q => absurd (kyx_2 q rfl).2 (kyo_0 hgt))⟩⟩, hS.F ht⟩) hS.2.2 dX15_keyOf_225
            ·
              have ht152 : TGE (TC fc_116 (flI (TC (D j).2.2.2.2.2 (D j).2.2.2.2.1) 0 ((D j).2.2.2.2.1 - 0)).length) gg_129.2 gg_129.1 [118] := by obtain ⟨k9, h1, -, h3, -⟩ := rwx_y hw_155 c_156; exact ⟨k9, h1, h3⟩
              refine lv_aload_n hx hb dX15_keyOf_155 rfl (lv_at hl 2 rfl) ?_
              refine pg_get (ci := 15) (v := .ref ke) (C := RX15) (T := TX15) (N := 59) hx hb hts it_15 hown hK hP hL_h0 hF_143 rfl 36 (by decide) (hts _ kt_925) (fun _ h9 => h9) rfl dX15_keyOf_156 ?_
              refine va_ldcwS hx hb hown hr_q_151 dX15_keyOf_159 ?_
              obtain ⟨q_176, v_177, hr_q_176, hX_q_176⟩ := hG.2.2 ("PostGateModel", 535, "DKIM1", [68, 75, 73, 77, 49]) (by decide +kernel)
              have hX_q_176 : SXc q_176 v_177 5 (cct [68, 75, 73, 77, 49]) A s s.heap := hX_q_176
              obtain ⟨xo_q_176, xc_q_176, xv_q_176, xt_q_176, xn_q_176⟩ := id hX_q_176
              have hr_q_176 : vk_R "PostGateModel" 535 "DKIM1" q_176 s := hr_q_176
              refine va_ldcwS hx hb hown hr_q_176 dX15_keyOf_162 ?_
              have hFc := pg_free hD hS hA
              refine va_calli (va_runV (As := [.ref q_151, .ref q_176]) (rest := [.int 0]) ⟨hx, hb, hml, hown, hts⟩ (s_X13_has_x l dC dI cs ty gm L H.size F_131 ke (ρ + 13) x_5 700 700 y0_6 y1_7 y2_8 r_37 ((flI (TC (D j).2.2.2.2.2 (D j).2.2.2.2.1) 0 ((D j).2.2.2.2.1 - 0)).length) gg_129.1 fc_116 p0_132 p1_133 p2_134 gg_129.2 q_151 v_152 1 (cct [118]) q_176 v_177 5 (cct [68, 75, 73, 77, 49]) ([118]) DKM hW hi_31 ht_32 hi_33 ht_38 hF_147 hF_148 (by omega) hq_135 hq_136 hq_137 hq_138 (hti2) (hHL) (hti1) (by omega) (⟨rfl, by decide +kernel⟩) (⟨rfl, by decide +kernel⟩)) ⟨callB_of 2 hts (gi kt_863) rfl rfl rfl (hts _ kt_829) (hts _ kt_864) (by decide +kernel) ⟨Nat.le_of_ble_eq_true rfl, Nat.le_of_ble_eq_true rfl⟩, (hts _ kt_865), (hts _ kt_866)⟩ ⟨fun a U g mk q => ⟨q.1, PTEm.calling q.2⟩, pg_recv hK hP hi_31 hq_135 (q := (RX13, TX13, 5)) rfl, fun U hU hWm => ⟨rfl, PTEm.mk hU hWm hP hK hD hE hO hG (fun x hx => by simp only [List.mem_cons, List.not_mem_nil, or_false] at hx; rcases hx with hx | hx <;> subst hx <;> first | exact hX_q_151 | exact hX_q_176) hS hFc⟩⟩ rfl rfl hl.1 rfl (lv_room (Nat.le_of_ble_eq_true rfl)) dX15_keyOf_165 ⟨by show _ + 0 ≤ 0; omega, by show _ + 0 ≤ 0; omega⟩) hS (fun q _ h => hFc q h) hFc (fun r_178 u t H1 locs ht hvm hw hB hz1 hk1 hS => ?_)
              obtain ⟨F_179, hB1⟩ := hB
              obtain rfl : F_131 = F_179 := (funext (fun a => hB1.2.2.2 a List.not_mem_nil)).symm
              obtain ⟨hP, hD, hO, hR⟩ := QTm.back hB1 ht hFc hR (fun q h => absurd h List.not_mem_nil)
              generalize H1 = H at hP hS ⊢
              have hw : ((r_178 = 1 ∧ TGV (TC fc_116 (flI (TC (D j).2.2.2.2.2 (D j).2.2.2.2.1) 0 ((D j).2.2.2.2.1 - 0)).length) gg_129.2 gg_129.1 [118] DKM) ∨ (r_178 = 0 ∧ ¬ TGV (TC fc_116 (flI (TC (D j).2.2.2.2.2 (D j).2.2.2.2.1) 0 ((D j).2.2.2.2.1 - 0)).length) gg_129.2 gg_129.1 [118] DKM)) := hw
              have hw_180 := hw
              refine lv_if_eq (tgt := 175) hx hb dX15_keyOf_168 (by decide) (fun c_181 => ?_) (fun c_181 => ?_)
              ·
                refine lv_iconst (v := 0) hx hb dX15_keyOf_175 (by decide) ?_
                refine lv_iand hx hb dX15_keyOf_176 ?_
                refine lv_topi (fun x_182 ex_182 => ?_)
                obtain rfl : x_182 = 0 := ex_182.trans (by decide)
                refine lv_istore_n (lv' := [(2, .int 0), (1, .int (nI j)), (0, .ref h0)]) hx hb dX15_keyOf_177 rfl hl (by decide) rfl (fun ls hl => ?_)
                refine lv_iload_n hx hb dX15_keyOf_178 rfl (lv_at hl 0 rfl) ?_
                refine lv_aload_n hx hb dX15_keyOf_179 rfl (lv_at hl 2 rfl) ?_
                refine pg_get (ci := 15) (v := .ref ke) (C := RX15) (T := TX15) (N := 59) hx hb hts it_15 hown hK hP hL_h0 hF_143 rfl 36 (by decide) (hts _ kt_925) (fun _ h9 => h9) rfl dX15_keyOf_180 ?_
                obtain ⟨q_183, v_184, hr_q_183, hX_q_183⟩ := hG.2.2 ("PostGateModel", 537, "k", [107]) (by decide +kernel)
                have hX_q_183 : SXc q_183 v_184 1 (cct [107]) A s s.heap := hX_q_183
                obtain ⟨xo_q_183, xc_q_183, xv_q_183, xt_q_183, xn_q_183⟩ := id hX_q_183
                have hr_q_183 : vk_R "PostGateModel" 537 "k" q_183 s := hr_q_183
                refine va_ldcwS hx hb hown hr_q_183 dX15_keyOf_183 ?_
                have hFc := pg_free hD hS hA
                refine va_calli (va_runV (As := [.ref q_183]) (rest := [.int 0]) ⟨hx, hb, hml, hown, hts⟩ (s_X13_find_x l dC dI cs ty gm L H.size F_131 ke (ρ + 13) x_5 700 700 y0_6 y1_7 y2_8 r_37 ((flI (TC (D j).2.2.2.2.2 (D j).2.2.2.2.1) 0 ((D j).2.2.2.2.1 - 0)).length) gg_129.1 fc_116 p0_132 p1_133 p2_134 gg_129.2 q_183 v_184 1 (cct [107]) ([107]) hW hi_31 ht_32 hi_33 ht_38 hF_147 hF_148 (by omega) hq_135 hq_136 hq_137 hq_138 (hti2) (hHL) (hti1) (by omega) (⟨rfl, by decide +kernel⟩)) ⟨callB_of 1 hts (gi kt_828) rfl rfl rfl (hts _ kt_829) (hts _ kt_839) (by decide +kernel) ⟨Nat.le_of_ble_eq_true rfl, Nat.le_of_ble_eq_true rfl⟩, (hts _ kt_831), (hts _ kt_832)⟩ ⟨fun a U g mk q => ⟨q.1, PTEm.calling q.2⟩, pg_recv hK hP hi_31 hq_135 (q := (RX13, TX13, 5)) rfl, fun U hU hWm => ⟨rfl, PTEm.mk hU hWm hP hK hD hE hO hG (fun x hx => by rw [List.mem_singleton] at hx; subst hx; exact hX_q_183) hS hFc⟩⟩ rfl rfl hl.1 rfl (lv_room (Nat.le_of_ble_eq_true rfl)) dX15_keyOf_186 ⟨by show _ + 0 ≤ 0; omega, by show _ + 0 ≤ 0; omega⟩) hS (fun q _ h => hFc q h) hFc (fun r_185 u t H1 locs ht hvm hw hB hz1 hk1 hS => ?_)
                obtain ⟨F_186, hB1⟩ := hB
                obtain rfl : F_131 = F_186 := (funext (fun a => hB1.2.2.2 a List.not_mem_nil)).symm
                obtain ⟨hP, hD, hO, hR⟩ := QTm.back hB1 ht hFc hR (fun q h => absurd h List.not_mem_nil)
                generalize H1 = H at hP hS ⊢
                have hw : RWX (TC fc_116 (flI (TC (D j).2.2.2.2.2 (D j).2.2.2.2.1) 0 ((D j).2.2.2.2.1 - 0)).length) gg_129.2 gg_129.1 [107] r_185 := hw
                have hw_187 := hw
                refine lv_if_lt (tgt := 208) hx hb dX15_keyOf_189 (by decide) (fun c_188 => ?_) (fun c_188 => ?_)
                ·
                  have ht189 : ¬ TGE (TC fc_116 (flI (TC (D j).2.2.2.2.2 (D j).2.2.2.2.1) 0 ((D j).2.2.2.2.1 - 0)).length) gg_129.2 gg_129.1 [107] := tge_n (rwx_n hw_187 hti2 c_188)
                  refine lv_iconst (v := 1) hx hb dX15_keyOf_208 (by decide) ?_
                  refine lv_goto (tgt := 213) hx hb dX15_keyOf_209 (by decide) ?_
                  refine lv_iand hx hb dX15_keyOf_213 ?_
                  refine lv_topi (fun x_189 ex_189 => ?_)
                  obtain rfl : x_189 = 0 := ex_189.trans (by decide)
                  refine lv_istore_n (lv' := [(2, .int 0), (1, .int (nI j)), (0, .ref h0)]) hx hb dX15_keyOf_214 rfl hl (by decide) rfl (fun ls hl => ?_)
                  refine lv_iload_n hx hb dX15_keyOf_215 rfl (lv_at hl 0 rfl) ?_
                  refine lv_if_eq (tgt := 223) hx hb dX15_keyOf_216 (by decide) (fun c_190 => ?_) (fun c_190 => absurd (by decide) c_190)
                  refine lv_bipush (v := 6) hx hb dX15_keyOf_223 (by decide) ?_
                  refine W.widen (k := 0) (n := 0) (by omega) (by omega) ?_
                  exact W.iret (v := 6) hx hb hr (fun t ht hWm => ⟨⟨6, j, rfl, (Or.inr (Or.inr ⟨hH3, hjz, hj0, hjs, hv2, Or.inr ⟨kyo_0 hgt, rfl⟩⟩)), ⟨F_131, (fun _ => 0), QTm.mk ht hP hD hO hR, (fun q => absurd (kyx_2 q rfl).2 (kyo_0 hgt))⟩⟩, hS.F ht⟩) hS.2.2 dX15_keyOf_225
                ·
                  have ht189 : TGE (TC fc_116 (flI (TC (D j).2.2.2.2.2 (D j).2.2.2.2.1) 0 ((D j).2.2.2.2.1 - 0)).length) gg_129.2 gg_129.1 [107] := by obtain ⟨k9, h1, -, h3, -⟩ := rwx_y hw_187 c_188; exact ⟨k9, h1, h3⟩
                  refine lv_aload_n hx hb dX15_keyOf_192 rfl (lv_at hl 2 rfl) ?_
                  refine pg_get (ci := 15) (v := .ref ke) (C := RX15) (T := TX15) (N := 59) hx hb hts it_15 hown hK hP hL_h0 hF_143 rfl 36 (by decide) (hts _ kt_925) (fun _ h9 => h9) rfl dX15_keyOf_193 ?_
                  refine va_ldcwS hx hb hown hr_q_183 dX15_keyOf_196 ?_
                  obtain ⟨q_191, v_192, hr_q_191, hX_q_191⟩ := hG.2.2 ("PostGateModel", 539, "rsa", [114, 115, 97]) (by decide +kernel)
                  have hX_q_191 : SXc q_191 v_192 3 (cct [114, 115, 97]) A s s.heap := hX_q_191
                  obtain ⟨xo_q_191, xc_q_191, xv_q_191, xt_q_191, xn_q_191⟩ := id hX_q_191
                  have hr_q_191 : vk_R "PostGateModel" 539 "rsa" q_191 s := hr_q_191
                  refine va_ldcwS hx hb hown hr_q_191 dX15_keyOf_199 ?_
                  have hFc := pg_free hD hS hA
                  refine va_calli (va_runV (As := [.ref q_183, .ref q_191]) (rest := [.int 0]) ⟨hx, hb, hml, hown, hts⟩ (s_X13_has_x l dC dI cs ty gm L H.size F_131 ke (ρ + 13) x_5 700 700 y0_6 y1_7 y2_8 r_37 ((flI (TC (D j).2.2.2.2.2 (D j).2.2.2.2.1) 0 ((D j).2.2.2.2.1 - 0)).length) gg_129.1 fc_116 p0_132 p1_133 p2_134 gg_129.2 q_183 v_184 1 (cct [107]) q_191 v_192 3 (cct [114, 115, 97]) ([107]) RSA3 hW hi_31 ht_32 hi_33 ht_38 hF_147 hF_148 (by omega) hq_135 hq_136 hq_137 hq_138 (hti2) (hHL) (hti1) (by omega) (⟨rfl, by decide +kernel⟩) (⟨rfl, by decide +kernel⟩)) ⟨callB_of 2 hts (gi kt_863) rfl rfl rfl (hts _ kt_829) (hts _ kt_864) (by decide +kernel) ⟨Nat.le_of_ble_eq_true rfl, Nat.le_of_ble_eq_true rfl⟩, (hts _ kt_865), (hts _ kt_866)⟩ ⟨fun a U g mk q => ⟨q.1, PTEm.calling q.2⟩, pg_recv hK hP hi_31 hq_135 (q := (RX13, TX13, 5)) rfl, fun U hU hWm => ⟨rfl, PTEm.mk hU hWm hP hK hD hE hO hG (fun x hx => by simp only [List.mem_cons, List.not_mem_nil, or_false] at hx; rcases hx with hx | hx <;> subst hx <;> first | exact hX_q_183 | exact hX_q_191) hS hFc⟩⟩ rfl rfl hl.1 rfl (lv_room (Nat.le_of_ble_eq_true rfl)) dX15_keyOf_202 ⟨by show _ + 0 ≤ 0; omega, by show _ + 0 ≤ 0; omega⟩) hS (fun q _ h => hFc q h) hFc (fun r_193 u t H1 locs ht hvm hw hB hz1 hk1 hS => ?_)
                  obtain ⟨F_194, hB1⟩ := hB
                  obtain rfl : F_131 = F_194 := (funext (fun a => hB1.2.2.2 a List.not_mem_nil)).symm
                  obtain ⟨hP, hD, hO, hR⟩ := QTm.back hB1 ht hFc hR (fun q h => absurd h List.not_mem_nil)
                  generalize H1 = H at hP hS ⊢
                  have hw : ((r_193 = 1 ∧ TGV (TC fc_116 (flI (TC (D j).2.2.2.2.2 (D j).2.2.2.2.1) 0 ((D j).2.2.2.2.1 - 0)).length) gg_129.2 gg_129.1 [107] RSA3) ∨ (r_193 = 0 ∧ ¬ TGV (TC fc_116 (flI (TC (D j).2.2.2.2.2 (D j).2.2.2.2.1) 0 ((D j).2.2.2.2.1 - 0)).length) gg_129.2 gg_129.1 [107] RSA3)) := hw
                  have hw_195 := hw
                  refine lv_if_eq (tgt := 212) hx hb dX15_keyOf_205 (by decide) (fun c_196 => ?_) (fun c_196 => ?_)
                  ·
                    refine lv_iconst (v := 0) hx hb dX15_keyOf_212 (by decide) ?_
                    refine lv_iand hx hb dX15_keyOf_213 ?_
                    refine lv_topi (fun x_197 ex_197 => ?_)
                    obtain rfl : x_197 = 0 := ex_197.trans (by decide)
                    refine lv_istore_n (lv' := [(2, .int 0), (1, .int (nI j)), (0, .ref h0)]) hx hb dX15_keyOf_214 rfl hl (by decide) rfl (fun ls hl => ?_)
                    refine lv_iload_n hx hb dX15_keyOf_215 rfl (lv_at hl 0 rfl) ?_
                    refine lv_if_eq (tgt := 223) hx hb dX15_keyOf_216 (by decide) (fun c_198 => ?_) (fun c_198 => absurd (by decide) c_198)
                    refine lv_bipush (v := 6) hx hb dX15_keyOf_223 (by decide) ?_
                    refine W.widen (k := 0) (n := 0) (by omega) (by omega) ?_
                    exact W.iret (v := 6) hx hb hr (fun t ht hWm => ⟨⟨6, j, rfl, (Or.inr (Or.inr ⟨hH3, hjz, hj0, hjs, hv2, Or.inr ⟨kyo_0 hgt, rfl⟩⟩)), ⟨F_131, (fun _ => 0), QTm.mk ht hP hD hO hR, (fun q => absurd (kyx_2 q rfl).2 (kyo_0 hgt))⟩⟩, hS.F ht⟩) hS.2.2 dX15_keyOf_225
                  ·
                    refine lv_iconst (v := 1) hx hb dX15_keyOf_208 (by decide) ?_
                    refine lv_goto (tgt := 213) hx hb dX15_keyOf_209 (by decide) ?_
                    refine lv_iand hx hb dX15_keyOf_213 ?_
                    refine lv_topi (fun x_199 ex_199 => ?_)
                    obtain rfl : x_199 = 0 := ex_199.trans (by decide)
                    refine lv_istore_n (lv' := [(2, .int 0), (1, .int (nI j)), (0, .ref h0)]) hx hb dX15_keyOf_214 rfl hl (by decide) rfl (fun ls hl => ?_)
                    refine lv_iload_n hx hb dX15_keyOf_215 rfl (lv_at hl 0 rfl) ?_
                    refine lv_if_eq (tgt := 223) hx hb dX15_keyOf_216 (by decide) (fun c_200 => ?_) (fun c_200 => absurd (by decide) c_200)
                    refine lv_bipush (v := 6) hx hb dX15_keyOf_223 (by decide) ?_
                    refine W.widen (k := 0) (n := 0) (by omega) (by omega) ?_
                    exact W.iret (v := 6) hx hb hr (fun t ht hWm => ⟨⟨6, j, rfl, (Or.inr (Or.inr ⟨hH3, hjz, hj0, hjs, hv2, Or.inr ⟨kyo_0 hgt, rfl⟩⟩)), ⟨F_131, (fun _ => 0), QTm.mk ht hP hD hO hR, (fun q => absurd (kyx_2 q rfl).2 (kyo_0 hgt))⟩⟩, hS.F ht⟩) hS.2.2 dX15_keyOf_225
              ·
                refine lv_iconst (v := 1) hx hb dX15_keyOf_171 (by decide) ?_
                refine lv_goto (tgt := 176) hx hb dX15_keyOf_172 (by decide) ?_
                refine lv_iand hx hb dX15_keyOf_176 ?_
                refine lv_topi (fun x_201 ex_201 => ?_)
                obtain rfl : x_201 = 0 := ex_201.trans (by decide)
                refine lv_istore_n (lv' := [(2, .int 0), (1, .int (nI j)), (0, .ref h0)]) hx hb dX15_keyOf_177 rfl hl (by decide) rfl (fun ls hl => ?_)
                refine lv_iload_n hx hb dX15_keyOf_178 rfl (lv_at hl 0 rfl) ?_
                refine lv_aload_n hx hb dX15_keyOf_179 rfl (lv_at hl 2 rfl) ?_
                refine pg_get (ci := 15) (v := .ref ke) (C := RX15) (T := TX15) (N := 59) hx hb hts it_15 hown hK hP hL_h0 hF_143 rfl 36 (by decide) (hts _ kt_925) (fun _ h9 => h9) rfl dX15_keyOf_180 ?_
                obtain ⟨q_202, v_203, hr_q_202, hX_q_202⟩ := hG.2.2 ("PostGateModel", 537, "k", [107]) (by decide +kernel)
                have hX_q_202 : SXc q_202 v_203 1 (cct [107]) A s s.heap := hX_q_202
                obtain ⟨xo_q_202, xc_q_202, xv_q_202, xt_q_202, xn_q_202⟩ := id hX_q_202
                have hr_q_202 : vk_R "PostGateModel" 537 "k" q_202 s := hr_q_202
                refine va_ldcwS hx hb hown hr_q_202 dX15_keyOf_183 ?_
                have hFc := pg_free hD hS hA
                refine va_calli (va_runV (As := [.ref q_202]) (rest := [.int 0]) ⟨hx, hb, hml, hown, hts⟩ (s_X13_find_x l dC dI cs ty gm L H.size F_131 ke (ρ + 13) x_5 700 700 y0_6 y1_7 y2_8 r_37 ((flI (TC (D j).2.2.2.2.2 (D j).2.2.2.2.1) 0 ((D j).2.2.2.2.1 - 0)).length) gg_129.1 fc_116 p0_132 p1_133 p2_134 gg_129.2 q_202 v_203 1 (cct [107]) ([107]) hW hi_31 ht_32 hi_33 ht_38 hF_147 hF_148 (by omega) hq_135 hq_136 hq_137 hq_138 (hti2) (hHL) (hti1) (by omega) (⟨rfl, by decide +kernel⟩)) ⟨callB_of 1 hts (gi kt_828) rfl rfl rfl (hts _ kt_829) (hts _ kt_839) (by decide +kernel) ⟨Nat.le_of_ble_eq_true rfl, Nat.le_of_ble_eq_true rfl⟩, (hts _ kt_831), (hts _ kt_832)⟩ ⟨fun a U g mk q => ⟨q.1, PTEm.calling q.2⟩, pg_recv hK hP hi_31 hq_135 (q := (RX13, TX13, 5)) rfl, fun U hU hWm => ⟨rfl, PTEm.mk hU hWm hP hK hD hE hO hG (fun x hx => by rw [List.mem_singleton] at hx; subst hx; exact hX_q_202) hS hFc⟩⟩ rfl rfl hl.1 rfl (lv_room (Nat.le_of_ble_eq_true rfl)) dX15_keyOf_186 ⟨by show _ + 0 ≤ 0; omega, by show _ + 0 ≤ 0; omega⟩) hS (fun q _ h => hFc q h) hFc (fun r_204 u t H1 locs ht hvm hw hB hz1 hk1 hS => ?_)
                obtain ⟨F_205, hB1⟩ := hB
                obtain rfl : F_131 = F_205 := (funext (fun a => hB1.2.2.2 a List.not_mem_nil)).symm
                obtain ⟨hP, hD, hO, hR⟩ := QTm.back hB1 ht hFc hR (fun q h => absurd h List.not_mem_nil)
                generalize H1 = H at hP hS ⊢
                have hw : RWX (TC fc_116 (flI (TC (D j).2.2.2.2.2 (D j).2.2.2.2.1) 0 ((D j).2.2.2.2.1 - 0)).length) gg_129.2 gg_129.1 [107] r_204 := hw
                have hw_206 := hw
                refine lv_if_lt (tgt := 208) hx hb dX15_keyOf_189 (by decide) (fun c_207 => ?_) (fun c_207 => ?_)
                ·
                  have ht189 : ¬ TGE (TC fc_116 (flI (TC (D j).2.2.2.2.2 (D j).2.2.2.2.1) 0 ((D j).2.2.2.2.1 - 0)).length) gg_129.2 gg_129.1 [107] := tge_n (rwx_n hw_206 hti2 c_207)
                  refine lv_iconst (v := 1) hx hb dX15_keyOf_208 (by decide) ?_
                  refine lv_goto (tgt := 213) hx hb dX15_keyOf_209 (by decide) ?_
                  refine lv_iand hx hb dX15_keyOf_213 ?_
                  refine lv_topi (fun x_208 ex_208 => ?_)
                  obtain rfl : x_208 = 0 := ex_208.trans (by decide)
                  refine lv_istore_n (lv' := [(2, .int 0), (1, .int (nI j)), (0, .ref h0)]) hx hb dX15_keyOf_214 rfl hl (by decide) rfl (fun ls hl => ?_)
                  refine lv_iload_n hx hb dX15_keyOf_215 rfl (lv_at hl 0 rfl) ?_
                  refine lv_if_eq (tgt := 223) hx hb dX15_keyOf_216 (by decide) (fun c_209 => ?_) (fun c_209 => absurd (by decide) c_209)
                  refine lv_bipush (v := 6) hx hb dX15_keyOf_223 (by decide) ?_
                  refine W.widen (k := 0) (n := 0) (by omega) (by omega) ?_
                  exact W.iret (v := 6) hx hb hr (fun t ht hWm => ⟨⟨6, j, rfl, (Or.inr (Or.inr ⟨hH3, hjz, hj0, hjs, hv2, Or.inr ⟨kyo_0 hgt, rfl⟩⟩)), ⟨F_131, (fun _ => 0), QTm.mk ht hP hD hO hR, (fun q => absurd (kyx_2 q rfl).2 (kyo_0 hgt))⟩⟩, hS.F ht⟩) hS.2.2 dX15_keyOf_225
                ·
                  have ht189 : TGE (TC fc_116 (flI (TC (D j).2.2.2.2.2 (D j).2.2.2.2.1) 0 ((D j).2.2.2.2.1 - 0)).length) gg_129.2 gg_129.1 [107] := by obtain ⟨k9, h1, -, h3, -⟩ := rwx_y hw_206 c_207; exact ⟨k9, h1, h3⟩
                  refine lv_aload_n hx hb dX15_keyOf_192 rfl (lv_at hl 2 rfl) ?_
                  refine pg_get (ci := 15) (v := .ref ke) (C := RX15) (T := TX15) (N := 59) hx hb hts it_15 hown hK hP hL_h0 hF_143 rfl 36 (by decide) (hts _ kt_925) (fun _ h9 => h9) rfl dX15_keyOf_193 ?_
                  refine va_ldcwS hx hb hown hr_q_202 dX15_keyOf_196 ?_
                  obtain ⟨q_210, v_211, hr_q_210, hX_q_210⟩ := hG.2.2 ("PostGateModel", 539, "rsa", [114, 115, 97]) (by decide +kernel)
                  have hX_q_210 : SXc q_210 v_211 3 (cct [114, 115, 97]) A s s.heap := hX_q_210
                  obtain ⟨xo_q_210, xc_q_210, xv_q_210, xt_q_210, xn_q_210⟩ := id hX_q_210
                  have hr_q_210 : vk_R "PostGateModel" 539 "rsa" q_210 s := hr_q_210
                  refine va_ldcwS hx hb hown hr_q_210 dX15_keyOf_199 ?_
                  have hFc := pg_free hD hS hA
                  refine va_calli (va_runV (As := [.ref q_202, .ref q_210]) (rest := [.int 0]) ⟨hx, hb, hml, hown, hts⟩ (s_X13_has_x l dC dI cs ty gm L H.size F_131 ke (ρ + 13) x_5 700 700 y0_6 y1_7 y2_8 r_37 ((flI (TC (D j).2.2.2.2.2 (D j).2.2.2.2.1) 0 ((D j).2.2.2.2.1 - 0)).length) gg_129.1 fc_116 p0_132 p1_133 p2_134 gg_129.2 q_202 v_203 1 (cct [107]) q_210 v_211 3 (cct [114, 115, 97]) ([107]) RSA3 hW hi_31 ht_32 hi_33 ht_38 hF_147 hF_148 (by omega) hq_135 hq_136 hq_137 hq_138 (hti2) (hHL) (hti1) (by omega) (⟨rfl, by decide +kernel⟩) (⟨rfl, by decide +kernel⟩)) ⟨callB_of 2 hts (gi kt_863) rfl rfl rfl (hts _ kt_829) (hts _ kt_864) (by decide +kernel) ⟨Nat.le_of_ble_eq_true rfl, Nat.le_of_ble_eq_true rfl⟩, (hts _ kt_865), (hts _ kt_866)⟩ ⟨fun a U g mk q => ⟨q.1, PTEm.calling q.2⟩, pg_recv hK hP hi_31 hq_135 (q := (RX13, TX13, 5)) rfl, fun U hU hWm => ⟨rfl, PTEm.mk hU hWm hP hK hD hE hO hG (fun x hx => by simp only [List.mem_cons, List.not_mem_nil, or_false] at hx; rcases hx with hx | hx <;> subst hx <;> first | exact hX_q_202 | exact hX_q_210) hS hFc⟩⟩ rfl rfl hl.1 rfl (lv_room (Nat.le_of_ble_eq_true rfl)) dX15_keyOf_202 ⟨by show _ + 0 ≤ 0; omega, by show _ + 0 ≤ 0; omega⟩) hS (fun q _ h => hFc q h) hFc (fun r_212 u t H1 locs ht hvm hw hB hz1 hk1 hS => ?_)
                  obtain ⟨F_213, hB1⟩ := hB
                  obtain rfl : F_131 = F_213 := (funext (fun a => hB1.2.2.2 a List.not_mem_nil)).symm
                  obtain ⟨hP, hD, hO, hR⟩ := QTm.back hB1 ht hFc hR (fun q h => absurd h List.not_mem_nil)
                  generalize H1 = H at hP hS ⊢
                  have hw : ((r_212 = 1 ∧ TGV (TC fc_116 (flI (TC (D j).2.2.2.2.2 (D j).2.2.2.2.1) 0 ((D j).2.2.2.2.1 - 0)).length) gg_129.2 gg_129.1 [107] RSA3) ∨ (r_212 = 0 ∧ ¬ TGV (TC fc_116 (flI (TC (D j).2.2.2.2.2 (D j).2.2.2.2.1) 0 ((D j).2.2.2.2.1 - 0)).length) gg_129.2 gg_129.1 [107] RSA3)) := hw
                  have hw_214 := hw
                  refine lv_if_eq (tgt := 212) hx hb dX15_keyOf_205 (by decide) (fun c_215 => ?_) (fun c_215 => ?_)
                  ·
                    refine lv_iconst (v := 0) hx hb dX15_keyOf_212 (by decide) ?_
                    refine lv_iand hx hb dX15_keyOf_213 ?_
                    refine lv_topi (fun x_216 ex_216 => ?_)
                    obtain rfl : x_216 = 0 := ex_216.trans (by decide)
                    refine lv_istore_n (lv' := [(2, .int 0), (1, .int (nI j)), (0, .ref h0)]) hx hb dX15_keyOf_214 rfl hl (by decide) rfl (fun ls hl => ?_)
                    refine lv_iload_n hx hb dX15_keyOf_215 rfl (lv_at hl 0 rfl) ?_
                    refine lv_if_eq (tgt := 223) hx hb dX15_keyOf_216 (by decide) (fun c_217 => ?_) (fun c_217 => absurd (by decide) c_217)
                    refine lv_bipush (v := 6) hx hb dX15_keyOf_223 (by decide) ?_
                    refine W.widen (k := 0) (n := 0) (by omega) (by omega) ?_
                    exact W.iret (v := 6) hx hb hr (fun t ht hWm => ⟨⟨6, j, rfl, (Or.inr (Or.inr ⟨hH3, hjz, hj0, hjs, hv2, Or.inr ⟨kyo_0 hgt, rfl⟩⟩)), ⟨F_131, (fun _ => 0), QTm.mk ht hP hD hO hR, (fun q => absurd (kyx_2 q rfl).2 (kyo_0 hgt))⟩⟩, hS.F ht⟩) hS.2.2 dX15_keyOf_225
                  ·
                    refine lv_iconst (v := 1) hx hb dX15_keyOf_208 (by decide) ?_
                    refine lv_goto (tgt := 213) hx hb dX15_keyOf_209 (by decide) ?_
                    refine lv_iand hx hb dX15_keyOf_213 ?_
                    refine lv_topi (fun x_218 ex_218 => ?_)
                    obtain rfl : x_218 = 0 := ex_218.trans (by decide)
                    refine lv_istore_n (lv' := [(2, .int 0), (1, .int (nI j)), (0, .ref h0)]) hx hb dX15_keyOf_214 rfl hl (by decide) rfl (fun ls hl => ?_)
                    refine lv_iload_n hx hb dX15_keyOf_215 rfl (lv_at hl 0 rfl) ?_
                    refine lv_if_eq (tgt := 223) hx hb dX15_keyOf_216 (by decide) (fun c_219 => ?_) (fun c_219 => absurd (by decide) c_219)
                    refine lv_bipush (v := 6) hx hb dX15_keyOf_223 (by decide) ?_
                    refine W.widen (k := 0) (n := 0) (by omega) (by omega) ?_
                    exact W.iret (v := 6) hx hb hr (fun t ht hWm => ⟨⟨6, j, rfl, (Or.inr (Or.inr ⟨hH3, hjz, hj0, hjs, hv2, Or.inr ⟨kyo_0 hgt, rfl⟩⟩)), ⟨F_131, (fun _ => 0), QTm.mk ht hP hD hO hR, (fun q => absurd (kyx_2 q rfl).2 (kyo_0 hgt))⟩⟩, hS.F ht⟩) hS.2.2 dX15_keyOf_225
          ·
            have hgt : tgT (kyT (D j)) (kyY (D j)) = some gg_129 := by rcases hRD with h9 | h9; have h8 := h9.2; rw [hwT] at h8; exact h8; exact absurd h9.1 c_150
            refine lv_aload_n hx hb dX15_keyOf_94 rfl (lv_at hl 1 rfl) ?_
            refine pg_get (ci := 15) (v := .ref ke) (C := RX15) (T := TX15) (N := 59) hx hb hts it_15 hown hK hP hL_h0 hF_143 rfl 36 (by decide) (hts _ kt_925) (fun _ h9 => h9) rfl dX15_keyOf_95 ?_
            obtain ⟨q_220, v_221, hr_q_220, hX_q_220⟩ := hG.2.2 ("PostGateModel", 533, "p", [112]) (by decide +kernel)
            have hX_q_220 : SXc q_220 v_221 1 (cct [112]) A s s.heap := hX_q_220
            obtain ⟨xo_q_220, xc_q_220, xv_q_220, xt_q_220, xn_q_220⟩ := id hX_q_220
            have hr_q_220 : vk_R "PostGateModel" 533 "p" q_220 s := hr_q_220
            refine va_ldcwS hx hb hown hr_q_220 dX15_keyOf_98 ?_
            refine lv_bipush (v := 64) hx hb dX15_keyOf_101 (by decide) ?_
            refine lv_aload_n hx hb dX15_keyOf_103 rfl (lv_at hl 1 rfl) ?_
            refine pg_get (ci := 15) (v := .ref m64) (C := RX15) (T := TX15) (N := 59) hx hb hts it_15 hown hK hP hL_h0 hF_143 rfl 47 (by decide) (hts _ kt_907) (fun _ h9 => h9) rfl dX15_keyOf_104 ?_
            refine W.eq (g2 := F0 m 107 ls [.ref m64, .int (nI 64), .ref q_220, .ref ke]) rfl ?_
            have hFc := pg_free hD hS hA
            refine va_calli (va_runS (As := [.ref ke, .ref q_220, .int (nI 64), .ref m64]) (rest := []) ⟨hx, hb, hml, hown, hts⟩ (s_X15_base_x l dC dI cs ty gm L H.size F_131 ke (ρ + 13) x_5 700 700 y0_6 y1_7 y2_8 r_37 ((flI (TC (D j).2.2.2.2.2 (D j).2.2.2.2.1) 0 ((D j).2.2.2.2.1 - 0)).length) gg_129.1 fc_116 p0_132 p1_133 p2_134 gg_129.2 q_220 v_221 1 (cct [112]) ([112]) 64 m64 (ρ + 22) hW hi_31 ht_32 hi_33 ht_38 hi_44 ht_45 hF_147 hF_148 (by omega) hq_135 hq_136 hq_137 hq_138 (hti2) (hHL) (hti1) (by omega) (⟨rfl, by decide +kernel⟩) (Or.inr rfl) (by omega)) ⟨callB_of 4 hts (gi kt_872) rfl rfl rfl (hts _ kt_669) (hts _ kt_873) (by decide +kernel) ⟨Nat.le_of_ble_eq_true rfl, Nat.le_of_ble_eq_true rfl⟩, (hts _ kt_874)⟩ ⟨fun a U g mk q => ⟨q.1, PTEm.calling q.2⟩, fun U hU hWm => ⟨rfl, PTEm.mk hU hWm hP hK hD hE hO hG (fun x hx => by rw [List.mem_singleton] at hx; subst hx; exact hX_q_220) hS hFc⟩⟩ rfl rfl hl.1 rfl (lv_room (Nat.le_of_ble_eq_true rfl)) dX15_keyOf_107 ⟨by show _ + 0 ≤ 0; omega, by show _ + 0 ≤ 0; omega⟩) hS (fun q _ h => hFc q h) hFc (fun r_222 u t H1 locs ht hvm hw hB hz1 hk1 hS => ?_)
            obtain ⟨F_223, f2_224, hB1, hq_225, hq_226⟩ := hB
            obtain ⟨hP, hD, hO, hR⟩ := QTm.back hB1 ht hFc hR (fun q h => by simp only [List.mem_cons, List.not_mem_nil, or_false] at h ⊢; omega)
            have hF_227 : F_223 wh = .inr (14, [.ref rwh, .int (nI y)]) := (hB1.2.2.2 wh (by rw [hT_wh]; simp)).trans hF_141
            have hF_228 : F_223 rwh = .inl (cs 17, 6000, .inl hf) := (hB1.2.2.2 rwh (by rw [ht_29]; simp)).trans hF_142
            have hF_229 : F_223 h0 = .inr (15, (.ref ta) :: (.int (nI zt)) :: (.int (nI zo)) :: (.int (nI ze)) :: (.ref ou) :: (.ref so) :: (.ref ad) :: (.ref na) :: (.ref va) :: (.ref lc) :: (.ref dm) :: (.int (nI fm)) :: (.int (nI sn)) :: (.ref tg) :: (.int v14_48) :: (.int v15_49) :: (.ref pe) :: (.int v17_50) :: (.int v18_51) :: (.int v19_52) :: (.int v20_53) :: (.int v21_54) :: (.int v22_55) :: (.ref ml) :: (.ref bg) :: (.ref co) :: (.ref sp) :: (.ref nb0) :: (.ref nb1) :: (.ref nb2) :: (.int (nI nf)) :: (.int (nI bd)) :: (.int (nI mm)) :: (.int v33_56) :: (.ref pl) :: (.ref se) :: (.ref ke) :: (.ref wi) :: (.ref hs) :: (.ref mo) :: (.ref po) :: (.ref nu) :: (.ref pr) :: (.ref sq) :: (.ref xa) :: (.ref sa) :: (.ref n64) :: (.ref m64) :: (.ref ex) :: (.ref wh) :: (.ref sd) :: (.ref tk) :: (.int v52_57) :: (.int v53_58) :: (.int v54_59) :: (.ref hd) :: (.ref ak) :: (.ref ho) :: (.ref ot) :: []) := (hB1.2.2.2 h0 (by rw [hT_h0]; simp)).trans hF_143
            have hF_230 : F_223 va = .inl (cs 23, 40, .inr (.inr (.inr (.inr f_98)))) := (hB1.2.2.2 va (by rw [ht_97]; simp)).trans hF_144
            have hF_231 : F_223 b_101 = .inr (14, [.ref r_102, .int (nI (D j).2.2.2.2.1)]) := (hB1.2.2.2 b_101 (by rw [ht_105]; simp only [List.mem_cons, List.not_mem_nil, or_false]; omega)).trans hF_145
            have hF_232 : F_223 r_102 = .inl (cs 17, 700, .inl ((D j).2.2.2.2.2)) := (hB1.2.2.2 r_102 (by rw [ht_107]; simp only [List.mem_cons, List.not_mem_nil, or_false]; omega)).trans hF_146
            have hF_233 : F_223 x_5 = .inr (14, [.ref r_37, .int (nI (flI (TC (D j).2.2.2.2.2 (D j).2.2.2.2.1) 0 ((D j).2.2.2.2.1 - 0)).length)]) := (hB1.2.2.2 x_5 (by rw [ht_38]; simp)).trans hF_147
            have hF_234 : F_223 r_37 = .inl (cs 17, 700, .inl fc_116) := (hB1.2.2.2 r_37 (by rw [ht_67]; simp)).trans hF_148
            have hF_235 : F_223 ke = .inr (13, [.ref x_5, .ref y0_6, .ref y1_7, .ref y2_8, .int (nI gg_129.1)]) := (hB1.2.2.2 ke (by rw [ht_32]; simp)).trans hq_135
            have hF_236 : F_223 y0_6 = .inl (cs 16, 40, .inl p0_132) := (hB1.2.2.2 y0_6 (by rw [ht_39]; simp)).trans hq_136
            have hF_237 : F_223 y1_7 = .inl (cs 16, 40, .inl p1_133) := (hB1.2.2.2 y1_7 (by rw [ht_40]; simp)).trans hq_137
            have hF_238 : F_223 y2_8 = .inl (cs 16, 40, .inl p2_134) := (hB1.2.2.2 y2_8 (by rw [ht_41]; simp)).trans hq_138
            generalize H1 = H at hP hS ⊢
            have hw : ((r_222 = 1 ∧ DCD (TC fc_116 (flI (TC (D j).2.2.2.2.2 (D j).2.2.2.2.1) 0 ((D j).2.2.2.2.1 - 0)).length) (tgA gg_129.2 (tgR (TC fc_116 (flI (TC (D j).2.2.2.2.2 (D j).2.2.2.2.1) 0 ((D j).2.2.2.2.1 - 0)).length) gg_129.2 [112] gg_129.1)) (tgB gg_129.2 (tgR (TC fc_116 (flI (TC (D j).2.2.2.2.2 (D j).2.2.2.2.1) 0 ((D j).2.2.2.2.1 - 0)).length) gg_129.2 [112] gg_129.1)) 64) ∨ (r_222 = 0 ∧ ¬ DCD (TC fc_116 (flI (TC (D j).2.2.2.2.2 (D j).2.2.2.2.1) 0 ((D j).2.2.2.2.1 - 0)).length) (tgA gg_129.2 (tgR (TC fc_116 (flI (TC (D j).2.2.2.2.2 (D j).2.2.2.2.1) 0 ((D j).2.2.2.2.1 - 0)).length) gg_129.2 [112] gg_129.1)) (tgB gg_129.2 (tgR (TC fc_116 (flI (TC (D j).2.2.2.2.2 (D j).2.2.2.2.1) 0 ((D j).2.2.2.2.1 - 0)).length) gg_129.2 [112] gg_129.1)) 64)) := hw
            have hw_239 := hw
            have hbM := hq_226
            refine lv_if_eq (tgt := 139) hx hb dX15_keyOf_110 (by decide) (fun c_240 => ?_) (fun c_240 => ?_)
            ·
              refine lv_iconst (v := 0) hx hb dX15_keyOf_139 (by decide) ?_
              refine lv_istore_n (lv' := [(2, .int 0), (1, .int (nI j)), (0, .ref h0)]) hx hb dX15_keyOf_140 rfl hl (by decide) rfl (fun ls hl => ?_)
              refine lv_iload_n hx hb dX15_keyOf_141 rfl (lv_at hl 0 rfl) ?_
              refine lv_aload_n hx hb dX15_keyOf_142 rfl (lv_at hl 2 rfl) ?_
              refine pg_get (ci := 15) (v := .ref ke) (C := RX15) (T := TX15) (N := 59) hx hb hts it_15 hown hK hP hL_h0 hF_229 rfl 36 (by decide) (hts _ kt_925) (fun _ h9 => h9) rfl dX15_keyOf_143 ?_
              obtain ⟨q_241, v_242, hr_q_241, hX_q_241⟩ := hG.2.2 ("PostGateModel", 444, "v", [118]) (by decide +kernel)
              have hX_q_241 : SXc q_241 v_242 1 (cct [118]) A s s.heap := hX_q_241
              obtain ⟨xo_q_241, xc_q_241, xv_q_241, xt_q_241, xn_q_241⟩ := id hX_q_241
              have hr_q_241 : vk_R "PostGateModel" 444 "v" q_241 s := hr_q_241
              refine va_ldcwS hx hb hown hr_q_241 dX15_keyOf_146 ?_
              have hFc := pg_free hD hS hA
              refine va_calli (va_runV (As := [.ref q_241]) (rest := [.int 0]) ⟨hx, hb, hml, hown, hts⟩ (s_X13_find_x l dC dI cs ty gm L H.size F_223 ke (ρ + 13) x_5 700 700 y0_6 y1_7 y2_8 r_37 ((flI (TC (D j).2.2.2.2.2 (D j).2.2.2.2.1) 0 ((D j).2.2.2.2.1 - 0)).length) gg_129.1 fc_116 p0_132 p1_133 p2_134 gg_129.2 q_241 v_242 1 (cct [118]) ([118]) hW hi_31 ht_32 hi_33 ht_38 hF_233 hF_234 (by omega) hF_235 hF_236 hF_237 hF_238 (hti2) (hHL) (hti1) (by omega) (⟨rfl, by decide +kernel⟩)) ⟨callB_of 1 hts (gi kt_828) rfl rfl rfl (hts _ kt_829) (hts _ kt_839) (by decide +kernel) ⟨Nat.le_of_ble_eq_true rfl, Nat.le_of_ble_eq_true rfl⟩, (hts _ kt_831), (hts _ kt_832)⟩ ⟨fun a U g mk q => ⟨q.1, PTEm.calling q.2⟩, pg_recv hK hP hi_31 hF_235 (q := (RX13, TX13, 5)) rfl, fun U hU hWm => ⟨rfl, PTEm.mk hU hWm hP hK hD hE hO hG (fun x hx => by rw [List.mem_singleton] at hx; subst hx; exact hX_q_241) hS hFc⟩⟩ rfl rfl hl.1 rfl (lv_room (Nat.le_of_ble_eq_true rfl)) dX15_keyOf_149 ⟨by show _ + 0 ≤ 0; omega, by show _ + 0 ≤ 0; omega⟩) hS (fun q _ h => hFc q h) hFc (fun r_243 u t H1 locs ht hvm hw hB hz1 hk1 hS => ?_)
              obtain ⟨F_244, hB1⟩ := hB
              obtain rfl : F_223 = F_244 := (funext (fun a => hB1.2.2.2 a List.not_mem_nil)).symm
              obtain ⟨hP, hD, hO, hR⟩ := QTm.back hB1 ht hFc hR (fun q h => absurd h List.not_mem_nil)
              generalize H1 = H at hP hS ⊢
              have hw : RWX (TC fc_116 (flI (TC (D j).2.2.2.2.2 (D j).2.2.2.2.1) 0 ((D j).2.2.2.2.1 - 0)).length) gg_129.2 gg_129.1 [118] r_243 := hw
              have hw_245 := hw
              refine lv_if_lt (tgt := 171) hx hb dX15_keyOf_152 (by decide) (fun c_246 => ?_) (fun c_246 => ?_)
              ·
                have ht152 : ¬ TGE (TC fc_116 (flI (TC (D j).2.2.2.2.2 (D j).2.2.2.2.1) 0 ((D j).2.2.2.2.1 - 0)).length) gg_129.2 gg_129.1 [118] := tge_n (rwx_n hw_245 hti2 c_246)
                refine lv_iconst (v := 1) hx hb dX15_keyOf_171 (by decide) ?_
                refine lv_goto (tgt := 176) hx hb dX15_keyOf_172 (by decide) ?_
                refine lv_iand hx hb dX15_keyOf_176 ?_
                refine lv_topi (fun x_247 ex_247 => ?_)
                obtain rfl : x_247 = 0 := ex_247.trans (by decide)
                refine lv_istore_n (lv' := [(2, .int 0), (1, .int (nI j)), (0, .ref h0)]) hx hb dX15_keyOf_177 rfl hl (by decide) rfl (fun ls hl => ?_)
                refine lv_iload_n hx hb dX15_keyOf_178 rfl (lv_at hl 0 rfl) ?_
                refine lv_aload_n hx hb dX15_keyOf_179 rfl (lv_at hl 2 rfl) ?_
                refine pg_get (ci := 15) (v := .ref ke) (C := RX15) (T := TX15) (N := 59) hx hb hts it_15 hown hK hP hL_h0 hF_229 rfl 36 (by decide) (hts _ kt_925) (fun _ h9 => h9) rfl dX15_keyOf_180 ?_
                obtain ⟨q_248, v_249, hr_q_248, hX_q_248⟩ := hG.2.2 ("PostGateModel", 537, "k", [107]) (by decide +kernel)
                have hX_q_248 : SXc q_248 v_249 1 (cct [107]) A s s.heap := hX_q_248
                obtain ⟨xo_q_248, xc_q_248, xv_q_248, xt_q_248, xn_q_248⟩ := id hX_q_248
                have hr_q_248 : vk_R "PostGateModel" 537 "k" q_248 s := hr_q_248
                refine va_ldcwS hx hb hown hr_q_248 dX15_keyOf_183 ?_
                have hFc := pg_free hD hS hA
                refine va_calli (va_runV (As := [.ref q_248]) (rest := [.int 0]) ⟨hx, hb, hml, hown, hts⟩ (s_X13_find_x l dC dI cs ty gm L H.size F_223 ke (ρ + 13) x_5 700 700 y0_6 y1_7 y2_8 r_37 ((flI (TC (D j).2.2.2.2.2 (D j).2.2.2.2.1) 0 ((D j).2.2.2.2.1 - 0)).length) gg_129.1 fc_116 p0_132 p1_133 p2_134 gg_129.2 q_248 v_249 1 (cct [107]) ([107]) hW hi_31 ht_32 hi_33 ht_38 hF_233 hF_234 (by omega) hF_235 hF_236 hF_237 hF_238 (hti2) (hHL) (hti1) (by omega) (⟨rfl, by decide +kernel⟩)) ⟨callB_of 1 hts (gi kt_828) rfl rfl rfl (hts _ kt_829) (hts _ kt_839) (by decide +kernel) ⟨Nat.le_of_ble_eq_true rfl, Nat.le_of_ble_eq_true rfl⟩, (hts _ kt_831), (hts _ kt_832)⟩ ⟨fun a U g mk q => ⟨q.1, PTEm.calling q.2⟩, pg_recv hK hP hi_31 hF_235 (q := (RX13, TX13, 5)) rfl, fun U hU hWm => ⟨rfl, PTEm.mk hU hWm hP hK hD hE hO hG (fun x hx => by rw [List.mem_singleton] at hx; subst hx; exact hX_q_248) hS hFc⟩⟩ rfl rfl hl.1 rfl (lv_room (Nat.le_of_ble_eq_true rfl)) dX15_keyOf_186 ⟨by show _ + 0 ≤ 0; omega, by show _ + 0 ≤ 0; omega⟩) hS (fun q _ h => hFc q h) hFc (fun r_250 u t H1 locs ht hvm hw hB hz1 hk1 hS => ?_)
                obtain ⟨F_251, hB1⟩ := hB
                obtain rfl : F_223 = F_251 := (funext (fun a => hB1.2.2.2 a List.not_mem_nil)).symm
                obtain ⟨hP, hD, hO, hR⟩ := QTm.back hB1 ht hFc hR (fun q h => absurd h List.not_mem_nil)
                generalize H1 = H at hP hS ⊢
                have hw : RWX (TC fc_116 (flI (TC (D j).2.2.2.2.2 (D j).2.2.2.2.1) 0 ((D j).2.2.2.2.1 - 0)).length) gg_129.2 gg_129.1 [107] r_250 := hw
                have hw_252 := hw
                refine lv_if_lt (tgt := 208) hx hb dX15_keyOf_189 (by decide) (fun c_253 => ?_) (fun c_253 => ?_)
                ·
                  have ht189 : ¬ TGE (TC fc_116 (flI (TC (D j).2.2.2.2.2 (D j).2.2.2.2.1) 0 ((D j).2.2.2.2.1 - 0)).length) gg_129.2 gg_129.1 [107] := tge_n (rwx_n hw_252 hti2 c_253)
                  refine lv_iconst (v := 1) hx hb dX15_keyOf_208 (by decide) ?_
                  refine lv_goto (tgt := 213) hx hb dX15_keyOf_209 (by decide) ?_
                  refine lv_iand hx hb dX15_keyOf_213 ?_
                  refine lv_topi (fun x_254 ex_254 => ?_)
                  obtain rfl : x_254 = 0 := ex_254.trans (by decide)
                  refine lv_istore_n (lv' := [(2, .int 0), (1, .int (nI j)), (0, .ref h0)]) hx hb dX15_keyOf_214 rfl hl (by decide) rfl (fun ls hl => ?_)
                  refine lv_iload_n hx hb dX15_keyOf_215 rfl (lv_at hl 0 rfl) ?_
                  refine lv_if_eq (tgt := 223) hx hb dX15_keyOf_216 (by decide) (fun c_255 => ?_) (fun c_255 => absurd (by decide) c_255)
                  refine lv_bipush (v := 6) hx hb dX15_keyOf_223 (by decide) ?_
                  refine W.widen (k := 0) (n := 0) (by omega) (by omega) ?_
                  exact W.iret (v := 6) hx hb hr (fun t ht hWm => ⟨⟨6, j, rfl, (Or.inr (Or.inr ⟨hH3, hjz, hj0, hjs, hv2, Or.inr ⟨kyo_n hgt (by have h9 := (show ¬ KYB (TC fc_116 (flI (TC (D j).2.2.2.2.2 (D j).2.2.2.2.1) 0 ((D j).2.2.2.2.1 - 0)).length) gg_129.2 gg_129.1 from fun q => orp0 hw_239 c_240 q.1); rw [hwT] at h9; exact h9), rfl⟩⟩)), ⟨F_223, f2_224, QTm.mk ht hP hD hO hR, (fun q => absurd (kyx_2 q rfl).2 (kyo_n hgt (by have h9 := (show ¬ KYB (TC fc_116 (flI (TC (D j).2.2.2.2.2 (D j).2.2.2.2.1) 0 ((D j).2.2.2.2.1 - 0)).length) gg_129.2 gg_129.1 from fun q => orp0 hw_239 c_240 q.1); rw [hwT] at h9; exact h9)))⟩⟩, hS.F ht⟩) hS.2.2 dX15_keyOf_225
                ·
                  have ht189 : TGE (TC fc_116 (flI (TC (D j).2.2.2.2.2 (D j).2.2.2.2.1) 0 ((D j).2.2.2.2.1 - 0)).length) gg_129.2 gg_129.1 [107] := by obtain ⟨k9, h1, -, h3, -⟩ := rwx_y hw_252 c_253; exact ⟨k9, h1, h3⟩
                  refine lv_aload_n hx hb dX15_keyOf_192 rfl (lv_at hl 2 rfl) ?_
                  refine pg_get (ci := 15) (v := .ref ke) (C := RX15) (T := TX15) (N := 59) hx hb hts it_15 hown hK hP hL_h0 hF_229 rfl 36 (by decide) (hts _ kt_925) (fun _ h9 => h9) rfl dX15_keyOf_193 ?_
                  refine va_ldcwS hx hb hown hr_q_248 dX15_keyOf_196 ?_
                  obtain ⟨q_256, v_257, hr_q_256, hX_q_256⟩ := hG.2.2 ("PostGateModel", 539, "rsa", [114, 115, 97]) (by decide +kernel)
                  have hX_q_256 : SXc q_256 v_257 3 (cct [114, 115, 97]) A s s.heap := hX_q_256
                  obtain ⟨xo_q_256, xc_q_256, xv_q_256, xt_q_256, xn_q_256⟩ := id hX_q_256
                  have hr_q_256 : vk_R "PostGateModel" 539 "rsa" q_256 s := hr_q_256
                  refine va_ldcwS hx hb hown hr_q_256 dX15_keyOf_199 ?_
                  have hFc := pg_free hD hS hA
                  refine va_calli (va_runV (As := [.ref q_248, .ref q_256]) (rest := [.int 0]) ⟨hx, hb, hml, hown, hts⟩ (s_X13_has_x l dC dI cs ty gm L H.size F_223 ke (ρ + 13) x_5 700 700 y0_6 y1_7 y2_8 r_37 ((flI (TC (D j).2.2.2.2.2 (D j).2.2.2.2.1) 0 ((D j).2.2.2.2.1 - 0)).length) gg_129.1 fc_116 p0_132 p1_133 p2_134 gg_129.2 q_248 v_249 1 (cct [107]) q_256 v_257 3 (cct [114, 115, 97]) ([107]) RSA3 hW hi_31 ht_32 hi_33 ht_38 hF_233 hF_234 (by omega) hF_235 hF_236 hF_237 hF_238 (hti2) (hHL) (hti1) (by omega) (⟨rfl, by decide +kernel⟩) (⟨rfl, by decide +kernel⟩)) ⟨callB_of 2 hts (gi kt_863) rfl rfl rfl (hts _ kt_829) (hts _ kt_864) (by decide +kernel) ⟨Nat.le_of_ble_eq_true rfl, Nat.le_of_ble_eq_true rfl⟩, (hts _ kt_865), (hts _ kt_866)⟩ ⟨fun a U g mk q => ⟨q.1, PTEm.calling q.2⟩, pg_recv hK hP hi_31 hF_235 (q := (RX13, TX13, 5)) rfl, fun U hU hWm => ⟨rfl, PTEm.mk hU hWm hP hK hD hE hO hG (fun x hx => by simp only [List.mem_cons, List.not_mem_nil, or_false] at hx; rcases hx with hx | hx <;> subst hx <;> first | exact hX_q_248 | exact hX_q_256) hS hFc⟩⟩ rfl rfl hl.1 rfl (lv_room (Nat.le_of_ble_eq_true rfl)) dX15_keyOf_202 ⟨by show _ + 0 ≤ 0; omega, by show _ + 0 ≤ 0; omega⟩) hS (fun q _ h => hFc q h) hFc (fun r_258 u t H1 locs ht hvm hw hB hz1 hk1 hS => ?_)
                  obtain ⟨F_259, hB1⟩ := hB
                  obtain rfl : F_223 = F_259 := (funext (fun a => hB1.2.2.2 a List.not_mem_nil)).symm
                  obtain ⟨hP, hD, hO, hR⟩ := QTm.back hB1 ht hFc hR (fun q h => absurd h List.not_mem_nil)
                  generalize H1 = H at hP hS ⊢
                  have hw : ((r_258 = 1 ∧ TGV (TC fc_116 (flI (TC (D j).2.2.2.2.2 (D j).2.2.2.2.1) 0 ((D j).2.2.2.2.1 - 0)).length) gg_129.2 gg_129.1 [107] RSA3) ∨ (r_258 = 0 ∧ ¬ TGV (TC fc_116 (flI (TC (D j).2.2.2.2.2 (D j).2.2.2.2.1) 0 ((D j).2.2.2.2.1 - 0)).length) gg_129.2 gg_129.1 [107] RSA3)) := hw
                  have hw_260 := hw
                  refine lv_if_eq (tgt := 212) hx hb dX15_keyOf_205 (by decide) (fun c_261 => ?_) (fun c_261 => ?_)
                  ·
                    refine lv_iconst (v := 0) hx hb dX15_keyOf_212 (by decide) ?_
                    refine lv_iand hx hb dX15_keyOf_213 ?_
                    refine lv_topi (fun x_262 ex_262 => ?_)
                    obtain rfl : x_262 = 0 := ex_262.trans (by decide)
                    refine lv_istore_n (lv' := [(2, .int 0), (1, .int (nI j)), (0, .ref h0)]) hx hb dX15_keyOf_214 rfl hl (by decide) rfl (fun ls hl => ?_)
                    refine lv_iload_n hx hb dX15_keyOf_215 rfl (lv_at hl 0 rfl) ?_
                    refine lv_if_eq (tgt := 223) hx hb dX15_keyOf_216 (by decide) (fun c_263 => ?_) (fun c_263 => absurd (by decide) c_263)
                    refine lv_bipush (v := 6) hx hb dX15_keyOf_223 (by decide) ?_
                    refine W.widen (k := 0) (n := 0) (by omega) (by omega) ?_
                    exact W.iret (v := 6) hx hb hr (fun t ht hWm => ⟨⟨6, j, rfl, (Or.inr (Or.inr ⟨hH3, hjz, hj0, hjs, hv2, Or.inr ⟨kyo_n hgt (by have h9 := (show ¬ KYB (TC fc_116 (flI (TC (D j).2.2.2.2.2 (D j).2.2.2.2.1) 0 ((D j).2.2.2.2.1 - 0)).length) gg_129.2 gg_129.1 from fun q => orp0 hw_239 c_240 q.1); rw [hwT] at h9; exact h9), rfl⟩⟩)), ⟨F_223, f2_224, QTm.mk ht hP hD hO hR, (fun q => absurd (kyx_2 q rfl).2 (kyo_n hgt (by have h9 := (show ¬ KYB (TC fc_116 (flI (TC (D j).2.2.2.2.2 (D j).2.2.2.2.1) 0 ((D j).2.2.2.2.1 - 0)).length) gg_129.2 gg_129.1 from fun q => orp0 hw_239 c_240 q.1); rw [hwT] at h9; exact h9)))⟩⟩, hS.F ht⟩) hS.2.2 dX15_keyOf_225
                  ·
                    refine lv_iconst (v := 1) hx hb dX15_keyOf_208 (by decide) ?_
                    refine lv_goto (tgt := 213) hx hb dX15_keyOf_209 (by decide) ?_
                    refine lv_iand hx hb dX15_keyOf_213 ?_
                    refine lv_topi (fun x_264 ex_264 => ?_)
                    obtain rfl : x_264 = 0 := ex_264.trans (by decide)
                    refine lv_istore_n (lv' := [(2, .int 0), (1, .int (nI j)), (0, .ref h0)]) hx hb dX15_keyOf_214 rfl hl (by decide) rfl (fun ls hl => ?_)
                    refine lv_iload_n hx hb dX15_keyOf_215 rfl (lv_at hl 0 rfl) ?_
                    refine lv_if_eq (tgt := 223) hx hb dX15_keyOf_216 (by decide) (fun c_265 => ?_) (fun c_265 => absurd (by decide) c_265)
                    refine lv_bipush (v := 6) hx hb dX15_keyOf_223 (by decide) ?_
                    refine W.widen (k := 0) (n := 0) (by omega) (by omega) ?_
                    exact W.iret (v := 6) hx hb hr (fun t ht hWm => ⟨⟨6, j, rfl, (Or.inr (Or.inr ⟨hH3, hjz, hj0, hjs, hv2, Or.inr ⟨kyo_n hgt (by have h9 := (show ¬ KYB (TC fc_116 (flI (TC (D j).2.2.2.2.2 (D j).2.2.2.2.1) 0 ((D j).2.2.2.2.1 - 0)).length) gg_129.2 gg_129.1 from fun q => orp0 hw_239 c_240 q.1); rw [hwT] at h9; exact h9), rfl⟩⟩)), ⟨F_223, f2_224, QTm.mk ht hP hD hO hR, (fun q => absurd (kyx_2 q rfl).2 (kyo_n hgt (by have h9 := (show ¬ KYB (TC fc_116 (flI (TC (D j).2.2.2.2.2 (D j).2.2.2.2.1) 0 ((D j).2.2.2.2.1 - 0)).length) gg_129.2 gg_129.1 from fun q => orp0 hw_239 c_240 q.1); rw [hwT] at h9; exact h9)))⟩⟩, hS.F ht⟩) hS.2.2 dX15_keyOf_225
              ·
                have ht152 : TGE (TC fc_116 (flI (TC (D j).2.2.2.2.2 (D j).2.2.2.2.1) 0 ((D j).2.2.2.2.1 - 0)).length) gg_129.2 gg_129.1 [118] := by obtain ⟨k9, h1, -, h3, -⟩ := rwx_y hw_245 c_246; exact ⟨k9, h1, h3⟩
                refine lv_aload_n hx hb dX15_keyOf_155 rfl (lv_at hl 2 rfl) ?_
                refine pg_get (ci := 15) (v := .ref ke) (C := RX15) (T := TX15) (N := 59) hx hb hts it_15 hown hK hP hL_h0 hF_229 rfl 36 (by decide) (hts _ kt_925) (fun _ h9 => h9) rfl dX15_keyOf_156 ?_
                refine va_ldcwS hx hb hown hr_q_241 dX15_keyOf_159 ?_
                obtain ⟨q_266, v_267, hr_q_266, hX_q_266⟩ := hG.2.2 ("PostGateModel", 535, "DKIM1", [68, 75, 73, 77, 49]) (by decide +kernel)
                have hX_q_266 : SXc q_266 v_267 5 (cct [68, 75, 73, 77, 49]) A s s.heap := hX_q_266
                obtain ⟨xo_q_266, xc_q_266, xv_q_266, xt_q_266, xn_q_266⟩ := id hX_q_266
                have hr_q_266 : vk_R "PostGateModel" 535 "DKIM1" q_266 s := hr_q_266
                refine va_ldcwS hx hb hown hr_q_266 dX15_keyOf_162 ?_
                have hFc := pg_free hD hS hA
                refine va_calli (va_runV (As := [.ref q_241, .ref q_266]) (rest := [.int 0]) ⟨hx, hb, hml, hown, hts⟩ (s_X13_has_x l dC dI cs ty gm L H.size F_223 ke (ρ + 13) x_5 700 700 y0_6 y1_7 y2_8 r_37 ((flI (TC (D j).2.2.2.2.2 (D j).2.2.2.2.1) 0 ((D j).2.2.2.2.1 - 0)).length) gg_129.1 fc_116 p0_132 p1_133 p2_134 gg_129.2 q_241 v_242 1 (cct [118]) q_266 v_267 5 (cct [68, 75, 73, 77, 49]) ([118]) DKM hW hi_31 ht_32 hi_33 ht_38 hF_233 hF_234 (by omega) hF_235 hF_236 hF_237 hF_238 (hti2) (hHL) (hti1) (by omega) (⟨rfl, by decide +kernel⟩) (⟨rfl, by decide +kernel⟩)) ⟨callB_of 2 hts (gi kt_863) rfl rfl rfl (hts _ kt_829) (hts _ kt_864) (by decide +kernel) ⟨Nat.le_of_ble_eq_true rfl, Nat.le_of_ble_eq_true rfl⟩, (hts _ kt_865), (hts _ kt_866)⟩ ⟨fun a U g mk q => ⟨q.1, PTEm.calling q.2⟩, pg_recv hK hP hi_31 hF_235 (q := (RX13, TX13, 5)) rfl, fun U hU hWm => ⟨rfl, PTEm.mk hU hWm hP hK hD hE hO hG (fun x hx => by simp only [List.mem_cons, List.not_mem_nil, or_false] at hx; rcases hx with hx | hx <;> subst hx <;> first | exact hX_q_241 | exact hX_q_266) hS hFc⟩⟩ rfl rfl hl.1 rfl (lv_room (Nat.le_of_ble_eq_true rfl)) dX15_keyOf_165 ⟨by show _ + 0 ≤ 0; omega, by show _ + 0 ≤ 0; omega⟩) hS (fun q _ h => hFc q h) hFc (fun r_268 u t H1 locs ht hvm hw hB hz1 hk1 hS => ?_)
                obtain ⟨F_269, hB1⟩ := hB
                obtain rfl : F_223 = F_269 := (funext (fun a => hB1.2.2.2 a List.not_mem_nil)).symm
                obtain ⟨hP, hD, hO, hR⟩ := QTm.back hB1 ht hFc hR (fun q h => absurd h List.not_mem_nil)
                generalize H1 = H at hP hS ⊢
                have hw : ((r_268 = 1 ∧ TGV (TC fc_116 (flI (TC (D j).2.2.2.2.2 (D j).2.2.2.2.1) 0 ((D j).2.2.2.2.1 - 0)).length) gg_129.2 gg_129.1 [118] DKM) ∨ (r_268 = 0 ∧ ¬ TGV (TC fc_116 (flI (TC (D j).2.2.2.2.2 (D j).2.2.2.2.1) 0 ((D j).2.2.2.2.1 - 0)).length) gg_129.2 gg_129.1 [118] DKM)) := hw
                have hw_270 := hw
                refine lv_if_eq (tgt := 175) hx hb dX15_keyOf_168 (by decide) (fun c_271 => ?_) (fun c_271 => ?_)
                ·
                  refine lv_iconst (v := 0) hx hb dX15_keyOf_175 (by decide) ?_
                  refine lv_iand hx hb dX15_keyOf_176 ?_
                  refine lv_topi (fun x_272 ex_272 => ?_)
                  obtain rfl : x_272 = 0 := ex_272.trans (by decide)
                  refine lv_istore_n (lv' := [(2, .int 0), (1, .int (nI j)), (0, .ref h0)]) hx hb dX15_keyOf_177 rfl hl (by decide) rfl (fun ls hl => ?_)
                  refine lv_iload_n hx hb dX15_keyOf_178 rfl (lv_at hl 0 rfl) ?_
                  refine lv_aload_n hx hb dX15_keyOf_179 rfl (lv_at hl 2 rfl) ?_
                  refine pg_get (ci := 15) (v := .ref ke) (C := RX15) (T := TX15) (N := 59) hx hb hts it_15 hown hK hP hL_h0 hF_229 rfl 36 (by decide) (hts _ kt_925) (fun _ h9 => h9) rfl dX15_keyOf_180 ?_
                  obtain ⟨q_273, v_274, hr_q_273, hX_q_273⟩ := hG.2.2 ("PostGateModel", 537, "k", [107]) (by decide +kernel)
                  have hX_q_273 : SXc q_273 v_274 1 (cct [107]) A s s.heap := hX_q_273
                  obtain ⟨xo_q_273, xc_q_273, xv_q_273, xt_q_273, xn_q_273⟩ := id hX_q_273
                  have hr_q_273 : vk_R "PostGateModel" 537 "k" q_273 s := hr_q_273
                  refine va_ldcwS hx hb hown hr_q_273 dX15_keyOf_183 ?_
                  have hFc := pg_free hD hS hA
                  refine va_calli (va_runV (As := [.ref q_273]) (rest := [.int 0]) ⟨hx, hb, hml, hown, hts⟩ (s_X13_find_x l dC dI cs ty gm L H.size F_223 ke (ρ + 13) x_5 700 700 y0_6 y1_7 y2_8 r_37 ((flI (TC (D j).2.2.2.2.2 (D j).2.2.2.2.1) 0 ((D j).2.2.2.2.1 - 0)).length) gg_129.1 fc_116 p0_132 p1_133 p2_134 gg_129.2 q_273 v_274 1 (cct [107]) ([107]) hW hi_31 ht_32 hi_33 ht_38 hF_233 hF_234 (by omega) hF_235 hF_236 hF_237 hF_238 (hti2) (hHL) (hti1) (by omega) (⟨rfl, by decide +kernel⟩)) ⟨callB_of 1 hts (gi kt_828) rfl rfl rfl (hts _ kt_829) (hts _ kt_839) (by decide +kernel) ⟨Nat.le_of_ble_eq_true rfl, Nat.le_of_ble_eq_true rfl⟩, (hts _ kt_831), (hts _ kt_832)⟩ ⟨fun a U g mk q => ⟨q.1, PTEm.calling q.2⟩, pg_recv hK hP hi_31 hF_235 (q := (RX13, TX13, 5)) rfl, fun U hU hWm => ⟨rfl, PTEm.mk hU hWm hP hK hD hE hO hG (fun x hx => by rw [List.mem_singleton] at hx; subst hx; exact hX_q_273) hS hFc⟩⟩ rfl rfl hl.1 rfl (lv_room (Nat.le_of_ble_eq_true rfl)) dX15_keyOf_186 ⟨by show _ + 0 ≤ 0; omega, by show _ + 0 ≤ 0; omega⟩) hS (fun q _ h => hFc q h) hFc (fun r_275 u t H1 locs ht hvm hw hB hz1 hk1 hS => ?_)
                  obtain ⟨F_276, hB1⟩ := hB
                  obtain rfl : F_223 = F_276 := (funext (fun a => hB1.2.2.2 a List.not_mem_nil)).symm
                  obtain ⟨hP, hD, hO, hR⟩ := QTm.back hB1 ht hFc hR (fun q h => absurd h List.not_mem_nil)
                  generalize H1 = H at hP hS ⊢
                  have hw : RWX (TC fc_116 (flI (TC (D j).2.2.2.2.2 (D j).2.2.2.2.1) 0 ((D j).2.2.2.2.1 - 0)).length) gg_129.2 gg_129.1 [107] r_275 := hw
                  have hw_277 := hw
                  refine lv_if_lt (tgt := 208) hx hb dX15_keyOf_189 (by decide) (fun c_278 => ?_) (fun c_278 => ?_)
                  ·
                    have ht189 : ¬ TGE (TC fc_116 (flI (TC (D j).2.2.2.2.2 (D j).2.2.2.2.1) 0 ((D j).2.2.2.2.1 - 0)).length) gg_129.2 gg_129.1 [107] := tge_n (rwx_n hw_277 hti2 c_278)
                    refine lv_iconst (v := 1) hx hb dX15_keyOf_208 (by decide) ?_
                    refine lv_goto (tgt := 213) hx hb dX15_keyOf_209 (by decide) ?_
                    refine lv_iand hx hb dX15_keyOf_213 ?_
                    refine lv_topi (fun x_279 ex_279 => ?_)
                    obtain rfl : x_279 = 0 := ex_279.trans (by decide)
                    refine lv_istore_n (lv' := [(2, .int 0), (1, .int (nI j)), (0, .ref h0)]) hx hb dX15_keyOf_214 rfl hl (by decide) rfl (fun ls hl => ?_)
                    refine lv_iload_n hx hb dX15_keyOf_215 rfl (lv_at hl 0 rfl) ?_
                    refine lv_if_eq (tgt := 223) hx hb dX15_keyOf_216 (by decide) (fun c_280 => ?_) (fun c_280 => absurd (by decide) c_280)
                    refine lv_bipush (v := 6) hx hb dX15_keyOf_223 (by decide) ?_
                    refine W.widen (k := 0) (n := 0) (by omega) (by omega) ?_
                    exact W.iret (v := 6) hx hb hr (fun t ht hWm => ⟨⟨6, j, rfl, (Or.inr (Or.inr ⟨hH3, hjz, hj0, hjs, hv2, Or.inr ⟨kyo_n hgt (by have h9 := (show ¬ KYB (TC fc_116 (flI (TC (D j).2.2.2.2.2 (D j).2.2.2.2.1) 0 ((D j).2.2.2.2.1 - 0)).length) gg_129.2 gg_129.1 from fun q => orp0 hw_239 c_240 q.1); rw [hwT] at h9; exact h9), rfl⟩⟩)), ⟨F_223, f2_224, QTm.mk ht hP hD hO hR, (fun q => absurd (kyx_2 q rfl).2 (kyo_n hgt (by have h9 := (show ¬ KYB (TC fc_116 (flI (TC (D j).2.2.2.2.2 (D j).2.2.2.2.1) 0 ((D j).2.2.2.2.1 - 0)).length) gg_129.2 gg_129.1 from fun q => orp0 hw_239 c_240 q.1); rw [hwT] at h9; exact h9)))⟩⟩, hS.F ht⟩) hS.2.2 dX15_keyOf_225
                  ·
                    have ht189 : TGE (TC fc_116 (flI (TC (D j).2.2.2.2.2 (D j).2.2.2.2.1) 0 ((D j).2.2.2.2.1 - 0)).length) gg_129.2 gg_129.1 [107] := by obtain ⟨k9, h1, -, h3, -⟩ := rwx_y hw_277 c_278; exact ⟨k9, h1, h3⟩
                    refine lv_aload_n hx hb dX15_keyOf_192 rfl (lv_at hl 2 rfl) ?_
                    refine pg_get (ci := 15) (v := .ref ke) (C := RX15) (T := TX15) (N := 59) hx hb hts it_15 hown hK hP hL_h0 hF_229 rfl 36 (by decide) (hts _ kt_925) (fun _ h9 => h9) rfl dX15_keyOf_193 ?_
                    refine va_ldcwS hx hb hown hr_q_273 dX15_keyOf_196 ?_
                    obtain ⟨q_281, v_282, hr_q_281, hX_q_281⟩ := hG.2.2 ("PostGateModel", 539, "rsa", [114, 115, 97]) (by decide +kernel)
                    have hX_q_281 : SXc q_281 v_282 3 (cct [114, 115, 97]) A s s.heap := hX_q_281
                    obtain ⟨xo_q_281, xc_q_281, xv_q_281, xt_q_281, xn_q_281⟩ := id hX_q_281
                    have hr_q_281 : vk_R "PostGateModel" 539 "rsa" q_281 s := hr_q_281
                    refine va_ldcwS hx hb hown hr_q_281 dX15_keyOf_199 ?_
                    have hFc := pg_free hD hS hA
                    refine va_calli (va_runV (As := [.ref q_273, .ref q_281]) (rest := [.int 0]) ⟨hx, hb, hml, hown, hts⟩ (s_X13_has_x l dC dI cs ty gm L H.size F_223 ke (ρ + 13) x_5 700 700 y0_6 y1_7 y2_8 r_37 ((flI (TC (D j).2.2.2.2.2 (D j).2.2.2.2.1) 0 ((D j).2.2.2.2.1 - 0)).length) gg_129.1 fc_116 p0_132 p1_133 p2_134 gg_129.2 q_273 v_274 1 (cct [107]) q_281 v_282 3 (cct [114, 115, 97]) ([107]) RSA3 hW hi_31 ht_32 hi_33 ht_38 hF_233 hF_234 (by omega) hF_235 hF_236 hF_237 hF_238 (hti2) (hHL) (hti1) (by omega) (⟨rfl, by decide +kernel⟩) (⟨rfl, by decide +kernel⟩)) ⟨callB_of 2 hts (gi kt_863) rfl rfl rfl (hts _ kt_829) (hts _ kt_864) (by decide +kernel) ⟨Nat.le_of_ble_eq_true rfl, Nat.le_of_ble_eq_true rfl⟩, (hts _ kt_865), (hts _ kt_866)⟩ ⟨fun a U g mk q => ⟨q.1, PTEm.calling q.2⟩, pg_recv hK hP hi_31 hF_235 (q := (RX13, TX13, 5)) rfl, fun U hU hWm => ⟨rfl, PTEm.mk hU hWm hP hK hD hE hO hG (fun x hx => by simp only [List.mem_cons, List.not_mem_nil, or_false] at hx; rcases hx with hx | hx <;> subst hx <;> first | exact hX_q_273 | exact hX_q_281) hS hFc⟩⟩ rfl rfl hl.1 rfl (lv_room (Nat.le_of_ble_eq_true rfl)) dX15_keyOf_202 ⟨by show _ + 0 ≤ 0; omega, by show _ + 0 ≤ 0; omega⟩) hS (fun q _ h => hFc q h) hFc (fun r_283 u t H1 locs ht hvm hw hB hz1 hk1 hS => ?_)
                    obtain ⟨F_284, hB1⟩ := hB
                    obtain rfl : F_223 = F_284 := (funext (fun a => hB1.2.2.2 a List.not_mem_nil)).symm
                    obtain ⟨hP, hD, hO, hR⟩ := QTm.back hB1 ht hFc hR (fun q h => absurd h List.not_mem_nil)
                    generalize H1 = H at hP hS ⊢
                    have hw : ((r_283 = 1 ∧ TGV (TC fc_116 (flI (TC (D j).2.2.2.2.2 (D j).2.2.2.2.1) 0 ((D j).2.2.2.2.1 - 0)).length) gg_129.2 gg_129.1 [107] RSA3) ∨ (r_283 = 0 ∧ ¬ TGV (TC fc_116 (flI (TC (D j).2.2.2.2.2 (D j).2.2.2.2.1) 0 ((D j).2.2.2.2.1 - 0)).length) gg_129.2 gg_129.1 [107] RSA3)) := hw
                    have hw_285 := hw
                    refine lv_if_eq (tgt := 212) hx hb dX15_keyOf_205 (by decide) (fun c_286 => ?_) (fun c_286 => ?_)
                    ·
                      refine lv_iconst (v := 0) hx hb dX15_keyOf_212 (by decide) ?_
                      refine lv_iand hx hb dX15_keyOf_213 ?_
                      refine lv_topi (fun x_287 ex_287 => ?_)
                      obtain rfl : x_287 = 0 := ex_287.trans (by decide)
                      refine lv_istore_n (lv' := [(2, .int 0), (1, .int (nI j)), (0, .ref h0)]) hx hb dX15_keyOf_214 rfl hl (by decide) rfl (fun ls hl => ?_)
                      refine lv_iload_n hx hb dX15_keyOf_215 rfl (lv_at hl 0 rfl) ?_
                      refine lv_if_eq (tgt := 223) hx hb dX15_keyOf_216 (by decide) (fun c_288 => ?_) (fun c_288 => absurd (by decide) c_288)
                      refine lv_bipush (v := 6) hx hb dX15_keyOf_223 (by decide) ?_
                      refine W.widen (k := 0) (n := 0) (by omega) (by omega) ?_
                      exact W.iret (v := 6) hx hb hr (fun t ht hWm => ⟨⟨6, j, rfl, (Or.inr (Or.inr ⟨hH3, hjz, hj0, hjs, hv2, Or.inr ⟨kyo_n hgt (by have h9 := (show ¬ KYB (TC fc_116 (flI (TC (D j).2.2.2.2.2 (D j).2.2.2.2.1) 0 ((D j).2.2.2.2.1 - 0)).length) gg_129.2 gg_129.1 from fun q => orp0 hw_239 c_240 q.1); rw [hwT] at h9; exact h9), rfl⟩⟩)), ⟨F_223, f2_224, QTm.mk ht hP hD hO hR, (fun q => absurd (kyx_2 q rfl).2 (kyo_n hgt (by have h9 := (show ¬ KYB (TC fc_116 (flI (TC (D j).2.2.2.2.2 (D j).2.2.2.2.1) 0 ((D j).2.2.2.2.1 - 0)).length) gg_129.2 gg_129.1 from fun q => orp0 hw_239 c_240 q.1); rw [hwT] at h9; exact h9)))⟩⟩, hS.F ht⟩) hS.2.2 dX15_keyOf_225
                    ·
                      refine lv_iconst (v := 1) hx hb dX15_keyOf_208 (by decide) ?_
                      refine lv_goto (tgt := 213) hx hb dX15_keyOf_209 (by decide) ?_
                      refine lv_iand hx hb dX15_keyOf_213 ?_
                      refine lv_topi (fun x_289 ex_289 => ?_)
                      obtain rfl : x_289 = 0 := ex_289.trans (by decide)
                      refine lv_istore_n (lv' := [(2, .int 0), (1, .int (nI j)), (0, .ref h0)]) hx hb dX15_keyOf_214 rfl hl (by decide) rfl (fun ls hl => ?_)
                      refine lv_iload_n hx hb dX15_keyOf_215 rfl (lv_at hl 0 rfl) ?_
                      refine lv_if_eq (tgt := 223) hx hb dX15_keyOf_216 (by decide) (fun c_290 => ?_) (fun c_290 => absurd (by decide) c_290)
                      refine lv_bipush (v := 6) hx hb dX15_keyOf_223 (by decide) ?_
                      refine W.widen (k := 0) (n := 0) (by omega) (by omega) ?_
                      exact W.iret (v := 6) hx hb hr (fun t ht hWm => ⟨⟨6, j, rfl, (Or.inr (Or.inr ⟨hH3, hjz, hj0, hjs, hv2, Or.inr ⟨kyo_n hgt (by have h9 := (show ¬ KYB (TC fc_116 (flI (TC (D j).2.2.2.2.2 (D j).2.2.2.2.1) 0 ((D j).2.2.2.2.1 - 0)).length) gg_129.2 gg_129.1 from fun q => orp0 hw_239 c_240 q.1); rw [hwT] at h9; exact h9), rfl⟩⟩)), ⟨F_223, f2_224, QTm.mk ht hP hD hO hR, (fun q => absurd (kyx_2 q rfl).2 (kyo_n hgt (by have h9 := (show ¬ KYB (TC fc_116 (flI (TC (D j).2.2.2.2.2 (D j).2.2.2.2.1) 0 ((D j).2.2.2.2.1 - 0)).length) gg_129.2 gg_129.1 from fun q => orp0 hw_239 c_240 q.1); rw [hwT] at h9; exact h9)))⟩⟩, hS.F ht⟩) hS.2.2 dX15_keyOf_225
                ·
                  refine lv_iconst (v := 1) hx hb dX15_keyOf_171 (by decide) ?_
                  refine lv_goto (tgt := 176) hx hb dX15_keyOf_172 (by decide) ?_
                  refine lv_iand hx hb dX15_keyOf_176 ?_
                  refine lv_topi (fun x_291 ex_291 => ?_)
                  obtain rfl : x_291 = 0 := ex_291.trans (by decide)
                  refine lv_istore_n (lv' := [(2, .int 0), (1, .int (nI j)), (0, .ref h0)]) hx hb dX15_keyOf_177 rfl hl (by decide) rfl (fun ls hl => ?_)
                  refine lv_iload_n hx hb dX15_keyOf_178 rfl (lv_at hl 0 rfl) ?_
                  refine lv_aload_n hx hb dX15_keyOf_179 rfl (lv_at hl 2 rfl) ?_
                  refine pg_get (ci := 15) (v := .ref ke) (C := RX15) (T := TX15) (N := 59) hx hb hts it_15 hown hK hP hL_h0 hF_229 rfl 36 (by decide) (hts _ kt_925) (fun _ h9 => h9) rfl dX15_keyOf_180 ?_
                  obtain ⟨q_292, v_293, hr_q_292, hX_q_292⟩ := hG.2.2 ("PostGateModel", 537, "k", [107]) (by decide +kernel)
                  have hX_q_292 : SXc q_292 v_293 1 (cct [107]) A s s.heap := hX_q_292
                  obtain ⟨xo_q_292, xc_q_292, xv_q_292, xt_q_292, xn_q_292⟩ := id hX_q_292
                  have hr_q_292 : vk_R "PostGateModel" 537 "k" q_292 s := hr_q_292
                  refine va_ldcwS hx hb hown hr_q_292 dX15_keyOf_183 ?_
                  have hFc := pg_free hD hS hA
                  refine va_calli (va_runV (As := [.ref q_292]) (rest := [.int 0]) ⟨hx, hb, hml, hown, hts⟩ (s_X13_find_x l dC dI cs ty gm L H.size F_223 ke (ρ + 13) x_5 700 700 y0_6 y1_7 y2_8 r_37 ((flI (TC (D j).2.2.2.2.2 (D j).2.2.2.2.1) 0 ((D j).2.2.2.2.1 - 0)).length) gg_129.1 fc_116 p0_132 p1_133 p2_134 gg_129.2 q_292 v_293 1 (cct [107]) ([107]) hW hi_31 ht_32 hi_33 ht_38 hF_233 hF_234 (by omega) hF_235 hF_236 hF_237 hF_238 (hti2) (hHL) (hti1) (by omega) (⟨rfl, by decide +kernel⟩)) ⟨callB_of 1 hts (gi kt_828) rfl rfl rfl (hts _ kt_829) (hts _ kt_839) (by decide +kernel) ⟨Nat.le_of_ble_eq_true rfl, Nat.le_of_ble_eq_true rfl⟩, (hts _ kt_831), (hts _ kt_832)⟩ ⟨fun a U g mk q => ⟨q.1, PTEm.calling q.2⟩, pg_recv hK hP hi_31 hF_235 (q := (RX13, TX13, 5)) rfl, fun U hU hWm => ⟨rfl, PTEm.mk hU hWm hP hK hD hE hO hG (fun x hx => by rw [List.mem_singleton] at hx; subst hx; exact hX_q_292) hS hFc⟩⟩ rfl rfl hl.1 rfl (lv_room (Nat.le_of_ble_eq_true rfl)) dX15_keyOf_186 ⟨by show _ + 0 ≤ 0; omega, by show _ + 0 ≤ 0; omega⟩) hS (fun q _ h => hFc q h) hFc (fun r_294 u t H1 locs ht hvm hw hB hz1 hk1 hS => ?_)
                  obtain ⟨F_295, hB1⟩ := hB
                  obtain rfl : F_223 = F_295 := (funext (fun a => hB1.2.2.2 a List.not_mem_nil)).symm
                  obtain ⟨hP, hD, hO, hR⟩ := QTm.back hB1 ht hFc hR (fun q h => absurd h List.not_mem_nil)
                  generalize H1 = H at hP hS ⊢
                  have hw : RWX (TC fc_116 (flI (TC (D j).2.2.2.2.2 (D j).2.2.2.2.1) 0 ((D j).2.2.2.2.1 - 0)).length) gg_129.2 gg_129.1 [107] r_294 := hw
                  have hw_296 := hw
                  refine lv_if_lt (tgt := 208) hx hb dX15_keyOf_189 (by decide) (fun c_297 => ?_) (fun c_297 => ?_)
                  ·
                    have ht189 : ¬ TGE (TC fc_116 (flI (TC (D j).2.2.2.2.2 (D j).2.2.2.2.1) 0 ((D j).2.2.2.2.1 - 0)).length) gg_129.2 gg_129.1 [107] := tge_n (rwx_n hw_296 hti2 c_297)
                    refine lv_iconst (v := 1) hx hb dX15_keyOf_208 (by decide) ?_
                    refine lv_goto (tgt := 213) hx hb dX15_keyOf_209 (by decide) ?_
                    refine lv_iand hx hb dX15_keyOf_213 ?_
                    refine lv_topi (fun x_298 ex_298 => ?_)
                    obtain rfl : x_298 = 0 := ex_298.trans (by decide)
                    refine lv_istore_n (lv' := [(2, .int 0), (1, .int (nI j)), (0, .ref h0)]) hx hb dX15_keyOf_214 rfl hl (by decide) rfl (fun ls hl => ?_)
                    refine lv_iload_n hx hb dX15_keyOf_215 rfl (lv_at hl 0 rfl) ?_
                    refine lv_if_eq (tgt := 223) hx hb dX15_keyOf_216 (by decide) (fun c_299 => ?_) (fun c_299 => absurd (by decide) c_299)
                    refine lv_bipush (v := 6) hx hb dX15_keyOf_223 (by decide) ?_
                    refine W.widen (k := 0) (n := 0) (by omega) (by omega) ?_
                    exact W.iret (v := 6) hx hb hr (fun t ht hWm => ⟨⟨6, j, rfl, (Or.inr (Or.inr ⟨hH3, hjz, hj0, hjs, hv2, Or.inr ⟨kyo_n hgt (by have h9 := (show ¬ KYB (TC fc_116 (flI (TC (D j).2.2.2.2.2 (D j).2.2.2.2.1) 0 ((D j).2.2.2.2.1 - 0)).length) gg_129.2 gg_129.1 from fun q => orp0 hw_239 c_240 q.1); rw [hwT] at h9; exact h9), rfl⟩⟩)), ⟨F_223, f2_224, QTm.mk ht hP hD hO hR, (fun q => absurd (kyx_2 q rfl).2 (kyo_n hgt (by have h9 := (show ¬ KYB (TC fc_116 (flI (TC (D j).2.2.2.2.2 (D j).2.2.2.2.1) 0 ((D j).2.2.2.2.1 - 0)).length) gg_129.2 gg_129.1 from fun q => orp0 hw_239 c_240 q.1); rw [hwT] at h9; exact h9)))⟩⟩, hS.F ht⟩) hS.2.2 dX15_keyOf_225
                  ·
                    have ht189 : TGE (TC fc_116 (flI (TC (D j).2.2.2.2.2 (D j).2.2.2.2.1) 0 ((D j).2.2.2.2.1 - 0)).length) gg_129.2 gg_129.1 [107] := by obtain ⟨k9, h1, -, h3, -⟩ := rwx_y hw_296 c_297; exact ⟨k9, h1, h3⟩
                    refine lv_aload_n hx hb dX15_keyOf_192 rfl (lv_at hl 2 rfl) ?_
                    refine pg_get (ci := 15) (v := .ref ke) (C := RX15) (T := TX15) (N := 59) hx hb hts it_15 hown hK hP hL_h0 hF_229 rfl 36 (by decide) (hts _ kt_925) (fun _ h9 => h9) rfl dX15_keyOf_193 ?_
                    refine va_ldcwS hx hb hown hr_q_292 dX15_keyOf_196 ?_
                    obtain ⟨q_300, v_301, hr_q_300, hX_q_300⟩ := hG.2.2 ("PostGateModel", 539, "rsa", [114, 115, 97]) (by decide +kernel)
                    have hX_q_300 : SXc q_300 v_301 3 (cct [114, 115, 97]) A s s.heap := hX_q_300
                    obtain ⟨xo_q_300, xc_q_300, xv_q_300, xt_q_300, xn_q_300⟩ := id hX_q_300
                    have hr_q_300 : vk_R "PostGateModel" 539 "rsa" q_300 s := hr_q_300
                    refine va_ldcwS hx hb hown hr_q_300 dX15_keyOf_199 ?_
                    have hFc := pg_free hD hS hA
                    refine va_calli (va_runV (As := [.ref q_292, .ref q_300]) (rest := [.int 0]) ⟨hx, hb, hml, hown, hts⟩ (s_X13_has_x l dC dI cs ty gm L H.size F_223 ke (ρ + 13) x_5 700 700 y0_6 y1_7 y2_8 r_37 ((flI (TC (D j).2.2.2.2.2 (D j).2.2.2.2.1) 0 ((D j).2.2.2.2.1 - 0)).length) gg_129.1 fc_116 p0_132 p1_133 p2_134 gg_129.2 q_292 v_293 1 (cct [107]) q_300 v_301 3 (cct [114, 115, 97]) ([107]) RSA3 hW hi_31 ht_32 hi_33 ht_38 hF_233 hF_234 (by omega) hF_235 hF_236 hF_237 hF_238 (hti2) (hHL) (hti1) (by omega) (⟨rfl, by decide +kernel⟩) (⟨rfl, by decide +kernel⟩)) ⟨callB_of 2 hts (gi kt_863) rfl rfl rfl (hts _ kt_829) (hts _ kt_864) (by decide +kernel) ⟨Nat.le_of_ble_eq_true rfl, Nat.le_of_ble_eq_true rfl⟩, (hts _ kt_865), (hts _ kt_866)⟩ ⟨fun a U g mk q => ⟨q.1, PTEm.calling q.2⟩, pg_recv hK hP hi_31 hF_235 (q := (RX13, TX13, 5)) rfl, fun U hU hWm => ⟨rfl, PTEm.mk hU hWm hP hK hD hE hO hG (fun x hx => by simp only [List.mem_cons, List.not_mem_nil, or_false] at hx; rcases hx with hx | hx <;> subst hx <;> first | exact hX_q_292 | exact hX_q_300) hS hFc⟩⟩ rfl rfl hl.1 rfl (lv_room (Nat.le_of_ble_eq_true rfl)) dX15_keyOf_202 ⟨by show _ + 0 ≤ 0; omega, by show _ + 0 ≤ 0; omega⟩) hS (fun q _ h => hFc q h) hFc (fun r_302 u t H1 locs ht hvm hw hB hz1 hk1 hS => ?_)
                    obtain ⟨F_303, hB1⟩ := hB
                    obtain rfl : F_223 = F_303 := (funext (fun a => hB1.2.2.2 a List.not_mem_nil)).symm
                    obtain ⟨hP, hD, hO, hR⟩ := QTm.back hB1 ht hFc hR (fun q h => absurd h List.not_mem_nil)
                    generalize H1 = H at hP hS ⊢
                    have hw : ((r_302 = 1 ∧ TGV (TC fc_116 (flI (TC (D j).2.2.2.2.2 (D j).2.2.2.2.1) 0 ((D j).2.2.2.2.1 - 0)).length) gg_129.2 gg_129.1 [107] RSA3) ∨ (r_302 = 0 ∧ ¬ TGV (TC fc_116 (flI (TC (D j).2.2.2.2.2 (D j).2.2.2.2.1) 0 ((D j).2.2.2.2.1 - 0)).length) gg_129.2 gg_129.1 [107] RSA3)) := hw
                    have hw_304 := hw
                    refine lv_if_eq (tgt := 212) hx hb dX15_keyOf_205 (by decide) (fun c_305 => ?_) (fun c_305 => ?_)
                    ·
                      refine lv_iconst (v := 0) hx hb dX15_keyOf_212 (by decide) ?_
                      refine lv_iand hx hb dX15_keyOf_213 ?_
                      refine lv_topi (fun x_306 ex_306 => ?_)
                      obtain rfl : x_306 = 0 := ex_306.trans (by decide)
                      refine lv_istore_n (lv' := [(2, .int 0), (1, .int (nI j)), (0, .ref h0)]) hx hb dX15_keyOf_214 rfl hl (by decide) rfl (fun ls hl => ?_)
                      refine lv_iload_n hx hb dX15_keyOf_215 rfl (lv_at hl 0 rfl) ?_
                      refine lv_if_eq (tgt := 223) hx hb dX15_keyOf_216 (by decide) (fun c_307 => ?_) (fun c_307 => absurd (by decide) c_307)
                      refine lv_bipush (v := 6) hx hb dX15_keyOf_223 (by decide) ?_
                      refine W.widen (k := 0) (n := 0) (by omega) (by omega) ?_
                      exact W.iret (v := 6) hx hb hr (fun t ht hWm => ⟨⟨6, j, rfl, (Or.inr (Or.inr ⟨hH3, hjz, hj0, hjs, hv2, Or.inr ⟨kyo_n hgt (by have h9 := (show ¬ KYB (TC fc_116 (flI (TC (D j).2.2.2.2.2 (D j).2.2.2.2.1) 0 ((D j).2.2.2.2.1 - 0)).length) gg_129.2 gg_129.1 from fun q => orp0 hw_239 c_240 q.1); rw [hwT] at h9; exact h9), rfl⟩⟩)), ⟨F_223, f2_224, QTm.mk ht hP hD hO hR, (fun q => absurd (kyx_2 q rfl).2 (kyo_n hgt (by have h9 := (show ¬ KYB (TC fc_116 (flI (TC (D j).2.2.2.2.2 (D j).2.2.2.2.1) 0 ((D j).2.2.2.2.1 - 0)).length) gg_129.2 gg_129.1 from fun q => orp0 hw_239 c_240 q.1); rw [hwT] at h9; exact h9)))⟩⟩, hS.F ht⟩) hS.2.2 dX15_keyOf_225
                    ·
                      refine lv_iconst (v := 1) hx hb dX15_keyOf_208 (by decide) ?_
                      refine lv_goto (tgt := 213) hx hb dX15_keyOf_209 (by decide) ?_
                      refine lv_iand hx hb dX15_keyOf_213 ?_
                      refine lv_topi (fun x_308 ex_308 => ?_)
                      obtain rfl : x_308 = 0 := ex_308.trans (by decide)
                      refine lv_istore_n (lv' := [(2, .int 0), (1, .int (nI j)), (0, .ref h0)]) hx hb dX15_keyOf_214 rfl hl (by decide) rfl (fun ls hl => ?_)
                      refine lv_iload_n hx hb dX15_keyOf_215 rfl (lv_at hl 0 rfl) ?_
                      refine lv_if_eq (tgt := 223) hx hb dX15_keyOf_216 (by decide) (fun c_309 => ?_) (fun c_309 => absurd (by decide) c_309)
                      refine lv_bipush (v := 6) hx hb dX15_keyOf_223 (by decide) ?_
                      refine W.widen (k := 0) (n := 0) (by omega) (by omega) ?_
                      exact W.iret (v := 6) hx hb hr (fun t ht hWm => ⟨⟨6, j, rfl, (Or.inr (Or.inr ⟨hH3, hjz, hj0, hjs, hv2, Or.inr ⟨kyo_n hgt (by have h9 := (show ¬ KYB (TC fc_116 (flI (TC (D j).2.2.2.2.2 (D j).2.2.2.2.1) 0 ((D j).2.2.2.2.1 - 0)).length) gg_129.2 gg_129.1 from fun q => orp0 hw_239 c_240 q.1); rw [hwT] at h9; exact h9), rfl⟩⟩)), ⟨F_223, f2_224, QTm.mk ht hP hD hO hR, (fun q => absurd (kyx_2 q rfl).2 (kyo_n hgt (by have h9 := (show ¬ KYB (TC fc_116 (flI (TC (D j).2.2.2.2.2 (D j).2.2.2.2.1) 0 ((D j).2.2.2.2.1 - 0)).length) gg_129.2 gg_129.1 from fun q => orp0 hw_239 c_240 q.1); rw [hwT] at h9; exact h9)))⟩⟩, hS.F ht⟩) hS.2.2 dX15_keyOf_225
            ·
              have hD9 := orp1 hw_239 c_240
              have hBM : BYM (kyP (TC fc_116 (flI (TC (D j).2.2.2.2.2 (D j).2.2.2.2.1) 0 ((D j).2.2.2.2.1 - 0)).length) gg_129.2 gg_129.1) 64 f2_224 := hbM hD9
              refine lv_aload_n hx hb dX15_keyOf_113 rfl (lv_at hl 1 rfl) ?_
              refine pg_get (ci := 15) (v := .ref m64) (C := RX15) (T := TX15) (N := 59) hx hb hts it_15 hown hK hP hL_h0 hF_229 rfl 47 (by decide) (hts _ kt_907) (fun _ h9 => h9) rfl dX15_keyOf_114 ?_
              refine lv_iconst (v := 0) hx hb dX15_keyOf_117 (by decide) ?_
              refine pg_bald hx hb hK hP hi_44 1 hq_225 rfl (show vp_in (0 : Int32) 64 from (show vp_in (nI 0) 64 from vp_in_nI (by omega) (by omega))) dX15_keyOf_118 ?_
              refine lv_topi (fun x_310 ex_310 => ?_)
              obtain rfl : x_310 = (vp_nar .byte (nI ((kyP (TC fc_116 (flI (TC (D j).2.2.2.2.2 (D j).2.2.2.2.1) 0 ((D j).2.2.2.2.1 - 0)).length) gg_129.2 gg_129.1) 0))) := ex_310.trans ((congrArg f2_224 (by decide)).trans (hBM 0 (by omega)).2)
              refine lv_if_ge (tgt := 139) hx hb dX15_keyOf_119 (by decide) (fun c_311 => ?_) (fun c_311 => ?_)
              ·
                have h128 : ¬ 128 ≤ (kyP (TC fc_116 (flI (TC (D j).2.2.2.2.2 (D j).2.2.2.2.1) 0 ((D j).2.2.2.2.1 - 0)).length) gg_129.2 gg_129.1) 0 := (kyb_s _ (hBM 0 (by omega)).1).mp c_311
                refine lv_iconst (v := 0) hx hb dX15_keyOf_139 (by decide) ?_
                refine lv_istore_n (lv' := [(2, .int 0), (1, .int (nI j)), (0, .ref h0)]) hx hb dX15_keyOf_140 rfl hl (by decide) rfl (fun ls hl => ?_)
                refine lv_iload_n hx hb dX15_keyOf_141 rfl (lv_at hl 0 rfl) ?_
                refine lv_aload_n hx hb dX15_keyOf_142 rfl (lv_at hl 2 rfl) ?_
                refine pg_get (ci := 15) (v := .ref ke) (C := RX15) (T := TX15) (N := 59) hx hb hts it_15 hown hK hP hL_h0 hF_229 rfl 36 (by decide) (hts _ kt_925) (fun _ h9 => h9) rfl dX15_keyOf_143 ?_
                obtain ⟨q_312, v_313, hr_q_312, hX_q_312⟩ := hG.2.2 ("PostGateModel", 444, "v", [118]) (by decide +kernel)
                have hX_q_312 : SXc q_312 v_313 1 (cct [118]) A s s.heap := hX_q_312
                obtain ⟨xo_q_312, xc_q_312, xv_q_312, xt_q_312, xn_q_312⟩ := id hX_q_312
                have hr_q_312 : vk_R "PostGateModel" 444 "v" q_312 s := hr_q_312
                refine va_ldcwS hx hb hown hr_q_312 dX15_keyOf_146 ?_
                have hFc := pg_free hD hS hA
                refine va_calli (va_runV (As := [.ref q_312]) (rest := [.int 0]) ⟨hx, hb, hml, hown, hts⟩ (s_X13_find_x l dC dI cs ty gm L H.size F_223 ke (ρ + 13) x_5 700 700 y0_6 y1_7 y2_8 r_37 ((flI (TC (D j).2.2.2.2.2 (D j).2.2.2.2.1) 0 ((D j).2.2.2.2.1 - 0)).length) gg_129.1 fc_116 p0_132 p1_133 p2_134 gg_129.2 q_312 v_313 1 (cct [118]) ([118]) hW hi_31 ht_32 hi_33 ht_38 hF_233 hF_234 (by omega) hF_235 hF_236 hF_237 hF_238 (hti2) (hHL) (hti1) (by omega) (⟨rfl, by decide +kernel⟩)) ⟨callB_of 1 hts (gi kt_828) rfl rfl rfl (hts _ kt_829) (hts _ kt_839) (by decide +kernel) ⟨Nat.le_of_ble_eq_true rfl, Nat.le_of_ble_eq_true rfl⟩, (hts _ kt_831), (hts _ kt_832)⟩ ⟨fun a U g mk q => ⟨q.1, PTEm.calling q.2⟩, pg_recv hK hP hi_31 hF_235 (q := (RX13, TX13, 5)) rfl, fun U hU hWm => ⟨rfl, PTEm.mk hU hWm hP hK hD hE hO hG (fun x hx => by rw [List.mem_singleton] at hx; subst hx; exact hX_q_312) hS hFc⟩⟩ rfl rfl hl.1 rfl (lv_room (Nat.le_of_ble_eq_true rfl)) dX15_keyOf_149 ⟨by show _ + 0 ≤ 0; omega, by show _ + 0 ≤ 0; omega⟩) hS (fun q _ h => hFc q h) hFc (fun r_314 u t H1 locs ht hvm hw hB hz1 hk1 hS => ?_)
                obtain ⟨F_315, hB1⟩ := hB
                obtain rfl : F_223 = F_315 := (funext (fun a => hB1.2.2.2 a List.not_mem_nil)).symm
                obtain ⟨hP, hD, hO, hR⟩ := QTm.back hB1 ht hFc hR (fun q h => absurd h List.not_mem_nil)
                generalize H1 = H at hP hS ⊢
                have hw : RWX (TC fc_116 (flI (TC (D j).2.2.2.2.2 (D j).2.2.2.2.1) 0 ((D j).2.2.2.2.1 - 0)).length) gg_129.2 gg_129.1 [118] r_314 := hw
                have hw_316 := hw
                refine lv_if_lt (tgt := 171) hx hb dX15_keyOf_152 (by decide) (fun c_317 => ?_) (fun c_317 => ?_)
                ·
                  have ht152 : ¬ TGE (TC fc_116 (flI (TC (D j).2.2.2.2.2 (D j).2.2.2.2.1) 0 ((D j).2.2.2.2.1 - 0)).length) gg_129.2 gg_129.1 [118] := tge_n (rwx_n hw_316 hti2 c_317)
                  refine lv_iconst (v := 1) hx hb dX15_keyOf_171 (by decide) ?_
                  refine lv_goto (tgt := 176) hx hb dX15_keyOf_172 (by decide) ?_
                  refine lv_iand hx hb dX15_keyOf_176 ?_
                  refine lv_topi (fun x_318 ex_318 => ?_)
                  obtain rfl : x_318 = 0 := ex_318.trans (by decide)
                  refine lv_istore_n (lv' := [(2, .int 0), (1, .int (nI j)), (0, .ref h0)]) hx hb dX15_keyOf_177 rfl hl (by decide) rfl (fun ls hl => ?_)
                  refine lv_iload_n hx hb dX15_keyOf_178 rfl (lv_at hl 0 rfl) ?_
                  refine lv_aload_n hx hb dX15_keyOf_179 rfl (lv_at hl 2 rfl) ?_
                  refine pg_get (ci := 15) (v := .ref ke) (C := RX15) (T := TX15) (N := 59) hx hb hts it_15 hown hK hP hL_h0 hF_229 rfl 36 (by decide) (hts _ kt_925) (fun _ h9 => h9) rfl dX15_keyOf_180 ?_
                  obtain ⟨q_319, v_320, hr_q_319, hX_q_319⟩ := hG.2.2 ("PostGateModel", 537, "k", [107]) (by decide +kernel)
                  have hX_q_319 : SXc q_319 v_320 1 (cct [107]) A s s.heap := hX_q_319
                  obtain ⟨xo_q_319, xc_q_319, xv_q_319, xt_q_319, xn_q_319⟩ := id hX_q_319
                  have hr_q_319 : vk_R "PostGateModel" 537 "k" q_319 s := hr_q_319
                  refine va_ldcwS hx hb hown hr_q_319 dX15_keyOf_183 ?_
                  have hFc := pg_free hD hS hA
                  refine va_calli (va_runV (As := [.ref q_319]) (rest := [.int 0]) ⟨hx, hb, hml, hown, hts⟩ (s_X13_find_x l dC dI cs ty gm L H.size F_223 ke (ρ + 13) x_5 700 700 y0_6 y1_7 y2_8 r_37 ((flI (TC (D j).2.2.2.2.2 (D j).2.2.2.2.1) 0 ((D j).2.2.2.2.1 - 0)).length) gg_129.1 fc_116 p0_132 p1_133 p2_134 gg_129.2 q_319 v_320 1 (cct [107]) ([107]) hW hi_31 ht_32 hi_33 ht_38 hF_233 hF_234 (by omega) hF_235 hF_236 hF_237 hF_238 (hti2) (hHL) (hti1) (by omega) (⟨rfl, by decide +kernel⟩)) ⟨callB_of 1 hts (gi kt_828) rfl rfl rfl (hts _ kt_829) (hts _ kt_839) (by decide +kernel) ⟨Nat.le_of_ble_eq_true rfl, Nat.le_of_ble_eq_true rfl⟩, (hts _ kt_831), (hts _ kt_832)⟩ ⟨fun a U g mk q => ⟨q.1, PTEm.calling q.2⟩, pg_recv hK hP hi_31 hF_235 (q := (RX13, TX13, 5)) rfl, fun U hU hWm => ⟨rfl, PTEm.mk hU hWm hP hK hD hE hO hG (fun x hx => by rw [List.mem_singleton] at hx; subst hx; exact hX_q_319) hS hFc⟩⟩ rfl rfl hl.1 rfl (lv_room (Nat.le_of_ble_eq_true rfl)) dX15_keyOf_186 ⟨by show _ + 0 ≤ 0; omega, by show _ + 0 ≤ 0; omega⟩) hS (fun q _ h => hFc q h) hFc (fun r_321 u t H1 locs ht hvm hw hB hz1 hk1 hS => ?_)
                  obtain ⟨F_322, hB1⟩ := hB
                  obtain rfl : F_223 = F_322 := (funext (fun a => hB1.2.2.2 a List.not_mem_nil)).symm
                  obtain ⟨hP, hD, hO, hR⟩ := QTm.back hB1 ht hFc hR (fun q h => absurd h List.not_mem_nil)
                  generalize H1 = H at hP hS ⊢
                  have hw : RWX (TC fc_116 (flI (TC (D j).2.2.2.2.2 (D j).2.2.2.2.1) 0 ((D j).2.2.2.2.1 - 0)).length) gg_129.2 gg_129.1 [107] r_321 := hw
                  have hw_323 := hw
                  refine lv_if_lt (tgt := 208) hx hb dX15_keyOf_189 (by decide) (fun c_324 => ?_) (fun c_324 => ?_)
                  ·
                    have ht189 : ¬ TGE (TC fc_116 (flI (TC (D j).2.2.2.2.2 (D j).2.2.2.2.1) 0 ((D j).2.2.2.2.1 - 0)).length) gg_129.2 gg_129.1 [107] := tge_n (rwx_n hw_323 hti2 c_324)
                    refine lv_iconst (v := 1) hx hb dX15_keyOf_208 (by decide) ?_
                    refine lv_goto (tgt := 213) hx hb dX15_keyOf_209 (by decide) ?_
                    refine lv_iand hx hb dX15_keyOf_213 ?_
                    refine lv_topi (fun x_325 ex_325 => ?_)
                    obtain rfl : x_325 = 0 := ex_325.trans (by decide)
                    refine lv_istore_n (lv' := [(2, .int 0), (1, .int (nI j)), (0, .ref h0)]) hx hb dX15_keyOf_214 rfl hl (by decide) rfl (fun ls hl => ?_)
                    refine lv_iload_n hx hb dX15_keyOf_215 rfl (lv_at hl 0 rfl) ?_
                    refine lv_if_eq (tgt := 223) hx hb dX15_keyOf_216 (by decide) (fun c_326 => ?_) (fun c_326 => absurd (by decide) c_326)
                    refine lv_bipush (v := 6) hx hb dX15_keyOf_223 (by decide) ?_
                    refine W.widen (k := 0) (n := 0) (by omega) (by omega) ?_
                    exact W.iret (v := 6) hx hb hr (fun t ht hWm => ⟨⟨6, j, rfl, (Or.inr (Or.inr ⟨hH3, hjz, hj0, hjs, hv2, Or.inr ⟨kyo_n hgt (by have h9 := (show ¬ KYB (TC fc_116 (flI (TC (D j).2.2.2.2.2 (D j).2.2.2.2.1) 0 ((D j).2.2.2.2.1 - 0)).length) gg_129.2 gg_129.1 from fun q => h128 q.2.2.2.1); rw [hwT] at h9; exact h9), rfl⟩⟩)), ⟨F_223, f2_224, QTm.mk ht hP hD hO hR, (fun q => absurd (kyx_2 q rfl).2 (kyo_n hgt (by have h9 := (show ¬ KYB (TC fc_116 (flI (TC (D j).2.2.2.2.2 (D j).2.2.2.2.1) 0 ((D j).2.2.2.2.1 - 0)).length) gg_129.2 gg_129.1 from fun q => h128 q.2.2.2.1); rw [hwT] at h9; exact h9)))⟩⟩, hS.F ht⟩) hS.2.2 dX15_keyOf_225
                  ·
                    have ht189 : TGE (TC fc_116 (flI (TC (D j).2.2.2.2.2 (D j).2.2.2.2.1) 0 ((D j).2.2.2.2.1 - 0)).length) gg_129.2 gg_129.1 [107] := by obtain ⟨k9, h1, -, h3, -⟩ := rwx_y hw_323 c_324; exact ⟨k9, h1, h3⟩
                    refine lv_aload_n hx hb dX15_keyOf_192 rfl (lv_at hl 2 rfl) ?_
                    refine pg_get (ci := 15) (v := .ref ke) (C := RX15) (T := TX15) (N := 59) hx hb hts it_15 hown hK hP hL_h0 hF_229 rfl 36 (by decide) (hts _ kt_925) (fun _ h9 => h9) rfl dX15_keyOf_193 ?_
                    refine va_ldcwS hx hb hown hr_q_319 dX15_keyOf_196 ?_
                    obtain ⟨q_327, v_328, hr_q_327, hX_q_327⟩ := hG.2.2 ("PostGateModel", 539, "rsa", [114, 115, 97]) (by decide +kernel)
                    have hX_q_327 : SXc q_327 v_328 3 (cct [114, 115, 97]) A s s.heap := hX_q_327
                    obtain ⟨xo_q_327, xc_q_327, xv_q_327, xt_q_327, xn_q_327⟩ := id hX_q_327
                    have hr_q_327 : vk_R "PostGateModel" 539 "rsa" q_327 s := hr_q_327
                    refine va_ldcwS hx hb hown hr_q_327 dX15_keyOf_199 ?_
                    have hFc := pg_free hD hS hA
                    refine va_calli (va_runV (As := [.ref q_319, .ref q_327]) (rest := [.int 0]) ⟨hx, hb, hml, hown, hts⟩ (s_X13_has_x l dC dI cs ty gm L H.size F_223 ke (ρ + 13) x_5 700 700 y0_6 y1_7 y2_8 r_37 ((flI (TC (D j).2.2.2.2.2 (D j).2.2.2.2.1) 0 ((D j).2.2.2.2.1 - 0)).length) gg_129.1 fc_116 p0_132 p1_133 p2_134 gg_129.2 q_319 v_320 1 (cct [107]) q_327 v_328 3 (cct [114, 115, 97]) ([107]) RSA3 hW hi_31 ht_32 hi_33 ht_38 hF_233 hF_234 (by omega) hF_235 hF_236 hF_237 hF_238 (hti2) (hHL) (hti1) (by omega) (⟨rfl, by decide +kernel⟩) (⟨rfl, by decide +kernel⟩)) ⟨callB_of 2 hts (gi kt_863) rfl rfl rfl (hts _ kt_829) (hts _ kt_864) (by decide +kernel) ⟨Nat.le_of_ble_eq_true rfl, Nat.le_of_ble_eq_true rfl⟩, (hts _ kt_865), (hts _ kt_866)⟩ ⟨fun a U g mk q => ⟨q.1, PTEm.calling q.2⟩, pg_recv hK hP hi_31 hF_235 (q := (RX13, TX13, 5)) rfl, fun U hU hWm => ⟨rfl, PTEm.mk hU hWm hP hK hD hE hO hG (fun x hx => by simp only [List.mem_cons, List.not_mem_nil, or_false] at hx; rcases hx with hx | hx <;> subst hx <;> first | exact hX_q_319 | exact hX_q_327) hS hFc⟩⟩ rfl rfl hl.1 rfl (lv_room (Nat.le_of_ble_eq_true rfl)) dX15_keyOf_202 ⟨by show _ + 0 ≤ 0; omega, by show _ + 0 ≤ 0; omega⟩) hS (fun q _ h => hFc q h) hFc (fun r_329 u t H1 locs ht hvm hw hB hz1 hk1 hS => ?_)
                    obtain ⟨F_330, hB1⟩ := hB
                    obtain rfl : F_223 = F_330 := (funext (fun a => hB1.2.2.2 a List.not_mem_nil)).symm
                    obtain ⟨hP, hD, hO, hR⟩ := QTm.back hB1 ht hFc hR (fun q h => absurd h List.not_mem_nil)
                    generalize H1 = H at hP hS ⊢
                    have hw : ((r_329 = 1 ∧ TGV (TC fc_116 (flI (TC (D j).2.2.2.2.2 (D j).2.2.2.2.1) 0 ((D j).2.2.2.2.1 - 0)).length) gg_129.2 gg_129.1 [107] RSA3) ∨ (r_329 = 0 ∧ ¬ TGV (TC fc_116 (flI (TC (D j).2.2.2.2.2 (D j).2.2.2.2.1) 0 ((D j).2.2.2.2.1 - 0)).length) gg_129.2 gg_129.1 [107] RSA3)) := hw
                    have hw_331 := hw
                    refine lv_if_eq (tgt := 212) hx hb dX15_keyOf_205 (by decide) (fun c_332 => ?_) (fun c_332 => ?_)
                    ·
                      refine lv_iconst (v := 0) hx hb dX15_keyOf_212 (by decide) ?_
                      refine lv_iand hx hb dX15_keyOf_213 ?_
                      refine lv_topi (fun x_333 ex_333 => ?_)
                      obtain rfl : x_333 = 0 := ex_333.trans (by decide)
                      refine lv_istore_n (lv' := [(2, .int 0), (1, .int (nI j)), (0, .ref h0)]) hx hb dX15_keyOf_214 rfl hl (by decide) rfl (fun ls hl => ?_)
                      refine lv_iload_n hx hb dX15_keyOf_215 rfl (lv_at hl 0 rfl) ?_
                      refine lv_if_eq (tgt := 223) hx hb dX15_keyOf_216 (by decide) (fun c_334 => ?_) (fun c_334 => absurd (by decide) c_334)
                      refine lv_bipush (v := 6) hx hb dX15_keyOf_223 (by decide) ?_
                      refine W.widen (k := 0) (n := 0) (by omega) (by omega) ?_
                      exact W.iret (v := 6) hx hb hr (fun t ht hWm => ⟨⟨6, j, rfl, (Or.inr (Or.inr ⟨hH3, hjz, hj0, hjs, hv2, Or.inr ⟨kyo_n hgt (by have h9 := (show ¬ KYB (TC fc_116 (flI (TC (D j).2.2.2.2.2 (D j).2.2.2.2.1) 0 ((D j).2.2.2.2.1 - 0)).length) gg_129.2 gg_129.1 from fun q => h128 q.2.2.2.1); rw [hwT] at h9; exact h9), rfl⟩⟩)), ⟨F_223, f2_224, QTm.mk ht hP hD hO hR, (fun q => absurd (kyx_2 q rfl).2 (kyo_n hgt (by have h9 := (show ¬ KYB (TC fc_116 (flI (TC (D j).2.2.2.2.2 (D j).2.2.2.2.1) 0 ((D j).2.2.2.2.1 - 0)).length) gg_129.2 gg_129.1 from fun q => h128 q.2.2.2.1); rw [hwT] at h9; exact h9)))⟩⟩, hS.F ht⟩) hS.2.2 dX15_keyOf_225
                    ·
                      refine lv_iconst (v := 1) hx hb dX15_keyOf_208 (by decide) ?_
                      refine lv_goto (tgt := 213) hx hb dX15_keyOf_209 (by decide) ?_
                      refine lv_iand hx hb dX15_keyOf_213 ?_
                      refine lv_topi (fun x_335 ex_335 => ?_)
                      obtain rfl : x_335 = 0 := ex_335.trans (by decide)
                      refine lv_istore_n (lv' := [(2, .int 0), (1, .int (nI j)), (0, .ref h0)]) hx hb dX15_keyOf_214 rfl hl (by decide) rfl (fun ls hl => ?_)
                      refine lv_iload_n hx hb dX15_keyOf_215 rfl (lv_at hl 0 rfl) ?_
                      refine lv_if_eq (tgt := 223) hx hb dX15_keyOf_216 (by decide) (fun c_336 => ?_) (fun c_336 => absurd (by decide) c_336)
                      refine lv_bipush (v := 6) hx hb dX15_keyOf_223 (by decide) ?_
                      refine W.widen (k := 0) (n := 0) (by omega) (by omega) ?_
                      exact W.iret (v := 6) hx hb hr (fun t ht hWm => ⟨⟨6, j, rfl, (Or.inr (Or.inr ⟨hH3, hjz, hj0, hjs, hv2, Or.inr ⟨kyo_n hgt (by have h9 := (show ¬ KYB (TC fc_116 (flI (TC (D j).2.2.2.2.2 (D j).2.2.2.2.1) 0 ((D j).2.2.2.2.1 - 0)).length) gg_129.2 gg_129.1 from fun q => h128 q.2.2.2.1); rw [hwT] at h9; exact h9), rfl⟩⟩)), ⟨F_223, f2_224, QTm.mk ht hP hD hO hR, (fun q => absurd (kyx_2 q rfl).2 (kyo_n hgt (by have h9 := (show ¬ KYB (TC fc_116 (flI (TC (D j).2.2.2.2.2 (D j).2.2.2.2.1) 0 ((D j).2.2.2.2.1 - 0)).length) gg_129.2 gg_129.1 from fun q => h128 q.2.2.2.1); rw [hwT] at h9; exact h9)))⟩⟩, hS.F ht⟩) hS.2.2 dX15_keyOf_225
                ·
                  have ht152 : TGE (TC fc_116 (flI (TC (D j).2.2.2.2.2 (D j).2.2.2.2.1) 0 ((D j).2.2.2.2.1 - 0)).length) gg_129.2 gg_129.1 [118] := by obtain ⟨k9, h1, -, h3, -⟩ := rwx_y hw_316 c_317; exact ⟨k9, h1, h3⟩
                  refine lv_aload_n hx hb dX15_keyOf_155 rfl (lv_at hl 2 rfl) ?_
                  refine pg_get (ci := 15) (v := .ref ke) (C := RX15) (T := TX15) (N := 59) hx hb hts it_15 hown hK hP hL_h0 hF_229 rfl 36 (by decide) (hts _ kt_925) (fun _ h9 => h9) rfl dX15_keyOf_156 ?_
                  refine va_ldcwS hx hb hown hr_q_312 dX15_keyOf_159 ?_
                  obtain ⟨q_337, v_338, hr_q_337, hX_q_337⟩ := hG.2.2 ("PostGateModel", 535, "DKIM1", [68, 75, 73, 77, 49]) (by decide +kernel)
                  have hX_q_337 : SXc q_337 v_338 5 (cct [68, 75, 73, 77, 49]) A s s.heap := hX_q_337
                  obtain ⟨xo_q_337, xc_q_337, xv_q_337, xt_q_337, xn_q_337⟩ := id hX_q_337
                  have hr_q_337 : vk_R "PostGateModel" 535 "DKIM1" q_337 s := hr_q_337
                  refine va_ldcwS hx hb hown hr_q_337 dX15_keyOf_162 ?_
                  have hFc := pg_free hD hS hA
                  refine va_calli (va_runV (As := [.ref q_312, .ref q_337]) (rest := [.int 0]) ⟨hx, hb, hml, hown, hts⟩ (s_X13_has_x l dC dI cs ty gm L H.size F_223 ke (ρ + 13) x_5 700 700 y0_6 y1_7 y2_8 r_37 ((flI (TC (D j).2.2.2.2.2 (D j).2.2.2.2.1) 0 ((D j).2.2.2.2.1 - 0)).length) gg_129.1 fc_116 p0_132 p1_133 p2_134 gg_129.2 q_312 v_313 1 (cct [118]) q_337 v_338 5 (cct [68, 75, 73, 77, 49]) ([118]) DKM hW hi_31 ht_32 hi_33 ht_38 hF_233 hF_234 (by omega) hF_235 hF_236 hF_237 hF_238 (hti2) (hHL) (hti1) (by omega) (⟨rfl, by decide +kernel⟩) (⟨rfl, by decide +kernel⟩)) ⟨callB_of 2 hts (gi kt_863) rfl rfl rfl (hts _ kt_829) (hts _ kt_864) (by decide +kernel) ⟨Nat.le_of_ble_eq_true rfl, Nat.le_of_ble_eq_true rfl⟩, (hts _ kt_865), (hts _ kt_866)⟩ ⟨fun a U g mk q => ⟨q.1, PTEm.calling q.2⟩, pg_recv hK hP hi_31 hF_235 (q := (RX13, TX13, 5)) rfl, fun U hU hWm => ⟨rfl, PTEm.mk hU hWm hP hK hD hE hO hG (fun x hx => by simp only [List.mem_cons, List.not_mem_nil, or_false] at hx; rcases hx with hx | hx <;> subst hx <;> first | exact hX_q_312 | exact hX_q_337) hS hFc⟩⟩ rfl rfl hl.1 rfl (lv_room (Nat.le_of_ble_eq_true rfl)) dX15_keyOf_165 ⟨by show _ + 0 ≤ 0; omega, by show _ + 0 ≤ 0; omega⟩) hS (fun q _ h => hFc q h) hFc (fun r_339 u t H1 locs ht hvm hw hB hz1 hk1 hS => ?_)
                  obtain ⟨F_340, hB1⟩ := hB
                  obtain rfl : F_223 = F_340 := (funext (fun a => hB1.2.2.2 a List.not_mem_nil)).symm
                  obtain ⟨hP, hD, hO, hR⟩ := QTm.back hB1 ht hFc hR (fun q h => absurd h List.not_mem_nil)
                  generalize H1 = H at hP hS ⊢
                  have hw : ((r_339 = 1 ∧ TGV (TC fc_116 (flI (TC (D j).2.2.2.2.2 (D j).2.2.2.2.1) 0 ((D j).2.2.2.2.1 - 0)).length) gg_129.2 gg_129.1 [118] DKM) ∨ (r_339 = 0 ∧ ¬ TGV (TC fc_116 (flI (TC (D j).2.2.2.2.2 (D j).2.2.2.2.1) 0 ((D j).2.2.2.2.1 - 0)).length) gg_129.2 gg_129.1 [118] DKM)) := hw
                  have hw_341 := hw
                  refine lv_if_eq (tgt := 175) hx hb dX15_keyOf_168 (by decide) (fun c_342 => ?_) (fun c_342 => ?_)
                  ·
                    refine lv_iconst (v := 0) hx hb dX15_keyOf_175 (by decide) ?_
                    refine lv_iand hx hb dX15_keyOf_176 ?_
                    refine lv_topi (fun x_343 ex_343 => ?_)
                    obtain rfl : x_343 = 0 := ex_343.trans (by decide)
                    refine lv_istore_n (lv' := [(2, .int 0), (1, .int (nI j)), (0, .ref h0)]) hx hb dX15_keyOf_177 rfl hl (by decide) rfl (fun ls hl => ?_)
                    refine lv_iload_n hx hb dX15_keyOf_178 rfl (lv_at hl 0 rfl) ?_
                    refine lv_aload_n hx hb dX15_keyOf_179 rfl (lv_at hl 2 rfl) ?_
                    refine pg_get (ci := 15) (v := .ref ke) (C := RX15) (T := TX15) (N := 59) hx hb hts it_15 hown hK hP hL_h0 hF_229 rfl 36 (by decide) (hts _ kt_925) (fun _ h9 => h9) rfl dX15_keyOf_180 ?_
                    obtain ⟨q_344, v_345, hr_q_344, hX_q_344⟩ := hG.2.2 ("PostGateModel", 537, "k", [107]) (by decide +kernel)
                    have hX_q_344 : SXc q_344 v_345 1 (cct [107]) A s s.heap := hX_q_344
                    obtain ⟨xo_q_344, xc_q_344, xv_q_344, xt_q_344, xn_q_344⟩ := id hX_q_344
                    have hr_q_344 : vk_R "PostGateModel" 537 "k" q_344 s := hr_q_344
                    refine va_ldcwS hx hb hown hr_q_344 dX15_keyOf_183 ?_
                    have hFc := pg_free hD hS hA
                    refine va_calli (va_runV (As := [.ref q_344]) (rest := [.int 0]) ⟨hx, hb, hml, hown, hts⟩ (s_X13_find_x l dC dI cs ty gm L H.size F_223 ke (ρ + 13) x_5 700 700 y0_6 y1_7 y2_8 r_37 ((flI (TC (D j).2.2.2.2.2 (D j).2.2.2.2.1) 0 ((D j).2.2.2.2.1 - 0)).length) gg_129.1 fc_116 p0_132 p1_133 p2_134 gg_129.2 q_344 v_345 1 (cct [107]) ([107]) hW hi_31 ht_32 hi_33 ht_38 hF_233 hF_234 (by omega) hF_235 hF_236 hF_237 hF_238 (hti2) (hHL) (hti1) (by omega) (⟨rfl, by decide +kernel⟩)) ⟨callB_of 1 hts (gi kt_828) rfl rfl rfl (hts _ kt_829) (hts _ kt_839) (by decide +kernel) ⟨Nat.le_of_ble_eq_true rfl, Nat.le_of_ble_eq_true rfl⟩, (hts _ kt_831), (hts _ kt_832)⟩ ⟨fun a U g mk q => ⟨q.1, PTEm.calling q.2⟩, pg_recv hK hP hi_31 hF_235 (q := (RX13, TX13, 5)) rfl, fun U hU hWm => ⟨rfl, PTEm.mk hU hWm hP hK hD hE hO hG (fun x hx => by rw [List.mem_singleton] at hx; subst hx; exact hX_q_344) hS hFc⟩⟩ rfl rfl hl.1 rfl (lv_room (Nat.le_of_ble_eq_true rfl)) dX15_keyOf_186 ⟨by show _ + 0 ≤ 0; omega, by show _ + 0 ≤ 0; omega⟩) hS (fun q _ h => hFc q h) hFc (fun r_346 u t H1 locs ht hvm hw hB hz1 hk1 hS => ?_)
                    obtain ⟨F_347, hB1⟩ := hB
                    obtain rfl : F_223 = F_347 := (funext (fun a => hB1.2.2.2 a List.not_mem_nil)).symm
                    obtain ⟨hP, hD, hO, hR⟩ := QTm.back hB1 ht hFc hR (fun q h => absurd h List.not_mem_nil)
                    generalize H1 = H at hP hS ⊢
                    have hw : RWX (TC fc_116 (flI (TC (D j).2.2.2.2.2 (D j).2.2.2.2.1) 0 ((D j).2.2.2.2.1 - 0)).length) gg_129.2 gg_129.1 [107] r_346 := hw
                    have hw_348 := hw
                    refine lv_if_lt (tgt := 208) hx hb dX15_keyOf_189 (by decide) (fun c_349 => ?_) (fun c_349 => ?_)
                    ·
                      have ht189 : ¬ TGE (TC fc_116 (flI (TC (D j).2.2.2.2.2 (D j).2.2.2.2.1) 0 ((D j).2.2.2.2.1 - 0)).length) gg_129.2 gg_129.1 [107] := tge_n (rwx_n hw_348 hti2 c_349)
                      refine lv_iconst (v := 1) hx hb dX15_keyOf_208 (by decide) ?_
                      refine lv_goto (tgt := 213) hx hb dX15_keyOf_209 (by decide) ?_
                      refine lv_iand hx hb dX15_keyOf_213 ?_
                      refine lv_topi (fun x_350 ex_350 => ?_)
                      obtain rfl : x_350 = 0 := ex_350.trans (by decide)
                      refine lv_istore_n (lv' := [(2, .int 0), (1, .int (nI j)), (0, .ref h0)]) hx hb dX15_keyOf_214 rfl hl (by decide) rfl (fun ls hl => ?_)
                      refine lv_iload_n hx hb dX15_keyOf_215 rfl (lv_at hl 0 rfl) ?_
                      refine lv_if_eq (tgt := 223) hx hb dX15_keyOf_216 (by decide) (fun c_351 => ?_) (fun c_351 => absurd (by decide) c_351)
                      refine lv_bipush (v := 6) hx hb dX15_keyOf_223 (by decide) ?_
                      refine W.widen (k := 0) (n := 0) (by omega) (by omega) ?_
                      exact W.iret (v := 6) hx hb hr (fun t ht hWm => ⟨⟨6, j, rfl, (Or.inr (Or.inr ⟨hH3, hjz, hj0, hjs, hv2, Or.inr ⟨kyo_n hgt (by have h9 := (show ¬ KYB (TC fc_116 (flI (TC (D j).2.2.2.2.2 (D j).2.2.2.2.1) 0 ((D j).2.2.2.2.1 - 0)).length) gg_129.2 gg_129.1 from fun q => h128 q.2.2.2.1); rw [hwT] at h9; exact h9), rfl⟩⟩)), ⟨F_223, f2_224, QTm.mk ht hP hD hO hR, (fun q => absurd (kyx_2 q rfl).2 (kyo_n hgt (by have h9 := (show ¬ KYB (TC fc_116 (flI (TC (D j).2.2.2.2.2 (D j).2.2.2.2.1) 0 ((D j).2.2.2.2.1 - 0)).length) gg_129.2 gg_129.1 from fun q => h128 q.2.2.2.1); rw [hwT] at h9; exact h9)))⟩⟩, hS.F ht⟩) hS.2.2 dX15_keyOf_225
                    ·
                      have ht189 : TGE (TC fc_116 (flI (TC (D j).2.2.2.2.2 (D j).2.2.2.2.1) 0 ((D j).2.2.2.2.1 - 0)).length) gg_129.2 gg_129.1 [107] := by obtain ⟨k9, h1, -, h3, -⟩ := rwx_y hw_348 c_349; exact ⟨k9, h1, h3⟩
                      refine lv_aload_n hx hb dX15_keyOf_192 rfl (lv_at hl 2 rfl) ?_
                      refine pg_get (ci := 15) (v := .ref ke) (C := RX15) (T := TX15) (N := 59) hx hb hts it_15 hown hK hP hL_h0 hF_229 rfl 36 (by decide) (hts _ kt_925) (fun _ h9 => h9) rfl dX15_keyOf_193 ?_
                      refine va_ldcwS hx hb hown hr_q_344 dX15_keyOf_196 ?_
                      obtain ⟨q_352, v_353, hr_q_352, hX_q_352⟩ := hG.2.2 ("PostGateModel", 539, "rsa", [114, 115, 97]) (by decide +kernel)
                      have hX_q_352 : SXc q_352 v_353 3 (cct [114, 115, 97]) A s s.heap := hX_q_352
                      obtain ⟨xo_q_352, xc_q_352, xv_q_352, xt_q_352, xn_q_352⟩ := id hX_q_352
                      have hr_q_352 : vk_R "PostGateModel" 539 "rsa" q_352 s := hr_q_352
                      refine va_ldcwS hx hb hown hr_q_352 dX15_keyOf_199 ?_
                      have hFc := pg_free hD hS hA
                      refine va_calli (va_runV (As := [.ref q_344, .ref q_352]) (rest := [.int 0]) ⟨hx, hb, hml, hown, hts⟩ (s_X13_has_x l dC dI cs ty gm L H.size F_223 ke (ρ + 13) x_5 700 700 y0_6 y1_7 y2_8 r_37 ((flI (TC (D j).2.2.2.2.2 (D j).2.2.2.2.1) 0 ((D j).2.2.2.2.1 - 0)).length) gg_129.1 fc_116 p0_132 p1_133 p2_134 gg_129.2 q_344 v_345 1 (cct [107]) q_352 v_353 3 (cct [114, 115, 97]) ([107]) RSA3 hW hi_31 ht_32 hi_33 ht_38 hF_233 hF_234 (by omega) hF_235 hF_236 hF_237 hF_238 (hti2) (hHL) (hti1) (by omega) (⟨rfl, by decide +kernel⟩) (⟨rfl, by decide +kernel⟩)) ⟨callB_of 2 hts (gi kt_863) rfl rfl rfl (hts _ kt_829) (hts _ kt_864) (by decide +kernel) ⟨Nat.le_of_ble_eq_true rfl, Nat.le_of_ble_eq_true rfl⟩, (hts _ kt_865), (hts _ kt_866)⟩ ⟨fun a U g mk q => ⟨q.1, PTEm.calling q.2⟩, pg_recv hK hP hi_31 hF_235 (q := (RX13, TX13, 5)) rfl, fun U hU hWm => ⟨rfl, PTEm.mk hU hWm hP hK hD hE hO hG (fun x hx => by simp only [List.mem_cons, List.not_mem_nil, or_false] at hx; rcases hx with hx | hx <;> subst hx <;> first | exact hX_q_344 | exact hX_q_352) hS hFc⟩⟩ rfl rfl hl.1 rfl (lv_room (Nat.le_of_ble_eq_true rfl)) dX15_keyOf_202 ⟨by show _ + 0 ≤ 0; omega, by show _ + 0 ≤ 0; omega⟩) hS (fun q _ h => hFc q h) hFc (fun r_354 u t H1 locs ht hvm hw hB hz1 hk1 hS => ?_)
                      obtain ⟨F_355, hB1⟩ := hB
                      obtain rfl : F_223 = F_355 := (funext (fun a => hB1.2.2.2 a List.not_mem_nil)).symm
                      obtain ⟨hP, hD, hO, hR⟩ := QTm.back hB1 ht hFc hR (fun q h => absurd h List.not_mem_nil)
                      generalize H1 = H at hP hS ⊢
                      have hw : ((r_354 = 1 ∧ TGV (TC fc_116 (flI (TC (D j).2.2.2.2.2 (D j).2.2.2.2.1) 0 ((D j).2.2.2.2.1 - 0)).length) gg_129.2 gg_129.1 [107] RSA3) ∨ (r_354 = 0 ∧ ¬ TGV (TC fc_116 (flI (TC (D j).2.2.2.2.2 (D j).2.2.2.2.1) 0 ((D j).2.2.2.2.1 - 0)).length) gg_129.2 gg_129.1 [107] RSA3)) := hw
                      have hw_356 := hw
                      refine lv_if_eq (tgt := 212) hx hb dX15_keyOf_205 (by decide) (fun c_357 => ?_) (fun c_357 => ?_)
                      ·
                        refine lv_iconst (v := 0) hx hb dX15_keyOf_212 (by decide) ?_
                        refine lv_iand hx hb dX15_keyOf_213 ?_
                        refine lv_topi (fun x_358 ex_358 => ?_)
                        obtain rfl : x_358 = 0 := ex_358.trans (by decide)
                        refine lv_istore_n (lv' := [(2, .int 0), (1, .int (nI j)), (0, .ref h0)]) hx hb dX15_keyOf_214 rfl hl (by decide) rfl (fun ls hl => ?_)
                        refine lv_iload_n hx hb dX15_keyOf_215 rfl (lv_at hl 0 rfl) ?_
                        refine lv_if_eq (tgt := 223) hx hb dX15_keyOf_216 (by decide) (fun c_359 => ?_) (fun c_359 => absurd (by decide) c_359)
                        refine lv_bipush (v := 6) hx hb dX15_keyOf_223 (by decide) ?_
                        refine W.widen (k := 0) (n := 0) (by omega) (by omega) ?_
                        exact W.iret (v := 6) hx hb hr (fun t ht hWm => ⟨⟨6, j, rfl, (Or.inr (Or.inr ⟨hH3, hjz, hj0, hjs, hv2, Or.inr ⟨kyo_n hgt (by have h9 := (show ¬ KYB (TC fc_116 (flI (TC (D j).2.2.2.2.2 (D j).2.2.2.2.1) 0 ((D j).2.2.2.2.1 - 0)).length) gg_129.2 gg_129.1 from fun q => h128 q.2.2.2.1); rw [hwT] at h9; exact h9), rfl⟩⟩)), ⟨F_223, f2_224, QTm.mk ht hP hD hO hR, (fun q => absurd (kyx_2 q rfl).2 (kyo_n hgt (by have h9 := (show ¬ KYB (TC fc_116 (flI (TC (D j).2.2.2.2.2 (D j).2.2.2.2.1) 0 ((D j).2.2.2.2.1 - 0)).length) gg_129.2 gg_129.1 from fun q => h128 q.2.2.2.1); rw [hwT] at h9; exact h9)))⟩⟩, hS.F ht⟩) hS.2.2 dX15_keyOf_225
                      ·
                        refine lv_iconst (v := 1) hx hb dX15_keyOf_208 (by decide) ?_
                        refine lv_goto (tgt := 213) hx hb dX15_keyOf_209 (by decide) ?_
                        refine lv_iand hx hb dX15_keyOf_213 ?_
                        refine lv_topi (fun x_360 ex_360 => ?_)
                        obtain rfl : x_360 = 0 := ex_360.trans (by decide)
                        refine lv_istore_n (lv' := [(2, .int 0), (1, .int (nI j)), (0, .ref h0)]) hx hb dX15_keyOf_214 rfl hl (by decide) rfl (fun ls hl => ?_)
                        refine lv_iload_n hx hb dX15_keyOf_215 rfl (lv_at hl 0 rfl) ?_
                        refine lv_if_eq (tgt := 223) hx hb dX15_keyOf_216 (by decide) (fun c_361 => ?_) (fun c_361 => absurd (by decide) c_361)
                        refine lv_bipush (v := 6) hx hb dX15_keyOf_223 (by decide) ?_
                        refine W.widen (k := 0) (n := 0) (by omega) (by omega) ?_
                        exact W.iret (v := 6) hx hb hr (fun t ht hWm => ⟨⟨6, j, rfl, (Or.inr (Or.inr ⟨hH3, hjz, hj0, hjs, hv2, Or.inr ⟨kyo_n hgt (by have h9 := (show ¬ KYB (TC fc_116 (flI (TC (D j).2.2.2.2.2 (D j).2.2.2.2.1) 0 ((D j).2.2.2.2.1 - 0)).length) gg_129.2 gg_129.1 from fun q => h128 q.2.2.2.1); rw [hwT] at h9; exact h9), rfl⟩⟩)), ⟨F_223, f2_224, QTm.mk ht hP hD hO hR, (fun q => absurd (kyx_2 q rfl).2 (kyo_n hgt (by have h9 := (show ¬ KYB (TC fc_116 (flI (TC (D j).2.2.2.2.2 (D j).2.2.2.2.1) 0 ((D j).2.2.2.2.1 - 0)).length) gg_129.2 gg_129.1 from fun q => h128 q.2.2.2.1); rw [hwT] at h9; exact h9)))⟩⟩, hS.F ht⟩) hS.2.2 dX15_keyOf_225
                  ·
                    refine lv_iconst (v := 1) hx hb dX15_keyOf_171 (by decide) ?_
                    refine lv_goto (tgt := 176) hx hb dX15_keyOf_172 (by decide) ?_
                    refine lv_iand hx hb dX15_keyOf_176 ?_
                    refine lv_topi (fun x_362 ex_362 => ?_)
                    obtain rfl : x_362 = 0 := ex_362.trans (by decide)
                    refine lv_istore_n (lv' := [(2, .int 0), (1, .int (nI j)), (0, .ref h0)]) hx hb dX15_keyOf_177 rfl hl (by decide) rfl (fun ls hl => ?_)
                    refine lv_iload_n hx hb dX15_keyOf_178 rfl (lv_at hl 0 rfl) ?_
                    refine lv_aload_n hx hb dX15_keyOf_179 rfl (lv_at hl 2 rfl) ?_
                    refine pg_get (ci := 15) (v := .ref ke) (C := RX15) (T := TX15) (N := 59) hx hb hts it_15 hown hK hP hL_h0 hF_229 rfl 36 (by decide) (hts _ kt_925) (fun _ h9 => h9) rfl dX15_keyOf_180 ?_
                    obtain ⟨q_363, v_364, hr_q_363, hX_q_363⟩ := hG.2.2 ("PostGateModel", 537, "k", [107]) (by decide +kernel)
                    have hX_q_363 : SXc q_363 v_364 1 (cct [107]) A s s.heap := hX_q_363
                    obtain ⟨xo_q_363, xc_q_363, xv_q_363, xt_q_363, xn_q_363⟩ := id hX_q_363
                    have hr_q_363 : vk_R "PostGateModel" 537 "k" q_363 s := hr_q_363
                    refine va_ldcwS hx hb hown hr_q_363 dX15_keyOf_183 ?_
                    have hFc := pg_free hD hS hA
                    refine va_calli (va_runV (As := [.ref q_363]) (rest := [.int 0]) ⟨hx, hb, hml, hown, hts⟩ (s_X13_find_x l dC dI cs ty gm L H.size F_223 ke (ρ + 13) x_5 700 700 y0_6 y1_7 y2_8 r_37 ((flI (TC (D j).2.2.2.2.2 (D j).2.2.2.2.1) 0 ((D j).2.2.2.2.1 - 0)).length) gg_129.1 fc_116 p0_132 p1_133 p2_134 gg_129.2 q_363 v_364 1 (cct [107]) ([107]) hW hi_31 ht_32 hi_33 ht_38 hF_233 hF_234 (by omega) hF_235 hF_236 hF_237 hF_238 (hti2) (hHL) (hti1) (by omega) (⟨rfl, by decide +kernel⟩)) ⟨callB_of 1 hts (gi kt_828) rfl rfl rfl (hts _ kt_829) (hts _ kt_839) (by decide +kernel) ⟨Nat.le_of_ble_eq_true rfl, Nat.le_of_ble_eq_true rfl⟩, (hts _ kt_831), (hts _ kt_832)⟩ ⟨fun a U g mk q => ⟨q.1, PTEm.calling q.2⟩, pg_recv hK hP hi_31 hF_235 (q := (RX13, TX13, 5)) rfl, fun U hU hWm => ⟨rfl, PTEm.mk hU hWm hP hK hD hE hO hG (fun x hx => by rw [List.mem_singleton] at hx; subst hx; exact hX_q_363) hS hFc⟩⟩ rfl rfl hl.1 rfl (lv_room (Nat.le_of_ble_eq_true rfl)) dX15_keyOf_186 ⟨by show _ + 0 ≤ 0; omega, by show _ + 0 ≤ 0; omega⟩) hS (fun q _ h => hFc q h) hFc (fun r_365 u t H1 locs ht hvm hw hB hz1 hk1 hS => ?_)
                    obtain ⟨F_366, hB1⟩ := hB
                    obtain rfl : F_223 = F_366 := (funext (fun a => hB1.2.2.2 a List.not_mem_nil)).symm
                    obtain ⟨hP, hD, hO, hR⟩ := QTm.back hB1 ht hFc hR (fun q h => absurd h List.not_mem_nil)
                    generalize H1 = H at hP hS ⊢
                    have hw : RWX (TC fc_116 (flI (TC (D j).2.2.2.2.2 (D j).2.2.2.2.1) 0 ((D j).2.2.2.2.1 - 0)).length) gg_129.2 gg_129.1 [107] r_365 := hw
                    have hw_367 := hw
                    refine lv_if_lt (tgt := 208) hx hb dX15_keyOf_189 (by decide) (fun c_368 => ?_) (fun c_368 => ?_)
                    ·
                      have ht189 : ¬ TGE (TC fc_116 (flI (TC (D j).2.2.2.2.2 (D j).2.2.2.2.1) 0 ((D j).2.2.2.2.1 - 0)).length) gg_129.2 gg_129.1 [107] := tge_n (rwx_n hw_367 hti2 c_368)
                      refine lv_iconst (v := 1) hx hb dX15_keyOf_208 (by decide) ?_
                      refine lv_goto (tgt := 213) hx hb dX15_keyOf_209 (by decide) ?_
                      refine lv_iand hx hb dX15_keyOf_213 ?_
                      refine lv_topi (fun x_369 ex_369 => ?_)
                      obtain rfl : x_369 = 0 := ex_369.trans (by decide)
                      refine lv_istore_n (lv' := [(2, .int 0), (1, .int (nI j)), (0, .ref h0)]) hx hb dX15_keyOf_214 rfl hl (by decide) rfl (fun ls hl => ?_)
                      refine lv_iload_n hx hb dX15_keyOf_215 rfl (lv_at hl 0 rfl) ?_
                      refine lv_if_eq (tgt := 223) hx hb dX15_keyOf_216 (by decide) (fun c_370 => ?_) (fun c_370 => absurd (by decide) c_370)
                      refine lv_bipush (v := 6) hx hb dX15_keyOf_223 (by decide) ?_
                      refine W.widen (k := 0) (n := 0) (by omega) (by omega) ?_
                      exact W.iret (v := 6) hx hb hr (fun t ht hWm => ⟨⟨6, j, rfl, (Or.inr (Or.inr ⟨hH3, hjz, hj0, hjs, hv2, Or.inr ⟨kyo_n hgt (by have h9 := (show ¬ KYB (TC fc_116 (flI (TC (D j).2.2.2.2.2 (D j).2.2.2.2.1) 0 ((D j).2.2.2.2.1 - 0)).length) gg_129.2 gg_129.1 from fun q => h128 q.2.2.2.1); rw [hwT] at h9; exact h9), rfl⟩⟩)), ⟨F_223, f2_224, QTm.mk ht hP hD hO hR, (fun q => absurd (kyx_2 q rfl).2 (kyo_n hgt (by have h9 := (show ¬ KYB (TC fc_116 (flI (TC (D j).2.2.2.2.2 (D j).2.2.2.2.1) 0 ((D j).2.2.2.2.1 - 0)).length) gg_129.2 gg_129.1 from fun q => h128 q.2.2.2.1); rw [hwT] at h9; exact h9)))⟩⟩, hS.F ht⟩) hS.2.2 dX15_keyOf_225
                    ·
                      have ht189 : TGE (TC fc_116 (flI (TC (D j).2.2.2.2.2 (D j).2.2.2.2.1) 0 ((D j).2.2.2.2.1 - 0)).length) gg_129.2 gg_129.1 [107] := by obtain ⟨k9, h1, -, h3, -⟩ := rwx_y hw_367 c_368; exact ⟨k9, h1, h3⟩
                      refine lv_aload_n hx hb dX15_keyOf_192 rfl (lv_at hl 2 rfl) ?_
                      refine pg_get (ci := 15) (v := .ref ke) (C := RX15) (T := TX15) (N := 59) hx hb hts it_15 hown hK hP hL_h0 hF_229 rfl 36 (by decide) (hts _ kt_925) (fun _ h9 => h9) rfl dX15_keyOf_193 ?_
                      refine va_ldcwS hx hb hown hr_q_363 dX15_keyOf_196 ?_
                      obtain ⟨q_371, v_372, hr_q_371, hX_q_371⟩ := hG.2.2 ("PostGateModel", 539, "rsa", [114, 115, 97]) (by decide +kernel)
                      have hX_q_371 : SXc q_371 v_372 3 (cct [114, 115, 97]) A s s.heap := hX_q_371
                      obtain ⟨xo_q_371, xc_q_371, xv_q_371, xt_q_371, xn_q_371⟩ := id hX_q_371
                      have hr_q_371 : vk_R "PostGateModel" 539 "rsa" q_371 s := hr_q_371
                      refine va_ldcwS hx hb hown hr_q_371 dX15_keyOf_199 ?_
                      have hFc := pg_free hD hS hA
                      refine va_calli (va_runV (As := [.ref q_363, .ref q_371]) (rest := [.int 0]) ⟨hx, hb, hml, hown, hts⟩ (s_X13_has_x l dC dI cs ty gm L H.size F_223 ke (ρ + 13) x_5 700 700 y0_6 y1_7 y2_8 r_37 ((flI (TC (D j).2.2.2.2.2 (D j).2.2.2.2.1) 0 ((D j).2.2.2.2.1 - 0)).length) gg_129.1 fc_116 p0_132 p1_133 p2_134 gg_129.2 q_363 v_364 1 (cct [107]) q_371 v_372 3 (cct [114, 115, 97]) ([107]) RSA3 hW hi_31 ht_32 hi_33 ht_38 hF_233 hF_234 (by omega) hF_235 hF_236 hF_237 hF_238 (hti2) (hHL) (hti1) (by omega) (⟨rfl, by decide +kernel⟩) (⟨rfl, by decide +kernel⟩)) ⟨callB_of 2 hts (gi kt_863) rfl rfl rfl (hts _ kt_829) (hts _ kt_864) (by decide +kernel) ⟨Nat.le_of_ble_eq_true rfl, Nat.le_of_ble_eq_true rfl⟩, (hts _ kt_865), (hts _ kt_866)⟩ ⟨fun a U g mk q => ⟨q.1, PTEm.calling q.2⟩, pg_recv hK hP hi_31 hF_235 (q := (RX13, TX13, 5)) rfl, fun U hU hWm => ⟨rfl, PTEm.mk hU hWm hP hK hD hE hO hG (fun x hx => by simp only [List.mem_cons, List.not_mem_nil, or_false] at hx; rcases hx with hx | hx <;> subst hx <;> first | exact hX_q_363 | exact hX_q_371) hS hFc⟩⟩ rfl rfl hl.1 rfl (lv_room (Nat.le_of_ble_eq_true rfl)) dX15_keyOf_202 ⟨by show _ + 0 ≤ 0; omega, by show _ + 0 ≤ 0; omega⟩) hS (fun q _ h => hFc q h) hFc (fun r_373 u t H1 locs ht hvm hw hB hz1 hk1 hS => ?_)
                      obtain ⟨F_374, hB1⟩ := hB
                      obtain rfl : F_223 = F_374 := (funext (fun a => hB1.2.2.2 a List.not_mem_nil)).symm
                      obtain ⟨hP, hD, hO, hR⟩ := QTm.back hB1 ht hFc hR (fun q h => absurd h List.not_mem_nil)
                      generalize H1 = H at hP hS ⊢
                      have hw : ((r_373 = 1 ∧ TGV (TC fc_116 (flI (TC (D j).2.2.2.2.2 (D j).2.2.2.2.1) 0 ((D j).2.2.2.2.1 - 0)).length) gg_129.2 gg_129.1 [107] RSA3) ∨ (r_373 = 0 ∧ ¬ TGV (TC fc_116 (flI (TC (D j).2.2.2.2.2 (D j).2.2.2.2.1) 0 ((D j).2.2.2.2.1 - 0)).length) gg_129.2 gg_129.1 [107] RSA3)) := hw
                      have hw_375 := hw
                      refine lv_if_eq (tgt := 212) hx hb dX15_keyOf_205 (by decide) (fun c_376 => ?_) (fun c_376 => ?_)
                      ·
                        refine lv_iconst (v := 0) hx hb dX15_keyOf_212 (by decide) ?_
                        refine lv_iand hx hb dX15_keyOf_213 ?_
                        refine lv_topi (fun x_377 ex_377 => ?_)
                        obtain rfl : x_377 = 0 := ex_377.trans (by decide)
                        refine lv_istore_n (lv' := [(2, .int 0), (1, .int (nI j)), (0, .ref h0)]) hx hb dX15_keyOf_214 rfl hl (by decide) rfl (fun ls hl => ?_)
                        refine lv_iload_n hx hb dX15_keyOf_215 rfl (lv_at hl 0 rfl) ?_
                        refine lv_if_eq (tgt := 223) hx hb dX15_keyOf_216 (by decide) (fun c_378 => ?_) (fun c_378 => absurd (by decide) c_378)
                        refine lv_bipush (v := 6) hx hb dX15_keyOf_223 (by decide) ?_
                        refine W.widen (k := 0) (n := 0) (by omega) (by omega) ?_
                        exact W.iret (v := 6) hx hb hr (fun t ht hWm => ⟨⟨6, j, rfl, (Or.inr (Or.inr ⟨hH3, hjz, hj0, hjs, hv2, Or.inr ⟨kyo_n hgt (by have h9 := (show ¬ KYB (TC fc_116 (flI (TC (D j).2.2.2.2.2 (D j).2.2.2.2.1) 0 ((D j).2.2.2.2.1 - 0)).length) gg_129.2 gg_129.1 from fun q => h128 q.2.2.2.1); rw [hwT] at h9; exact h9), rfl⟩⟩)), ⟨F_223, f2_224, QTm.mk ht hP hD hO hR, (fun q => absurd (kyx_2 q rfl).2 (kyo_n hgt (by have h9 := (show ¬ KYB (TC fc_116 (flI (TC (D j).2.2.2.2.2 (D j).2.2.2.2.1) 0 ((D j).2.2.2.2.1 - 0)).length) gg_129.2 gg_129.1 from fun q => h128 q.2.2.2.1); rw [hwT] at h9; exact h9)))⟩⟩, hS.F ht⟩) hS.2.2 dX15_keyOf_225
                      ·
                        refine lv_iconst (v := 1) hx hb dX15_keyOf_208 (by decide) ?_
                        refine lv_goto (tgt := 213) hx hb dX15_keyOf_209 (by decide) ?_
                        refine lv_iand hx hb dX15_keyOf_213 ?_
                        refine lv_topi (fun x_379 ex_379 => ?_)
                        obtain rfl : x_379 = 0 := ex_379.trans (by decide)
                        refine lv_istore_n (lv' := [(2, .int 0), (1, .int (nI j)), (0, .ref h0)]) hx hb dX15_keyOf_214 rfl hl (by decide) rfl (fun ls hl => ?_)
                        refine lv_iload_n hx hb dX15_keyOf_215 rfl (lv_at hl 0 rfl) ?_
                        refine lv_if_eq (tgt := 223) hx hb dX15_keyOf_216 (by decide) (fun c_380 => ?_) (fun c_380 => absurd (by decide) c_380)
                        refine lv_bipush (v := 6) hx hb dX15_keyOf_223 (by decide) ?_
                        refine W.widen (k := 0) (n := 0) (by omega) (by omega) ?_
                        exact W.iret (v := 6) hx hb hr (fun t ht hWm => ⟨⟨6, j, rfl, (Or.inr (Or.inr ⟨hH3, hjz, hj0, hjs, hv2, Or.inr ⟨kyo_n hgt (by have h9 := (show ¬ KYB (TC fc_116 (flI (TC (D j).2.2.2.2.2 (D j).2.2.2.2.1) 0 ((D j).2.2.2.2.1 - 0)).length) gg_129.2 gg_129.1 from fun q => h128 q.2.2.2.1); rw [hwT] at h9; exact h9), rfl⟩⟩)), ⟨F_223, f2_224, QTm.mk ht hP hD hO hR, (fun q => absurd (kyx_2 q rfl).2 (kyo_n hgt (by have h9 := (show ¬ KYB (TC fc_116 (flI (TC (D j).2.2.2.2.2 (D j).2.2.2.2.1) 0 ((D j).2.2.2.2.1 - 0)).length) gg_129.2 gg_129.1 from fun q => h128 q.2.2.2.1); rw [hwT] at h9; exact h9)))⟩⟩, hS.F ht⟩) hS.2.2 dX15_keyOf_225
              ·
                have h128 : 128 ≤ (kyP (TC fc_116 (flI (TC (D j).2.2.2.2.2 (D j).2.2.2.2.1) 0 ((D j).2.2.2.2.1 - 0)).length) gg_129.2 gg_129.1) 0 := Classical.byContradiction (fun q => c_311 ((kyb_s _ (hBM 0 (by omega)).1).mpr q))
                refine lv_aload_n hx hb dX15_keyOf_122 rfl (lv_at hl 1 rfl) ?_
                refine pg_get (ci := 15) (v := .ref m64) (C := RX15) (T := TX15) (N := 59) hx hb hts it_15 hown hK hP hL_h0 hF_229 rfl 47 (by decide) (hts _ kt_907) (fun _ h9 => h9) rfl dX15_keyOf_123 ?_
                refine lv_bipush (v := 63) hx hb dX15_keyOf_126 (by decide) ?_
                refine pg_bald hx hb hK hP hi_44 1 hq_225 rfl (show vp_in (63 : Int32) 64 from (show vp_in (nI 63) 64 from vp_in_nI (by omega) (by omega))) dX15_keyOf_128 ?_
                refine lv_topi (fun x_381 ex_381 => ?_)
                obtain rfl : x_381 = (vp_nar .byte (nI ((kyP (TC fc_116 (flI (TC (D j).2.2.2.2.2 (D j).2.2.2.2.1) 0 ((D j).2.2.2.2.1 - 0)).length) gg_129.2 gg_129.1) 63))) := ex_381.trans ((congrArg f2_224 (by decide)).trans (hBM 63 (by omega)).2)
                refine lv_iconst (v := 1) hx hb dX15_keyOf_129 (by decide) ?_
                refine lv_iand hx hb dX15_keyOf_130 ?_
                refine lv_topi (fun x_382 ex_382 => ?_)
                obtain rfl : x_382 = (vp_nar .byte (nI ((kyP (TC fc_116 (flI (TC (D j).2.2.2.2.2 (D j).2.2.2.2.1) 0 ((D j).2.2.2.2.1 - 0)).length) gg_129.2 gg_129.1) 63)) &&& 1) := ex_382.trans (rfl)
                refine lv_iconst (v := 1) hx hb dX15_keyOf_131 (by decide) ?_
                refine lv_icmp_ne (tgt := 139) hx hb dX15_keyOf_132 (by decide) (fun c_383 => ?_) (fun c_383 => ?_)
                ·
                  have hodd : ¬ (kyP (TC fc_116 (flI (TC (D j).2.2.2.2.2 (D j).2.2.2.2.1) 0 ((D j).2.2.2.2.1 - 0)).length) gg_129.2 gg_129.1) 63 % 2 = 1 := fun q => c_383 ((kyb_1 _ (hBM 63 (by omega)).1).mpr q)
                  refine lv_iconst (v := 0) hx hb dX15_keyOf_139 (by decide) ?_
                  refine lv_istore_n (lv' := [(2, .int 0), (1, .int (nI j)), (0, .ref h0)]) hx hb dX15_keyOf_140 rfl hl (by decide) rfl (fun ls hl => ?_)
                  refine lv_iload_n hx hb dX15_keyOf_141 rfl (lv_at hl 0 rfl) ?_
                  refine lv_aload_n hx hb dX15_keyOf_142 rfl (lv_at hl 2 rfl) ?_
                  refine pg_get (ci := 15) (v := .ref ke) (C := RX15) (T := TX15) (N := 59) hx hb hts it_15 hown hK hP hL_h0 hF_229 rfl 36 (by decide) (hts _ kt_925) (fun _ h9 => h9) rfl dX15_keyOf_143 ?_
                  obtain ⟨q_384, v_385, hr_q_384, hX_q_384⟩ := hG.2.2 ("PostGateModel", 444, "v", [118]) (by decide +kernel)
                  have hX_q_384 : SXc q_384 v_385 1 (cct [118]) A s s.heap := hX_q_384
                  obtain ⟨xo_q_384, xc_q_384, xv_q_384, xt_q_384, xn_q_384⟩ := id hX_q_384
                  have hr_q_384 : vk_R "PostGateModel" 444 "v" q_384 s := hr_q_384
                  refine va_ldcwS hx hb hown hr_q_384 dX15_keyOf_146 ?_
                  have hFc := pg_free hD hS hA
                  refine va_calli (va_runV (As := [.ref q_384]) (rest := [.int 0]) ⟨hx, hb, hml, hown, hts⟩ (s_X13_find_x l dC dI cs ty gm L H.size F_223 ke (ρ + 13) x_5 700 700 y0_6 y1_7 y2_8 r_37 ((flI (TC (D j).2.2.2.2.2 (D j).2.2.2.2.1) 0 ((D j).2.2.2.2.1 - 0)).length) gg_129.1 fc_116 p0_132 p1_133 p2_134 gg_129.2 q_384 v_385 1 (cct [118]) ([118]) hW hi_31 ht_32 hi_33 ht_38 hF_233 hF_234 (by omega) hF_235 hF_236 hF_237 hF_238 (hti2) (hHL) (hti1) (by omega) (⟨rfl, by decide +kernel⟩)) ⟨callB_of 1 hts (gi kt_828) rfl rfl rfl (hts _ kt_829) (hts _ kt_839) (by decide +kernel) ⟨Nat.le_of_ble_eq_true rfl, Nat.le_of_ble_eq_true rfl⟩, (hts _ kt_831), (hts _ kt_832)⟩ ⟨fun a U g mk q => ⟨q.1, PTEm.calling q.2⟩, pg_recv hK hP hi_31 hF_235 (q := (RX13, TX13, 5)) rfl, fun U hU hWm => ⟨rfl, PTEm.mk hU hWm hP hK hD hE hO hG (fun x hx => by rw [List.mem_singleton] at hx; subst hx; exact hX_q_384) hS hFc⟩⟩ rfl rfl hl.1 rfl (lv_room (Nat.le_of_ble_eq_true rfl)) dX15_keyOf_149 ⟨by show _ + 0 ≤ 0; omega, by show _ + 0 ≤ 0; omega⟩) hS (fun q _ h => hFc q h) hFc (fun r_386 u t H1 locs ht hvm hw hB hz1 hk1 hS => ?_)
                  obtain ⟨F_387, hB1⟩ := hB
                  obtain rfl : F_223 = F_387 := (funext (fun a => hB1.2.2.2 a List.not_mem_nil)).symm
                  obtain ⟨hP, hD, hO, hR⟩ := QTm.back hB1 ht hFc hR (fun q h => absurd h List.not_mem_nil)
                  generalize H1 = H at hP hS ⊢
                  have hw : RWX (TC fc_116 (flI (TC (D j).2.2.2.2.2 (D j).2.2.2.2.1) 0 ((D j).2.2.2.2.1 - 0)).length) gg_129.2 gg_129.1 [118] r_386 := hw
                  have hw_388 := hw
                  refine lv_if_lt (tgt := 171) hx hb dX15_keyOf_152 (by decide) (fun c_389 => ?_) (fun c_389 => ?_)
                  ·
                    have ht152 : ¬ TGE (TC fc_116 (flI (TC (D j).2.2.2.2.2 (D j).2.2.2.2.1) 0 ((D j).2.2.2.2.1 - 0)).length) gg_129.2 gg_129.1 [118] := tge_n (rwx_n hw_388 hti2 c_389)
                    refine lv_iconst (v := 1) hx hb dX15_keyOf_171 (by decide) ?_
                    refine lv_goto (tgt := 176) hx hb dX15_keyOf_172 (by decide) ?_
                    refine lv_iand hx hb dX15_keyOf_176 ?_
                    refine lv_topi (fun x_390 ex_390 => ?_)
                    obtain rfl : x_390 = 0 := ex_390.trans (by decide)
                    refine lv_istore_n (lv' := [(2, .int 0), (1, .int (nI j)), (0, .ref h0)]) hx hb dX15_keyOf_177 rfl hl (by decide) rfl (fun ls hl => ?_)
                    refine lv_iload_n hx hb dX15_keyOf_178 rfl (lv_at hl 0 rfl) ?_
                    refine lv_aload_n hx hb dX15_keyOf_179 rfl (lv_at hl 2 rfl) ?_
                    refine pg_get (ci := 15) (v := .ref ke) (C := RX15) (T := TX15) (N := 59) hx hb hts it_15 hown hK hP hL_h0 hF_229 rfl 36 (by decide) (hts _ kt_925) (fun _ h9 => h9) rfl dX15_keyOf_180 ?_
                    obtain ⟨q_391, v_392, hr_q_391, hX_q_391⟩ := hG.2.2 ("PostGateModel", 537, "k", [107]) (by decide +kernel)
                    have hX_q_391 : SXc q_391 v_392 1 (cct [107]) A s s.heap := hX_q_391
                    obtain ⟨xo_q_391, xc_q_391, xv_q_391, xt_q_391, xn_q_391⟩ := id hX_q_391
                    have hr_q_391 : vk_R "PostGateModel" 537 "k" q_391 s := hr_q_391
                    refine va_ldcwS hx hb hown hr_q_391 dX15_keyOf_183 ?_
                    have hFc := pg_free hD hS hA
                    refine va_calli (va_runV (As := [.ref q_391]) (rest := [.int 0]) ⟨hx, hb, hml, hown, hts⟩ (s_X13_find_x l dC dI cs ty gm L H.size F_223 ke (ρ + 13) x_5 700 700 y0_6 y1_7 y2_8 r_37 ((flI (TC (D j).2.2.2.2.2 (D j).2.2.2.2.1) 0 ((D j).2.2.2.2.1 - 0)).length) gg_129.1 fc_116 p0_132 p1_133 p2_134 gg_129.2 q_391 v_392 1 (cct [107]) ([107]) hW hi_31 ht_32 hi_33 ht_38 hF_233 hF_234 (by omega) hF_235 hF_236 hF_237 hF_238 (hti2) (hHL) (hti1) (by omega) (⟨rfl, by decide +kernel⟩)) ⟨callB_of 1 hts (gi kt_828) rfl rfl rfl (hts _ kt_829) (hts _ kt_839) (by decide +kernel) ⟨Nat.le_of_ble_eq_true rfl, Nat.le_of_ble_eq_true rfl⟩, (hts _ kt_831), (hts _ kt_832)⟩ ⟨fun a U g mk q => ⟨q.1, PTEm.calling q.2⟩, pg_recv hK hP hi_31 hF_235 (q := (RX13, TX13, 5)) rfl, fun U hU hWm => ⟨rfl, PTEm.mk hU hWm hP hK hD hE hO hG (fun x hx => by rw [List.mem_singleton] at hx; subst hx; exact hX_q_391) hS hFc⟩⟩ rfl rfl hl.1 rfl (lv_room (Nat.le_of_ble_eq_true rfl)) dX15_keyOf_186 ⟨by show _ + 0 ≤ 0; omega, by show _ + 0 ≤ 0; omega⟩) hS (fun q _ h => hFc q h) hFc (fun r_393 u t H1 locs ht hvm hw hB hz1 hk1 hS => ?_)
                    obtain ⟨F_394, hB1⟩ := hB
                    obtain rfl : F_223 = F_394 := (funext (fun a => hB1.2.2.2 a List.not_mem_nil)).symm
                    obtain ⟨hP, hD, hO, hR⟩ := QTm.back hB1 ht hFc hR (fun q h => absurd h List.not_mem_nil)
                    generalize H1 = H at hP hS ⊢
                    have hw : RWX (TC fc_116 (flI (TC (D j).2.2.2.2.2 (D j).2.2.2.2.1) 0 ((D j).2.2.2.2.1 - 0)).length) gg_129.2 gg_129.1 [107] r_393 := hw
                    have hw_395 := hw
                    refine lv_if_lt (tgt := 208) hx hb dX15_keyOf_189 (by decide) (fun c_396 => ?_) (fun c_396 => ?_)
                    ·
                      have ht189 : ¬ TGE (TC fc_116 (flI (TC (D j).2.2.2.2.2 (D j).2.2.2.2.1) 0 ((D j).2.2.2.2.1 - 0)).length) gg_129.2 gg_129.1 [107] := tge_n (rwx_n hw_395 hti2 c_396)
                      refine lv_iconst (v := 1) hx hb dX15_keyOf_208 (by decide) ?_
                      refine lv_goto (tgt := 213) hx hb dX15_keyOf_209 (by decide) ?_
                      refine lv_iand hx hb dX15_keyOf_213 ?_
                      refine lv_topi (fun x_397 ex_397 => ?_)
                      obtain rfl : x_397 = 0 := ex_397.trans (by decide)
                      refine lv_istore_n (lv' := [(2, .int 0), (1, .int (nI j)), (0, .ref h0)]) hx hb dX15_keyOf_214 rfl hl (by decide) rfl (fun ls hl => ?_)
                      refine lv_iload_n hx hb dX15_keyOf_215 rfl (lv_at hl 0 rfl) ?_
                      refine lv_if_eq (tgt := 223) hx hb dX15_keyOf_216 (by decide) (fun c_398 => ?_) (fun c_398 => absurd (by decide) c_398)
                      refine lv_bipush (v := 6) hx hb dX15_keyOf_223 (by decide) ?_
                      refine W.widen (k := 0) (n := 0) (by omega) (by omega) ?_
                      exact W.iret (v := 6) hx hb hr (fun t ht hWm => ⟨⟨6, j, rfl, (Or.inr (Or.inr ⟨hH3, hjz, hj0, hjs, hv2, Or.inr ⟨kyo_n hgt (by have h9 := (show ¬ KYB (TC fc_116 (flI (TC (D j).2.2.2.2.2 (D j).2.2.2.2.1) 0 ((D j).2.2.2.2.1 - 0)).length) gg_129.2 gg_129.1 from fun q => hodd q.2.2.2.2); rw [hwT] at h9; exact h9), rfl⟩⟩)), ⟨F_223, f2_224, QTm.mk ht hP hD hO hR, (fun q => absurd (kyx_2 q rfl).2 (kyo_n hgt (by have h9 := (show ¬ KYB (TC fc_116 (flI (TC (D j).2.2.2.2.2 (D j).2.2.2.2.1) 0 ((D j).2.2.2.2.1 - 0)).length) gg_129.2 gg_129.1 from fun q => hodd q.2.2.2.2); rw [hwT] at h9; exact h9)))⟩⟩, hS.F ht⟩) hS.2.2 dX15_keyOf_225
                    ·
                      have ht189 : TGE (TC fc_116 (flI (TC (D j).2.2.2.2.2 (D j).2.2.2.2.1) 0 ((D j).2.2.2.2.1 - 0)).length) gg_129.2 gg_129.1 [107] := by obtain ⟨k9, h1, -, h3, -⟩ := rwx_y hw_395 c_396; exact ⟨k9, h1, h3⟩
                      refine lv_aload_n hx hb dX15_keyOf_192 rfl (lv_at hl 2 rfl) ?_
                      refine pg_get (ci := 15) (v := .ref ke) (C := RX15) (T := TX15) (N := 59) hx hb hts it_15 hown hK hP hL_h0 hF_229 rfl 36 (by decide) (hts _ kt_925) (fun _ h9 => h9) rfl dX15_keyOf_193 ?_
                      refine va_ldcwS hx hb hown hr_q_391 dX15_keyOf_196 ?_
                      obtain ⟨q_399, v_400, hr_q_399, hX_q_399⟩ := hG.2.2 ("PostGateModel", 539, "rsa", [114, 115, 97]) (by decide +kernel)
                      have hX_q_399 : SXc q_399 v_400 3 (cct [114, 115, 97]) A s s.heap := hX_q_399
                      obtain ⟨xo_q_399, xc_q_399, xv_q_399, xt_q_399, xn_q_399⟩ := id hX_q_399
                      have hr_q_399 : vk_R "PostGateModel" 539 "rsa" q_399 s := hr_q_399
                      refine va_ldcwS hx hb hown hr_q_399 dX15_keyOf_199 ?_
                      have hFc := pg_free hD hS hA
                      refine va_calli (va_runV (As := [.ref q_391, .ref q_399]) (rest := [.int 0]) ⟨hx, hb, hml, hown, hts⟩ (s_X13_has_x l dC dI cs ty gm L H.size F_223 ke (ρ + 13) x_5 700 700 y0_6 y1_7 y2_8 r_37 ((flI (TC (D j).2.2.2.2.2 (D j).2.2.2.2.1) 0 ((D j).2.2.2.2.1 - 0)).length) gg_129.1 fc_116 p0_132 p1_133 p2_134 gg_129.2 q_391 v_392 1 (cct [107]) q_399 v_400 3 (cct [114, 115, 97]) ([107]) RSA3 hW hi_31 ht_32 hi_33 ht_38 hF_233 hF_234 (by omega) hF_235 hF_236 hF_237 hF_238 (hti2) (hHL) (hti1) (by omega) (⟨rfl, by decide +kernel⟩) (⟨rfl, by decide +kernel⟩)) ⟨callB_of 2 hts (gi kt_863) rfl rfl rfl (hts _ kt_829) (hts _ kt_864) (by decide +kernel) ⟨Nat.le_of_ble_eq_true rfl, Nat.le_of_ble_eq_true rfl⟩, (hts _ kt_865), (hts _ kt_866)⟩ ⟨fun a U g mk q => ⟨q.1, PTEm.calling q.2⟩, pg_recv hK hP hi_31 hF_235 (q := (RX13, TX13, 5)) rfl, fun U hU hWm => ⟨rfl, PTEm.mk hU hWm hP hK hD hE hO hG (fun x hx => by simp only [List.mem_cons, List.not_mem_nil, or_false] at hx; rcases hx with hx | hx <;> subst hx <;> first | exact hX_q_391 | exact hX_q_399) hS hFc⟩⟩ rfl rfl hl.1 rfl (lv_room (Nat.le_of_ble_eq_true rfl)) dX15_keyOf_202 ⟨by show _ + 0 ≤ 0; omega, by show _ + 0 ≤ 0; omega⟩) hS (fun q _ h => hFc q h) hFc (fun r_401 u t H1 locs ht hvm hw hB hz1 hk1 hS => ?_)
                      obtain ⟨F_402, hB1⟩ := hB
                      obtain rfl : F_223 = F_402 := (funext (fun a => hB1.2.2.2 a List.not_mem_nil)).symm
                      obtain ⟨hP, hD, hO, hR⟩ := QTm.back hB1 ht hFc hR (fun q h => absurd h List.not_mem_nil)
                      generalize H1 = H at hP hS ⊢
                      have hw : ((r_401 = 1 ∧ TGV (TC fc_116 (flI (TC (D j).2.2.2.2.2 (D j).2.2.2.2.1) 0 ((D j).2.2.2.2.1 - 0)).length) gg_129.2 gg_129.1 [107] RSA3) ∨ (r_401 = 0 ∧ ¬ TGV (TC fc_116 (flI (TC (D j).2.2.2.2.2 (D j).2.2.2.2.1) 0 ((D j).2.2.2.2.1 - 0)).length) gg_129.2 gg_129.1 [107] RSA3)) := hw
                      have hw_403 := hw
                      refine lv_if_eq (tgt := 212) hx hb dX15_keyOf_205 (by decide) (fun c_404 => ?_) (fun c_404 => ?_)
                      ·
                        refine lv_iconst (v := 0) hx hb dX15_keyOf_212 (by decide) ?_
                        refine lv_iand hx hb dX15_keyOf_213 ?_
                        refine lv_topi (fun x_405 ex_405 => ?_)
                        obtain rfl : x_405 = 0 := ex_405.trans (by decide)
                        refine lv_istore_n (lv' := [(2, .int 0), (1, .int (nI j)), (0, .ref h0)]) hx hb dX15_keyOf_214 rfl hl (by decide) rfl (fun ls hl => ?_)
                        refine lv_iload_n hx hb dX15_keyOf_215 rfl (lv_at hl 0 rfl) ?_
                        refine lv_if_eq (tgt := 223) hx hb dX15_keyOf_216 (by decide) (fun c_406 => ?_) (fun c_406 => absurd (by decide) c_406)
                        refine lv_bipush (v := 6) hx hb dX15_keyOf_223 (by decide) ?_
                        refine W.widen (k := 0) (n := 0) (by omega) (by omega) ?_
                        exact W.iret (v := 6) hx hb hr (fun t ht hWm => ⟨⟨6, j, rfl, (Or.inr (Or.inr ⟨hH3, hjz, hj0, hjs, hv2, Or.inr ⟨kyo_n hgt (by have h9 := (show ¬ KYB (TC fc_116 (flI (TC (D j).2.2.2.2.2 (D j).2.2.2.2.1) 0 ((D j).2.2.2.2.1 - 0)).length) gg_129.2 gg_129.1 from fun q => hodd q.2.2.2.2); rw [hwT] at h9; exact h9), rfl⟩⟩)), ⟨F_223, f2_224, QTm.mk ht hP hD hO hR, (fun q => absurd (kyx_2 q rfl).2 (kyo_n hgt (by have h9 := (show ¬ KYB (TC fc_116 (flI (TC (D j).2.2.2.2.2 (D j).2.2.2.2.1) 0 ((D j).2.2.2.2.1 - 0)).length) gg_129.2 gg_129.1 from fun q => hodd q.2.2.2.2); rw [hwT] at h9; exact h9)))⟩⟩, hS.F ht⟩) hS.2.2 dX15_keyOf_225
                      ·
                        refine lv_iconst (v := 1) hx hb dX15_keyOf_208 (by decide) ?_
                        refine lv_goto (tgt := 213) hx hb dX15_keyOf_209 (by decide) ?_
                        refine lv_iand hx hb dX15_keyOf_213 ?_
                        refine lv_topi (fun x_407 ex_407 => ?_)
                        obtain rfl : x_407 = 0 := ex_407.trans (by decide)
                        refine lv_istore_n (lv' := [(2, .int 0), (1, .int (nI j)), (0, .ref h0)]) hx hb dX15_keyOf_214 rfl hl (by decide) rfl (fun ls hl => ?_)
                        refine lv_iload_n hx hb dX15_keyOf_215 rfl (lv_at hl 0 rfl) ?_
                        refine lv_if_eq (tgt := 223) hx hb dX15_keyOf_216 (by decide) (fun c_408 => ?_) (fun c_408 => absurd (by decide) c_408)
                        refine lv_bipush (v := 6) hx hb dX15_keyOf_223 (by decide) ?_
                        refine W.widen (k := 0) (n := 0) (by omega) (by omega) ?_
                        exact W.iret (v := 6) hx hb hr (fun t ht hWm => ⟨⟨6, j, rfl, (Or.inr (Or.inr ⟨hH3, hjz, hj0, hjs, hv2, Or.inr ⟨kyo_n hgt (by have h9 := (show ¬ KYB (TC fc_116 (flI (TC (D j).2.2.2.2.2 (D j).2.2.2.2.1) 0 ((D j).2.2.2.2.1 - 0)).length) gg_129.2 gg_129.1 from fun q => hodd q.2.2.2.2); rw [hwT] at h9; exact h9), rfl⟩⟩)), ⟨F_223, f2_224, QTm.mk ht hP hD hO hR, (fun q => absurd (kyx_2 q rfl).2 (kyo_n hgt (by have h9 := (show ¬ KYB (TC fc_116 (flI (TC (D j).2.2.2.2.2 (D j).2.2.2.2.1) 0 ((D j).2.2.2.2.1 - 0)).length) gg_129.2 gg_129.1 from fun q => hodd q.2.2.2.2); rw [hwT] at h9; exact h9)))⟩⟩, hS.F ht⟩) hS.2.2 dX15_keyOf_225
                  ·
                    have ht152 : TGE (TC fc_116 (flI (TC (D j).2.2.2.2.2 (D j).2.2.2.2.1) 0 ((D j).2.2.2.2.1 - 0)).length) gg_129.2 gg_129.1 [118] := by obtain ⟨k9, h1, -, h3, -⟩ := rwx_y hw_388 c_389; exact ⟨k9, h1, h3⟩
                    refine lv_aload_n hx hb dX15_keyOf_155 rfl (lv_at hl 2 rfl) ?_
                    refine pg_get (ci := 15) (v := .ref ke) (C := RX15) (T := TX15) (N := 59) hx hb hts it_15 hown hK hP hL_h0 hF_229 rfl 36 (by decide) (hts _ kt_925) (fun _ h9 => h9) rfl dX15_keyOf_156 ?_
                    refine va_ldcwS hx hb hown hr_q_384 dX15_keyOf_159 ?_
                    obtain ⟨q_409, v_410, hr_q_409, hX_q_409⟩ := hG.2.2 ("PostGateModel", 535, "DKIM1", [68, 75, 73, 77, 49]) (by decide +kernel)
                    have hX_q_409 : SXc q_409 v_410 5 (cct [68, 75, 73, 77, 49]) A s s.heap := hX_q_409
                    obtain ⟨xo_q_409, xc_q_409, xv_q_409, xt_q_409, xn_q_409⟩ := id hX_q_409
                    have hr_q_409 : vk_R "PostGateModel" 535 "DKIM1" q_409 s := hr_q_409
                    refine va_ldcwS hx hb hown hr_q_409 dX15_keyOf_162 ?_
                    have hFc := pg_free hD hS hA
                    refine va_calli (va_runV (As := [.ref q_384, .ref q_409]) (rest := [.int 0]) ⟨hx, hb, hml, hown, hts⟩ (s_X13_has_x l dC dI cs ty gm L H.size F_223 ke (ρ + 13) x_5 700 700 y0_6 y1_7 y2_8 r_37 ((flI (TC (D j).2.2.2.2.2 (D j).2.2.2.2.1) 0 ((D j).2.2.2.2.1 - 0)).length) gg_129.1 fc_116 p0_132 p1_133 p2_134 gg_129.2 q_384 v_385 1 (cct [118]) q_409 v_410 5 (cct [68, 75, 73, 77, 49]) ([118]) DKM hW hi_31 ht_32 hi_33 ht_38 hF_233 hF_234 (by omega) hF_235 hF_236 hF_237 hF_238 (hti2) (hHL) (hti1) (by omega) (⟨rfl, by decide +kernel⟩) (⟨rfl, by decide +kernel⟩)) ⟨callB_of 2 hts (gi kt_863) rfl rfl rfl (hts _ kt_829) (hts _ kt_864) (by decide +kernel) ⟨Nat.le_of_ble_eq_true rfl, Nat.le_of_ble_eq_true rfl⟩, (hts _ kt_865), (hts _ kt_866)⟩ ⟨fun a U g mk q => ⟨q.1, PTEm.calling q.2⟩, pg_recv hK hP hi_31 hF_235 (q := (RX13, TX13, 5)) rfl, fun U hU hWm => ⟨rfl, PTEm.mk hU hWm hP hK hD hE hO hG (fun x hx => by simp only [List.mem_cons, List.not_mem_nil, or_false] at hx; rcases hx with hx | hx <;> subst hx <;> first | exact hX_q_384 | exact hX_q_409) hS hFc⟩⟩ rfl rfl hl.1 rfl (lv_room (Nat.le_of_ble_eq_true rfl)) dX15_keyOf_165 ⟨by show _ + 0 ≤ 0; omega, by show _ + 0 ≤ 0; omega⟩) hS (fun q _ h => hFc q h) hFc (fun r_411 u t H1 locs ht hvm hw hB hz1 hk1 hS => ?_)
                    obtain ⟨F_412, hB1⟩ := hB
                    obtain rfl : F_223 = F_412 := (funext (fun a => hB1.2.2.2 a List.not_mem_nil)).symm
                    obtain ⟨hP, hD, hO, hR⟩ := QTm.back hB1 ht hFc hR (fun q h => absurd h List.not_mem_nil)
                    generalize H1 = H at hP hS ⊢
                    have hw : ((r_411 = 1 ∧ TGV (TC fc_116 (flI (TC (D j).2.2.2.2.2 (D j).2.2.2.2.1) 0 ((D j).2.2.2.2.1 - 0)).length) gg_129.2 gg_129.1 [118] DKM) ∨ (r_411 = 0 ∧ ¬ TGV (TC fc_116 (flI (TC (D j).2.2.2.2.2 (D j).2.2.2.2.1) 0 ((D j).2.2.2.2.1 - 0)).length) gg_129.2 gg_129.1 [118] DKM)) := hw
                    have hw_413 := hw
                    refine lv_if_eq (tgt := 175) hx hb dX15_keyOf_168 (by decide) (fun c_414 => ?_) (fun c_414 => ?_)
                    ·
                      refine lv_iconst (v := 0) hx hb dX15_keyOf_175 (by decide) ?_
                      refine lv_iand hx hb dX15_keyOf_176 ?_
                      refine lv_topi (fun x_415 ex_415 => ?_)
                      obtain rfl : x_415 = 0 := ex_415.trans (by decide)
                      refine lv_istore_n (lv' := [(2, .int 0), (1, .int (nI j)), (0, .ref h0)]) hx hb dX15_keyOf_177 rfl hl (by decide) rfl (fun ls hl => ?_)
                      refine lv_iload_n hx hb dX15_keyOf_178 rfl (lv_at hl 0 rfl) ?_
                      refine lv_aload_n hx hb dX15_keyOf_179 rfl (lv_at hl 2 rfl) ?_
                      refine pg_get (ci := 15) (v := .ref ke) (C := RX15) (T := TX15) (N := 59) hx hb hts it_15 hown hK hP hL_h0 hF_229 rfl 36 (by decide) (hts _ kt_925) (fun _ h9 => h9) rfl dX15_keyOf_180 ?_
                      obtain ⟨q_416, v_417, hr_q_416, hX_q_416⟩ := hG.2.2 ("PostGateModel", 537, "k", [107]) (by decide +kernel)
                      have hX_q_416 : SXc q_416 v_417 1 (cct [107]) A s s.heap := hX_q_416
                      obtain ⟨xo_q_416, xc_q_416, xv_q_416, xt_q_416, xn_q_416⟩ := id hX_q_416
                      have hr_q_416 : vk_R "PostGateModel" 537 "k" q_416 s := hr_q_416
                      refine va_ldcwS hx hb hown hr_q_416 dX15_keyOf_183 ?_
                      have hFc := pg_free hD hS hA
                      refine va_calli (va_runV (As := [.ref q_416]) (rest := [.int 0]) ⟨hx, hb, hml, hown, hts⟩ (s_X13_find_x l dC dI cs ty gm L H.size F_223 ke (ρ + 13) x_5 700 700 y0_6 y1_7 y2_8 r_37 ((flI (TC (D j).2.2.2.2.2 (D j).2.2.2.2.1) 0 ((D j).2.2.2.2.1 - 0)).length) gg_129.1 fc_116 p0_132 p1_133 p2_134 gg_129.2 q_416 v_417 1 (cct [107]) ([107]) hW hi_31 ht_32 hi_33 ht_38 hF_233 hF_234 (by omega) hF_235 hF_236 hF_237 hF_238 (hti2) (hHL) (hti1) (by omega) (⟨rfl, by decide +kernel⟩)) ⟨callB_of 1 hts (gi kt_828) rfl rfl rfl (hts _ kt_829) (hts _ kt_839) (by decide +kernel) ⟨Nat.le_of_ble_eq_true rfl, Nat.le_of_ble_eq_true rfl⟩, (hts _ kt_831), (hts _ kt_832)⟩ ⟨fun a U g mk q => ⟨q.1, PTEm.calling q.2⟩, pg_recv hK hP hi_31 hF_235 (q := (RX13, TX13, 5)) rfl, fun U hU hWm => ⟨rfl, PTEm.mk hU hWm hP hK hD hE hO hG (fun x hx => by rw [List.mem_singleton] at hx; subst hx; exact hX_q_416) hS hFc⟩⟩ rfl rfl hl.1 rfl (lv_room (Nat.le_of_ble_eq_true rfl)) dX15_keyOf_186 ⟨by show _ + 0 ≤ 0; omega, by show _ + 0 ≤ 0; omega⟩) hS (fun q _ h => hFc q h) hFc (fun r_418 u t H1 locs ht hvm hw hB hz1 hk1 hS => ?_)
                      obtain ⟨F_419, hB1⟩ := hB
                      obtain rfl : F_223 = F_419 := (funext (fun a => hB1.2.2.2 a List.not_mem_nil)).symm
                      obtain ⟨hP, hD, hO, hR⟩ := QTm.back hB1 ht hFc hR (fun q h => absurd h List.not_mem_nil)
                      generalize H1 = H at hP hS ⊢
                      have hw : RWX (TC fc_116 (flI (TC (D j).2.2.2.2.2 (D j).2.2.2.2.1) 0 ((D j).2.2.2.2.1 - 0)).length) gg_129.2 gg_129.1 [107] r_418 := hw
                      have hw_420 := hw
                      refine lv_if_lt (tgt := 208) hx hb dX15_keyOf_189 (by decide) (fun c_421 => ?_) (fun c_421 => ?_)
                      ·
                        have ht189 : ¬ TGE (TC fc_116 (flI (TC (D j).2.2.2.2.2 (D j).2.2.2.2.1) 0 ((D j).2.2.2.2.1 - 0)).length) gg_129.2 gg_129.1 [107] := tge_n (rwx_n hw_420 hti2 c_421)
                        refine lv_iconst (v := 1) hx hb dX15_keyOf_208 (by decide) ?_
                        refine lv_goto (tgt := 213) hx hb dX15_keyOf_209 (by decide) ?_
                        refine lv_iand hx hb dX15_keyOf_213 ?_
                        refine lv_topi (fun x_422 ex_422 => ?_)
                        obtain rfl : x_422 = 0 := ex_422.trans (by decide)
                        refine lv_istore_n (lv' := [(2, .int 0), (1, .int (nI j)), (0, .ref h0)]) hx hb dX15_keyOf_214 rfl hl (by decide) rfl (fun ls hl => ?_)
                        refine lv_iload_n hx hb dX15_keyOf_215 rfl (lv_at hl 0 rfl) ?_
                        refine lv_if_eq (tgt := 223) hx hb dX15_keyOf_216 (by decide) (fun c_423 => ?_) (fun c_423 => absurd (by decide) c_423)
                        refine lv_bipush (v := 6) hx hb dX15_keyOf_223 (by decide) ?_
                        refine W.widen (k := 0) (n := 0) (by omega) (by omega) ?_
                        exact W.iret (v := 6) hx hb hr (fun t ht hWm => ⟨⟨6, j, rfl, (Or.inr (Or.inr ⟨hH3, hjz, hj0, hjs, hv2, Or.inr ⟨kyo_n hgt (by have h9 := (show ¬ KYB (TC fc_116 (flI (TC (D j).2.2.2.2.2 (D j).2.2.2.2.1) 0 ((D j).2.2.2.2.1 - 0)).length) gg_129.2 gg_129.1 from fun q => hodd q.2.2.2.2); rw [hwT] at h9; exact h9), rfl⟩⟩)), ⟨F_223, f2_224, QTm.mk ht hP hD hO hR, (fun q => absurd (kyx_2 q rfl).2 (kyo_n hgt (by have h9 := (show ¬ KYB (TC fc_116 (flI (TC (D j).2.2.2.2.2 (D j).2.2.2.2.1) 0 ((D j).2.2.2.2.1 - 0)).length) gg_129.2 gg_129.1 from fun q => hodd q.2.2.2.2); rw [hwT] at h9; exact h9)))⟩⟩, hS.F ht⟩) hS.2.2 dX15_keyOf_225
                      ·
                        have ht189 : TGE (TC fc_116 (flI (TC (D j).2.2.2.2.2 (D j).2.2.2.2.1) 0 ((D j).2.2.2.2.1 - 0)).length) gg_129.2 gg_129.1 [107] := by obtain ⟨k9, h1, -, h3, -⟩ := rwx_y hw_420 c_421; exact ⟨k9, h1, h3⟩
                        refine lv_aload_n hx hb dX15_keyOf_192 rfl (lv_at hl 2 rfl) ?_
                        refine pg_get (ci := 15) (v := .ref ke) (C := RX15) (T := TX15) (N := 59) hx hb hts it_15 hown hK hP hL_h0 hF_229 rfl 36 (by decide) (hts _ kt_925) (fun _ h9 => h9) rfl dX15_keyOf_193 ?_
                        refine va_ldcwS hx hb hown hr_q_416 dX15_keyOf_196 ?_
                        obtain ⟨q_424, v_425, hr_q_424, hX_q_424⟩ := hG.2.2 ("PostGateModel", 539, "rsa", [114, 115, 97]) (by decide +kernel)
                        have hX_q_424 : SXc q_424 v_425 3 (cct [114, 115, 97]) A s s.heap := hX_q_424
                        obtain ⟨xo_q_424, xc_q_424, xv_q_424, xt_q_424, xn_q_424⟩ := id hX_q_424
                        have hr_q_424 : vk_R "PostGateModel" 539 "rsa" q_424 s := hr_q_424
                        refine va_ldcwS hx hb hown hr_q_424 dX15_keyOf_199 ?_
                        have hFc := pg_free hD hS hA
                        refine va_calli (va_runV (As := [.ref q_416, .ref q_424]) (rest := [.int 0]) ⟨hx, hb, hml, hown, hts⟩ (s_X13_has_x l dC dI cs ty gm L H.size F_223 ke (ρ + 13) x_5 700 700 y0_6 y1_7 y2_8 r_37 ((flI (TC (D j).2.2.2.2.2 (D j).2.2.2.2.1) 0 ((D j).2.2.2.2.1 - 0)).length) gg_129.1 fc_116 p0_132 p1_133 p2_134 gg_129.2 q_416 v_417 1 (cct [107]) q_424 v_425 3 (cct [114, 115, 97]) ([107]) RSA3 hW hi_31 ht_32 hi_33 ht_38 hF_233 hF_234 (by omega) hF_235 hF_236 hF_237 hF_238 (hti2) (hHL) (hti1) (by omega) (⟨rfl, by decide +kernel⟩) (⟨rfl, by decide +kernel⟩)) ⟨callB_of 2 hts (gi kt_863) rfl rfl rfl (hts _ kt_829) (hts _ kt_864) (by decide +kernel) ⟨Nat.le_of_ble_eq_true rfl, Nat.le_of_ble_eq_true rfl⟩, (hts _ kt_865), (hts _ kt_866)⟩ ⟨fun a U g mk q => ⟨q.1, PTEm.calling q.2⟩, pg_recv hK hP hi_31 hF_235 (q := (RX13, TX13, 5)) rfl, fun U hU hWm => ⟨rfl, PTEm.mk hU hWm hP hK hD hE hO hG (fun x hx => by simp only [List.mem_cons, List.not_mem_nil, or_false] at hx; rcases hx with hx | hx <;> subst hx <;> first | exact hX_q_416 | exact hX_q_424) hS hFc⟩⟩ rfl rfl hl.1 rfl (lv_room (Nat.le_of_ble_eq_true rfl)) dX15_keyOf_202 ⟨by show _ + 0 ≤ 0; omega, by show _ + 0 ≤ 0; omega⟩) hS (fun q _ h => hFc q h) hFc (fun r_426 u t H1 locs ht hvm hw hB hz1 hk1 hS => ?_)
                        obtain ⟨F_427, hB1⟩ := hB
                        obtain rfl : F_223 = F_427 := (funext (fun a => hB1.2.2.2 a List.not_mem_nil)).symm
                        obtain ⟨hP, hD, hO, hR⟩ := QTm.back hB1 ht hFc hR (fun q h => absurd h List.not_mem_nil)
                        generalize H1 = H at hP hS ⊢
                        have hw : ((r_426 = 1 ∧ TGV (TC fc_116 (flI (TC (D j).2.2.2.2.2 (D j).2.2.2.2.1) 0 ((D j).2.2.2.2.1 - 0)).length) gg_129.2 gg_129.1 [107] RSA3) ∨ (r_426 = 0 ∧ ¬ TGV (TC fc_116 (flI (TC (D j).2.2.2.2.2 (D j).2.2.2.2.1) 0 ((D j).2.2.2.2.1 - 0)).length) gg_129.2 gg_129.1 [107] RSA3)) := hw
                        have hw_428 := hw
                        refine lv_if_eq (tgt := 212) hx hb dX15_keyOf_205 (by decide) (fun c_429 => ?_) (fun c_429 => ?_)
                        ·
                          refine lv_iconst (v := 0) hx hb dX15_keyOf_212 (by decide) ?_
                          refine lv_iand hx hb dX15_keyOf_213 ?_
                          refine lv_topi (fun x_430 ex_430 => ?_)
                          obtain rfl : x_430 = 0 := ex_430.trans (by decide)
                          refine lv_istore_n (lv' := [(2, .int 0), (1, .int (nI j)), (0, .ref h0)]) hx hb dX15_keyOf_214 rfl hl (by decide) rfl (fun ls hl => ?_)
                          refine lv_iload_n hx hb dX15_keyOf_215 rfl (lv_at hl 0 rfl) ?_
                          refine lv_if_eq (tgt := 223) hx hb dX15_keyOf_216 (by decide) (fun c_431 => ?_) (fun c_431 => absurd (by decide) c_431)
                          refine lv_bipush (v := 6) hx hb dX15_keyOf_223 (by decide) ?_
                          refine W.widen (k := 0) (n := 0) (by omega) (by omega) ?_
                          exact W.iret (v := 6) hx hb hr (fun t ht hWm => ⟨⟨6, j, rfl, (Or.inr (Or.inr ⟨hH3, hjz, hj0, hjs, hv2, Or.inr ⟨kyo_n hgt (by have h9 := (show ¬ KYB (TC fc_116 (flI (TC (D j).2.2.2.2.2 (D j).2.2.2.2.1) 0 ((D j).2.2.2.2.1 - 0)).length) gg_129.2 gg_129.1 from fun q => hodd q.2.2.2.2); rw [hwT] at h9; exact h9), rfl⟩⟩)), ⟨F_223, f2_224, QTm.mk ht hP hD hO hR, (fun q => absurd (kyx_2 q rfl).2 (kyo_n hgt (by have h9 := (show ¬ KYB (TC fc_116 (flI (TC (D j).2.2.2.2.2 (D j).2.2.2.2.1) 0 ((D j).2.2.2.2.1 - 0)).length) gg_129.2 gg_129.1 from fun q => hodd q.2.2.2.2); rw [hwT] at h9; exact h9)))⟩⟩, hS.F ht⟩) hS.2.2 dX15_keyOf_225
                        ·
                          refine lv_iconst (v := 1) hx hb dX15_keyOf_208 (by decide) ?_
                          refine lv_goto (tgt := 213) hx hb dX15_keyOf_209 (by decide) ?_
                          refine lv_iand hx hb dX15_keyOf_213 ?_
                          refine lv_topi (fun x_432 ex_432 => ?_)
                          obtain rfl : x_432 = 0 := ex_432.trans (by decide)
                          refine lv_istore_n (lv' := [(2, .int 0), (1, .int (nI j)), (0, .ref h0)]) hx hb dX15_keyOf_214 rfl hl (by decide) rfl (fun ls hl => ?_)
                          refine lv_iload_n hx hb dX15_keyOf_215 rfl (lv_at hl 0 rfl) ?_
                          refine lv_if_eq (tgt := 223) hx hb dX15_keyOf_216 (by decide) (fun c_433 => ?_) (fun c_433 => absurd (by decide) c_433)
                          refine lv_bipush (v := 6) hx hb dX15_keyOf_223 (by decide) ?_
                          refine W.widen (k := 0) (n := 0) (by omega) (by omega) ?_
                          exact W.iret (v := 6) hx hb hr (fun t ht hWm => ⟨⟨6, j, rfl, (Or.inr (Or.inr ⟨hH3, hjz, hj0, hjs, hv2, Or.inr ⟨kyo_n hgt (by have h9 := (show ¬ KYB (TC fc_116 (flI (TC (D j).2.2.2.2.2 (D j).2.2.2.2.1) 0 ((D j).2.2.2.2.1 - 0)).length) gg_129.2 gg_129.1 from fun q => hodd q.2.2.2.2); rw [hwT] at h9; exact h9), rfl⟩⟩)), ⟨F_223, f2_224, QTm.mk ht hP hD hO hR, (fun q => absurd (kyx_2 q rfl).2 (kyo_n hgt (by have h9 := (show ¬ KYB (TC fc_116 (flI (TC (D j).2.2.2.2.2 (D j).2.2.2.2.1) 0 ((D j).2.2.2.2.1 - 0)).length) gg_129.2 gg_129.1 from fun q => hodd q.2.2.2.2); rw [hwT] at h9; exact h9)))⟩⟩, hS.F ht⟩) hS.2.2 dX15_keyOf_225
                    ·
                      refine lv_iconst (v := 1) hx hb dX15_keyOf_171 (by decide) ?_
                      refine lv_goto (tgt := 176) hx hb dX15_keyOf_172 (by decide) ?_
                      refine lv_iand hx hb dX15_keyOf_176 ?_
                      refine lv_topi (fun x_434 ex_434 => ?_)
                      obtain rfl : x_434 = 0 := ex_434.trans (by decide)
                      refine lv_istore_n (lv' := [(2, .int 0), (1, .int (nI j)), (0, .ref h0)]) hx hb dX15_keyOf_177 rfl hl (by decide) rfl (fun ls hl => ?_)
                      refine lv_iload_n hx hb dX15_keyOf_178 rfl (lv_at hl 0 rfl) ?_
                      refine lv_aload_n hx hb dX15_keyOf_179 rfl (lv_at hl 2 rfl) ?_
                      refine pg_get (ci := 15) (v := .ref ke) (C := RX15) (T := TX15) (N := 59) hx hb hts it_15 hown hK hP hL_h0 hF_229 rfl 36 (by decide) (hts _ kt_925) (fun _ h9 => h9) rfl dX15_keyOf_180 ?_
                      obtain ⟨q_435, v_436, hr_q_435, hX_q_435⟩ := hG.2.2 ("PostGateModel", 537, "k", [107]) (by decide +kernel)
                      have hX_q_435 : SXc q_435 v_436 1 (cct [107]) A s s.heap := hX_q_435
                      obtain ⟨xo_q_435, xc_q_435, xv_q_435, xt_q_435, xn_q_435⟩ := id hX_q_435
                      have hr_q_435 : vk_R "PostGateModel" 537 "k" q_435 s := hr_q_435
                      refine va_ldcwS hx hb hown hr_q_435 dX15_keyOf_183 ?_
                      have hFc := pg_free hD hS hA
                      refine va_calli (va_runV (As := [.ref q_435]) (rest := [.int 0]) ⟨hx, hb, hml, hown, hts⟩ (s_X13_find_x l dC dI cs ty gm L H.size F_223 ke (ρ + 13) x_5 700 700 y0_6 y1_7 y2_8 r_37 ((flI (TC (D j).2.2.2.2.2 (D j).2.2.2.2.1) 0 ((D j).2.2.2.2.1 - 0)).length) gg_129.1 fc_116 p0_132 p1_133 p2_134 gg_129.2 q_435 v_436 1 (cct [107]) ([107]) hW hi_31 ht_32 hi_33 ht_38 hF_233 hF_234 (by omega) hF_235 hF_236 hF_237 hF_238 (hti2) (hHL) (hti1) (by omega) (⟨rfl, by decide +kernel⟩)) ⟨callB_of 1 hts (gi kt_828) rfl rfl rfl (hts _ kt_829) (hts _ kt_839) (by decide +kernel) ⟨Nat.le_of_ble_eq_true rfl, Nat.le_of_ble_eq_true rfl⟩, (hts _ kt_831), (hts _ kt_832)⟩ ⟨fun a U g mk q => ⟨q.1, PTEm.calling q.2⟩, pg_recv hK hP hi_31 hF_235 (q := (RX13, TX13, 5)) rfl, fun U hU hWm => ⟨rfl, PTEm.mk hU hWm hP hK hD hE hO hG (fun x hx => by rw [List.mem_singleton] at hx; subst hx; exact hX_q_435) hS hFc⟩⟩ rfl rfl hl.1 rfl (lv_room (Nat.le_of_ble_eq_true rfl)) dX15_keyOf_186 ⟨by show _ + 0 ≤ 0; omega, by show _ + 0 ≤ 0; omega⟩) hS (fun q _ h => hFc q h) hFc (fun r_437 u t H1 locs ht hvm hw hB hz1 hk1 hS => ?_)
                      obtain ⟨F_438, hB1⟩ := hB
                      obtain rfl : F_223 = F_438 := (funext (fun a => hB1.2.2.2 a List.not_mem_nil)).symm
                      obtain ⟨hP, hD, hO, hR⟩ := QTm.back hB1 ht hFc hR (fun q h => absurd h List.not_mem_nil)
                      generalize H1 = H at hP hS ⊢
                      have hw : RWX (TC fc_116 (flI (TC (D j).2.2.2.2.2 (D j).2.2.2.2.1) 0 ((D j).2.2.2.2.1 - 0)).length) gg_129.2 gg_129.1 [107] r_437 := hw
                      have hw_439 := hw
                      refine lv_if_lt (tgt := 208) hx hb dX15_keyOf_189 (by decide) (fun c_440 => ?_) (fun c_440 => ?_)
                      ·
                        have ht189 : ¬ TGE (TC fc_116 (flI (TC (D j).2.2.2.2.2 (D j).2.2.2.2.1) 0 ((D j).2.2.2.2.1 - 0)).length) gg_129.2 gg_129.1 [107] := tge_n (rwx_n hw_439 hti2 c_440)
                        refine lv_iconst (v := 1) hx hb dX15_keyOf_208 (by decide) ?_
                        refine lv_goto (tgt := 213) hx hb dX15_keyOf_209 (by decide) ?_
                        refine lv_iand hx hb dX15_keyOf_213 ?_
                        refine lv_topi (fun x_441 ex_441 => ?_)
                        obtain rfl : x_441 = 0 := ex_441.trans (by decide)
                        refine lv_istore_n (lv' := [(2, .int 0), (1, .int (nI j)), (0, .ref h0)]) hx hb dX15_keyOf_214 rfl hl (by decide) rfl (fun ls hl => ?_)
                        refine lv_iload_n hx hb dX15_keyOf_215 rfl (lv_at hl 0 rfl) ?_
                        refine lv_if_eq (tgt := 223) hx hb dX15_keyOf_216 (by decide) (fun c_442 => ?_) (fun c_442 => absurd (by decide) c_442)
                        refine lv_bipush (v := 6) hx hb dX15_keyOf_223 (by decide) ?_
                        refine W.widen (k := 0) (n := 0) (by omega) (by omega) ?_
                        exact W.iret (v := 6) hx hb hr (fun t ht hWm => ⟨⟨6, j, rfl, (Or.inr (Or.inr ⟨hH3, hjz, hj0, hjs, hv2, Or.inr ⟨kyo_n hgt (by have h9 := (show ¬ KYB (TC fc_116 (flI (TC (D j).2.2.2.2.2 (D j).2.2.2.2.1) 0 ((D j).2.2.2.2.1 - 0)).length) gg_129.2 gg_129.1 from fun q => hodd q.2.2.2.2); rw [hwT] at h9; exact h9), rfl⟩⟩)), ⟨F_223, f2_224, QTm.mk ht hP hD hO hR, (fun q => absurd (kyx_2 q rfl).2 (kyo_n hgt (by have h9 := (show ¬ KYB (TC fc_116 (flI (TC (D j).2.2.2.2.2 (D j).2.2.2.2.1) 0 ((D j).2.2.2.2.1 - 0)).length) gg_129.2 gg_129.1 from fun q => hodd q.2.2.2.2); rw [hwT] at h9; exact h9)))⟩⟩, hS.F ht⟩) hS.2.2 dX15_keyOf_225
                      ·
                        have ht189 : TGE (TC fc_116 (flI (TC (D j).2.2.2.2.2 (D j).2.2.2.2.1) 0 ((D j).2.2.2.2.1 - 0)).length) gg_129.2 gg_129.1 [107] := by obtain ⟨k9, h1, -, h3, -⟩ := rwx_y hw_439 c_440; exact ⟨k9, h1, h3⟩
                        refine lv_aload_n hx hb dX15_keyOf_192 rfl (lv_at hl 2 rfl) ?_
                        refine pg_get (ci := 15) (v := .ref ke) (C := RX15) (T := TX15) (N := 59) hx hb hts it_15 hown hK hP hL_h0 hF_229 rfl 36 (by decide) (hts _ kt_925) (fun _ h9 => h9) rfl dX15_keyOf_193 ?_
                        refine va_ldcwS hx hb hown hr_q_435 dX15_keyOf_196 ?_
                        obtain ⟨q_443, v_444, hr_q_443, hX_q_443⟩ := hG.2.2 ("PostGateModel", 539, "rsa", [114, 115, 97]) (by decide +kernel)
                        have hX_q_443 : SXc q_443 v_444 3 (cct [114, 115, 97]) A s s.heap := hX_q_443
                        obtain ⟨xo_q_443, xc_q_443, xv_q_443, xt_q_443, xn_q_443⟩ := id hX_q_443
                        have hr_q_443 : vk_R "PostGateModel" 539 "rsa" q_443 s := hr_q_443
                        refine va_ldcwS hx hb hown hr_q_443 dX15_keyOf_199 ?_
                        have hFc := pg_free hD hS hA
                        refine va_calli (va_runV (As := [.ref q_435, .ref q_443]) (rest := [.int 0]) ⟨hx, hb, hml, hown, hts⟩ (s_X13_has_x l dC dI cs ty gm L H.size F_223 ke (ρ + 13) x_5 700 700 y0_6 y1_7 y2_8 r_37 ((flI (TC (D j).2.2.2.2.2 (D j).2.2.2.2.1) 0 ((D j).2.2.2.2.1 - 0)).length) gg_129.1 fc_116 p0_132 p1_133 p2_134 gg_129.2 q_435 v_436 1 (cct [107]) q_443 v_444 3 (cct [114, 115, 97]) ([107]) RSA3 hW hi_31 ht_32 hi_33 ht_38 hF_233 hF_234 (by omega) hF_235 hF_236 hF_237 hF_238 (hti2) (hHL) (hti1) (by omega) (⟨rfl, by decide +kernel⟩) (⟨rfl, by decide +kernel⟩)) ⟨callB_of 2 hts (gi kt_863) rfl rfl rfl (hts _ kt_829) (hts _ kt_864) (by decide +kernel) ⟨Nat.le_of_ble_eq_true rfl, Nat.le_of_ble_eq_true rfl⟩, (hts _ kt_865), (hts _ kt_866)⟩ ⟨fun a U g mk q => ⟨q.1, PTEm.calling q.2⟩, pg_recv hK hP hi_31 hF_235 (q := (RX13, TX13, 5)) rfl, fun U hU hWm => ⟨rfl, PTEm.mk hU hWm hP hK hD hE hO hG (fun x hx => by simp only [List.mem_cons, List.not_mem_nil, or_false] at hx; rcases hx with hx | hx <;> subst hx <;> first | exact hX_q_435 | exact hX_q_443) hS hFc⟩⟩ rfl rfl hl.1 rfl (lv_room (Nat.le_of_ble_eq_true rfl)) dX15_keyOf_202 ⟨by show _ + 0 ≤ 0; omega, by show _ + 0 ≤ 0; omega⟩) hS (fun q _ h => hFc q h) hFc (fun r_445 u t H1 locs ht hvm hw hB hz1 hk1 hS => ?_)
                        obtain ⟨F_446, hB1⟩ := hB
                        obtain rfl : F_223 = F_446 := (funext (fun a => hB1.2.2.2 a List.not_mem_nil)).symm
                        obtain ⟨hP, hD, hO, hR⟩ := QTm.back hB1 ht hFc hR (fun q h => absurd h List.not_mem_nil)
                        generalize H1 = H at hP hS ⊢
                        have hw : ((r_445 = 1 ∧ TGV (TC fc_116 (flI (TC (D j).2.2.2.2.2 (D j).2.2.2.2.1) 0 ((D j).2.2.2.2.1 - 0)).length) gg_129.2 gg_129.1 [107] RSA3) ∨ (r_445 = 0 ∧ ¬ TGV (TC fc_116 (flI (TC (D j).2.2.2.2.2 (D j).2.2.2.2.1) 0 ((D j).2.2.2.2.1 - 0)).length) gg_129.2 gg_129.1 [107] RSA3)) := hw
                        have hw_447 := hw
                        refine lv_if_eq (tgt := 212) hx hb dX15_keyOf_205 (by decide) (fun c_448 => ?_) (fun c_448 => ?_)
                        ·
                          refine lv_iconst (v := 0) hx hb dX15_keyOf_212 (by decide) ?_
                          refine lv_iand hx hb dX15_keyOf_213 ?_
                          refine lv_topi (fun x_449 ex_449 => ?_)
                          obtain rfl : x_449 = 0 := ex_449.trans (by decide)
                          refine lv_istore_n (lv' := [(2, .int 0), (1, .int (nI j)), (0, .ref h0)]) hx hb dX15_keyOf_214 rfl hl (by decide) rfl (fun ls hl => ?_)
                          refine lv_iload_n hx hb dX15_keyOf_215 rfl (lv_at hl 0 rfl) ?_
                          refine lv_if_eq (tgt := 223) hx hb dX15_keyOf_216 (by decide) (fun c_450 => ?_) (fun c_450 => absurd (by decide) c_450)
                          refine lv_bipush (v := 6) hx hb dX15_keyOf_223 (by decide) ?_
                          refine W.widen (k := 0) (n := 0) (by omega) (by omega) ?_
                          exact W.iret (v := 6) hx hb hr (fun t ht hWm => ⟨⟨6, j, rfl, (Or.inr (Or.inr ⟨hH3, hjz, hj0, hjs, hv2, Or.inr ⟨kyo_n hgt (by have h9 := (show ¬ KYB (TC fc_116 (flI (TC (D j).2.2.2.2.2 (D j).2.2.2.2.1) 0 ((D j).2.2.2.2.1 - 0)).length) gg_129.2 gg_129.1 from fun q => hodd q.2.2.2.2); rw [hwT] at h9; exact h9), rfl⟩⟩)), ⟨F_223, f2_224, QTm.mk ht hP hD hO hR, (fun q => absurd (kyx_2 q rfl).2 (kyo_n hgt (by have h9 := (show ¬ KYB (TC fc_116 (flI (TC (D j).2.2.2.2.2 (D j).2.2.2.2.1) 0 ((D j).2.2.2.2.1 - 0)).length) gg_129.2 gg_129.1 from fun q => hodd q.2.2.2.2); rw [hwT] at h9; exact h9)))⟩⟩, hS.F ht⟩) hS.2.2 dX15_keyOf_225
                        ·
                          refine lv_iconst (v := 1) hx hb dX15_keyOf_208 (by decide) ?_
                          refine lv_goto (tgt := 213) hx hb dX15_keyOf_209 (by decide) ?_
                          refine lv_iand hx hb dX15_keyOf_213 ?_
                          refine lv_topi (fun x_451 ex_451 => ?_)
                          obtain rfl : x_451 = 0 := ex_451.trans (by decide)
                          refine lv_istore_n (lv' := [(2, .int 0), (1, .int (nI j)), (0, .ref h0)]) hx hb dX15_keyOf_214 rfl hl (by decide) rfl (fun ls hl => ?_)
                          refine lv_iload_n hx hb dX15_keyOf_215 rfl (lv_at hl 0 rfl) ?_
                          refine lv_if_eq (tgt := 223) hx hb dX15_keyOf_216 (by decide) (fun c_452 => ?_) (fun c_452 => absurd (by decide) c_452)
                          refine lv_bipush (v := 6) hx hb dX15_keyOf_223 (by decide) ?_
                          refine W.widen (k := 0) (n := 0) (by omega) (by omega) ?_
                          exact W.iret (v := 6) hx hb hr (fun t ht hWm => ⟨⟨6, j, rfl, (Or.inr (Or.inr ⟨hH3, hjz, hj0, hjs, hv2, Or.inr ⟨kyo_n hgt (by have h9 := (show ¬ KYB (TC fc_116 (flI (TC (D j).2.2.2.2.2 (D j).2.2.2.2.1) 0 ((D j).2.2.2.2.1 - 0)).length) gg_129.2 gg_129.1 from fun q => hodd q.2.2.2.2); rw [hwT] at h9; exact h9), rfl⟩⟩)), ⟨F_223, f2_224, QTm.mk ht hP hD hO hR, (fun q => absurd (kyx_2 q rfl).2 (kyo_n hgt (by have h9 := (show ¬ KYB (TC fc_116 (flI (TC (D j).2.2.2.2.2 (D j).2.2.2.2.1) 0 ((D j).2.2.2.2.1 - 0)).length) gg_129.2 gg_129.1 from fun q => hodd q.2.2.2.2); rw [hwT] at h9; exact h9)))⟩⟩, hS.F ht⟩) hS.2.2 dX15_keyOf_225
                ·
                  have hodd : (kyP (TC fc_116 (flI (TC (D j).2.2.2.2.2 (D j).2.2.2.2.1) 0 ((D j).2.2.2.2.1 - 0)).length) gg_129.2 gg_129.1) 63 % 2 = 1 := (kyb_1 _ (hBM 63 (by omega)).1).mp c_383
                  refine lv_iconst (v := 1) hx hb dX15_keyOf_135 (by decide) ?_
                  refine lv_goto (tgt := 140) hx hb dX15_keyOf_136 (by decide) ?_
                  refine lv_istore_n (lv' := [(2, .int 1), (1, .int (nI j)), (0, .ref h0)]) hx hb dX15_keyOf_140 rfl hl (by decide) rfl (fun ls hl => ?_)
                  refine lv_iload_n hx hb dX15_keyOf_141 rfl (lv_at hl 0 rfl) ?_
                  refine lv_aload_n hx hb dX15_keyOf_142 rfl (lv_at hl 2 rfl) ?_
                  refine pg_get (ci := 15) (v := .ref ke) (C := RX15) (T := TX15) (N := 59) hx hb hts it_15 hown hK hP hL_h0 hF_229 rfl 36 (by decide) (hts _ kt_925) (fun _ h9 => h9) rfl dX15_keyOf_143 ?_
                  obtain ⟨q_453, v_454, hr_q_453, hX_q_453⟩ := hG.2.2 ("PostGateModel", 444, "v", [118]) (by decide +kernel)
                  have hX_q_453 : SXc q_453 v_454 1 (cct [118]) A s s.heap := hX_q_453
                  obtain ⟨xo_q_453, xc_q_453, xv_q_453, xt_q_453, xn_q_453⟩ := id hX_q_453
                  have hr_q_453 : vk_R "PostGateModel" 444 "v" q_453 s := hr_q_453
                  refine va_ldcwS hx hb hown hr_q_453 dX15_keyOf_146 ?_
                  have hFc := pg_free hD hS hA
                  refine va_calli (va_runV (As := [.ref q_453]) (rest := [.int 1]) ⟨hx, hb, hml, hown, hts⟩ (s_X13_find_x l dC dI cs ty gm L H.size F_223 ke (ρ + 13) x_5 700 700 y0_6 y1_7 y2_8 r_37 ((flI (TC (D j).2.2.2.2.2 (D j).2.2.2.2.1) 0 ((D j).2.2.2.2.1 - 0)).length) gg_129.1 fc_116 p0_132 p1_133 p2_134 gg_129.2 q_453 v_454 1 (cct [118]) ([118]) hW hi_31 ht_32 hi_33 ht_38 hF_233 hF_234 (by omega) hF_235 hF_236 hF_237 hF_238 (hti2) (hHL) (hti1) (by omega) (⟨rfl, by decide +kernel⟩)) ⟨callB_of 1 hts (gi kt_828) rfl rfl rfl (hts _ kt_829) (hts _ kt_839) (by decide +kernel) ⟨Nat.le_of_ble_eq_true rfl, Nat.le_of_ble_eq_true rfl⟩, (hts _ kt_831), (hts _ kt_832)⟩ ⟨fun a U g mk q => ⟨q.1, PTEm.calling q.2⟩, pg_recv hK hP hi_31 hF_235 (q := (RX13, TX13, 5)) rfl, fun U hU hWm => ⟨rfl, PTEm.mk hU hWm hP hK hD hE hO hG (fun x hx => by rw [List.mem_singleton] at hx; subst hx; exact hX_q_453) hS hFc⟩⟩ rfl rfl hl.1 rfl (lv_room (Nat.le_of_ble_eq_true rfl)) dX15_keyOf_149 ⟨by show _ + 0 ≤ 0; omega, by show _ + 0 ≤ 0; omega⟩) hS (fun q _ h => hFc q h) hFc (fun r_455 u t H1 locs ht hvm hw hB hz1 hk1 hS => ?_)
                  obtain ⟨F_456, hB1⟩ := hB
                  obtain rfl : F_223 = F_456 := (funext (fun a => hB1.2.2.2 a List.not_mem_nil)).symm
                  obtain ⟨hP, hD, hO, hR⟩ := QTm.back hB1 ht hFc hR (fun q h => absurd h List.not_mem_nil)
                  generalize H1 = H at hP hS ⊢
                  have hw : RWX (TC fc_116 (flI (TC (D j).2.2.2.2.2 (D j).2.2.2.2.1) 0 ((D j).2.2.2.2.1 - 0)).length) gg_129.2 gg_129.1 [118] r_455 := hw
                  have hw_457 := hw
                  refine lv_if_lt (tgt := 171) hx hb dX15_keyOf_152 (by decide) (fun c_458 => ?_) (fun c_458 => ?_)
                  ·
                    have ht152 : ¬ TGE (TC fc_116 (flI (TC (D j).2.2.2.2.2 (D j).2.2.2.2.1) 0 ((D j).2.2.2.2.1 - 0)).length) gg_129.2 gg_129.1 [118] := tge_n (rwx_n hw_457 hti2 c_458)
                    refine lv_iconst (v := 1) hx hb dX15_keyOf_171 (by decide) ?_
                    refine lv_goto (tgt := 176) hx hb dX15_keyOf_172 (by decide) ?_
                    refine lv_iand hx hb dX15_keyOf_176 ?_
                    refine lv_topi (fun x_459 ex_459 => ?_)
                    obtain rfl : x_459 = 1 := ex_459.trans (by decide)
                    refine lv_istore_n (lv' := [(2, .int 1), (1, .int (nI j)), (0, .ref h0)]) hx hb dX15_keyOf_177 rfl hl (by decide) rfl (fun ls hl => ?_)
                    refine lv_iload_n hx hb dX15_keyOf_178 rfl (lv_at hl 0 rfl) ?_
                    refine lv_aload_n hx hb dX15_keyOf_179 rfl (lv_at hl 2 rfl) ?_
                    refine pg_get (ci := 15) (v := .ref ke) (C := RX15) (T := TX15) (N := 59) hx hb hts it_15 hown hK hP hL_h0 hF_229 rfl 36 (by decide) (hts _ kt_925) (fun _ h9 => h9) rfl dX15_keyOf_180 ?_
                    obtain ⟨q_460, v_461, hr_q_460, hX_q_460⟩ := hG.2.2 ("PostGateModel", 537, "k", [107]) (by decide +kernel)
                    have hX_q_460 : SXc q_460 v_461 1 (cct [107]) A s s.heap := hX_q_460
                    obtain ⟨xo_q_460, xc_q_460, xv_q_460, xt_q_460, xn_q_460⟩ := id hX_q_460
                    have hr_q_460 : vk_R "PostGateModel" 537 "k" q_460 s := hr_q_460
                    refine va_ldcwS hx hb hown hr_q_460 dX15_keyOf_183 ?_
                    have hFc := pg_free hD hS hA
                    refine va_calli (va_runV (As := [.ref q_460]) (rest := [.int 1]) ⟨hx, hb, hml, hown, hts⟩ (s_X13_find_x l dC dI cs ty gm L H.size F_223 ke (ρ + 13) x_5 700 700 y0_6 y1_7 y2_8 r_37 ((flI (TC (D j).2.2.2.2.2 (D j).2.2.2.2.1) 0 ((D j).2.2.2.2.1 - 0)).length) gg_129.1 fc_116 p0_132 p1_133 p2_134 gg_129.2 q_460 v_461 1 (cct [107]) ([107]) hW hi_31 ht_32 hi_33 ht_38 hF_233 hF_234 (by omega) hF_235 hF_236 hF_237 hF_238 (hti2) (hHL) (hti1) (by omega) (⟨rfl, by decide +kernel⟩)) ⟨callB_of 1 hts (gi kt_828) rfl rfl rfl (hts _ kt_829) (hts _ kt_839) (by decide +kernel) ⟨Nat.le_of_ble_eq_true rfl, Nat.le_of_ble_eq_true rfl⟩, (hts _ kt_831), (hts _ kt_832)⟩ ⟨fun a U g mk q => ⟨q.1, PTEm.calling q.2⟩, pg_recv hK hP hi_31 hF_235 (q := (RX13, TX13, 5)) rfl, fun U hU hWm => ⟨rfl, PTEm.mk hU hWm hP hK hD hE hO hG (fun x hx => by rw [List.mem_singleton] at hx; subst hx; exact hX_q_460) hS hFc⟩⟩ rfl rfl hl.1 rfl (lv_room (Nat.le_of_ble_eq_true rfl)) dX15_keyOf_186 ⟨by show _ + 0 ≤ 0; omega, by show _ + 0 ≤ 0; omega⟩) hS (fun q _ h => hFc q h) hFc (fun r_462 u t H1 locs ht hvm hw hB hz1 hk1 hS => ?_)
                    obtain ⟨F_463, hB1⟩ := hB
                    obtain rfl : F_223 = F_463 := (funext (fun a => hB1.2.2.2 a List.not_mem_nil)).symm
                    obtain ⟨hP, hD, hO, hR⟩ := QTm.back hB1 ht hFc hR (fun q h => absurd h List.not_mem_nil)
                    generalize H1 = H at hP hS ⊢
                    have hw : RWX (TC fc_116 (flI (TC (D j).2.2.2.2.2 (D j).2.2.2.2.1) 0 ((D j).2.2.2.2.1 - 0)).length) gg_129.2 gg_129.1 [107] r_462 := hw
                    have hw_464 := hw
                    refine lv_if_lt (tgt := 208) hx hb dX15_keyOf_189 (by decide) (fun c_465 => ?_) (fun c_465 => ?_)
                    ·
                      have ht189 : ¬ TGE (TC fc_116 (flI (TC (D j).2.2.2.2.2 (D j).2.2.2.2.1) 0 ((D j).2.2.2.2.1 - 0)).length) gg_129.2 gg_129.1 [107] := tge_n (rwx_n hw_464 hti2 c_465)
                      refine lv_iconst (v := 1) hx hb dX15_keyOf_208 (by decide) ?_
                      refine lv_goto (tgt := 213) hx hb dX15_keyOf_209 (by decide) ?_
                      refine lv_iand hx hb dX15_keyOf_213 ?_
                      refine lv_topi (fun x_466 ex_466 => ?_)
                      obtain rfl : x_466 = 1 := ex_466.trans (by decide)
                      refine lv_istore_n (lv' := [(2, .int 1), (1, .int (nI j)), (0, .ref h0)]) hx hb dX15_keyOf_214 rfl hl (by decide) rfl (fun ls hl => ?_)
                      refine lv_iload_n hx hb dX15_keyOf_215 rfl (lv_at hl 0 rfl) ?_
                      refine lv_if_eq (tgt := 223) hx hb dX15_keyOf_216 (by decide) (fun c_467 => absurd c_467 (by decide)) (fun c_467 => ?_)
                      refine lv_iconst (v := 2) hx hb dX15_keyOf_219 (by decide) ?_
                      refine lv_goto (tgt := 225) hx hb dX15_keyOf_220 (by decide) ?_
                      refine W.widen (k := 0) (n := 0) (by omega) (by omega) ?_
                      exact W.iret (v := 2) hx hb hr (fun t ht hWm => ⟨⟨2, j, rfl, (Or.inr (Or.inr ⟨hH3, hjz, hj0, hjs, hv2, Or.inl ⟨⟨_, hgt, (by have h9 := (show KYB (TC fc_116 (flI (TC (D j).2.2.2.2.2 (D j).2.2.2.2.1) 0 ((D j).2.2.2.2.1 - 0)).length) gg_129.2 gg_129.1 from ⟨hD9, Or.inl ht152, Or.inl ht189, h128, hodd⟩); rw [hwT] at h9; exact h9)⟩, rfl⟩⟩)), ⟨F_223, f2_224, QTm.mk ht hP hD hO hR, (fun _ => ⟨hq_225, by rw [kyM_e hgt]; exact (by have h9 := hBM; rw [hwT] at h9; exact h9)⟩)⟩⟩, hS.F ht⟩) hS.2.2 dX15_keyOf_225
                    ·
                      have ht189 : TGE (TC fc_116 (flI (TC (D j).2.2.2.2.2 (D j).2.2.2.2.1) 0 ((D j).2.2.2.2.1 - 0)).length) gg_129.2 gg_129.1 [107] := by obtain ⟨k9, h1, -, h3, -⟩ := rwx_y hw_464 c_465; exact ⟨k9, h1, h3⟩
                      refine lv_aload_n hx hb dX15_keyOf_192 rfl (lv_at hl 2 rfl) ?_
                      refine pg_get (ci := 15) (v := .ref ke) (C := RX15) (T := TX15) (N := 59) hx hb hts it_15 hown hK hP hL_h0 hF_229 rfl 36 (by decide) (hts _ kt_925) (fun _ h9 => h9) rfl dX15_keyOf_193 ?_
                      refine va_ldcwS hx hb hown hr_q_460 dX15_keyOf_196 ?_
                      obtain ⟨q_468, v_469, hr_q_468, hX_q_468⟩ := hG.2.2 ("PostGateModel", 539, "rsa", [114, 115, 97]) (by decide +kernel)
                      have hX_q_468 : SXc q_468 v_469 3 (cct [114, 115, 97]) A s s.heap := hX_q_468
                      obtain ⟨xo_q_468, xc_q_468, xv_q_468, xt_q_468, xn_q_468⟩ := id hX_q_468
                      have hr_q_468 : vk_R "PostGateModel" 539 "rsa" q_468 s := hr_q_468
                      refine va_ldcwS hx hb hown hr_q_468 dX15_keyOf_199 ?_
                      have hFc := pg_free hD hS hA
                      refine va_calli (va_runV (As := [.ref q_460, .ref q_468]) (rest := [.int 1]) ⟨hx, hb, hml, hown, hts⟩ (s_X13_has_x l dC dI cs ty gm L H.size F_223 ke (ρ + 13) x_5 700 700 y0_6 y1_7 y2_8 r_37 ((flI (TC (D j).2.2.2.2.2 (D j).2.2.2.2.1) 0 ((D j).2.2.2.2.1 - 0)).length) gg_129.1 fc_116 p0_132 p1_133 p2_134 gg_129.2 q_460 v_461 1 (cct [107]) q_468 v_469 3 (cct [114, 115, 97]) ([107]) RSA3 hW hi_31 ht_32 hi_33 ht_38 hF_233 hF_234 (by omega) hF_235 hF_236 hF_237 hF_238 (hti2) (hHL) (hti1) (by omega) (⟨rfl, by decide +kernel⟩) (⟨rfl, by decide +kernel⟩)) ⟨callB_of 2 hts (gi kt_863) rfl rfl rfl (hts _ kt_829) (hts _ kt_864) (by decide +kernel) ⟨Nat.le_of_ble_eq_true rfl, Nat.le_of_ble_eq_true rfl⟩, (hts _ kt_865), (hts _ kt_866)⟩ ⟨fun a U g mk q => ⟨q.1, PTEm.calling q.2⟩, pg_recv hK hP hi_31 hF_235 (q := (RX13, TX13, 5)) rfl, fun U hU hWm => ⟨rfl, PTEm.mk hU hWm hP hK hD hE hO hG (fun x hx => by simp only [List.mem_cons, List.not_mem_nil, or_false] at hx; rcases hx with hx | hx <;> subst hx <;> first | exact hX_q_460 | exact hX_q_468) hS hFc⟩⟩ rfl rfl hl.1 rfl (lv_room (Nat.le_of_ble_eq_true rfl)) dX15_keyOf_202 ⟨by show _ + 0 ≤ 0; omega, by show _ + 0 ≤ 0; omega⟩) hS (fun q _ h => hFc q h) hFc (fun r_470 u t H1 locs ht hvm hw hB hz1 hk1 hS => ?_)
                      obtain ⟨F_471, hB1⟩ := hB
                      obtain rfl : F_223 = F_471 := (funext (fun a => hB1.2.2.2 a List.not_mem_nil)).symm
                      obtain ⟨hP, hD, hO, hR⟩ := QTm.back hB1 ht hFc hR (fun q h => absurd h List.not_mem_nil)
                      generalize H1 = H at hP hS ⊢
                      have hw : ((r_470 = 1 ∧ TGV (TC fc_116 (flI (TC (D j).2.2.2.2.2 (D j).2.2.2.2.1) 0 ((D j).2.2.2.2.1 - 0)).length) gg_129.2 gg_129.1 [107] RSA3) ∨ (r_470 = 0 ∧ ¬ TGV (TC fc_116 (flI (TC (D j).2.2.2.2.2 (D j).2.2.2.2.1) 0 ((D j).2.2.2.2.1 - 0)).length) gg_129.2 gg_129.1 [107] RSA3)) := hw
                      have hw_472 := hw
                      refine lv_if_eq (tgt := 212) hx hb dX15_keyOf_205 (by decide) (fun c_473 => ?_) (fun c_473 => ?_)
                      ·
                        refine lv_iconst (v := 0) hx hb dX15_keyOf_212 (by decide) ?_
                        refine lv_iand hx hb dX15_keyOf_213 ?_
                        refine lv_topi (fun x_474 ex_474 => ?_)
                        obtain rfl : x_474 = 0 := ex_474.trans (by decide)
                        refine lv_istore_n (lv' := [(2, .int 0), (1, .int (nI j)), (0, .ref h0)]) hx hb dX15_keyOf_214 rfl hl (by decide) rfl (fun ls hl => ?_)
                        refine lv_iload_n hx hb dX15_keyOf_215 rfl (lv_at hl 0 rfl) ?_
                        refine lv_if_eq (tgt := 223) hx hb dX15_keyOf_216 (by decide) (fun c_475 => ?_) (fun c_475 => absurd (by decide) c_475)
                        refine lv_bipush (v := 6) hx hb dX15_keyOf_223 (by decide) ?_
                        refine W.widen (k := 0) (n := 0) (by omega) (by omega) ?_
                        exact W.iret (v := 6) hx hb hr (fun t ht hWm => ⟨⟨6, j, rfl, (Or.inr (Or.inr ⟨hH3, hjz, hj0, hjs, hv2, Or.inr ⟨kyo_n hgt (by have h9 := (show ¬ KYB (TC fc_116 (flI (TC (D j).2.2.2.2.2 (D j).2.2.2.2.1) 0 ((D j).2.2.2.2.1 - 0)).length) gg_129.2 gg_129.1 from fun q => q.2.2.1.elim (fun w => w ht189) (orp0 hw_472 c_473)); rw [hwT] at h9; exact h9), rfl⟩⟩)), ⟨F_223, f2_224, QTm.mk ht hP hD hO hR, (fun q => absurd (kyx_2 q rfl).2 (kyo_n hgt (by have h9 := (show ¬ KYB (TC fc_116 (flI (TC (D j).2.2.2.2.2 (D j).2.2.2.2.1) 0 ((D j).2.2.2.2.1 - 0)).length) gg_129.2 gg_129.1 from fun q => q.2.2.1.elim (fun w => w ht189) (orp0 hw_472 c_473)); rw [hwT] at h9; exact h9)))⟩⟩, hS.F ht⟩) hS.2.2 dX15_keyOf_225
                      ·
                        refine lv_iconst (v := 1) hx hb dX15_keyOf_208 (by decide) ?_
                        refine lv_goto (tgt := 213) hx hb dX15_keyOf_209 (by decide) ?_
                        refine lv_iand hx hb dX15_keyOf_213 ?_
                        refine lv_topi (fun x_476 ex_476 => ?_)
                        obtain rfl : x_476 = 1 := ex_476.trans (by decide)
                        refine lv_istore_n (lv' := [(2, .int 1), (1, .int (nI j)), (0, .ref h0)]) hx hb dX15_keyOf_214 rfl hl (by decide) rfl (fun ls hl => ?_)
                        refine lv_iload_n hx hb dX15_keyOf_215 rfl (lv_at hl 0 rfl) ?_
                        refine lv_if_eq (tgt := 223) hx hb dX15_keyOf_216 (by decide) (fun c_477 => absurd c_477 (by decide)) (fun c_477 => ?_)
                        refine lv_iconst (v := 2) hx hb dX15_keyOf_219 (by decide) ?_
                        refine lv_goto (tgt := 225) hx hb dX15_keyOf_220 (by decide) ?_
                        refine W.widen (k := 0) (n := 0) (by omega) (by omega) ?_
                        exact W.iret (v := 2) hx hb hr (fun t ht hWm => ⟨⟨2, j, rfl, (Or.inr (Or.inr ⟨hH3, hjz, hj0, hjs, hv2, Or.inl ⟨⟨_, hgt, (by have h9 := (show KYB (TC fc_116 (flI (TC (D j).2.2.2.2.2 (D j).2.2.2.2.1) 0 ((D j).2.2.2.2.1 - 0)).length) gg_129.2 gg_129.1 from ⟨hD9, Or.inl ht152, Or.inr (orp1 hw_472 c_473), h128, hodd⟩); rw [hwT] at h9; exact h9)⟩, rfl⟩⟩)), ⟨F_223, f2_224, QTm.mk ht hP hD hO hR, (fun _ => ⟨hq_225, by rw [kyM_e hgt]; exact (by have h9 := hBM; rw [hwT] at h9; exact h9)⟩)⟩⟩, hS.F ht⟩) hS.2.2 dX15_keyOf_225
                  ·
                    have ht152 : TGE (TC fc_116 (flI (TC (D j).2.2.2.2.2 (D j).2.2.2.2.1) 0 ((D j).2.2.2.2.1 - 0)).length) gg_129.2 gg_129.1 [118] := by obtain ⟨k9, h1, -, h3, -⟩ := rwx_y hw_457 c_458; exact ⟨k9, h1, h3⟩
                    refine lv_aload_n hx hb dX15_keyOf_155 rfl (lv_at hl 2 rfl) ?_
                    refine pg_get (ci := 15) (v := .ref ke) (C := RX15) (T := TX15) (N := 59) hx hb hts it_15 hown hK hP hL_h0 hF_229 rfl 36 (by decide) (hts _ kt_925) (fun _ h9 => h9) rfl dX15_keyOf_156 ?_
                    refine va_ldcwS hx hb hown hr_q_453 dX15_keyOf_159 ?_
                    obtain ⟨q_478, v_479, hr_q_478, hX_q_478⟩ := hG.2.2 ("PostGateModel", 535, "DKIM1", [68, 75, 73, 77, 49]) (by decide +kernel)
                    have hX_q_478 : SXc q_478 v_479 5 (cct [68, 75, 73, 77, 49]) A s s.heap := hX_q_478
                    obtain ⟨xo_q_478, xc_q_478, xv_q_478, xt_q_478, xn_q_478⟩ := id hX_q_478
                    have hr_q_478 : vk_R "PostGateModel" 535 "DKIM1" q_478 s := hr_q_478
                    refine va_ldcwS hx hb hown hr_q_478 dX15_keyOf_162 ?_
                    have hFc := pg_free hD hS hA
                    refine va_calli (va_runV (As := [.ref q_453, .ref q_478]) (rest := [.int 1]) ⟨hx, hb, hml, hown, hts⟩ (s_X13_has_x l dC dI cs ty gm L H.size F_223 ke (ρ + 13) x_5 700 700 y0_6 y1_7 y2_8 r_37 ((flI (TC (D j).2.2.2.2.2 (D j).2.2.2.2.1) 0 ((D j).2.2.2.2.1 - 0)).length) gg_129.1 fc_116 p0_132 p1_133 p2_134 gg_129.2 q_453 v_454 1 (cct [118]) q_478 v_479 5 (cct [68, 75, 73, 77, 49]) ([118]) DKM hW hi_31 ht_32 hi_33 ht_38 hF_233 hF_234 (by omega) hF_235 hF_236 hF_237 hF_238 (hti2) (hHL) (hti1) (by omega) (⟨rfl, by decide +kernel⟩) (⟨rfl, by decide +kernel⟩)) ⟨callB_of 2 hts (gi kt_863) rfl rfl rfl (hts _ kt_829) (hts _ kt_864) (by decide +kernel) ⟨Nat.le_of_ble_eq_true rfl, Nat.le_of_ble_eq_true rfl⟩, (hts _ kt_865), (hts _ kt_866)⟩ ⟨fun a U g mk q => ⟨q.1, PTEm.calling q.2⟩, pg_recv hK hP hi_31 hF_235 (q := (RX13, TX13, 5)) rfl, fun U hU hWm => ⟨rfl, PTEm.mk hU hWm hP hK hD hE hO hG (fun x hx => by simp only [List.mem_cons, List.not_mem_nil, or_false] at hx; rcases hx with hx | hx <;> subst hx <;> first | exact hX_q_453 | exact hX_q_478) hS hFc⟩⟩ rfl rfl hl.1 rfl (lv_room (Nat.le_of_ble_eq_true rfl)) dX15_keyOf_165 ⟨by show _ + 0 ≤ 0; omega, by show _ + 0 ≤ 0; omega⟩) hS (fun q _ h => hFc q h) hFc (fun r_480 u t H1 locs ht hvm hw hB hz1 hk1 hS => ?_)
                    obtain ⟨F_481, hB1⟩ := hB
                    obtain rfl : F_223 = F_481 := (funext (fun a => hB1.2.2.2 a List.not_mem_nil)).symm
                    obtain ⟨hP, hD, hO, hR⟩ := QTm.back hB1 ht hFc hR (fun q h => absurd h List.not_mem_nil)
                    generalize H1 = H at hP hS ⊢
                    have hw : ((r_480 = 1 ∧ TGV (TC fc_116 (flI (TC (D j).2.2.2.2.2 (D j).2.2.2.2.1) 0 ((D j).2.2.2.2.1 - 0)).length) gg_129.2 gg_129.1 [118] DKM) ∨ (r_480 = 0 ∧ ¬ TGV (TC fc_116 (flI (TC (D j).2.2.2.2.2 (D j).2.2.2.2.1) 0 ((D j).2.2.2.2.1 - 0)).length) gg_129.2 gg_129.1 [118] DKM)) := hw
                    have hw_482 := hw
                    refine lv_if_eq (tgt := 175) hx hb dX15_keyOf_168 (by decide) (fun c_483 => ?_) (fun c_483 => ?_)
                    ·
                      refine lv_iconst (v := 0) hx hb dX15_keyOf_175 (by decide) ?_
                      refine lv_iand hx hb dX15_keyOf_176 ?_
                      refine lv_topi (fun x_484 ex_484 => ?_)
                      obtain rfl : x_484 = 0 := ex_484.trans (by decide)
                      refine lv_istore_n (lv' := [(2, .int 0), (1, .int (nI j)), (0, .ref h0)]) hx hb dX15_keyOf_177 rfl hl (by decide) rfl (fun ls hl => ?_)
                      refine lv_iload_n hx hb dX15_keyOf_178 rfl (lv_at hl 0 rfl) ?_
                      refine lv_aload_n hx hb dX15_keyOf_179 rfl (lv_at hl 2 rfl) ?_
                      refine pg_get (ci := 15) (v := .ref ke) (C := RX15) (T := TX15) (N := 59) hx hb hts it_15 hown hK hP hL_h0 hF_229 rfl 36 (by decide) (hts _ kt_925) (fun _ h9 => h9) rfl dX15_keyOf_180 ?_
                      obtain ⟨q_485, v_486, hr_q_485, hX_q_485⟩ := hG.2.2 ("PostGateModel", 537, "k", [107]) (by decide +kernel)
                      have hX_q_485 : SXc q_485 v_486 1 (cct [107]) A s s.heap := hX_q_485
                      obtain ⟨xo_q_485, xc_q_485, xv_q_485, xt_q_485, xn_q_485⟩ := id hX_q_485
                      have hr_q_485 : vk_R "PostGateModel" 537 "k" q_485 s := hr_q_485
                      refine va_ldcwS hx hb hown hr_q_485 dX15_keyOf_183 ?_
                      have hFc := pg_free hD hS hA
                      refine va_calli (va_runV (As := [.ref q_485]) (rest := [.int 0]) ⟨hx, hb, hml, hown, hts⟩ (s_X13_find_x l dC dI cs ty gm L H.size F_223 ke (ρ + 13) x_5 700 700 y0_6 y1_7 y2_8 r_37 ((flI (TC (D j).2.2.2.2.2 (D j).2.2.2.2.1) 0 ((D j).2.2.2.2.1 - 0)).length) gg_129.1 fc_116 p0_132 p1_133 p2_134 gg_129.2 q_485 v_486 1 (cct [107]) ([107]) hW hi_31 ht_32 hi_33 ht_38 hF_233 hF_234 (by omega) hF_235 hF_236 hF_237 hF_238 (hti2) (hHL) (hti1) (by omega) (⟨rfl, by decide +kernel⟩)) ⟨callB_of 1 hts (gi kt_828) rfl rfl rfl (hts _ kt_829) (hts _ kt_839) (by decide +kernel) ⟨Nat.le_of_ble_eq_true rfl, Nat.le_of_ble_eq_true rfl⟩, (hts _ kt_831), (hts _ kt_832)⟩ ⟨fun a U g mk q => ⟨q.1, PTEm.calling q.2⟩, pg_recv hK hP hi_31 hF_235 (q := (RX13, TX13, 5)) rfl, fun U hU hWm => ⟨rfl, PTEm.mk hU hWm hP hK hD hE hO hG (fun x hx => by rw [List.mem_singleton] at hx; subst hx; exact hX_q_485) hS hFc⟩⟩ rfl rfl hl.1 rfl (lv_room (Nat.le_of_ble_eq_true rfl)) dX15_keyOf_186 ⟨by show _ + 0 ≤ 0; omega, by show _ + 0 ≤ 0; omega⟩) hS (fun q _ h => hFc q h) hFc (fun r_487 u t H1 locs ht hvm hw hB hz1 hk1 hS => ?_)
                      obtain ⟨F_488, hB1⟩ := hB
                      obtain rfl : F_223 = F_488 := (funext (fun a => hB1.2.2.2 a List.not_mem_nil)).symm
                      obtain ⟨hP, hD, hO, hR⟩ := QTm.back hB1 ht hFc hR (fun q h => absurd h List.not_mem_nil)
                      generalize H1 = H at hP hS ⊢
                      have hw : RWX (TC fc_116 (flI (TC (D j).2.2.2.2.2 (D j).2.2.2.2.1) 0 ((D j).2.2.2.2.1 - 0)).length) gg_129.2 gg_129.1 [107] r_487 := hw
                      have hw_489 := hw
                      refine lv_if_lt (tgt := 208) hx hb dX15_keyOf_189 (by decide) (fun c_490 => ?_) (fun c_490 => ?_)
                      ·
                        have ht189 : ¬ TGE (TC fc_116 (flI (TC (D j).2.2.2.2.2 (D j).2.2.2.2.1) 0 ((D j).2.2.2.2.1 - 0)).length) gg_129.2 gg_129.1 [107] := tge_n (rwx_n hw_489 hti2 c_490)
                        refine lv_iconst (v := 1) hx hb dX15_keyOf_208 (by decide) ?_
                        refine lv_goto (tgt := 213) hx hb dX15_keyOf_209 (by decide) ?_
                        refine lv_iand hx hb dX15_keyOf_213 ?_
                        refine lv_topi (fun x_491 ex_491 => ?_)
                        obtain rfl : x_491 = 0 := ex_491.trans (by decide)
                        refine lv_istore_n (lv' := [(2, .int 0), (1, .int (nI j)), (0, .ref h0)]) hx hb dX15_keyOf_214 rfl hl (by decide) rfl (fun ls hl => ?_)
                        refine lv_iload_n hx hb dX15_keyOf_215 rfl (lv_at hl 0 rfl) ?_
                        refine lv_if_eq (tgt := 223) hx hb dX15_keyOf_216 (by decide) (fun c_492 => ?_) (fun c_492 => absurd (by decide) c_492)
                        refine lv_bipush (v := 6) hx hb dX15_keyOf_223 (by decide) ?_
                        refine W.widen (k := 0) (n := 0) (by omega) (by omega) ?_
                        exact W.iret (v := 6) hx hb hr (fun t ht hWm => ⟨⟨6, j, rfl, (Or.inr (Or.inr ⟨hH3, hjz, hj0, hjs, hv2, Or.inr ⟨kyo_n hgt (by have h9 := (show ¬ KYB (TC fc_116 (flI (TC (D j).2.2.2.2.2 (D j).2.2.2.2.1) 0 ((D j).2.2.2.2.1 - 0)).length) gg_129.2 gg_129.1 from fun q => q.2.1.elim (fun w => w ht152) (orp0 hw_482 c_483)); rw [hwT] at h9; exact h9), rfl⟩⟩)), ⟨F_223, f2_224, QTm.mk ht hP hD hO hR, (fun q => absurd (kyx_2 q rfl).2 (kyo_n hgt (by have h9 := (show ¬ KYB (TC fc_116 (flI (TC (D j).2.2.2.2.2 (D j).2.2.2.2.1) 0 ((D j).2.2.2.2.1 - 0)).length) gg_129.2 gg_129.1 from fun q => q.2.1.elim (fun w => w ht152) (orp0 hw_482 c_483)); rw [hwT] at h9; exact h9)))⟩⟩, hS.F ht⟩) hS.2.2 dX15_keyOf_225
                      ·
                        have ht189 : TGE (TC fc_116 (flI (TC (D j).2.2.2.2.2 (D j).2.2.2.2.1) 0 ((D j).2.2.2.2.1 - 0)).length) gg_129.2 gg_129.1 [107] := by obtain ⟨k9, h1, -, h3, -⟩ := rwx_y hw_489 c_490; exact ⟨k9, h1, h3⟩
                        refine lv_aload_n hx hb dX15_keyOf_192 rfl (lv_at hl 2 rfl) ?_
                        refine pg_get (ci := 15) (v := .ref ke) (C := RX15) (T := TX15) (N := 59) hx hb hts it_15 hown hK hP hL_h0 hF_229 rfl 36 (by decide) (hts _ kt_925) (fun _ h9 => h9) rfl dX15_keyOf_193 ?_
                        refine va_ldcwS hx hb hown hr_q_485 dX15_keyOf_196 ?_
                        obtain ⟨q_493, v_494, hr_q_493, hX_q_493⟩ := hG.2.2 ("PostGateModel", 539, "rsa", [114, 115, 97]) (by decide +kernel)
                        have hX_q_493 : SXc q_493 v_494 3 (cct [114, 115, 97]) A s s.heap := hX_q_493
                        obtain ⟨xo_q_493, xc_q_493, xv_q_493, xt_q_493, xn_q_493⟩ := id hX_q_493
                        have hr_q_493 : vk_R "PostGateModel" 539 "rsa" q_493 s := hr_q_493
                        refine va_ldcwS hx hb hown hr_q_493 dX15_keyOf_199 ?_
                        have hFc := pg_free hD hS hA
                        refine va_calli (va_runV (As := [.ref q_485, .ref q_493]) (rest := [.int 0]) ⟨hx, hb, hml, hown, hts⟩ (s_X13_has_x l dC dI cs ty gm L H.size F_223 ke (ρ + 13) x_5 700 700 y0_6 y1_7 y2_8 r_37 ((flI (TC (D j).2.2.2.2.2 (D j).2.2.2.2.1) 0 ((D j).2.2.2.2.1 - 0)).length) gg_129.1 fc_116 p0_132 p1_133 p2_134 gg_129.2 q_485 v_486 1 (cct [107]) q_493 v_494 3 (cct [114, 115, 97]) ([107]) RSA3 hW hi_31 ht_32 hi_33 ht_38 hF_233 hF_234 (by omega) hF_235 hF_236 hF_237 hF_238 (hti2) (hHL) (hti1) (by omega) (⟨rfl, by decide +kernel⟩) (⟨rfl, by decide +kernel⟩)) ⟨callB_of 2 hts (gi kt_863) rfl rfl rfl (hts _ kt_829) (hts _ kt_864) (by decide +kernel) ⟨Nat.le_of_ble_eq_true rfl, Nat.le_of_ble_eq_true rfl⟩, (hts _ kt_865), (hts _ kt_866)⟩ ⟨fun a U g mk q => ⟨q.1, PTEm.calling q.2⟩, pg_recv hK hP hi_31 hF_235 (q := (RX13, TX13, 5)) rfl, fun U hU hWm => ⟨rfl, PTEm.mk hU hWm hP hK hD hE hO hG (fun x hx => by simp only [List.mem_cons, List.not_mem_nil, or_false] at hx; rcases hx with hx | hx <;> subst hx <;> first | exact hX_q_485 | exact hX_q_493) hS hFc⟩⟩ rfl rfl hl.1 rfl (lv_room (Nat.le_of_ble_eq_true rfl)) dX15_keyOf_202 ⟨by show _ + 0 ≤ 0; omega, by show _ + 0 ≤ 0; omega⟩) hS (fun q _ h => hFc q h) hFc (fun r_495 u t H1 locs ht hvm hw hB hz1 hk1 hS => ?_)
                        obtain ⟨F_496, hB1⟩ := hB
                        obtain rfl : F_223 = F_496 := (funext (fun a => hB1.2.2.2 a List.not_mem_nil)).symm
                        obtain ⟨hP, hD, hO, hR⟩ := QTm.back hB1 ht hFc hR (fun q h => absurd h List.not_mem_nil)
                        generalize H1 = H at hP hS ⊢
                        have hw : ((r_495 = 1 ∧ TGV (TC fc_116 (flI (TC (D j).2.2.2.2.2 (D j).2.2.2.2.1) 0 ((D j).2.2.2.2.1 - 0)).length) gg_129.2 gg_129.1 [107] RSA3) ∨ (r_495 = 0 ∧ ¬ TGV (TC fc_116 (flI (TC (D j).2.2.2.2.2 (D j).2.2.2.2.1) 0 ((D j).2.2.2.2.1 - 0)).length) gg_129.2 gg_129.1 [107] RSA3)) := hw
                        have hw_497 := hw
                        refine lv_if_eq (tgt := 212) hx hb dX15_keyOf_205 (by decide) (fun c_498 => ?_) (fun c_498 => ?_)
                        ·
                          refine lv_iconst (v := 0) hx hb dX15_keyOf_212 (by decide) ?_
                          refine lv_iand hx hb dX15_keyOf_213 ?_
                          refine lv_topi (fun x_499 ex_499 => ?_)
                          obtain rfl : x_499 = 0 := ex_499.trans (by decide)
                          refine lv_istore_n (lv' := [(2, .int 0), (1, .int (nI j)), (0, .ref h0)]) hx hb dX15_keyOf_214 rfl hl (by decide) rfl (fun ls hl => ?_)
                          refine lv_iload_n hx hb dX15_keyOf_215 rfl (lv_at hl 0 rfl) ?_
                          refine lv_if_eq (tgt := 223) hx hb dX15_keyOf_216 (by decide) (fun c_500 => ?_) (fun c_500 => absurd (by decide) c_500)
                          refine lv_bipush (v := 6) hx hb dX15_keyOf_223 (by decide) ?_
                          refine W.widen (k := 0) (n := 0) (by omega) (by omega) ?_
                          exact W.iret (v := 6) hx hb hr (fun t ht hWm => ⟨⟨6, j, rfl, (Or.inr (Or.inr ⟨hH3, hjz, hj0, hjs, hv2, Or.inr ⟨kyo_n hgt (by have h9 := (show ¬ KYB (TC fc_116 (flI (TC (D j).2.2.2.2.2 (D j).2.2.2.2.1) 0 ((D j).2.2.2.2.1 - 0)).length) gg_129.2 gg_129.1 from fun q => q.2.1.elim (fun w => w ht152) (orp0 hw_482 c_483)); rw [hwT] at h9; exact h9), rfl⟩⟩)), ⟨F_223, f2_224, QTm.mk ht hP hD hO hR, (fun q => absurd (kyx_2 q rfl).2 (kyo_n hgt (by have h9 := (show ¬ KYB (TC fc_116 (flI (TC (D j).2.2.2.2.2 (D j).2.2.2.2.1) 0 ((D j).2.2.2.2.1 - 0)).length) gg_129.2 gg_129.1 from fun q => q.2.1.elim (fun w => w ht152) (orp0 hw_482 c_483)); rw [hwT] at h9; exact h9)))⟩⟩, hS.F ht⟩) hS.2.2 dX15_keyOf_225
                        ·
                          refine lv_iconst (v := 1) hx hb dX15_keyOf_208 (by decide) ?_
                          refine lv_goto (tgt := 213) hx hb dX15_keyOf_209 (by decide) ?_
                          refine lv_iand hx hb dX15_keyOf_213 ?_
                          refine lv_topi (fun x_501 ex_501 => ?_)
                          obtain rfl : x_501 = 0 := ex_501.trans (by decide)
                          refine lv_istore_n (lv' := [(2, .int 0), (1, .int (nI j)), (0, .ref h0)]) hx hb dX15_keyOf_214 rfl hl (by decide) rfl (fun ls hl => ?_)
                          refine lv_iload_n hx hb dX15_keyOf_215 rfl (lv_at hl 0 rfl) ?_
                          refine lv_if_eq (tgt := 223) hx hb dX15_keyOf_216 (by decide) (fun c_502 => ?_) (fun c_502 => absurd (by decide) c_502)
                          refine lv_bipush (v := 6) hx hb dX15_keyOf_223 (by decide) ?_
                          refine W.widen (k := 0) (n := 0) (by omega) (by omega) ?_
                          exact W.iret (v := 6) hx hb hr (fun t ht hWm => ⟨⟨6, j, rfl, (Or.inr (Or.inr ⟨hH3, hjz, hj0, hjs, hv2, Or.inr ⟨kyo_n hgt (by have h9 := (show ¬ KYB (TC fc_116 (flI (TC (D j).2.2.2.2.2 (D j).2.2.2.2.1) 0 ((D j).2.2.2.2.1 - 0)).length) gg_129.2 gg_129.1 from fun q => q.2.1.elim (fun w => w ht152) (orp0 hw_482 c_483)); rw [hwT] at h9; exact h9), rfl⟩⟩)), ⟨F_223, f2_224, QTm.mk ht hP hD hO hR, (fun q => absurd (kyx_2 q rfl).2 (kyo_n hgt (by have h9 := (show ¬ KYB (TC fc_116 (flI (TC (D j).2.2.2.2.2 (D j).2.2.2.2.1) 0 ((D j).2.2.2.2.1 - 0)).length) gg_129.2 gg_129.1 from fun q => q.2.1.elim (fun w => w ht152) (orp0 hw_482 c_483)); rw [hwT] at h9; exact h9)))⟩⟩, hS.F ht⟩) hS.2.2 dX15_keyOf_225
                    ·
                      refine lv_iconst (v := 1) hx hb dX15_keyOf_171 (by decide) ?_
                      refine lv_goto (tgt := 176) hx hb dX15_keyOf_172 (by decide) ?_
                      refine lv_iand hx hb dX15_keyOf_176 ?_
                      refine lv_topi (fun x_503 ex_503 => ?_)
                      obtain rfl : x_503 = 1 := ex_503.trans (by decide)
                      refine lv_istore_n (lv' := [(2, .int 1), (1, .int (nI j)), (0, .ref h0)]) hx hb dX15_keyOf_177 rfl hl (by decide) rfl (fun ls hl => ?_)
                      refine lv_iload_n hx hb dX15_keyOf_178 rfl (lv_at hl 0 rfl) ?_
                      refine lv_aload_n hx hb dX15_keyOf_179 rfl (lv_at hl 2 rfl) ?_
                      refine pg_get (ci := 15) (v := .ref ke) (C := RX15) (T := TX15) (N := 59) hx hb hts it_15 hown hK hP hL_h0 hF_229 rfl 36 (by decide) (hts _ kt_925) (fun _ h9 => h9) rfl dX15_keyOf_180 ?_
                      obtain ⟨q_504, v_505, hr_q_504, hX_q_504⟩ := hG.2.2 ("PostGateModel", 537, "k", [107]) (by decide +kernel)
                      have hX_q_504 : SXc q_504 v_505 1 (cct [107]) A s s.heap := hX_q_504
                      obtain ⟨xo_q_504, xc_q_504, xv_q_504, xt_q_504, xn_q_504⟩ := id hX_q_504
                      have hr_q_504 : vk_R "PostGateModel" 537 "k" q_504 s := hr_q_504
                      refine va_ldcwS hx hb hown hr_q_504 dX15_keyOf_183 ?_
                      have hFc := pg_free hD hS hA
                      refine va_calli (va_runV (As := [.ref q_504]) (rest := [.int 1]) ⟨hx, hb, hml, hown, hts⟩ (s_X13_find_x l dC dI cs ty gm L H.size F_223 ke (ρ + 13) x_5 700 700 y0_6 y1_7 y2_8 r_37 ((flI (TC (D j).2.2.2.2.2 (D j).2.2.2.2.1) 0 ((D j).2.2.2.2.1 - 0)).length) gg_129.1 fc_116 p0_132 p1_133 p2_134 gg_129.2 q_504 v_505 1 (cct [107]) ([107]) hW hi_31 ht_32 hi_33 ht_38 hF_233 hF_234 (by omega) hF_235 hF_236 hF_237 hF_238 (hti2) (hHL) (hti1) (by omega) (⟨rfl, by decide +kernel⟩)) ⟨callB_of 1 hts (gi kt_828) rfl rfl rfl (hts _ kt_829) (hts _ kt_839) (by decide +kernel) ⟨Nat.le_of_ble_eq_true rfl, Nat.le_of_ble_eq_true rfl⟩, (hts _ kt_831), (hts _ kt_832)⟩ ⟨fun a U g mk q => ⟨q.1, PTEm.calling q.2⟩, pg_recv hK hP hi_31 hF_235 (q := (RX13, TX13, 5)) rfl, fun U hU hWm => ⟨rfl, PTEm.mk hU hWm hP hK hD hE hO hG (fun x hx => by rw [List.mem_singleton] at hx; subst hx; exact hX_q_504) hS hFc⟩⟩ rfl rfl hl.1 rfl (lv_room (Nat.le_of_ble_eq_true rfl)) dX15_keyOf_186 ⟨by show _ + 0 ≤ 0; omega, by show _ + 0 ≤ 0; omega⟩) hS (fun q _ h => hFc q h) hFc (fun r_506 u t H1 locs ht hvm hw hB hz1 hk1 hS => ?_)
                      obtain ⟨F_507, hB1⟩ := hB
                      obtain rfl : F_223 = F_507 := (funext (fun a => hB1.2.2.2 a List.not_mem_nil)).symm
                      obtain ⟨hP, hD, hO, hR⟩ := QTm.back hB1 ht hFc hR (fun q h => absurd h List.not_mem_nil)
                      generalize H1 = H at hP hS ⊢
                      have hw : RWX (TC fc_116 (flI (TC (D j).2.2.2.2.2 (D j).2.2.2.2.1) 0 ((D j).2.2.2.2.1 - 0)).length) gg_129.2 gg_129.1 [107] r_506 := hw
                      have hw_508 := hw
                      refine lv_if_lt (tgt := 208) hx hb dX15_keyOf_189 (by decide) (fun c_509 => ?_) (fun c_509 => ?_)
                      ·
                        have ht189 : ¬ TGE (TC fc_116 (flI (TC (D j).2.2.2.2.2 (D j).2.2.2.2.1) 0 ((D j).2.2.2.2.1 - 0)).length) gg_129.2 gg_129.1 [107] := tge_n (rwx_n hw_508 hti2 c_509)
                        refine lv_iconst (v := 1) hx hb dX15_keyOf_208 (by decide) ?_
                        refine lv_goto (tgt := 213) hx hb dX15_keyOf_209 (by decide) ?_
                        refine lv_iand hx hb dX15_keyOf_213 ?_
                        refine lv_topi (fun x_510 ex_510 => ?_)
                        obtain rfl : x_510 = 1 := ex_510.trans (by decide)
                        refine lv_istore_n (lv' := [(2, .int 1), (1, .int (nI j)), (0, .ref h0)]) hx hb dX15_keyOf_214 rfl hl (by decide) rfl (fun ls hl => ?_)
                        refine lv_iload_n hx hb dX15_keyOf_215 rfl (lv_at hl 0 rfl) ?_
                        refine lv_if_eq (tgt := 223) hx hb dX15_keyOf_216 (by decide) (fun c_511 => absurd c_511 (by decide)) (fun c_511 => ?_)
                        refine lv_iconst (v := 2) hx hb dX15_keyOf_219 (by decide) ?_
                        refine lv_goto (tgt := 225) hx hb dX15_keyOf_220 (by decide) ?_
                        refine W.widen (k := 0) (n := 0) (by omega) (by omega) ?_
                        exact W.iret (v := 2) hx hb hr (fun t ht hWm => ⟨⟨2, j, rfl, (Or.inr (Or.inr ⟨hH3, hjz, hj0, hjs, hv2, Or.inl ⟨⟨_, hgt, (by have h9 := (show KYB (TC fc_116 (flI (TC (D j).2.2.2.2.2 (D j).2.2.2.2.1) 0 ((D j).2.2.2.2.1 - 0)).length) gg_129.2 gg_129.1 from ⟨hD9, Or.inr (orp1 hw_482 c_483), Or.inl ht189, h128, hodd⟩); rw [hwT] at h9; exact h9)⟩, rfl⟩⟩)), ⟨F_223, f2_224, QTm.mk ht hP hD hO hR, (fun _ => ⟨hq_225, by rw [kyM_e hgt]; exact (by have h9 := hBM; rw [hwT] at h9; exact h9)⟩)⟩⟩, hS.F ht⟩) hS.2.2 dX15_keyOf_225
                      ·
                        have ht189 : TGE (TC fc_116 (flI (TC (D j).2.2.2.2.2 (D j).2.2.2.2.1) 0 ((D j).2.2.2.2.1 - 0)).length) gg_129.2 gg_129.1 [107] := by obtain ⟨k9, h1, -, h3, -⟩ := rwx_y hw_508 c_509; exact ⟨k9, h1, h3⟩
                        refine lv_aload_n hx hb dX15_keyOf_192 rfl (lv_at hl 2 rfl) ?_
                        refine pg_get (ci := 15) (v := .ref ke) (C := RX15) (T := TX15) (N := 59) hx hb hts it_15 hown hK hP hL_h0 hF_229 rfl 36 (by decide) (hts _ kt_925) (fun _ h9 => h9) rfl dX15_keyOf_193 ?_
                        refine va_ldcwS hx hb hown hr_q_504 dX15_keyOf_196 ?_
                        obtain ⟨q_512, v_513, hr_q_512, hX_q_512⟩ := hG.2.2 ("PostGateModel", 539, "rsa", [114, 115, 97]) (by decide +kernel)
                        have hX_q_512 : SXc q_512 v_513 3 (cct [114, 115, 97]) A s s.heap := hX_q_512
                        obtain ⟨xo_q_512, xc_q_512, xv_q_512, xt_q_512, xn_q_512⟩ := id hX_q_512
                        have hr_q_512 : vk_R "PostGateModel" 539 "rsa" q_512 s := hr_q_512
                        refine va_ldcwS hx hb hown hr_q_512 dX15_keyOf_199 ?_
                        have hFc := pg_free hD hS hA
                        refine va_calli (va_runV (As := [.ref q_504, .ref q_512]) (rest := [.int 1]) ⟨hx, hb, hml, hown, hts⟩ (s_X13_has_x l dC dI cs ty gm L H.size F_223 ke (ρ + 13) x_5 700 700 y0_6 y1_7 y2_8 r_37 ((flI (TC (D j).2.2.2.2.2 (D j).2.2.2.2.1) 0 ((D j).2.2.2.2.1 - 0)).length) gg_129.1 fc_116 p0_132 p1_133 p2_134 gg_129.2 q_504 v_505 1 (cct [107]) q_512 v_513 3 (cct [114, 115, 97]) ([107]) RSA3 hW hi_31 ht_32 hi_33 ht_38 hF_233 hF_234 (by omega) hF_235 hF_236 hF_237 hF_238 (hti2) (hHL) (hti1) (by omega) (⟨rfl, by decide +kernel⟩) (⟨rfl, by decide +kernel⟩)) ⟨callB_of 2 hts (gi kt_863) rfl rfl rfl (hts _ kt_829) (hts _ kt_864) (by decide +kernel) ⟨Nat.le_of_ble_eq_true rfl, Nat.le_of_ble_eq_true rfl⟩, (hts _ kt_865), (hts _ kt_866)⟩ ⟨fun a U g mk q => ⟨q.1, PTEm.calling q.2⟩, pg_recv hK hP hi_31 hF_235 (q := (RX13, TX13, 5)) rfl, fun U hU hWm => ⟨rfl, PTEm.mk hU hWm hP hK hD hE hO hG (fun x hx => by simp only [List.mem_cons, List.not_mem_nil, or_false] at hx; rcases hx with hx | hx <;> subst hx <;> first | exact hX_q_504 | exact hX_q_512) hS hFc⟩⟩ rfl rfl hl.1 rfl (lv_room (Nat.le_of_ble_eq_true rfl)) dX15_keyOf_202 ⟨by show _ + 0 ≤ 0; omega, by show _ + 0 ≤ 0; omega⟩) hS (fun q _ h => hFc q h) hFc (fun r_514 u t H1 locs ht hvm hw hB hz1 hk1 hS => ?_)
                        obtain ⟨F_515, hB1⟩ := hB
                        obtain rfl : F_223 = F_515 := (funext (fun a => hB1.2.2.2 a List.not_mem_nil)).symm
                        obtain ⟨hP, hD, hO, hR⟩ := QTm.back hB1 ht hFc hR (fun q h => absurd h List.not_mem_nil)
                        generalize H1 = H at hP hS ⊢
                        have hw : ((r_514 = 1 ∧ TGV (TC fc_116 (flI (TC (D j).2.2.2.2.2 (D j).2.2.2.2.1) 0 ((D j).2.2.2.2.1 - 0)).length) gg_129.2 gg_129.1 [107] RSA3) ∨ (r_514 = 0 ∧ ¬ TGV (TC fc_116 (flI (TC (D j).2.2.2.2.2 (D j).2.2.2.2.1) 0 ((D j).2.2.2.2.1 - 0)).length) gg_129.2 gg_129.1 [107] RSA3)) := hw
                        have hw_516 := hw
                        refine lv_if_eq (tgt := 212) hx hb dX15_keyOf_205 (by decide) (fun c_517 => ?_) (fun c_517 => ?_)
                        ·
                          refine lv_iconst (v := 0) hx hb dX15_keyOf_212 (by decide) ?_
                          refine lv_iand hx hb dX15_keyOf_213 ?_
                          refine lv_topi (fun x_518 ex_518 => ?_)
                          obtain rfl : x_518 = 0 := ex_518.trans (by decide)
                          refine lv_istore_n (lv' := [(2, .int 0), (1, .int (nI j)), (0, .ref h0)]) hx hb dX15_keyOf_214 rfl hl (by decide) rfl (fun ls hl => ?_)
                          refine lv_iload_n hx hb dX15_keyOf_215 rfl (lv_at hl 0 rfl) ?_
                          refine lv_if_eq (tgt := 223) hx hb dX15_keyOf_216 (by decide) (fun c_519 => ?_) (fun c_519 => absurd (by decide) c_519)
                          refine lv_bipush (v := 6) hx hb dX15_keyOf_223 (by decide) ?_
                          refine W.widen (k := 0) (n := 0) (by omega) (by omega) ?_
                          exact W.iret (v := 6) hx hb hr (fun t ht hWm => ⟨⟨6, j, rfl, (Or.inr (Or.inr ⟨hH3, hjz, hj0, hjs, hv2, Or.inr ⟨kyo_n hgt (by have h9 := (show ¬ KYB (TC fc_116 (flI (TC (D j).2.2.2.2.2 (D j).2.2.2.2.1) 0 ((D j).2.2.2.2.1 - 0)).length) gg_129.2 gg_129.1 from fun q => q.2.2.1.elim (fun w => w ht189) (orp0 hw_516 c_517)); rw [hwT] at h9; exact h9), rfl⟩⟩)), ⟨F_223, f2_224, QTm.mk ht hP hD hO hR, (fun q => absurd (kyx_2 q rfl).2 (kyo_n hgt (by have h9 := (show ¬ KYB (TC fc_116 (flI (TC (D j).2.2.2.2.2 (D j).2.2.2.2.1) 0 ((D j).2.2.2.2.1 - 0)).length) gg_129.2 gg_129.1 from fun q => q.2.2.1.elim (fun w => w ht189) (orp0 hw_516 c_517)); rw [hwT] at h9; exact h9)))⟩⟩, hS.F ht⟩) hS.2.2 dX15_keyOf_225
                        ·
                          refine lv_iconst (v := 1) hx hb dX15_keyOf_208 (by decide) ?_
                          refine lv_goto (tgt := 213) hx hb dX15_keyOf_209 (by decide) ?_
                          refine lv_iand hx hb dX15_keyOf_213 ?_
                          refine lv_topi (fun x_520 ex_520 => ?_)
                          obtain rfl : x_520 = 1 := ex_520.trans (by decide)
                          refine lv_istore_n (lv' := [(2, .int 1), (1, .int (nI j)), (0, .ref h0)]) hx hb dX15_keyOf_214 rfl hl (by decide) rfl (fun ls hl => ?_)
                          refine lv_iload_n hx hb dX15_keyOf_215 rfl (lv_at hl 0 rfl) ?_
                          refine lv_if_eq (tgt := 223) hx hb dX15_keyOf_216 (by decide) (fun c_521 => absurd c_521 (by decide)) (fun c_521 => ?_)
                          refine lv_iconst (v := 2) hx hb dX15_keyOf_219 (by decide) ?_
                          refine lv_goto (tgt := 225) hx hb dX15_keyOf_220 (by decide) ?_
                          refine W.widen (k := 0) (n := 0) (by omega) (by omega) ?_
                          exact W.iret (v := 2) hx hb hr (fun t ht hWm => ⟨⟨2, j, rfl, (Or.inr (Or.inr ⟨hH3, hjz, hj0, hjs, hv2, Or.inl ⟨⟨_, hgt, (by have h9 := (show KYB (TC fc_116 (flI (TC (D j).2.2.2.2.2 (D j).2.2.2.2.1) 0 ((D j).2.2.2.2.1 - 0)).length) gg_129.2 gg_129.1 from ⟨hD9, Or.inr (orp1 hw_482 c_483), Or.inr (orp1 hw_516 c_517), h128, hodd⟩); rw [hwT] at h9; exact h9)⟩, rfl⟩⟩)), ⟨F_223, f2_224, QTm.mk ht hP hD hO hR, (fun _ => ⟨hq_225, by rw [kyM_e hgt]; exact (by have h9 := hBM; rw [hwT] at h9; exact h9)⟩)⟩⟩, hS.F ht⟩) hS.2.2 dX15_keyOf_225
        ·
          have hi_522 : j = ze := (nI_eq (a := j) (b := ze) (by omega) (by omega)).mp c_94
          exact absurd ((nI_eq (by omega) (by omega)).mp c_94) (by omega)
      ·
        refine lv_iinc (v := (nI (j + 1))) (lv' := [(1, .int (nI (j + 1))), (0, .ref h0)]) hx hb dX15_keyOf_36 hl (k := 0) rfl (nI_1 _) (by decide) rfl (fun ls hl => ?_)
        refine lv_goto (tgt := 15) hx hb dX15_keyOf_39 (by decide) ?_
        refine W.widen (k := 0) (n := 0) (by omega) (by omega) ?_
        exact ih_80 (j + 1) F_75 (⟨by omega, hau_s hv2 (orp0 hw_92 c_93)⟩) (by show ze - (j + 1) < ze - j; omega) hO hR _ _ hP hD hS ls (lv_sub hl [0, 1] rfl)
  ·
    have hH3 : HAU D ze 3 U := orp1 hw_73 c_74
    refine lv_iconst (v := 5) hx hb dX15_keyOf_11 (by decide) ?_
    refine W.widen (k := 0) (n := 0) (by omega) (by omega) ?_
    exact W.iret (v := 5) hx hb hr (fun t ht hWm => ⟨⟨5, 0, rfl, (Or.inl ⟨hH3, rfl⟩), ⟨F, (fun _ => 0), QTm.mk ht hP hD hO hR, (fun q => absurd hH3 (by rcases q with q | q | q; exact absurd q.2 (by decide); exact q.1; exact q.1))⟩⟩, hS.F ht⟩) hS.2.2 dX15_keyOf_12
def skL (s e b : Nat) : Nat → List (Nat × Nat)
  | 0 => []
  | k + 1 => if s ≤ b + k ∧ b + k < e then skL s e b k else skL s e b k ++ [(0, b + k)]
theorem skL_y {s e b k : Nat} (h : s ≤ b + k ∧ b + k < e) : skL s e b (k + 1) = skL s e b k := if_pos h
theorem skL_n {s e b k : Nat} (h : ¬ (s ≤ b + k ∧ b + k < e)) : skL s e b (k + 1) = skL s e b k ++ [(0, b + k)] := if_neg h
theorem skL_len {s e b : Nat} : ∀ k, (skL s e b k).length ≤ k := by
  intro k
  induction k with
  | zero => exact Nat.le_refl _
  | succ k ih =>
    by_cases c : s ≤ b + k ∧ b + k < e
    · rw [skL_y c]
      omega
    · rw [skL_n c, len1]
      omega
theorem skL_a {s e b : Nat} : ∀ k, (s = e ∨ b + k ≤ s) → skL s e b k = rng 0 b k := by
  intro k
  induction k with
  | zero => intro _; rfl
  | succ k ih =>
    intro h
    rw [skL_n (by omega), ih (by omega), rng_s]
theorem skL_b {s e b : Nat} (hs : b ≤ s) : ∀ k, s ≤ b + k → b + k ≤ e → skL s e b k = rng 0 b (s - b) := by
  intro k
  induction k with
  | zero =>
    intro h1 h2
    rw [show s - b = 0 by omega]
    rfl
  | succ k ih =>
    intro h1 h2
    by_cases c : s = b + (k + 1)
    · rw [skL_a (k + 1) (by omega), show s - b = k + 1 by omega]
    · rw [skL_y (by omega), ih (by omega) (by omega)]
theorem skL_c {s e b : Nat} (hs : b ≤ s) (he : s ≤ e) : ∀ k, e ≤ b + k → skL s e b k = rng 0 b (s - b) ++ rng 0 e (b + k - e) := by
  intro k
  induction k with
  | zero =>
    intro h1
    rw [skL_b hs 0 (by omega) (by omega), show b + 0 - e = 0 by omega]
    exact (List.append_nil _).symm
  | succ k ih =>
    intro h1
    by_cases c : e = b + (k + 1)
    · rw [skL_b hs (k + 1) (by omega) (by omega), show b + (k + 1) - e = 0 by omega]
      exact (List.append_nil _).symm
    · rw [skL_n (by omega), ih (by omega), show b + (k + 1) - e = b + k - e + 1 by omega, rng_s, ← List.append_assoc, show e + (b + k - e) = b + k by omega]
theorem skL_fpw {T : Nat → Nat} {x : Int32} {b c d s e : Nat} (h : x = 0) (hb : b < c) (hc : c < d) (hse : s = e ∨ (c < s ∧ s ≤ e ∧ e ≤ d)) : skL s e b (d - b) = FPW T x b c d s e := by
  by_cases q : s = e
  · rw [FPW_s h q, skL_a _ (Or.inl q)]
  · rw [FPW_t h q, skL_c (by omega) (by omega) _ (by omega), show b + (d - b) - e = d - e by omega]
theorem skl_ap {ac : List (Nat × Nat)} {s e b i : Nat} (hb : b ≤ i) (h : ¬ (s ≤ i ∧ i < e)) : ac ++ skL s e b (i - b) ++ [(0, i)] = ac ++ skL s e b (i + 1 - b) := by
  rw [show i + 1 - b = i - b + 1 by omega, skL_n (by omega), show b + (i - b) = i by omega, List.append_assoc]
theorem skl_sk {ac : List (Nat × Nat)} {s e b i : Nat} (hb : b ≤ i) (h : s ≤ i ∧ i < e) : ac ++ skL s e b (i - b) = ac ++ skL s e b (i + 1 - b) := by
  rw [show i + 1 - b = i - b + 1 by omega, skL_y (by omega)]
theorem rng_ap {ac : List (Nat × Nat)} {k b i : Nat} (hb : b ≤ i) : ac ++ rng k b (i - b) ++ [(k, i)] = ac ++ rng k b (i + 1 - b) := by
  rw [show i + 1 - b = i - b + 1 by omega, rng_s, show b + (i - b) = i by omega, List.append_assoc]
set_option maxHeartbeats 4000000 in
set_option maxRecDepth 100000 in
theorem s_X15_fieldPlain_s (l : Launch) (dC : Nat → ClassId) (dI : Nat → Nat → Nat) (cs : Nat → ClassId) (ty : TyM) (gm : Nat → Nat → Nat) (L : List Nat) (sz : Nat) (F : Nat → va_E) (h0 : Nat) (ρ : Nat) (ta : Nat) (ou : Nat) (so : Nat) (ad : Nat) (na : Nat) (va : Nat) (lc : Nat) (dm : Nat) (tg : Nat) (pe : Nat) (ml : Nat) (bg : Nat) (co : Nat) (sp : Nat) (nb0 : Nat) (nb1 : Nat) (nb2 : Nat) (pl : Nat) (se : Nat) (ke : Nat) (wi : Nat) (hs : Nat) (mo : Nat) (po : Nat) (nu : Nat) (pr : Nat) (sq : Nat) (xa : Nat) (sa : Nat) (n64 : Nat) (m64 : Nat) (ex : Nat) (wh : Nat) (sd : Nat) (tk : Nat) (hd : Nat) (ak : Nat) (ho : Nat) (ot : Nat) (sx : Nat) (s0 : Nat) (s1 : Nat) (s2 : Nat) (nf : Nat) (bd : Nat) (mm : Nat) (zo : Nat) (fm : Nat) (sn : Nat) (hg : Nat) (gc : Nat) (gv : Nat) (ze : Nat) (zt : Nat) (rl : Nat) (jf : Nat) (kd : Nat) (kS : Nat) (kE : Nat) (ac : List (Nat × Nat)) (fo : Nat → Int32) (gl : Nat → Int32) (x2 : Int32) (hW : WTm ty gm L) (hL_h0 : h0 ∈ L) (hT_h0 : ty h0 = (15, ρ, [ta, ou, so, ad, na, va, lc, dm, tg, pe, ml, bg, co, sp, nb0, nb1, nb2, pl, se, ke, wi, hs, mo, po, nu, pr, sq, xa, sa, n64, m64, ex, wh, sd, tk, hd, ak, ho, ot, sx, s0, s1, s2, nf, bd, mm, zo, fm, sn, hg, gc, gv, ze, zt])) (hL_pl : pl ∈ L) (hT_pl : ty pl = (14, ρ + 10, [rl, 6000])) (hFml : F ml = .inl (cs 17, 3000, .inl gl)) (hjf : jf < nf) (hst : gm 2 jf = min mm (kd + 1)) (hcd : gm 1 jf < kd) (hdm : kd ≤ mm) (hek : EOK (clr gl) mm kd) (hFl : F pl = .inr (14, [.ref rl, .int (nI ac.length)])) (hFo : F rl = .inl (cs 17, 6000, .inl fo)) (hou : OUTM gl fo ac) (hse : kS = kE ∨ (gm 1 jf < kS ∧ kS ≤ kE ∧ kE ≤ kd)) (hks : kS ≤ 3000) (hroom : ac.length + (kd - gm 0 jf) ≤ 5000) : Met l yX15_fieldPlain (.code yX15_fieldPlain cX15_fieldPlain 9 none :: tb) ({ frames := 1, cells := 0, slots := 0, locals := 21 }) (va_Pc [.ref h0, .int (nI jf), .int x2, .int (nI kS), .int (nI kE)] (PTm (dC, dI) cs ty gm L F sz)) (va_Qv (fun _ : Unit => True) (fun _ T9 => ∃ F2 : Nat → va_E, ∃ f2 : Nat → Int32, QTm (dC, dI) cs ty gm L [ρ + 10] F F2 (va_A (va_pl L F) sz) T9 ∧ F2 pl = .inr (14, [.ref rl, .int (nI (ac ++ (FPW (clr gl) x2 (gm 0 jf) (gm 1 jf) kd kS kE)).length)]) ∧ F2 rl = .inl (cs 17, 6000, .inl f2) ∧ OUTM gl f2 (ac ++ (FPW (clr gl) x2 (gm 0 jf) (gm 1 jf) kd kS kE))) (va_A (va_pl L F) sz)) 0 0 (va_A (va_pl L F) sz) := by
  refine Met.ofW (cc := cX15_fieldPlain) (maxL := 9) (ret := none) (by decide) rfl ?_
  intro p e s m args below meth c s₁ B hml hv
  obtain ⟨rfl, hsz, hP, hK, hD0, hE, hO⟩ := hv
  have hx := B.exec
  have hb := B.bytes
  have hr := B.returns
  have hts : ∀ w ∈ tb, w.before _ s = true := fun w h => atoms_spec (ws := .code yX15_fieldPlain cX15_fieldPlain 9 none :: tb) B.pre w (List.mem_cons_of_mem _ h)
  have hown : s.vm.findClass RX15 = some m.cls := findClass_of_methodNamed B.named
  have hlocks := B.notSynchronized
  subst hsz
  have hD := hD0.self (sz := s.heap.size)
  generalize hAe : va_A (va_pl L F) s.heap.size = A at hD ⊢
  have hA : ∀ q : Nat, s.heap.size ≤ q → A q := fun q h => by rw [← hAe]; exact Or.inr h
  have hS : va_S A s.heap s.heap [] := va_S.rf
  have hR : FR ty [ρ + 10] F F := FR.refl
  have hl := lv_entry ([.ref h0, .int (nI jf), .int x2, .int (nI kS), .int (nI kE)]) (n := 9) (Nat.le_of_ble_eq_true rfl)
  rw [lg_entry_eq]
  generalize (lg_sl ([.ref h0, .int (nI jf), .int x2, .int (nI kS), .int (nI kE)]) ++ List.replicate (9 - (lg_sl ([.ref h0, .int (nI jf), .int x2, .int (nI kS), .int (nI kE)])).length) Slot.unset).toArray = ls at hl ⊢
  have hl : lv_has ls 9 [(0, .ref h0), (1, .int (nI jf)), (2, .int x2), (3, .int (nI kS)), (4, .int (nI kE))] := hl
  obtain ⟨hq_22, hq_23, hq_24, hq_25, hq_26, hgO, hgA, hgB, hq_27⟩ := hW.sc hL_h0 hT_h0
  have hoj := hgO jf hjf
  obtain ⟨hi_28, ht_29, hq_30⟩ := hW.txt hL_pl hT_pl
  refine lv_aload_n hx hb dX15_fieldPlain_0 rfl (lv_at hl 0 rfl) ?_
  refine lv_iload_n hx hb dX15_fieldPlain_1 rfl (lv_at hl 1 rfl) ?_
  obtain ⟨hi_31, ht_32⟩ := hW.f_ml hL_h0 hT_h0
  obtain ⟨hq_33, hq_34⟩ := hW.octs hi_31 ht_32
  have hFc := pg_free hD hS hA
  obtain ⟨v14_35, v15_36, v17_37, v18_38, v19_39, v20_40, v21_41, v22_42, v33_43, v52_44, v53_45, v54_46, hF_47, hq_48, hq_49, hq_50, hq_51, hq_52⟩ := hO.mod hL_h0 hT_h0
  refine va_calli (va_runV (As := [.int (nI jf)]) (rest := []) ⟨hx, hb, hml, hown, hts⟩ (s_X15_valueEnd_e l dC dI cs ty gm L s.heap.size F h0 ρ ta ou so ad na va lc dm tg pe ml bg co sp nb0 nb1 nb2 pl se ke wi hs mo po nu pr sq xa sa n64 m64 ex wh sd tk hd ak ho ot sx s0 s1 s2 nf bd mm zo fm sn hg gc gv ze zt jf kd gl hW hL_h0 hT_h0 hFml (by first | omega | assumption | exact Or.inl rfl) (by first | omega | assumption | exact Or.inl rfl) (by first | omega | assumption | exact Or.inl rfl) (by first | omega | assumption | exact Or.inl rfl) (by first | omega | assumption | exact Or.inl rfl)) ⟨callB_of 1 hts (gi kt_897) rfl rfl rfl (hts _ kt_669) (hts _ kt_898) (by decide +kernel) ⟨Nat.le_of_ble_eq_true rfl, Nat.le_of_ble_eq_true rfl⟩, (hts _ kt_899), (hts _ kt_900)⟩ ⟨fun a U g mk q => ⟨q.1, PTm.calling q.2⟩, pg_recv hK hP hL_h0 hF_47 (q := (RX15, TX15, 59)) rfl, fun U hU hWm => ⟨rfl, PTm.mk hU hWm hP hK hD hE hO⟩⟩ rfl rfl hl.1 rfl (lv_room (Nat.le_of_ble_eq_true rfl)) dX15_fieldPlain_2 ⟨by show _ + 0 ≤ 0; omega, by show _ + 0 ≤ 0; omega⟩) hS (fun q _ h => hFc q h) hFc (fun r_53 u t H1 locs ht hvm hw hB hz1 hk1 hS => ?_)
  obtain ⟨F_54, hB1⟩ := hB
  obtain rfl : F = F_54 := (funext (fun a => hB1.2.2.2 a List.not_mem_nil)).symm
  obtain ⟨hP, hD, hO, hR⟩ := QTm.back hB1 ht hFc hR (fun q h => absurd h List.not_mem_nil)
  generalize H1 = H at hP hS ⊢
  have hw : r_53 = nI kd := hw
  subst hw
  refine lv_istore (lv' := [(5, .int (nI kd)), (0, .ref h0), (1, .int (nI jf)), (2, .int x2), (3, .int (nI kS)), (4, .int (nI kE))]) hx hb dX15_fieldPlain_5 hl (by decide) rfl (fun ls hl => ?_)
  refine lv_iload_n hx hb dX15_fieldPlain_7 rfl (lv_at hl 3 rfl) ?_
  refine lv_if_ne (tgt := 60) hx hb dX15_fieldPlain_8 (by decide) (fun c_55 => ?_) (fun c_55 => ?_)
  ·
    refine lv_aload_n hx hb dX15_fieldPlain_60 rfl (lv_at hl 1 rfl) ?_
    refine pg_get (ci := 15) (v := .ref bg) (C := RX15) (T := TX15) (N := 59) hx hb hts it_15 hown hK hP hL_h0 hF_47 rfl 24 (by decide) (hts _ kt_888) (fun _ h9 => h9) rfl dX15_fieldPlain_61 ?_
    refine lv_iload_n hx hb dX15_fieldPlain_64 rfl (lv_at hl 2 rfl) ?_
    obtain ⟨hi_56, ht_57⟩ := hW.f_bg hL_h0 hT_h0
    obtain ⟨f_58, hF_59, hq_60⟩ := hO.pos hi_56 ht_57
    refine pg_iald hx hb hK hP hi_56 0 hF_59 rfl (vp_in_nI (by omega) (by omega)) dX15_fieldPlain_65 ?_
    refine lv_topi (fun x_61 ex_61 => ?_)
    obtain rfl : x_61 = (nI (gm 0 jf)) := ex_61.trans (by rw [show ((nI jf) : Int32) = nI jf from rfl, nI_clamp (by omega)]; exact hq_60 jf (by omega))
    have hgbx_61 := hgB 0 jf
    refine lv_istore (lv' := [(6, .int (nI (gm 0 jf))), (5, .int (nI kd)), (0, .ref h0), (1, .int (nI jf)), (2, .int x2), (3, .int (nI kS)), (4, .int (nI kE))]) hx hb dX15_fieldPlain_66 hl (by decide) rfl (fun ls hl => ?_)
    obtain ⟨hq_62, hq_63⟩ := hW.octs hi_28 ht_29
    refine W.widen (k := 0) (n := 0) (by omega) (by omega) ?_
    have hF_65 : F ml = .inl (cs 17, 3000, .inl gl) := (hR ml (by rw [ht_32]; simp)).symm.trans hFml
    have hF_66 : F h0 = .inr (15, (.ref ta) :: (.int (nI zt)) :: (.int (nI zo)) :: (.int (nI ze)) :: (.ref ou) :: (.ref so) :: (.ref ad) :: (.ref na) :: (.ref va) :: (.ref lc) :: (.ref dm) :: (.int (nI fm)) :: (.int (nI sn)) :: (.ref tg) :: (.int v14_35) :: (.int v15_36) :: (.ref pe) :: (.int v17_37) :: (.int v18_38) :: (.int v19_39) :: (.int v20_40) :: (.int v21_41) :: (.int v22_42) :: (.ref ml) :: (.ref bg) :: (.ref co) :: (.ref sp) :: (.ref nb0) :: (.ref nb1) :: (.ref nb2) :: (.int (nI nf)) :: (.int (nI bd)) :: (.int (nI mm)) :: (.int v33_43) :: (.ref pl) :: (.ref se) :: (.ref ke) :: (.ref wi) :: (.ref hs) :: (.ref mo) :: (.ref po) :: (.ref nu) :: (.ref pr) :: (.ref sq) :: (.ref xa) :: (.ref sa) :: (.ref n64) :: (.ref m64) :: (.ref ex) :: (.ref wh) :: (.ref sd) :: (.ref tk) :: (.int v52_44) :: (.int v53_45) :: (.int v54_46) :: (.ref hd) :: (.ref ak) :: (.ref ho) :: (.ref ot) :: []) := (hR h0 (by rw [hT_h0]; simp)).symm.trans hF_47
    have hF_67 : F bg = .inl (cs 16, 21, .inl f_58) := (hR bg (by rw [ht_57]; simp)).symm.trans hF_59
    refine pl_loopm (σ := Nat × (List (Nat × Nat)) × (Nat → Int32)) A (dC, dI) cs ty gm L [ρ + 10] F 68 9 (fun (j, aa, fq) => [(6, .int (nI j)), (5, .int (nI kd)), (0, .ref h0), (1, .int (nI jf)), (2, .int x2), (3, .int (nI kS)), (4, .int (nI kE))]) (fun (j, aa, fq) => []) (fun (j, aa, fq) FF => gm 0 jf ≤ j ∧ j ≤ gm 1 jf ∧ aa = ac ++ rng 1 (gm 0 jf) (j - gm 0 jf) ∧ FF pl = .inr (14, [.ref rl, .int (nI aa.length)]) ∧ FF rl = .inl (cs 17, 6000, .inl fq) ∧ OUTM gl fq aa) (fun (j, aa, fq) => gm 1 jf - j) ?_ ((gm 0 jf), ac, fo) F (⟨Nat.le_refl _, by omega, by rw [Nat.sub_self]; exact (List.append_nil _).symm, hFl, hFo, hou⟩) hO hR _ _ hP hD hS ls (lv_sub hl [0, 1, 2, 3, 4, 5, 6] rfl)
    rintro ⟨j, aa, fq⟩ F_64 hv_68 hO hR ih_69 H locs hP hD hS ls hl
    have hl : lv_has ls 9 [(6, .int (nI j)), (5, .int (nI kd)), (0, .ref h0), (1, .int (nI jf)), (2, .int x2), (3, .int (nI kS)), (4, .int (nI kE))] := hl
    have hv_68 : gm 0 jf ≤ j ∧ j ≤ gm 1 jf ∧ aa = ac ++ rng 1 (gm 0 jf) (j - gm 0 jf) ∧ F_64 pl = .inr (14, [.ref rl, .int (nI aa.length)]) ∧ F_64 rl = .inl (cs 17, 6000, .inl fq) ∧ OUTM gl fq aa := hv_68
    refine W.eq (g2 := F0 m 68 ls []) rfl ?_
    have hF_70 : F_64 ml = .inl (cs 17, 3000, .inl gl) := (hR ml (by rw [ht_32]; simp)).trans hF_65
    have hF_71 : F_64 h0 = .inr (15, (.ref ta) :: (.int (nI zt)) :: (.int (nI zo)) :: (.int (nI ze)) :: (.ref ou) :: (.ref so) :: (.ref ad) :: (.ref na) :: (.ref va) :: (.ref lc) :: (.ref dm) :: (.int (nI fm)) :: (.int (nI sn)) :: (.ref tg) :: (.int v14_35) :: (.int v15_36) :: (.ref pe) :: (.int v17_37) :: (.int v18_38) :: (.int v19_39) :: (.int v20_40) :: (.int v21_41) :: (.int v22_42) :: (.ref ml) :: (.ref bg) :: (.ref co) :: (.ref sp) :: (.ref nb0) :: (.ref nb1) :: (.ref nb2) :: (.int (nI nf)) :: (.int (nI bd)) :: (.int (nI mm)) :: (.int v33_43) :: (.ref pl) :: (.ref se) :: (.ref ke) :: (.ref wi) :: (.ref hs) :: (.ref mo) :: (.ref po) :: (.ref nu) :: (.ref pr) :: (.ref sq) :: (.ref xa) :: (.ref sa) :: (.ref n64) :: (.ref m64) :: (.ref ex) :: (.ref wh) :: (.ref sd) :: (.ref tk) :: (.int v52_44) :: (.int v53_45) :: (.int v54_46) :: (.ref hd) :: (.ref ak) :: (.ref ho) :: (.ref ot) :: []) := (hR h0 (by rw [hT_h0]; simp)).trans hF_66
    have hF_72 : F_64 bg = .inl (cs 16, 21, .inl f_58) := (hR bg (by rw [ht_57]; simp)).trans hF_67
    obtain ⟨hp1, hp2, hp3, hp4, hp5, hp6⟩ := id hv_68
    have hal : aa.length = ac.length + (j - gm 0 jf) := by rw [hp3, List.length_append, rng_len]
    refine lv_iload hx hb dX15_fieldPlain_68 (lv_at hl 0 rfl) ?_
    refine lv_aload_n hx hb dX15_fieldPlain_70 rfl (lv_at hl 2 rfl) ?_
    refine pg_get (ci := 15) (v := .ref co) (C := RX15) (T := TX15) (N := 59) hx hb hts it_15 hown hK hP hL_h0 hF_71 rfl 25 (by decide) (hts _ kt_889) (fun _ h9 => h9) rfl dX15_fieldPlain_71 ?_
    refine lv_iload_n hx hb dX15_fieldPlain_74 rfl (lv_at hl 3 rfl) ?_
    obtain ⟨hi_73, ht_74⟩ := hW.f_co hL_h0 hT_h0
    obtain ⟨f_75, hF_76, hq_77⟩ := hO.pos hi_73 ht_74
    refine pg_iald hx hb hK hP hi_73 0 hF_76 rfl (vp_in_nI (by omega) (by omega)) dX15_fieldPlain_75 ?_
    refine lv_topi (fun x_78 ex_78 => ?_)
    obtain rfl : x_78 = (nI (gm 1 jf)) := ex_78.trans (by rw [show ((nI jf) : Int32) = nI jf from rfl, nI_clamp (by omega)]; exact hq_77 jf (by omega))
    have hgbx_78 := hgB 1 jf
    refine lv_icmp_ge (tgt := 102) hx hb dX15_fieldPlain_76 (by decide) (fun c_79 => ?_) (fun c_79 => ?_)
    ·
      have hi_80 : (gm 1 jf) ≤ j := leN (N := (gm 1 jf)) c_79
      have hje : j = gm 1 jf := by have h9 : gm 1 jf ≤ j := (nI_leI (by omega) (by omega)).mp c_79; omega
      refine lv_aload_n hx hb dX15_fieldPlain_102 rfl (lv_at hl 2 rfl) ?_
      refine pg_get (ci := 15) (v := .ref pl) (C := RX15) (T := TX15) (N := 59) hx hb hts it_15 hown hK hP hL_h0 hF_71 rfl 34 (by decide) (hts _ kt_901) (fun _ h9 => h9) rfl dX15_fieldPlain_103 ?_
      refine lv_bipush (v := 58) hx hb dX15_fieldPlain_106 (by decide) ?_
      have hFc := pg_free hD hS hA
      refine va_callv (va_runV (As := [.int 58]) (rest := []) ⟨hx, hb, hml, hown, hts⟩ (s_X14_add_c l dC dI cs ty gm L H.size F_64 pl (ρ + 10) rl 6000 aa.length 58 fq hW hL_pl hT_pl hp4 hp5 (by first | omega | assumption | exact Or.inl rfl)) ⟨callB_of 1 hts (gi kt_711) rfl rfl rfl (hts _ kt_676) (hts _ kt_712) (by decide +kernel) ⟨Nat.le_of_ble_eq_true rfl, Nat.le_of_ble_eq_true rfl⟩, (hts _ kt_713), (hts _ kt_714)⟩ ⟨fun a U g mk q => ⟨q.1, PTm.calling q.2⟩, pg_recv hK hP hL_pl hp4 (q := (RX14, TX14, 2)) rfl, fun U hU hWm => ⟨rfl, PTm.mk hU hWm hP hK hD hE hO⟩⟩ rfl rfl hl.1 rfl (lv_room (Nat.le_of_ble_eq_true rfl)) dX15_fieldPlain_108 ⟨by show _ + 0 ≤ 0; omega, by show _ + 0 ≤ 0; omega⟩) hS (fun q _ h => hFc q h) hFc (fun u t H1 locs ht hvm hw hB hz1 hk1 hS => ?_)
      obtain ⟨F_82, f2_83, hB1, hq_84, hq_85, hq_86⟩ := hB
      obtain ⟨hP, hD, hO, hR⟩ := QTm.back hB1 ht hFc hR (fun q h => by simp only [List.mem_cons, List.not_mem_nil, or_false] at h ⊢; omega)
      have hF_87 : F_82 ml = .inl (cs 17, 3000, .inl gl) := (hB1.2.2.2 ml (by rw [ht_32]; simp)).trans hF_70
      have hF_88 : F_82 h0 = .inr (15, (.ref ta) :: (.int (nI zt)) :: (.int (nI zo)) :: (.int (nI ze)) :: (.ref ou) :: (.ref so) :: (.ref ad) :: (.ref na) :: (.ref va) :: (.ref lc) :: (.ref dm) :: (.int (nI fm)) :: (.int (nI sn)) :: (.ref tg) :: (.int v14_35) :: (.int v15_36) :: (.ref pe) :: (.int v17_37) :: (.int v18_38) :: (.int v19_39) :: (.int v20_40) :: (.int v21_41) :: (.int v22_42) :: (.ref ml) :: (.ref bg) :: (.ref co) :: (.ref sp) :: (.ref nb0) :: (.ref nb1) :: (.ref nb2) :: (.int (nI nf)) :: (.int (nI bd)) :: (.int (nI mm)) :: (.int v33_43) :: (.ref pl) :: (.ref se) :: (.ref ke) :: (.ref wi) :: (.ref hs) :: (.ref mo) :: (.ref po) :: (.ref nu) :: (.ref pr) :: (.ref sq) :: (.ref xa) :: (.ref sa) :: (.ref n64) :: (.ref m64) :: (.ref ex) :: (.ref wh) :: (.ref sd) :: (.ref tk) :: (.int v52_44) :: (.int v53_45) :: (.int v54_46) :: (.ref hd) :: (.ref ak) :: (.ref ho) :: (.ref ot) :: []) := (hB1.2.2.2 h0 (by rw [hT_h0]; simp)).trans hF_71
      have hF_89 : F_82 bg = .inl (cs 16, 21, .inl f_58) := (hB1.2.2.2 bg (by rw [ht_57]; simp)).trans hF_72
      have hF_90 : F_82 co = .inl (cs 16, 21, .inl f_75) := (hB1.2.2.2 co (by rw [ht_74]; simp)).trans hF_76
      generalize H1 = H at hP hS ⊢
      have hom_91 := OUTM.add (y := (2, 58)) hp6 hq_86 rfl rfl
      have hF_92 : F_82 pl = .inr (14, [.ref rl, .int (nI (aa ++ [(2, 58)]).length)]) := by rw [len1]; exact hq_84
      refine lv_iconst (v := 0) hx hb dX15_fieldPlain_111 (by decide) ?_
      refine lv_istore (lv' := [(6, .int 0), (5, .int (nI kd)), (0, .ref h0), (1, .int (nI jf)), (2, .int x2), (3, .int (nI kS)), (4, .int (nI kE))]) hx hb dX15_fieldPlain_112 hl (by decide) rfl (fun ls hl => ?_)
      refine lv_iconst (v := 0) hx hb dX15_fieldPlain_114 (by decide) ?_
      refine lv_istore (lv' := [(7, .int 0), (6, .int 0), (5, .int (nI kd)), (0, .ref h0), (1, .int (nI jf)), (2, .int x2), (3, .int (nI kS)), (4, .int (nI kE))]) hx hb dX15_fieldPlain_115 hl (by decide) rfl (fun ls hl => ?_)
      refine lv_aload_n hx hb dX15_fieldPlain_117 rfl (lv_at hl 3 rfl) ?_
      refine pg_get (ci := 15) (v := .ref co) (C := RX15) (T := TX15) (N := 59) hx hb hts it_15 hown hK hP hL_h0 hF_88 rfl 25 (by decide) (hts _ kt_889) (fun _ h9 => h9) rfl dX15_fieldPlain_118 ?_
      refine lv_iload_n hx hb dX15_fieldPlain_121 rfl (lv_at hl 4 rfl) ?_
      refine pg_iald hx hb hK hP hi_73 0 hF_90 rfl (vp_in_nI (by omega) (by omega)) dX15_fieldPlain_122 ?_
      refine lv_topi (fun x_93 ex_93 => ?_)
      obtain rfl : x_93 = (nI (gm 1 jf)) := ex_93.trans (by rw [show ((nI jf) : Int32) = nI jf from rfl, nI_clamp (by omega)]; exact hq_77 jf (by omega))
      have hgbx_93 := hgB 1 jf
      refine lv_iconst (v := 1) hx hb dX15_fieldPlain_123 (by decide) ?_
      refine lv_iadd hx hb dX15_fieldPlain_124 ?_
      refine lv_topi (fun x_94 ex_94 => ?_)
      obtain rfl : x_94 = (nI ((gm 1 jf) + 1)) := ex_94.trans (nI_add (gm 1 jf) 1)
      refine lv_istore (lv' := [(8, .int (nI ((gm 1 jf) + 1))), (7, .int 0), (6, .int 0), (5, .int (nI kd)), (0, .ref h0), (1, .int (nI jf)), (2, .int x2), (3, .int (nI kS)), (4, .int (nI kE))]) hx hb dX15_fieldPlain_125 hl (by decide) rfl (fun ls hl => ?_)
      refine W.widen (k := 0) (n := 0) (by omega) (by omega) ?_
      have hF_96 : F ml = .inl (cs 17, 3000, .inl gl) := (hR ml (by rw [ht_32]; simp)).symm.trans hF_87
      have hF_97 : F h0 = .inr (15, (.ref ta) :: (.int (nI zt)) :: (.int (nI zo)) :: (.int (nI ze)) :: (.ref ou) :: (.ref so) :: (.ref ad) :: (.ref na) :: (.ref va) :: (.ref lc) :: (.ref dm) :: (.int (nI fm)) :: (.int (nI sn)) :: (.ref tg) :: (.int v14_35) :: (.int v15_36) :: (.ref pe) :: (.int v17_37) :: (.int v18_38) :: (.int v19_39) :: (.int v20_40) :: (.int v21_41) :: (.int v22_42) :: (.ref ml) :: (.ref bg) :: (.ref co) :: (.ref sp) :: (.ref nb0) :: (.ref nb1) :: (.ref nb2) :: (.int (nI nf)) :: (.int (nI bd)) :: (.int (nI mm)) :: (.int v33_43) :: (.ref pl) :: (.ref se) :: (.ref ke) :: (.ref wi) :: (.ref hs) :: (.ref mo) :: (.ref po) :: (.ref nu) :: (.ref pr) :: (.ref sq) :: (.ref xa) :: (.ref sa) :: (.ref n64) :: (.ref m64) :: (.ref ex) :: (.ref wh) :: (.ref sd) :: (.ref tk) :: (.int v52_44) :: (.int v53_45) :: (.int v54_46) :: (.ref hd) :: (.ref ak) :: (.ref ho) :: (.ref ot) :: []) := (hR h0 (by rw [hT_h0]; simp)).symm.trans hF_88
      have hF_98 : F bg = .inl (cs 16, 21, .inl f_58) := (hR bg (by rw [ht_57]; simp)).symm.trans hF_89
      have hF_99 : F co = .inl (cs 16, 21, .inl f_75) := (hR co (by rw [ht_74]; simp)).symm.trans hF_90
      refine pl_loopm (σ := Nat × Int32 × Int32 × (List (Nat × Nat)) × (Nat → Int32)) A (dC, dI) cs ty gm L [ρ + 10] F 127 9 (fun (i, w6, w7, ab, fq) => [(8, .int (nI i)), (7, .int w7), (6, .int w6), (5, .int (nI kd)), (0, .ref h0), (1, .int (nI jf)), (2, .int x2), (3, .int (nI kS)), (4, .int (nI kE))]) (fun (i, w6, w7, ab, fq) => []) (fun (i, w6, w7, ab, fq) FF => gm 1 jf + 1 ≤ i ∧ i ≤ kd ∧ (w6 = 0 ∨ w6 = 1) ∧ ab.length ≤ ac.length + (i - gm 0 jf) ∧ (w7 = 0 ∨ ab.length + 1 ≤ ac.length + (i - gm 0 jf)) ∧ ac ++ (FPW (clr gl) x2 (gm 0 jf) (gm 1 jf) kd kS kE) = ab ++ rvl (ctT (clr gl) kS kE) (kd - i) i w6 (wvv w6 w7) ∧ FF pl = .inr (14, [.ref rl, .int (nI ab.length)]) ∧ FF rl = .inl (cs 17, 6000, .inl fq) ∧ OUTM gl fq ab) (fun (i, w6, w7, ab, fq) => kd - i) ?_ (((gm 1 jf) + 1), 0, 0, (aa ++ [(2, 58)]), f2_83) F_82 (⟨Nat.le_refl _, by omega, Or.inl rfl, (by rw [len1]; omega), Or.inl rfl, (by rw [FPW_r c_55, hp3, hje, wv_z, ← List.append_assoc, ← List.append_assoc]), hF_92, hq_85, hom_91⟩) hO hR _ _ hP hD hS ls (lv_sub hl [0, 1, 2, 3, 4, 5, 6, 7, 8] rfl)
      rintro ⟨i, w6, w7, ab, fq⟩ F_95 hv_100 hO hR ih_101 H locs hP hD hS ls hl
      have hl : lv_has ls 9 [(8, .int (nI i)), (7, .int w7), (6, .int w6), (5, .int (nI kd)), (0, .ref h0), (1, .int (nI jf)), (2, .int x2), (3, .int (nI kS)), (4, .int (nI kE))] := hl
      have hv_100 : gm 1 jf + 1 ≤ i ∧ i ≤ kd ∧ (w6 = 0 ∨ w6 = 1) ∧ ab.length ≤ ac.length + (i - gm 0 jf) ∧ (w7 = 0 ∨ ab.length + 1 ≤ ac.length + (i - gm 0 jf)) ∧ ac ++ (FPW (clr gl) x2 (gm 0 jf) (gm 1 jf) kd kS kE) = ab ++ rvl (ctT (clr gl) kS kE) (kd - i) i w6 (wvv w6 w7) ∧ F_95 pl = .inr (14, [.ref rl, .int (nI ab.length)]) ∧ F_95 rl = .inl (cs 17, 6000, .inl fq) ∧ OUTM gl fq ab := hv_100
      refine W.eq (g2 := F0 m 127 ls []) rfl ?_
      have hF_102 : F_95 ml = .inl (cs 17, 3000, .inl gl) := (hR ml (by rw [ht_32]; simp)).trans hF_96
      have hF_103 : F_95 h0 = .inr (15, (.ref ta) :: (.int (nI zt)) :: (.int (nI zo)) :: (.int (nI ze)) :: (.ref ou) :: (.ref so) :: (.ref ad) :: (.ref na) :: (.ref va) :: (.ref lc) :: (.ref dm) :: (.int (nI fm)) :: (.int (nI sn)) :: (.ref tg) :: (.int v14_35) :: (.int v15_36) :: (.ref pe) :: (.int v17_37) :: (.int v18_38) :: (.int v19_39) :: (.int v20_40) :: (.int v21_41) :: (.int v22_42) :: (.ref ml) :: (.ref bg) :: (.ref co) :: (.ref sp) :: (.ref nb0) :: (.ref nb1) :: (.ref nb2) :: (.int (nI nf)) :: (.int (nI bd)) :: (.int (nI mm)) :: (.int v33_43) :: (.ref pl) :: (.ref se) :: (.ref ke) :: (.ref wi) :: (.ref hs) :: (.ref mo) :: (.ref po) :: (.ref nu) :: (.ref pr) :: (.ref sq) :: (.ref xa) :: (.ref sa) :: (.ref n64) :: (.ref m64) :: (.ref ex) :: (.ref wh) :: (.ref sd) :: (.ref tk) :: (.int v52_44) :: (.int v53_45) :: (.int v54_46) :: (.ref hd) :: (.ref ak) :: (.ref ho) :: (.ref ot) :: []) := (hR h0 (by rw [hT_h0]; simp)).trans hF_97
      have hF_104 : F_95 bg = .inl (cs 16, 21, .inl f_58) := (hR bg (by rw [ht_57]; simp)).trans hF_98
      have hF_105 : F_95 co = .inl (cs 16, 21, .inl f_75) := (hR co (by rw [ht_74]; simp)).trans hF_99
      obtain ⟨hq1, hq2, hq3, hq4, hq5, hq6, hq7, hq8, hq9⟩ := id hv_100
      refine lv_iload hx hb dX15_fieldPlain_127 (lv_at hl 0 rfl) ?_
      refine lv_iload hx hb dX15_fieldPlain_129 (lv_at hl 3 rfl) ?_
      refine lv_icmp_ge (tgt := 226) hx hb dX15_fieldPlain_131 (by decide) (fun c_106 => ?_) (fun c_106 => ?_)
      ·
        have hi_107 : kd ≤ i := leN (N := kd) c_106
        have hib : kd ≤ i := by omega
        refine W.widen (k := 0) (n := 0) (by omega) (by omega) ?_
        exact W.vret hx hb hr (fun t ht hWm => ⟨⟨(), rfl, trivial, ⟨F_95, fq, QTm.mk ht hP hD hO hR, (by rw [rv_e hq6 hib]; exact hq7), hq8, (by rw [rv_e hq6 hib]; exact hq9)⟩⟩, hS.F ht⟩) hS.2.2 dX15_fieldPlain_226
      ·
        have hi_108 : i < kd := ltN (N := kd) c_106
        have hib : i < kd := by omega
        refine lv_iload hx hb dX15_fieldPlain_134 (lv_at hl 0 rfl) ?_
        refine lv_iload_n hx hb dX15_fieldPlain_136 rfl (lv_at hl 7 rfl) ?_
        refine lv_icmp_lt (tgt := 147) hx hb dX15_fieldPlain_137 (by decide) (fun c_109 => ?_) (fun c_109 => ?_)
        ·
          have hi_110 : i < kS := ltN (N := kS) (Int32.not_le.mpr c_109)
          have hkk1 : i < kS := (nI_ltI (by omega) (by omega)).mp c_109
          have hnc : ¬ (kS ≤ i ∧ i < kE) := by omega
          refine lv_aload_n hx hb dX15_fieldPlain_147 rfl (lv_at hl 4 rfl) ?_
          refine pg_get (ci := 15) (v := .ref ml) (C := RX15) (T := TX15) (N := 59) hx hb hts it_15 hown hK hP hL_h0 hF_103 rfl 23 (by decide) (hts _ kt_887) (fun _ h9 => h9) rfl dX15_fieldPlain_148 ?_
          refine lv_iload hx hb dX15_fieldPlain_151 (lv_at hl 0 rfl) ?_
          refine pg_bald hx hb hK hP hi_31 1 hF_102 rfl (vp_in_nI (by omega) (by omega)) dX15_fieldPlain_153 ?_
          refine lv_topi (fun x_111 ex_111 => ?_)
          obtain rfl : x_111 = gl i := ex_111.trans (congrArg gl (show ((nI i) : Int32).toNatClampNeg = i from nI_clamp (by omega)))
          refine lv_bipush (v := 10) hx hb dX15_fieldPlain_154 (by decide) ?_
          refine lv_icmp_ne (tgt := 162) hx hb dX15_fieldPlain_156 (by decide) (fun c_112 => ?_) (fun c_112 => ?_)
          ·
            refine lv_aload_n hx hb dX15_fieldPlain_162 rfl (lv_at hl 4 rfl) ?_
            refine pg_get (ci := 15) (v := .ref ml) (C := RX15) (T := TX15) (N := 59) hx hb hts it_15 hown hK hP hL_h0 hF_103 rfl 23 (by decide) (hts _ kt_887) (fun _ h9 => h9) rfl dX15_fieldPlain_163 ?_
            refine lv_iload hx hb dX15_fieldPlain_166 (lv_at hl 0 rfl) ?_
            refine pg_bald hx hb hK hP hi_31 1 hF_102 rfl (vp_in_nI (by omega) (by omega)) dX15_fieldPlain_168 ?_
            refine lv_topi (fun x_113 ex_113 => ?_)
            obtain rfl : x_113 = gl i := ex_113.trans (congrArg gl (show ((nI i) : Int32).toNatClampNeg = i from nI_clamp (by omega)))
            have hFc := pg_free hD hS hA
            refine va_calli (va_runS (As := [.int (gl i)]) (rest := []) ⟨hx, hb, hml, hown, hts⟩ (s_X15_isWhite_e l dC dI cs ty gm L H.size F_95 (gl i) hW ) ⟨callB_of 1 hts (gi kt_715) rfl rfl rfl (hts _ kt_669) (hts _ kt_716) (by decide +kernel) ⟨Nat.le_of_ble_eq_true rfl, Nat.le_of_ble_eq_true rfl⟩, (hts _ kt_717)⟩ ⟨fun a U g mk q => ⟨q.1, PTm.calling q.2⟩, fun U hU hWm => ⟨rfl, PTm.mk hU hWm hP hK hD hE hO⟩⟩ rfl rfl hl.1 rfl (lv_room (Nat.le_of_ble_eq_true rfl)) dX15_fieldPlain_169 ⟨by show _ + 0 ≤ 0; omega, by show _ + 0 ≤ 0; omega⟩) hS (fun q _ h => hFc q h) hFc (fun r_114 u t H1 locs ht hvm hw hB hz1 hk1 hS => ?_)
            obtain ⟨F_115, hB1⟩ := hB
            obtain rfl : F_95 = F_115 := (funext (fun a => hB1.2.2.2 a List.not_mem_nil)).symm
            obtain ⟨hP, hD, hO, hR⟩ := QTm.back hB1 ht hFc hR (fun q h => absurd h List.not_mem_nil)
            generalize H1 = H at hP hS ⊢
            have hw : r_114 = (if (gl i) = 32 ∨ (gl i) = 9 then 1 else 0) := hw
            have hw_116 := hw
            refine lv_if_eq (tgt := 181) hx hb dX15_fieldPlain_172 (by decide) (fun c_117 => ?_) (fun c_117 => ?_)
            ·
              refine lv_iload hx hb dX15_fieldPlain_181 (lv_at hl 1 rfl) ?_
              refine lv_if_eq (tgt := 200) hx hb dX15_fieldPlain_183 (by decide) (fun c_118 => ?_) (fun c_118 => ?_)
              ·
                refine lv_iconst (v := 0) hx hb dX15_fieldPlain_200 (by decide) ?_
                refine lv_istore (lv' := [(7, .int 0), (8, .int (nI i)), (6, .int w6), (5, .int (nI kd)), (0, .ref h0), (1, .int (nI jf)), (2, .int x2), (3, .int (nI kS)), (4, .int (nI kE))]) hx hb dX15_fieldPlain_201 hl (by decide) rfl (fun ls hl => ?_)
                refine lv_iconst (v := 1) hx hb dX15_fieldPlain_203 (by decide) ?_
                refine lv_istore (lv' := [(6, .int 1), (7, .int 0), (8, .int (nI i)), (5, .int (nI kd)), (0, .ref h0), (1, .int (nI jf)), (2, .int x2), (3, .int (nI kS)), (4, .int (nI kE))]) hx hb dX15_fieldPlain_204 hl (by decide) rfl (fun ls hl => ?_)
                refine lv_aload_n hx hb dX15_fieldPlain_206 rfl (lv_at hl 4 rfl) ?_
                refine pg_get (ci := 15) (v := .ref pl) (C := RX15) (T := TX15) (N := 59) hx hb hts it_15 hown hK hP hL_h0 hF_103 rfl 34 (by decide) (hts _ kt_901) (fun _ h9 => h9) rfl dX15_fieldPlain_207 ?_
                refine lv_aload_n hx hb dX15_fieldPlain_210 rfl (lv_at hl 4 rfl) ?_
                refine pg_get (ci := 15) (v := .ref ml) (C := RX15) (T := TX15) (N := 59) hx hb hts it_15 hown hK hP hL_h0 hF_103 rfl 23 (by decide) (hts _ kt_887) (fun _ h9 => h9) rfl dX15_fieldPlain_211 ?_
                refine lv_iload hx hb dX15_fieldPlain_214 (lv_at hl 2 rfl) ?_
                refine pg_bald hx hb hK hP hi_31 1 hF_102 rfl (vp_in_nI (by omega) (by omega)) dX15_fieldPlain_216 ?_
                refine lv_topi (fun x_119 ex_119 => ?_)
                obtain rfl : x_119 = gl i := ex_119.trans (congrArg gl (show ((nI i) : Int32).toNatClampNeg = i from nI_clamp (by omega)))
                have hFc := pg_free hD hS hA
                refine va_callv (va_runV (As := [.int (gl i)]) (rest := []) ⟨hx, hb, hml, hown, hts⟩ (s_X14_add_c l dC dI cs ty gm L H.size F_95 pl (ρ + 10) rl 6000 ab.length (gl i) fq hW hL_pl hT_pl hq7 hq8 (by first | omega | (rw [len1]; omega))) ⟨callB_of 1 hts (gi kt_711) rfl rfl rfl (hts _ kt_676) (hts _ kt_712) (by decide +kernel) ⟨Nat.le_of_ble_eq_true rfl, Nat.le_of_ble_eq_true rfl⟩, (hts _ kt_713), (hts _ kt_714)⟩ ⟨fun a U g mk q => ⟨q.1, PTm.calling q.2⟩, pg_recv hK hP hL_pl hq7 (q := (RX14, TX14, 2)) rfl, fun U hU hWm => ⟨rfl, PTm.mk hU hWm hP hK hD hE hO⟩⟩ rfl rfl hl.1 rfl (lv_room (Nat.le_of_ble_eq_true rfl)) dX15_fieldPlain_217 ⟨by show _ + 0 ≤ 0; omega, by show _ + 0 ≤ 0; omega⟩) hS (fun q _ h => hFc q h) hFc (fun u t H1 locs ht hvm hw hB hz1 hk1 hS => ?_)
                obtain ⟨F_121, f2_122, hB1, hq_123, hq_124, hq_125⟩ := hB
                obtain ⟨hP, hD, hO, hR⟩ := QTm.back hB1 ht hFc hR (fun q h => by simp only [List.mem_cons, List.not_mem_nil, or_false] at h ⊢; omega)
                have hF_126 : F_121 ml = .inl (cs 17, 3000, .inl gl) := (hB1.2.2.2 ml (by rw [ht_32]; simp)).trans hF_102
                have hF_127 : F_121 h0 = .inr (15, (.ref ta) :: (.int (nI zt)) :: (.int (nI zo)) :: (.int (nI ze)) :: (.ref ou) :: (.ref so) :: (.ref ad) :: (.ref na) :: (.ref va) :: (.ref lc) :: (.ref dm) :: (.int (nI fm)) :: (.int (nI sn)) :: (.ref tg) :: (.int v14_35) :: (.int v15_36) :: (.ref pe) :: (.int v17_37) :: (.int v18_38) :: (.int v19_39) :: (.int v20_40) :: (.int v21_41) :: (.int v22_42) :: (.ref ml) :: (.ref bg) :: (.ref co) :: (.ref sp) :: (.ref nb0) :: (.ref nb1) :: (.ref nb2) :: (.int (nI nf)) :: (.int (nI bd)) :: (.int (nI mm)) :: (.int v33_43) :: (.ref pl) :: (.ref se) :: (.ref ke) :: (.ref wi) :: (.ref hs) :: (.ref mo) :: (.ref po) :: (.ref nu) :: (.ref pr) :: (.ref sq) :: (.ref xa) :: (.ref sa) :: (.ref n64) :: (.ref m64) :: (.ref ex) :: (.ref wh) :: (.ref sd) :: (.ref tk) :: (.int v52_44) :: (.int v53_45) :: (.int v54_46) :: (.ref hd) :: (.ref ak) :: (.ref ho) :: (.ref ot) :: []) := (hB1.2.2.2 h0 (by rw [hT_h0]; simp)).trans hF_103
                have hF_128 : F_121 bg = .inl (cs 16, 21, .inl f_58) := (hB1.2.2.2 bg (by rw [ht_57]; simp)).trans hF_104
                have hF_129 : F_121 co = .inl (cs 16, 21, .inl f_75) := (hB1.2.2.2 co (by rw [ht_74]; simp)).trans hF_105
                generalize H1 = H at hP hS ⊢
                have hom_130 := OUTM.add (y := (0, i)) hq9 hq_125 rfl rfl
                have hF_131 : F_121 pl = .inr (14, [.ref rl, .int (nI (ab ++ [(0, i)]).length)]) := by rw [len1]; exact hq_123
                refine lv_iinc (v := (nI (i + 1))) (lv' := [(8, .int (nI (i + 1))), (6, .int 1), (7, .int 0), (5, .int (nI kd)), (0, .ref h0), (1, .int (nI jf)), (2, .int x2), (3, .int (nI kS)), (4, .int (nI kE))]) hx hb dX15_fieldPlain_220 hl (k := 2) rfl (nI_1 _) (by decide) rfl (fun ls hl => ?_)
                refine lv_goto (tgt := 127) hx hb dX15_fieldPlain_223 (by decide) ?_
                refine W.widen (k := 0) (n := 0) (by omega) (by omega) ?_
                exact ih_101 ((i + 1), 1, 0, (ab ++ [(0, i)]), f2_122) F_121 (⟨by omega, by omega, Or.inr rfl, by rw [len1]; omega, Or.inl rfl, (by rw [wv_z]; exact rv_a hq6 hib (by rw [ctT_n hnc]; exact clg0n c_112) (by rw [ctT_n hnc]; exact clg1n (ifb0 hw_116 c_117)) (by rw [c_118]; exact wv_z)), hF_131, hq_124, hom_130⟩) (by show kd - (i + 1) < kd - i; omega) hO hR _ _ hP hD hS ls (lv_sub hl [0, 2, 1, 3, 4, 5, 6, 7, 8] rfl)
              ·
                have hz9 := hq5.resolve_left c_118
                refine lv_iload hx hb dX15_fieldPlain_186 (lv_at hl 2 rfl) ?_
                refine lv_if_eq (tgt := 200) hx hb dX15_fieldPlain_188 (by decide) (fun c_132 => ?_) (fun c_132 => ?_)
                ·
                  refine lv_iconst (v := 0) hx hb dX15_fieldPlain_200 (by decide) ?_
                  refine lv_istore (lv' := [(7, .int 0), (8, .int (nI i)), (6, .int w6), (5, .int (nI kd)), (0, .ref h0), (1, .int (nI jf)), (2, .int x2), (3, .int (nI kS)), (4, .int (nI kE))]) hx hb dX15_fieldPlain_201 hl (by decide) rfl (fun ls hl => ?_)
                  refine lv_iconst (v := 1) hx hb dX15_fieldPlain_203 (by decide) ?_
                  refine lv_istore (lv' := [(6, .int 1), (7, .int 0), (8, .int (nI i)), (5, .int (nI kd)), (0, .ref h0), (1, .int (nI jf)), (2, .int x2), (3, .int (nI kS)), (4, .int (nI kE))]) hx hb dX15_fieldPlain_204 hl (by decide) rfl (fun ls hl => ?_)
                  refine lv_aload_n hx hb dX15_fieldPlain_206 rfl (lv_at hl 4 rfl) ?_
                  refine pg_get (ci := 15) (v := .ref pl) (C := RX15) (T := TX15) (N := 59) hx hb hts it_15 hown hK hP hL_h0 hF_103 rfl 34 (by decide) (hts _ kt_901) (fun _ h9 => h9) rfl dX15_fieldPlain_207 ?_
                  refine lv_aload_n hx hb dX15_fieldPlain_210 rfl (lv_at hl 4 rfl) ?_
                  refine pg_get (ci := 15) (v := .ref ml) (C := RX15) (T := TX15) (N := 59) hx hb hts it_15 hown hK hP hL_h0 hF_103 rfl 23 (by decide) (hts _ kt_887) (fun _ h9 => h9) rfl dX15_fieldPlain_211 ?_
                  refine lv_iload hx hb dX15_fieldPlain_214 (lv_at hl 2 rfl) ?_
                  refine pg_bald hx hb hK hP hi_31 1 hF_102 rfl (vp_in_nI (by omega) (by omega)) dX15_fieldPlain_216 ?_
                  refine lv_topi (fun x_133 ex_133 => ?_)
                  obtain rfl : x_133 = gl i := ex_133.trans (congrArg gl (show ((nI i) : Int32).toNatClampNeg = i from nI_clamp (by omega)))
                  have hFc := pg_free hD hS hA
                  refine va_callv (va_runV (As := [.int (gl i)]) (rest := []) ⟨hx, hb, hml, hown, hts⟩ (s_X14_add_c l dC dI cs ty gm L H.size F_95 pl (ρ + 10) rl 6000 ab.length (gl i) fq hW hL_pl hT_pl hq7 hq8 (by first | omega | (rw [len1]; omega))) ⟨callB_of 1 hts (gi kt_711) rfl rfl rfl (hts _ kt_676) (hts _ kt_712) (by decide +kernel) ⟨Nat.le_of_ble_eq_true rfl, Nat.le_of_ble_eq_true rfl⟩, (hts _ kt_713), (hts _ kt_714)⟩ ⟨fun a U g mk q => ⟨q.1, PTm.calling q.2⟩, pg_recv hK hP hL_pl hq7 (q := (RX14, TX14, 2)) rfl, fun U hU hWm => ⟨rfl, PTm.mk hU hWm hP hK hD hE hO⟩⟩ rfl rfl hl.1 rfl (lv_room (Nat.le_of_ble_eq_true rfl)) dX15_fieldPlain_217 ⟨by show _ + 0 ≤ 0; omega, by show _ + 0 ≤ 0; omega⟩) hS (fun q _ h => hFc q h) hFc (fun u t H1 locs ht hvm hw hB hz1 hk1 hS => ?_)
                  obtain ⟨F_135, f2_136, hB1, hq_137, hq_138, hq_139⟩ := hB
                  obtain ⟨hP, hD, hO, hR⟩ := QTm.back hB1 ht hFc hR (fun q h => by simp only [List.mem_cons, List.not_mem_nil, or_false] at h ⊢; omega)
                  have hF_140 : F_135 ml = .inl (cs 17, 3000, .inl gl) := (hB1.2.2.2 ml (by rw [ht_32]; simp)).trans hF_102
                  have hF_141 : F_135 h0 = .inr (15, (.ref ta) :: (.int (nI zt)) :: (.int (nI zo)) :: (.int (nI ze)) :: (.ref ou) :: (.ref so) :: (.ref ad) :: (.ref na) :: (.ref va) :: (.ref lc) :: (.ref dm) :: (.int (nI fm)) :: (.int (nI sn)) :: (.ref tg) :: (.int v14_35) :: (.int v15_36) :: (.ref pe) :: (.int v17_37) :: (.int v18_38) :: (.int v19_39) :: (.int v20_40) :: (.int v21_41) :: (.int v22_42) :: (.ref ml) :: (.ref bg) :: (.ref co) :: (.ref sp) :: (.ref nb0) :: (.ref nb1) :: (.ref nb2) :: (.int (nI nf)) :: (.int (nI bd)) :: (.int (nI mm)) :: (.int v33_43) :: (.ref pl) :: (.ref se) :: (.ref ke) :: (.ref wi) :: (.ref hs) :: (.ref mo) :: (.ref po) :: (.ref nu) :: (.ref pr) :: (.ref sq) :: (.ref xa) :: (.ref sa) :: (.ref n64) :: (.ref m64) :: (.ref ex) :: (.ref wh) :: (.ref sd) :: (.ref tk) :: (.int v52_44) :: (.int v53_45) :: (.int v54_46) :: (.ref hd) :: (.ref ak) :: (.ref ho) :: (.ref ot) :: []) := (hB1.2.2.2 h0 (by rw [hT_h0]; simp)).trans hF_103
                  have hF_142 : F_135 bg = .inl (cs 16, 21, .inl f_58) := (hB1.2.2.2 bg (by rw [ht_57]; simp)).trans hF_104
                  have hF_143 : F_135 co = .inl (cs 16, 21, .inl f_75) := (hB1.2.2.2 co (by rw [ht_74]; simp)).trans hF_105
                  generalize H1 = H at hP hS ⊢
                  have hom_144 := OUTM.add (y := (0, i)) hq9 hq_139 rfl rfl
                  have hF_145 : F_135 pl = .inr (14, [.ref rl, .int (nI (ab ++ [(0, i)]).length)]) := by rw [len1]; exact hq_137
                  refine lv_iinc (v := (nI (i + 1))) (lv' := [(8, .int (nI (i + 1))), (6, .int 1), (7, .int 0), (5, .int (nI kd)), (0, .ref h0), (1, .int (nI jf)), (2, .int x2), (3, .int (nI kS)), (4, .int (nI kE))]) hx hb dX15_fieldPlain_220 hl (k := 2) rfl (nI_1 _) (by decide) rfl (fun ls hl => ?_)
                  refine lv_goto (tgt := 127) hx hb dX15_fieldPlain_223 (by decide) ?_
                  refine W.widen (k := 0) (n := 0) (by omega) (by omega) ?_
                  exact ih_101 ((i + 1), 1, 0, (ab ++ [(0, i)]), f2_136) F_135 (⟨by omega, by omega, Or.inr rfl, by rw [len1]; omega, Or.inl rfl, (by rw [wv_z]; exact rv_a hq6 hib (by rw [ctT_n hnc]; exact clg0n c_112) (by rw [ctT_n hnc]; exact clg1n (ifb0 hw_116 c_117)) (wv_0 c_132)), hF_145, hq_138, hom_144⟩) (by show kd - (i + 1) < kd - i; omega) hO hR _ _ hP hD hS ls (lv_sub hl [0, 2, 1, 3, 4, 5, 6, 7, 8] rfl)
                ·
                  refine lv_aload_n hx hb dX15_fieldPlain_191 rfl (lv_at hl 4 rfl) ?_
                  refine pg_get (ci := 15) (v := .ref pl) (C := RX15) (T := TX15) (N := 59) hx hb hts it_15 hown hK hP hL_h0 hF_103 rfl 34 (by decide) (hts _ kt_901) (fun _ h9 => h9) rfl dX15_fieldPlain_192 ?_
                  refine lv_bipush (v := 32) hx hb dX15_fieldPlain_195 (by decide) ?_
                  have hFc := pg_free hD hS hA
                  refine va_callv (va_runV (As := [.int 32]) (rest := []) ⟨hx, hb, hml, hown, hts⟩ (s_X14_add_c l dC dI cs ty gm L H.size F_95 pl (ρ + 10) rl 6000 ab.length 32 fq hW hL_pl hT_pl hq7 hq8 (by first | omega | assumption | exact Or.inl rfl)) ⟨callB_of 1 hts (gi kt_711) rfl rfl rfl (hts _ kt_676) (hts _ kt_712) (by decide +kernel) ⟨Nat.le_of_ble_eq_true rfl, Nat.le_of_ble_eq_true rfl⟩, (hts _ kt_713), (hts _ kt_714)⟩ ⟨fun a U g mk q => ⟨q.1, PTm.calling q.2⟩, pg_recv hK hP hL_pl hq7 (q := (RX14, TX14, 2)) rfl, fun U hU hWm => ⟨rfl, PTm.mk hU hWm hP hK hD hE hO⟩⟩ rfl rfl hl.1 rfl (lv_room (Nat.le_of_ble_eq_true rfl)) dX15_fieldPlain_197 ⟨by show _ + 0 ≤ 0; omega, by show _ + 0 ≤ 0; omega⟩) hS (fun q _ h => hFc q h) hFc (fun u t H1 locs ht hvm hw hB hz1 hk1 hS => ?_)
                  obtain ⟨F_147, f2_148, hB1, hq_149, hq_150, hq_151⟩ := hB
                  obtain ⟨hP, hD, hO, hR⟩ := QTm.back hB1 ht hFc hR (fun q h => by simp only [List.mem_cons, List.not_mem_nil, or_false] at h ⊢; omega)
                  have hF_152 : F_147 ml = .inl (cs 17, 3000, .inl gl) := (hB1.2.2.2 ml (by rw [ht_32]; simp)).trans hF_102
                  have hF_153 : F_147 h0 = .inr (15, (.ref ta) :: (.int (nI zt)) :: (.int (nI zo)) :: (.int (nI ze)) :: (.ref ou) :: (.ref so) :: (.ref ad) :: (.ref na) :: (.ref va) :: (.ref lc) :: (.ref dm) :: (.int (nI fm)) :: (.int (nI sn)) :: (.ref tg) :: (.int v14_35) :: (.int v15_36) :: (.ref pe) :: (.int v17_37) :: (.int v18_38) :: (.int v19_39) :: (.int v20_40) :: (.int v21_41) :: (.int v22_42) :: (.ref ml) :: (.ref bg) :: (.ref co) :: (.ref sp) :: (.ref nb0) :: (.ref nb1) :: (.ref nb2) :: (.int (nI nf)) :: (.int (nI bd)) :: (.int (nI mm)) :: (.int v33_43) :: (.ref pl) :: (.ref se) :: (.ref ke) :: (.ref wi) :: (.ref hs) :: (.ref mo) :: (.ref po) :: (.ref nu) :: (.ref pr) :: (.ref sq) :: (.ref xa) :: (.ref sa) :: (.ref n64) :: (.ref m64) :: (.ref ex) :: (.ref wh) :: (.ref sd) :: (.ref tk) :: (.int v52_44) :: (.int v53_45) :: (.int v54_46) :: (.ref hd) :: (.ref ak) :: (.ref ho) :: (.ref ot) :: []) := (hB1.2.2.2 h0 (by rw [hT_h0]; simp)).trans hF_103
                  have hF_154 : F_147 bg = .inl (cs 16, 21, .inl f_58) := (hB1.2.2.2 bg (by rw [ht_57]; simp)).trans hF_104
                  have hF_155 : F_147 co = .inl (cs 16, 21, .inl f_75) := (hB1.2.2.2 co (by rw [ht_74]; simp)).trans hF_105
                  generalize H1 = H at hP hS ⊢
                  have hom_156 := OUTM.add (y := (2, 32)) hq9 hq_151 rfl rfl
                  have hF_157 : F_147 pl = .inr (14, [.ref rl, .int (nI (ab ++ [(2, 32)]).length)]) := by rw [len1]; exact hq_149
                  refine lv_iconst (v := 0) hx hb dX15_fieldPlain_200 (by decide) ?_
                  refine lv_istore (lv' := [(7, .int 0), (8, .int (nI i)), (6, .int w6), (5, .int (nI kd)), (0, .ref h0), (1, .int (nI jf)), (2, .int x2), (3, .int (nI kS)), (4, .int (nI kE))]) hx hb dX15_fieldPlain_201 hl (by decide) rfl (fun ls hl => ?_)
                  refine lv_iconst (v := 1) hx hb dX15_fieldPlain_203 (by decide) ?_
                  refine lv_istore (lv' := [(6, .int 1), (7, .int 0), (8, .int (nI i)), (5, .int (nI kd)), (0, .ref h0), (1, .int (nI jf)), (2, .int x2), (3, .int (nI kS)), (4, .int (nI kE))]) hx hb dX15_fieldPlain_204 hl (by decide) rfl (fun ls hl => ?_)
                  refine lv_aload_n hx hb dX15_fieldPlain_206 rfl (lv_at hl 4 rfl) ?_
                  refine pg_get (ci := 15) (v := .ref pl) (C := RX15) (T := TX15) (N := 59) hx hb hts it_15 hown hK hP hL_h0 hF_153 rfl 34 (by decide) (hts _ kt_901) (fun _ h9 => h9) rfl dX15_fieldPlain_207 ?_
                  refine lv_aload_n hx hb dX15_fieldPlain_210 rfl (lv_at hl 4 rfl) ?_
                  refine pg_get (ci := 15) (v := .ref ml) (C := RX15) (T := TX15) (N := 59) hx hb hts it_15 hown hK hP hL_h0 hF_153 rfl 23 (by decide) (hts _ kt_887) (fun _ h9 => h9) rfl dX15_fieldPlain_211 ?_
                  refine lv_iload hx hb dX15_fieldPlain_214 (lv_at hl 2 rfl) ?_
                  refine pg_bald hx hb hK hP hi_31 1 hF_152 rfl (vp_in_nI (by omega) (by omega)) dX15_fieldPlain_216 ?_
                  refine lv_topi (fun x_158 ex_158 => ?_)
                  obtain rfl : x_158 = gl i := ex_158.trans (congrArg gl (show ((nI i) : Int32).toNatClampNeg = i from nI_clamp (by omega)))
                  have hFc := pg_free hD hS hA
                  refine va_callv (va_runV (As := [.int (gl i)]) (rest := []) ⟨hx, hb, hml, hown, hts⟩ (s_X14_add_c l dC dI cs ty gm L H.size F_147 pl (ρ + 10) rl 6000 ((ab ++ [(2, 32)]).length) (gl i) f2_148 hW hL_pl hT_pl hF_157 hq_150 (by first | omega | (rw [len1]; omega))) ⟨callB_of 1 hts (gi kt_711) rfl rfl rfl (hts _ kt_676) (hts _ kt_712) (by decide +kernel) ⟨Nat.le_of_ble_eq_true rfl, Nat.le_of_ble_eq_true rfl⟩, (hts _ kt_713), (hts _ kt_714)⟩ ⟨fun a U g mk q => ⟨q.1, PTm.calling q.2⟩, pg_recv hK hP hL_pl hF_157 (q := (RX14, TX14, 2)) rfl, fun U hU hWm => ⟨rfl, PTm.mk hU hWm hP hK hD hE hO⟩⟩ rfl rfl hl.1 rfl (lv_room (Nat.le_of_ble_eq_true rfl)) dX15_fieldPlain_217 ⟨by show _ + 0 ≤ 0; omega, by show _ + 0 ≤ 0; omega⟩) hS (fun q _ h => hFc q h) hFc (fun u t H1 locs ht hvm hw hB hz1 hk1 hS => ?_)
                  obtain ⟨F_160, f2_161, hB1, hq_162, hq_163, hq_164⟩ := hB
                  obtain ⟨hP, hD, hO, hR⟩ := QTm.back hB1 ht hFc hR (fun q h => by simp only [List.mem_cons, List.not_mem_nil, or_false] at h ⊢; omega)
                  have hF_165 : F_160 ml = .inl (cs 17, 3000, .inl gl) := (hB1.2.2.2 ml (by rw [ht_32]; simp)).trans hF_152
                  have hF_166 : F_160 h0 = .inr (15, (.ref ta) :: (.int (nI zt)) :: (.int (nI zo)) :: (.int (nI ze)) :: (.ref ou) :: (.ref so) :: (.ref ad) :: (.ref na) :: (.ref va) :: (.ref lc) :: (.ref dm) :: (.int (nI fm)) :: (.int (nI sn)) :: (.ref tg) :: (.int v14_35) :: (.int v15_36) :: (.ref pe) :: (.int v17_37) :: (.int v18_38) :: (.int v19_39) :: (.int v20_40) :: (.int v21_41) :: (.int v22_42) :: (.ref ml) :: (.ref bg) :: (.ref co) :: (.ref sp) :: (.ref nb0) :: (.ref nb1) :: (.ref nb2) :: (.int (nI nf)) :: (.int (nI bd)) :: (.int (nI mm)) :: (.int v33_43) :: (.ref pl) :: (.ref se) :: (.ref ke) :: (.ref wi) :: (.ref hs) :: (.ref mo) :: (.ref po) :: (.ref nu) :: (.ref pr) :: (.ref sq) :: (.ref xa) :: (.ref sa) :: (.ref n64) :: (.ref m64) :: (.ref ex) :: (.ref wh) :: (.ref sd) :: (.ref tk) :: (.int v52_44) :: (.int v53_45) :: (.int v54_46) :: (.ref hd) :: (.ref ak) :: (.ref ho) :: (.ref ot) :: []) := (hB1.2.2.2 h0 (by rw [hT_h0]; simp)).trans hF_153
                  have hF_167 : F_160 bg = .inl (cs 16, 21, .inl f_58) := (hB1.2.2.2 bg (by rw [ht_57]; simp)).trans hF_154
                  have hF_168 : F_160 co = .inl (cs 16, 21, .inl f_75) := (hB1.2.2.2 co (by rw [ht_74]; simp)).trans hF_155
                  generalize H1 = H at hP hS ⊢
                  have hom_169 := OUTM.add (y := (0, i)) hom_156 hq_164 rfl rfl
                  have hF_170 : F_160 pl = .inr (14, [.ref rl, .int (nI ((ab ++ [(2, 32)]) ++ [(0, i)]).length)]) := by rw [len1]; exact hq_162
                  refine lv_iinc (v := (nI (i + 1))) (lv' := [(8, .int (nI (i + 1))), (6, .int 1), (7, .int 0), (5, .int (nI kd)), (0, .ref h0), (1, .int (nI jf)), (2, .int x2), (3, .int (nI kS)), (4, .int (nI kE))]) hx hb dX15_fieldPlain_220 hl (k := 2) rfl (nI_1 _) (by decide) rfl (fun ls hl => ?_)
                  refine lv_goto (tgt := 127) hx hb dX15_fieldPlain_223 (by decide) ?_
                  refine W.widen (k := 0) (n := 0) (by omega) (by omega) ?_
                  exact ih_101 ((i + 1), 1, 0, ((ab ++ [(2, 32)]) ++ [(0, i)]), f2_161) F_160 (⟨by omega, by omega, Or.inr rfl, by rw [len1, len1]; omega, Or.inl rfl, (by rw [wv_z]; exact rv_b hq6 hib (by rw [ctT_n hnc]; exact clg0n c_112) (by rw [ctT_n hnc]; exact clg1n (ifb0 hw_116 c_117)) (by rw [wv_n c_132]; exact c_118)), hF_170, hq_163, hom_169⟩) (by show kd - (i + 1) < kd - i; omega) hO hR _ _ hP hD hS ls (lv_sub hl [0, 2, 1, 3, 4, 5, 6, 7, 8] rfl)
            ·
              refine lv_iconst (v := 1) hx hb dX15_fieldPlain_175 (by decide) ?_
              refine lv_istore (lv' := [(7, .int 1), (8, .int (nI i)), (6, .int w6), (5, .int (nI kd)), (0, .ref h0), (1, .int (nI jf)), (2, .int x2), (3, .int (nI kS)), (4, .int (nI kE))]) hx hb dX15_fieldPlain_176 hl (by decide) rfl (fun ls hl => ?_)
              refine lv_goto (tgt := 220) hx hb dX15_fieldPlain_178 (by decide) ?_
              refine lv_iinc (v := (nI (i + 1))) (lv' := [(8, .int (nI (i + 1))), (7, .int 1), (6, .int w6), (5, .int (nI kd)), (0, .ref h0), (1, .int (nI jf)), (2, .int x2), (3, .int (nI kS)), (4, .int (nI kE))]) hx hb dX15_fieldPlain_220 hl (k := 1) rfl (nI_1 _) (by decide) rfl (fun ls hl => ?_)
              refine lv_goto (tgt := 127) hx hb dX15_fieldPlain_223 (by decide) ?_
              refine W.widen (k := 0) (n := 0) (by omega) (by omega) ?_
              exact ih_101 ((i + 1), w6, 1, ab, fq) F_95 (⟨by omega, by omega, hq3, by omega, Or.inr (by omega), (by rw [wv_1 hq3]; exact rv_1 hq6 hib ((ctT_n hnc).trans (clg1 (ifb1 hw_116 c_117)))), hq7, hq8, hq9⟩) (by show kd - (i + 1) < kd - i; omega) hO hR _ _ hP hD hS ls (lv_sub hl [0, 1, 2, 3, 4, 5, 6, 7, 8] rfl)
          ·
            refine lv_goto (tgt := 220) hx hb dX15_fieldPlain_159 (by decide) ?_
            refine lv_iinc (v := (nI (i + 1))) (lv' := [(8, .int (nI (i + 1))), (7, .int w7), (6, .int w6), (5, .int (nI kd)), (0, .ref h0), (1, .int (nI jf)), (2, .int x2), (3, .int (nI kS)), (4, .int (nI kE))]) hx hb dX15_fieldPlain_220 hl (k := 0) rfl (nI_1 _) (by decide) rfl (fun ls hl => ?_)
            refine lv_goto (tgt := 127) hx hb dX15_fieldPlain_223 (by decide) ?_
            refine W.widen (k := 0) (n := 0) (by omega) (by omega) ?_
            exact ih_101 ((i + 1), w6, w7, ab, fq) F_95 (⟨by omega, by omega, hq3, by omega, by rcases hq5 with q | q; exact Or.inl q; exact Or.inr (by omega), rv_0 hq6 hib (ctT_z (clg0 c_112)), hq7, hq8, hq9⟩) (by show kd - (i + 1) < kd - i; omega) hO hR _ _ hP hD hS ls (lv_sub hl [0, 1, 2, 3, 4, 5, 6, 7, 8] rfl)
        ·
          have hi_171 : kS ≤ i := leN (N := kS) (Int32.not_lt.mp c_109)
          have hkk1 : kS ≤ i := Nat.not_lt.mp (fun q => c_109 ((nI_ltI (by omega) (by omega)).mpr q))
          refine lv_iload hx hb dX15_fieldPlain_140 (lv_at hl 0 rfl) ?_
          refine lv_iload hx hb dX15_fieldPlain_142 (lv_at hl 8 rfl) ?_
          refine lv_icmp_lt (tgt := 220) hx hb dX15_fieldPlain_144 (by decide) (fun c_172 => ?_) (fun c_172 => ?_)
          ·
            have hi_173 : i < kE := ltN (N := kE) (Int32.not_le.mpr c_172)
            have hk2 : i < kE := (nI_ltI (by omega) (by omega)).mp c_172
            refine lv_iinc (v := (nI (i + 1))) (lv' := [(8, .int (nI (i + 1))), (7, .int w7), (6, .int w6), (5, .int (nI kd)), (0, .ref h0), (1, .int (nI jf)), (2, .int x2), (3, .int (nI kS)), (4, .int (nI kE))]) hx hb dX15_fieldPlain_220 hl (k := 0) rfl (nI_1 _) (by decide) rfl (fun ls hl => ?_)
            refine lv_goto (tgt := 127) hx hb dX15_fieldPlain_223 (by decide) ?_
            refine W.widen (k := 0) (n := 0) (by omega) (by omega) ?_
            exact ih_101 ((i + 1), w6, w7, ab, fq) F_95 (⟨by omega, by omega, hq3, by omega, by rcases hq5 with q | q; exact Or.inl q; exact Or.inr (by omega), rv_0 hq6 hib (ctT_y ⟨hkk1, hk2⟩), hq7, hq8, hq9⟩) (by show kd - (i + 1) < kd - i; omega) hO hR _ _ hP hD hS ls (lv_sub hl [0, 1, 2, 3, 4, 5, 6, 7, 8] rfl)
          ·
            have hi_174 : kE ≤ i := leN (N := kE) (Int32.not_lt.mp c_172)
            have hk2 : kE ≤ i := Nat.not_lt.mp (fun q => c_172 ((nI_ltI (by omega) (by omega)).mpr q))
            have hnc : ¬ (kS ≤ i ∧ i < kE) := by omega
            refine lv_aload_n hx hb dX15_fieldPlain_147 rfl (lv_at hl 4 rfl) ?_
            refine pg_get (ci := 15) (v := .ref ml) (C := RX15) (T := TX15) (N := 59) hx hb hts it_15 hown hK hP hL_h0 hF_103 rfl 23 (by decide) (hts _ kt_887) (fun _ h9 => h9) rfl dX15_fieldPlain_148 ?_
            refine lv_iload hx hb dX15_fieldPlain_151 (lv_at hl 0 rfl) ?_
            refine pg_bald hx hb hK hP hi_31 1 hF_102 rfl (vp_in_nI (by omega) (by omega)) dX15_fieldPlain_153 ?_
            refine lv_topi (fun x_175 ex_175 => ?_)
            obtain rfl : x_175 = gl i := ex_175.trans (congrArg gl (show ((nI i) : Int32).toNatClampNeg = i from nI_clamp (by omega)))
            refine lv_bipush (v := 10) hx hb dX15_fieldPlain_154 (by decide) ?_
            refine lv_icmp_ne (tgt := 162) hx hb dX15_fieldPlain_156 (by decide) (fun c_176 => ?_) (fun c_176 => ?_)
            ·
              refine lv_aload_n hx hb dX15_fieldPlain_162 rfl (lv_at hl 4 rfl) ?_
              refine pg_get (ci := 15) (v := .ref ml) (C := RX15) (T := TX15) (N := 59) hx hb hts it_15 hown hK hP hL_h0 hF_103 rfl 23 (by decide) (hts _ kt_887) (fun _ h9 => h9) rfl dX15_fieldPlain_163 ?_
              refine lv_iload hx hb dX15_fieldPlain_166 (lv_at hl 0 rfl) ?_
              refine pg_bald hx hb hK hP hi_31 1 hF_102 rfl (vp_in_nI (by omega) (by omega)) dX15_fieldPlain_168 ?_
              refine lv_topi (fun x_177 ex_177 => ?_)
              obtain rfl : x_177 = gl i := ex_177.trans (congrArg gl (show ((nI i) : Int32).toNatClampNeg = i from nI_clamp (by omega)))
              have hFc := pg_free hD hS hA
              refine va_calli (va_runS (As := [.int (gl i)]) (rest := []) ⟨hx, hb, hml, hown, hts⟩ (s_X15_isWhite_e l dC dI cs ty gm L H.size F_95 (gl i) hW ) ⟨callB_of 1 hts (gi kt_715) rfl rfl rfl (hts _ kt_669) (hts _ kt_716) (by decide +kernel) ⟨Nat.le_of_ble_eq_true rfl, Nat.le_of_ble_eq_true rfl⟩, (hts _ kt_717)⟩ ⟨fun a U g mk q => ⟨q.1, PTm.calling q.2⟩, fun U hU hWm => ⟨rfl, PTm.mk hU hWm hP hK hD hE hO⟩⟩ rfl rfl hl.1 rfl (lv_room (Nat.le_of_ble_eq_true rfl)) dX15_fieldPlain_169 ⟨by show _ + 0 ≤ 0; omega, by show _ + 0 ≤ 0; omega⟩) hS (fun q _ h => hFc q h) hFc (fun r_178 u t H1 locs ht hvm hw hB hz1 hk1 hS => ?_)
              obtain ⟨F_179, hB1⟩ := hB
              obtain rfl : F_95 = F_179 := (funext (fun a => hB1.2.2.2 a List.not_mem_nil)).symm
              obtain ⟨hP, hD, hO, hR⟩ := QTm.back hB1 ht hFc hR (fun q h => absurd h List.not_mem_nil)
              generalize H1 = H at hP hS ⊢
              have hw : r_178 = (if (gl i) = 32 ∨ (gl i) = 9 then 1 else 0) := hw
              have hw_180 := hw
              refine lv_if_eq (tgt := 181) hx hb dX15_fieldPlain_172 (by decide) (fun c_181 => ?_) (fun c_181 => ?_)
              ·
                refine lv_iload hx hb dX15_fieldPlain_181 (lv_at hl 1 rfl) ?_
                refine lv_if_eq (tgt := 200) hx hb dX15_fieldPlain_183 (by decide) (fun c_182 => ?_) (fun c_182 => ?_)
                ·
                  refine lv_iconst (v := 0) hx hb dX15_fieldPlain_200 (by decide) ?_
                  refine lv_istore (lv' := [(7, .int 0), (8, .int (nI i)), (6, .int w6), (5, .int (nI kd)), (0, .ref h0), (1, .int (nI jf)), (2, .int x2), (3, .int (nI kS)), (4, .int (nI kE))]) hx hb dX15_fieldPlain_201 hl (by decide) rfl (fun ls hl => ?_)
                  refine lv_iconst (v := 1) hx hb dX15_fieldPlain_203 (by decide) ?_
                  refine lv_istore (lv' := [(6, .int 1), (7, .int 0), (8, .int (nI i)), (5, .int (nI kd)), (0, .ref h0), (1, .int (nI jf)), (2, .int x2), (3, .int (nI kS)), (4, .int (nI kE))]) hx hb dX15_fieldPlain_204 hl (by decide) rfl (fun ls hl => ?_)
                  refine lv_aload_n hx hb dX15_fieldPlain_206 rfl (lv_at hl 4 rfl) ?_
                  refine pg_get (ci := 15) (v := .ref pl) (C := RX15) (T := TX15) (N := 59) hx hb hts it_15 hown hK hP hL_h0 hF_103 rfl 34 (by decide) (hts _ kt_901) (fun _ h9 => h9) rfl dX15_fieldPlain_207 ?_
                  refine lv_aload_n hx hb dX15_fieldPlain_210 rfl (lv_at hl 4 rfl) ?_
                  refine pg_get (ci := 15) (v := .ref ml) (C := RX15) (T := TX15) (N := 59) hx hb hts it_15 hown hK hP hL_h0 hF_103 rfl 23 (by decide) (hts _ kt_887) (fun _ h9 => h9) rfl dX15_fieldPlain_211 ?_
                  refine lv_iload hx hb dX15_fieldPlain_214 (lv_at hl 2 rfl) ?_
                  refine pg_bald hx hb hK hP hi_31 1 hF_102 rfl (vp_in_nI (by omega) (by omega)) dX15_fieldPlain_216 ?_
                  refine lv_topi (fun x_183 ex_183 => ?_)
                  obtain rfl : x_183 = gl i := ex_183.trans (congrArg gl (show ((nI i) : Int32).toNatClampNeg = i from nI_clamp (by omega)))
                  have hFc := pg_free hD hS hA
                  refine va_callv (va_runV (As := [.int (gl i)]) (rest := []) ⟨hx, hb, hml, hown, hts⟩ (s_X14_add_c l dC dI cs ty gm L H.size F_95 pl (ρ + 10) rl 6000 ab.length (gl i) fq hW hL_pl hT_pl hq7 hq8 (by first | omega | (rw [len1]; omega))) ⟨callB_of 1 hts (gi kt_711) rfl rfl rfl (hts _ kt_676) (hts _ kt_712) (by decide +kernel) ⟨Nat.le_of_ble_eq_true rfl, Nat.le_of_ble_eq_true rfl⟩, (hts _ kt_713), (hts _ kt_714)⟩ ⟨fun a U g mk q => ⟨q.1, PTm.calling q.2⟩, pg_recv hK hP hL_pl hq7 (q := (RX14, TX14, 2)) rfl, fun U hU hWm => ⟨rfl, PTm.mk hU hWm hP hK hD hE hO⟩⟩ rfl rfl hl.1 rfl (lv_room (Nat.le_of_ble_eq_true rfl)) dX15_fieldPlain_217 ⟨by show _ + 0 ≤ 0; omega, by show _ + 0 ≤ 0; omega⟩) hS (fun q _ h => hFc q h) hFc (fun u t H1 locs ht hvm hw hB hz1 hk1 hS => ?_)
                  obtain ⟨F_185, f2_186, hB1, hq_187, hq_188, hq_189⟩ := hB
                  obtain ⟨hP, hD, hO, hR⟩ := QTm.back hB1 ht hFc hR (fun q h => by simp only [List.mem_cons, List.not_mem_nil, or_false] at h ⊢; omega)
                  have hF_190 : F_185 ml = .inl (cs 17, 3000, .inl gl) := (hB1.2.2.2 ml (by rw [ht_32]; simp)).trans hF_102
                  have hF_191 : F_185 h0 = .inr (15, (.ref ta) :: (.int (nI zt)) :: (.int (nI zo)) :: (.int (nI ze)) :: (.ref ou) :: (.ref so) :: (.ref ad) :: (.ref na) :: (.ref va) :: (.ref lc) :: (.ref dm) :: (.int (nI fm)) :: (.int (nI sn)) :: (.ref tg) :: (.int v14_35) :: (.int v15_36) :: (.ref pe) :: (.int v17_37) :: (.int v18_38) :: (.int v19_39) :: (.int v20_40) :: (.int v21_41) :: (.int v22_42) :: (.ref ml) :: (.ref bg) :: (.ref co) :: (.ref sp) :: (.ref nb0) :: (.ref nb1) :: (.ref nb2) :: (.int (nI nf)) :: (.int (nI bd)) :: (.int (nI mm)) :: (.int v33_43) :: (.ref pl) :: (.ref se) :: (.ref ke) :: (.ref wi) :: (.ref hs) :: (.ref mo) :: (.ref po) :: (.ref nu) :: (.ref pr) :: (.ref sq) :: (.ref xa) :: (.ref sa) :: (.ref n64) :: (.ref m64) :: (.ref ex) :: (.ref wh) :: (.ref sd) :: (.ref tk) :: (.int v52_44) :: (.int v53_45) :: (.int v54_46) :: (.ref hd) :: (.ref ak) :: (.ref ho) :: (.ref ot) :: []) := (hB1.2.2.2 h0 (by rw [hT_h0]; simp)).trans hF_103
                  have hF_192 : F_185 bg = .inl (cs 16, 21, .inl f_58) := (hB1.2.2.2 bg (by rw [ht_57]; simp)).trans hF_104
                  have hF_193 : F_185 co = .inl (cs 16, 21, .inl f_75) := (hB1.2.2.2 co (by rw [ht_74]; simp)).trans hF_105
                  generalize H1 = H at hP hS ⊢
                  have hom_194 := OUTM.add (y := (0, i)) hq9 hq_189 rfl rfl
                  have hF_195 : F_185 pl = .inr (14, [.ref rl, .int (nI (ab ++ [(0, i)]).length)]) := by rw [len1]; exact hq_187
                  refine lv_iinc (v := (nI (i + 1))) (lv' := [(8, .int (nI (i + 1))), (6, .int 1), (7, .int 0), (5, .int (nI kd)), (0, .ref h0), (1, .int (nI jf)), (2, .int x2), (3, .int (nI kS)), (4, .int (nI kE))]) hx hb dX15_fieldPlain_220 hl (k := 2) rfl (nI_1 _) (by decide) rfl (fun ls hl => ?_)
                  refine lv_goto (tgt := 127) hx hb dX15_fieldPlain_223 (by decide) ?_
                  refine W.widen (k := 0) (n := 0) (by omega) (by omega) ?_
                  exact ih_101 ((i + 1), 1, 0, (ab ++ [(0, i)]), f2_186) F_185 (⟨by omega, by omega, Or.inr rfl, by rw [len1]; omega, Or.inl rfl, (by rw [wv_z]; exact rv_a hq6 hib (by rw [ctT_n hnc]; exact clg0n c_176) (by rw [ctT_n hnc]; exact clg1n (ifb0 hw_180 c_181)) (by rw [c_182]; exact wv_z)), hF_195, hq_188, hom_194⟩) (by show kd - (i + 1) < kd - i; omega) hO hR _ _ hP hD hS ls (lv_sub hl [0, 2, 1, 3, 4, 5, 6, 7, 8] rfl)
                ·
                  have hz9 := hq5.resolve_left c_182
                  refine lv_iload hx hb dX15_fieldPlain_186 (lv_at hl 2 rfl) ?_
                  refine lv_if_eq (tgt := 200) hx hb dX15_fieldPlain_188 (by decide) (fun c_196 => ?_) (fun c_196 => ?_)
                  ·
                    refine lv_iconst (v := 0) hx hb dX15_fieldPlain_200 (by decide) ?_
                    refine lv_istore (lv' := [(7, .int 0), (8, .int (nI i)), (6, .int w6), (5, .int (nI kd)), (0, .ref h0), (1, .int (nI jf)), (2, .int x2), (3, .int (nI kS)), (4, .int (nI kE))]) hx hb dX15_fieldPlain_201 hl (by decide) rfl (fun ls hl => ?_)
                    refine lv_iconst (v := 1) hx hb dX15_fieldPlain_203 (by decide) ?_
                    refine lv_istore (lv' := [(6, .int 1), (7, .int 0), (8, .int (nI i)), (5, .int (nI kd)), (0, .ref h0), (1, .int (nI jf)), (2, .int x2), (3, .int (nI kS)), (4, .int (nI kE))]) hx hb dX15_fieldPlain_204 hl (by decide) rfl (fun ls hl => ?_)
                    refine lv_aload_n hx hb dX15_fieldPlain_206 rfl (lv_at hl 4 rfl) ?_
                    refine pg_get (ci := 15) (v := .ref pl) (C := RX15) (T := TX15) (N := 59) hx hb hts it_15 hown hK hP hL_h0 hF_103 rfl 34 (by decide) (hts _ kt_901) (fun _ h9 => h9) rfl dX15_fieldPlain_207 ?_
                    refine lv_aload_n hx hb dX15_fieldPlain_210 rfl (lv_at hl 4 rfl) ?_
                    refine pg_get (ci := 15) (v := .ref ml) (C := RX15) (T := TX15) (N := 59) hx hb hts it_15 hown hK hP hL_h0 hF_103 rfl 23 (by decide) (hts _ kt_887) (fun _ h9 => h9) rfl dX15_fieldPlain_211 ?_
                    refine lv_iload hx hb dX15_fieldPlain_214 (lv_at hl 2 rfl) ?_
                    refine pg_bald hx hb hK hP hi_31 1 hF_102 rfl (vp_in_nI (by omega) (by omega)) dX15_fieldPlain_216 ?_
                    refine lv_topi (fun x_197 ex_197 => ?_)
                    obtain rfl : x_197 = gl i := ex_197.trans (congrArg gl (show ((nI i) : Int32).toNatClampNeg = i from nI_clamp (by omega)))
                    have hFc := pg_free hD hS hA
                    refine va_callv (va_runV (As := [.int (gl i)]) (rest := []) ⟨hx, hb, hml, hown, hts⟩ (s_X14_add_c l dC dI cs ty gm L H.size F_95 pl (ρ + 10) rl 6000 ab.length (gl i) fq hW hL_pl hT_pl hq7 hq8 (by first | omega | (rw [len1]; omega))) ⟨callB_of 1 hts (gi kt_711) rfl rfl rfl (hts _ kt_676) (hts _ kt_712) (by decide +kernel) ⟨Nat.le_of_ble_eq_true rfl, Nat.le_of_ble_eq_true rfl⟩, (hts _ kt_713), (hts _ kt_714)⟩ ⟨fun a U g mk q => ⟨q.1, PTm.calling q.2⟩, pg_recv hK hP hL_pl hq7 (q := (RX14, TX14, 2)) rfl, fun U hU hWm => ⟨rfl, PTm.mk hU hWm hP hK hD hE hO⟩⟩ rfl rfl hl.1 rfl (lv_room (Nat.le_of_ble_eq_true rfl)) dX15_fieldPlain_217 ⟨by show _ + 0 ≤ 0; omega, by show _ + 0 ≤ 0; omega⟩) hS (fun q _ h => hFc q h) hFc (fun u t H1 locs ht hvm hw hB hz1 hk1 hS => ?_)
                    obtain ⟨F_199, f2_200, hB1, hq_201, hq_202, hq_203⟩ := hB
                    obtain ⟨hP, hD, hO, hR⟩ := QTm.back hB1 ht hFc hR (fun q h => by simp only [List.mem_cons, List.not_mem_nil, or_false] at h ⊢; omega)
                    have hF_204 : F_199 ml = .inl (cs 17, 3000, .inl gl) := (hB1.2.2.2 ml (by rw [ht_32]; simp)).trans hF_102
                    have hF_205 : F_199 h0 = .inr (15, (.ref ta) :: (.int (nI zt)) :: (.int (nI zo)) :: (.int (nI ze)) :: (.ref ou) :: (.ref so) :: (.ref ad) :: (.ref na) :: (.ref va) :: (.ref lc) :: (.ref dm) :: (.int (nI fm)) :: (.int (nI sn)) :: (.ref tg) :: (.int v14_35) :: (.int v15_36) :: (.ref pe) :: (.int v17_37) :: (.int v18_38) :: (.int v19_39) :: (.int v20_40) :: (.int v21_41) :: (.int v22_42) :: (.ref ml) :: (.ref bg) :: (.ref co) :: (.ref sp) :: (.ref nb0) :: (.ref nb1) :: (.ref nb2) :: (.int (nI nf)) :: (.int (nI bd)) :: (.int (nI mm)) :: (.int v33_43) :: (.ref pl) :: (.ref se) :: (.ref ke) :: (.ref wi) :: (.ref hs) :: (.ref mo) :: (.ref po) :: (.ref nu) :: (.ref pr) :: (.ref sq) :: (.ref xa) :: (.ref sa) :: (.ref n64) :: (.ref m64) :: (.ref ex) :: (.ref wh) :: (.ref sd) :: (.ref tk) :: (.int v52_44) :: (.int v53_45) :: (.int v54_46) :: (.ref hd) :: (.ref ak) :: (.ref ho) :: (.ref ot) :: []) := (hB1.2.2.2 h0 (by rw [hT_h0]; simp)).trans hF_103
                    have hF_206 : F_199 bg = .inl (cs 16, 21, .inl f_58) := (hB1.2.2.2 bg (by rw [ht_57]; simp)).trans hF_104
                    have hF_207 : F_199 co = .inl (cs 16, 21, .inl f_75) := (hB1.2.2.2 co (by rw [ht_74]; simp)).trans hF_105
                    generalize H1 = H at hP hS ⊢
                    have hom_208 := OUTM.add (y := (0, i)) hq9 hq_203 rfl rfl
                    have hF_209 : F_199 pl = .inr (14, [.ref rl, .int (nI (ab ++ [(0, i)]).length)]) := by rw [len1]; exact hq_201
                    refine lv_iinc (v := (nI (i + 1))) (lv' := [(8, .int (nI (i + 1))), (6, .int 1), (7, .int 0), (5, .int (nI kd)), (0, .ref h0), (1, .int (nI jf)), (2, .int x2), (3, .int (nI kS)), (4, .int (nI kE))]) hx hb dX15_fieldPlain_220 hl (k := 2) rfl (nI_1 _) (by decide) rfl (fun ls hl => ?_)
                    refine lv_goto (tgt := 127) hx hb dX15_fieldPlain_223 (by decide) ?_
                    refine W.widen (k := 0) (n := 0) (by omega) (by omega) ?_
                    exact ih_101 ((i + 1), 1, 0, (ab ++ [(0, i)]), f2_200) F_199 (⟨by omega, by omega, Or.inr rfl, by rw [len1]; omega, Or.inl rfl, (by rw [wv_z]; exact rv_a hq6 hib (by rw [ctT_n hnc]; exact clg0n c_176) (by rw [ctT_n hnc]; exact clg1n (ifb0 hw_180 c_181)) (wv_0 c_196)), hF_209, hq_202, hom_208⟩) (by show kd - (i + 1) < kd - i; omega) hO hR _ _ hP hD hS ls (lv_sub hl [0, 2, 1, 3, 4, 5, 6, 7, 8] rfl)
                  ·
                    refine lv_aload_n hx hb dX15_fieldPlain_191 rfl (lv_at hl 4 rfl) ?_
                    refine pg_get (ci := 15) (v := .ref pl) (C := RX15) (T := TX15) (N := 59) hx hb hts it_15 hown hK hP hL_h0 hF_103 rfl 34 (by decide) (hts _ kt_901) (fun _ h9 => h9) rfl dX15_fieldPlain_192 ?_
                    refine lv_bipush (v := 32) hx hb dX15_fieldPlain_195 (by decide) ?_
                    have hFc := pg_free hD hS hA
                    refine va_callv (va_runV (As := [.int 32]) (rest := []) ⟨hx, hb, hml, hown, hts⟩ (s_X14_add_c l dC dI cs ty gm L H.size F_95 pl (ρ + 10) rl 6000 ab.length 32 fq hW hL_pl hT_pl hq7 hq8 (by first | omega | assumption | exact Or.inl rfl)) ⟨callB_of 1 hts (gi kt_711) rfl rfl rfl (hts _ kt_676) (hts _ kt_712) (by decide +kernel) ⟨Nat.le_of_ble_eq_true rfl, Nat.le_of_ble_eq_true rfl⟩, (hts _ kt_713), (hts _ kt_714)⟩ ⟨fun a U g mk q => ⟨q.1, PTm.calling q.2⟩, pg_recv hK hP hL_pl hq7 (q := (RX14, TX14, 2)) rfl, fun U hU hWm => ⟨rfl, PTm.mk hU hWm hP hK hD hE hO⟩⟩ rfl rfl hl.1 rfl (lv_room (Nat.le_of_ble_eq_true rfl)) dX15_fieldPlain_197 ⟨by show _ + 0 ≤ 0; omega, by show _ + 0 ≤ 0; omega⟩) hS (fun q _ h => hFc q h) hFc (fun u t H1 locs ht hvm hw hB hz1 hk1 hS => ?_)
                    obtain ⟨F_211, f2_212, hB1, hq_213, hq_214, hq_215⟩ := hB
                    obtain ⟨hP, hD, hO, hR⟩ := QTm.back hB1 ht hFc hR (fun q h => by simp only [List.mem_cons, List.not_mem_nil, or_false] at h ⊢; omega)
                    have hF_216 : F_211 ml = .inl (cs 17, 3000, .inl gl) := (hB1.2.2.2 ml (by rw [ht_32]; simp)).trans hF_102
                    have hF_217 : F_211 h0 = .inr (15, (.ref ta) :: (.int (nI zt)) :: (.int (nI zo)) :: (.int (nI ze)) :: (.ref ou) :: (.ref so) :: (.ref ad) :: (.ref na) :: (.ref va) :: (.ref lc) :: (.ref dm) :: (.int (nI fm)) :: (.int (nI sn)) :: (.ref tg) :: (.int v14_35) :: (.int v15_36) :: (.ref pe) :: (.int v17_37) :: (.int v18_38) :: (.int v19_39) :: (.int v20_40) :: (.int v21_41) :: (.int v22_42) :: (.ref ml) :: (.ref bg) :: (.ref co) :: (.ref sp) :: (.ref nb0) :: (.ref nb1) :: (.ref nb2) :: (.int (nI nf)) :: (.int (nI bd)) :: (.int (nI mm)) :: (.int v33_43) :: (.ref pl) :: (.ref se) :: (.ref ke) :: (.ref wi) :: (.ref hs) :: (.ref mo) :: (.ref po) :: (.ref nu) :: (.ref pr) :: (.ref sq) :: (.ref xa) :: (.ref sa) :: (.ref n64) :: (.ref m64) :: (.ref ex) :: (.ref wh) :: (.ref sd) :: (.ref tk) :: (.int v52_44) :: (.int v53_45) :: (.int v54_46) :: (.ref hd) :: (.ref ak) :: (.ref ho) :: (.ref ot) :: []) := (hB1.2.2.2 h0 (by rw [hT_h0]; simp)).trans hF_103
                    have hF_218 : F_211 bg = .inl (cs 16, 21, .inl f_58) := (hB1.2.2.2 bg (by rw [ht_57]; simp)).trans hF_104
                    have hF_219 : F_211 co = .inl (cs 16, 21, .inl f_75) := (hB1.2.2.2 co (by rw [ht_74]; simp)).trans hF_105
                    generalize H1 = H at hP hS ⊢
                    have hom_220 := OUTM.add (y := (2, 32)) hq9 hq_215 rfl rfl
                    have hF_221 : F_211 pl = .inr (14, [.ref rl, .int (nI (ab ++ [(2, 32)]).length)]) := by rw [len1]; exact hq_213
                    refine lv_iconst (v := 0) hx hb dX15_fieldPlain_200 (by decide) ?_
                    refine lv_istore (lv' := [(7, .int 0), (8, .int (nI i)), (6, .int w6), (5, .int (nI kd)), (0, .ref h0), (1, .int (nI jf)), (2, .int x2), (3, .int (nI kS)), (4, .int (nI kE))]) hx hb dX15_fieldPlain_201 hl (by decide) rfl (fun ls hl => ?_)
                    refine lv_iconst (v := 1) hx hb dX15_fieldPlain_203 (by decide) ?_
                    refine lv_istore (lv' := [(6, .int 1), (7, .int 0), (8, .int (nI i)), (5, .int (nI kd)), (0, .ref h0), (1, .int (nI jf)), (2, .int x2), (3, .int (nI kS)), (4, .int (nI kE))]) hx hb dX15_fieldPlain_204 hl (by decide) rfl (fun ls hl => ?_)
                    refine lv_aload_n hx hb dX15_fieldPlain_206 rfl (lv_at hl 4 rfl) ?_
                    refine pg_get (ci := 15) (v := .ref pl) (C := RX15) (T := TX15) (N := 59) hx hb hts it_15 hown hK hP hL_h0 hF_217 rfl 34 (by decide) (hts _ kt_901) (fun _ h9 => h9) rfl dX15_fieldPlain_207 ?_
                    refine lv_aload_n hx hb dX15_fieldPlain_210 rfl (lv_at hl 4 rfl) ?_
                    refine pg_get (ci := 15) (v := .ref ml) (C := RX15) (T := TX15) (N := 59) hx hb hts it_15 hown hK hP hL_h0 hF_217 rfl 23 (by decide) (hts _ kt_887) (fun _ h9 => h9) rfl dX15_fieldPlain_211 ?_
                    refine lv_iload hx hb dX15_fieldPlain_214 (lv_at hl 2 rfl) ?_
                    refine pg_bald hx hb hK hP hi_31 1 hF_216 rfl (vp_in_nI (by omega) (by omega)) dX15_fieldPlain_216 ?_
                    refine lv_topi (fun x_222 ex_222 => ?_)
                    obtain rfl : x_222 = gl i := ex_222.trans (congrArg gl (show ((nI i) : Int32).toNatClampNeg = i from nI_clamp (by omega)))
                    have hFc := pg_free hD hS hA
                    refine va_callv (va_runV (As := [.int (gl i)]) (rest := []) ⟨hx, hb, hml, hown, hts⟩ (s_X14_add_c l dC dI cs ty gm L H.size F_211 pl (ρ + 10) rl 6000 ((ab ++ [(2, 32)]).length) (gl i) f2_212 hW hL_pl hT_pl hF_221 hq_214 (by first | omega | (rw [len1]; omega))) ⟨callB_of 1 hts (gi kt_711) rfl rfl rfl (hts _ kt_676) (hts _ kt_712) (by decide +kernel) ⟨Nat.le_of_ble_eq_true rfl, Nat.le_of_ble_eq_true rfl⟩, (hts _ kt_713), (hts _ kt_714)⟩ ⟨fun a U g mk q => ⟨q.1, PTm.calling q.2⟩, pg_recv hK hP hL_pl hF_221 (q := (RX14, TX14, 2)) rfl, fun U hU hWm => ⟨rfl, PTm.mk hU hWm hP hK hD hE hO⟩⟩ rfl rfl hl.1 rfl (lv_room (Nat.le_of_ble_eq_true rfl)) dX15_fieldPlain_217 ⟨by show _ + 0 ≤ 0; omega, by show _ + 0 ≤ 0; omega⟩) hS (fun q _ h => hFc q h) hFc (fun u t H1 locs ht hvm hw hB hz1 hk1 hS => ?_)
                    obtain ⟨F_224, f2_225, hB1, hq_226, hq_227, hq_228⟩ := hB
                    obtain ⟨hP, hD, hO, hR⟩ := QTm.back hB1 ht hFc hR (fun q h => by simp only [List.mem_cons, List.not_mem_nil, or_false] at h ⊢; omega)
                    have hF_229 : F_224 ml = .inl (cs 17, 3000, .inl gl) := (hB1.2.2.2 ml (by rw [ht_32]; simp)).trans hF_216
                    have hF_230 : F_224 h0 = .inr (15, (.ref ta) :: (.int (nI zt)) :: (.int (nI zo)) :: (.int (nI ze)) :: (.ref ou) :: (.ref so) :: (.ref ad) :: (.ref na) :: (.ref va) :: (.ref lc) :: (.ref dm) :: (.int (nI fm)) :: (.int (nI sn)) :: (.ref tg) :: (.int v14_35) :: (.int v15_36) :: (.ref pe) :: (.int v17_37) :: (.int v18_38) :: (.int v19_39) :: (.int v20_40) :: (.int v21_41) :: (.int v22_42) :: (.ref ml) :: (.ref bg) :: (.ref co) :: (.ref sp) :: (.ref nb0) :: (.ref nb1) :: (.ref nb2) :: (.int (nI nf)) :: (.int (nI bd)) :: (.int (nI mm)) :: (.int v33_43) :: (.ref pl) :: (.ref se) :: (.ref ke) :: (.ref wi) :: (.ref hs) :: (.ref mo) :: (.ref po) :: (.ref nu) :: (.ref pr) :: (.ref sq) :: (.ref xa) :: (.ref sa) :: (.ref n64) :: (.ref m64) :: (.ref ex) :: (.ref wh) :: (.ref sd) :: (.ref tk) :: (.int v52_44) :: (.int v53_45) :: (.int v54_46) :: (.ref hd) :: (.ref ak) :: (.ref ho) :: (.ref ot) :: []) := (hB1.2.2.2 h0 (by rw [hT_h0]; simp)).trans hF_217
                    have hF_231 : F_224 bg = .inl (cs 16, 21, .inl f_58) := (hB1.2.2.2 bg (by rw [ht_57]; simp)).trans hF_218
                    have hF_232 : F_224 co = .inl (cs 16, 21, .inl f_75) := (hB1.2.2.2 co (by rw [ht_74]; simp)).trans hF_219
                    generalize H1 = H at hP hS ⊢
                    have hom_233 := OUTM.add (y := (0, i)) hom_220 hq_228 rfl rfl
                    have hF_234 : F_224 pl = .inr (14, [.ref rl, .int (nI ((ab ++ [(2, 32)]) ++ [(0, i)]).length)]) := by rw [len1]; exact hq_226
                    refine lv_iinc (v := (nI (i + 1))) (lv' := [(8, .int (nI (i + 1))), (6, .int 1), (7, .int 0), (5, .int (nI kd)), (0, .ref h0), (1, .int (nI jf)), (2, .int x2), (3, .int (nI kS)), (4, .int (nI kE))]) hx hb dX15_fieldPlain_220 hl (k := 2) rfl (nI_1 _) (by decide) rfl (fun ls hl => ?_)
                    refine lv_goto (tgt := 127) hx hb dX15_fieldPlain_223 (by decide) ?_
                    refine W.widen (k := 0) (n := 0) (by omega) (by omega) ?_
                    exact ih_101 ((i + 1), 1, 0, ((ab ++ [(2, 32)]) ++ [(0, i)]), f2_225) F_224 (⟨by omega, by omega, Or.inr rfl, by rw [len1, len1]; omega, Or.inl rfl, (by rw [wv_z]; exact rv_b hq6 hib (by rw [ctT_n hnc]; exact clg0n c_176) (by rw [ctT_n hnc]; exact clg1n (ifb0 hw_180 c_181)) (by rw [wv_n c_196]; exact c_182)), hF_234, hq_227, hom_233⟩) (by show kd - (i + 1) < kd - i; omega) hO hR _ _ hP hD hS ls (lv_sub hl [0, 2, 1, 3, 4, 5, 6, 7, 8] rfl)
              ·
                refine lv_iconst (v := 1) hx hb dX15_fieldPlain_175 (by decide) ?_
                refine lv_istore (lv' := [(7, .int 1), (8, .int (nI i)), (6, .int w6), (5, .int (nI kd)), (0, .ref h0), (1, .int (nI jf)), (2, .int x2), (3, .int (nI kS)), (4, .int (nI kE))]) hx hb dX15_fieldPlain_176 hl (by decide) rfl (fun ls hl => ?_)
                refine lv_goto (tgt := 220) hx hb dX15_fieldPlain_178 (by decide) ?_
                refine lv_iinc (v := (nI (i + 1))) (lv' := [(8, .int (nI (i + 1))), (7, .int 1), (6, .int w6), (5, .int (nI kd)), (0, .ref h0), (1, .int (nI jf)), (2, .int x2), (3, .int (nI kS)), (4, .int (nI kE))]) hx hb dX15_fieldPlain_220 hl (k := 1) rfl (nI_1 _) (by decide) rfl (fun ls hl => ?_)
                refine lv_goto (tgt := 127) hx hb dX15_fieldPlain_223 (by decide) ?_
                refine W.widen (k := 0) (n := 0) (by omega) (by omega) ?_
                exact ih_101 ((i + 1), w6, 1, ab, fq) F_95 (⟨by omega, by omega, hq3, by omega, Or.inr (by omega), (by rw [wv_1 hq3]; exact rv_1 hq6 hib ((ctT_n hnc).trans (clg1 (ifb1 hw_180 c_181)))), hq7, hq8, hq9⟩) (by show kd - (i + 1) < kd - i; omega) hO hR _ _ hP hD hS ls (lv_sub hl [0, 1, 2, 3, 4, 5, 6, 7, 8] rfl)
            ·
              refine lv_goto (tgt := 220) hx hb dX15_fieldPlain_159 (by decide) ?_
              refine lv_iinc (v := (nI (i + 1))) (lv' := [(8, .int (nI (i + 1))), (7, .int w7), (6, .int w6), (5, .int (nI kd)), (0, .ref h0), (1, .int (nI jf)), (2, .int x2), (3, .int (nI kS)), (4, .int (nI kE))]) hx hb dX15_fieldPlain_220 hl (k := 0) rfl (nI_1 _) (by decide) rfl (fun ls hl => ?_)
              refine lv_goto (tgt := 127) hx hb dX15_fieldPlain_223 (by decide) ?_
              refine W.widen (k := 0) (n := 0) (by omega) (by omega) ?_
              exact ih_101 ((i + 1), w6, w7, ab, fq) F_95 (⟨by omega, by omega, hq3, by omega, by rcases hq5 with q | q; exact Or.inl q; exact Or.inr (by omega), rv_0 hq6 hib (ctT_z (clg0 c_176)), hq7, hq8, hq9⟩) (by show kd - (i + 1) < kd - i; omega) hO hR _ _ hP hD hS ls (lv_sub hl [0, 1, 2, 3, 4, 5, 6, 7, 8] rfl)
    ·
      have hi_235 : j < (gm 1 jf) := ltN (N := (gm 1 jf)) c_79
      refine lv_aload_n hx hb dX15_fieldPlain_79 rfl (lv_at hl 2 rfl) ?_
      refine pg_get (ci := 15) (v := .ref pl) (C := RX15) (T := TX15) (N := 59) hx hb hts it_15 hown hK hP hL_h0 hF_71 rfl 34 (by decide) (hts _ kt_901) (fun _ h9 => h9) rfl dX15_fieldPlain_80 ?_
      refine lv_aload_n hx hb dX15_fieldPlain_83 rfl (lv_at hl 2 rfl) ?_
      refine pg_get (ci := 15) (v := .ref ml) (C := RX15) (T := TX15) (N := 59) hx hb hts it_15 hown hK hP hL_h0 hF_71 rfl 23 (by decide) (hts _ kt_887) (fun _ h9 => h9) rfl dX15_fieldPlain_84 ?_
      refine lv_iload hx hb dX15_fieldPlain_87 (lv_at hl 0 rfl) ?_
      refine pg_bald hx hb hK hP hi_31 1 hF_70 rfl (vp_in_nI (by omega) (by omega)) dX15_fieldPlain_89 ?_
      refine lv_topi (fun x_236 ex_236 => ?_)
      obtain rfl : x_236 = gl j := ex_236.trans (congrArg gl (show ((nI j) : Int32).toNatClampNeg = j from nI_clamp (by omega)))
      have hFc := pg_free hD hS hA
      refine va_calli (va_runS (As := [.int (gl j)]) (rest := [.ref pl]) ⟨hx, hb, hml, hown, hts⟩ (s_X15_small_e l dC dI cs ty gm L H.size F_64 (gl j) hW ) ⟨callB_of 1 hts (gi kt_697) rfl rfl rfl (hts _ kt_669) (hts _ kt_698) (by decide +kernel) ⟨Nat.le_of_ble_eq_true rfl, Nat.le_of_ble_eq_true rfl⟩, (hts _ kt_699)⟩ ⟨fun a U g mk q => ⟨q.1, PTm.calling q.2⟩, fun U hU hWm => ⟨rfl, PTm.mk hU hWm hP hK hD hE hO⟩⟩ rfl rfl hl.1 rfl (lv_room (Nat.le_of_ble_eq_true rfl)) dX15_fieldPlain_90 ⟨by show _ + 0 ≤ 0; omega, by show _ + 0 ≤ 0; omega⟩) hS (fun q _ h => hFc q h) hFc (fun r_237 u t H1 locs ht hvm hw hB hz1 hk1 hS => ?_)
      obtain ⟨F_238, hB1⟩ := hB
      obtain rfl : F_64 = F_238 := (funext (fun a => hB1.2.2.2 a List.not_mem_nil)).symm
      obtain ⟨hP, hD, hO, hR⟩ := QTm.back hB1 ht hFc hR (fun q h => absurd h List.not_mem_nil)
      generalize H1 = H at hP hS ⊢
      have hw : r_237 = smv (gl j) := hw
      subst hw
      have hFc := pg_free hD hS hA
      refine va_callv (va_runV (As := [.int (smv (gl j))]) (rest := []) ⟨hx, hb, hml, hown, hts⟩ (s_X14_add_c l dC dI cs ty gm L H.size F_64 pl (ρ + 10) rl 6000 aa.length (smv (gl j)) fq hW hL_pl hT_pl hp4 hp5 (by first | omega | assumption | exact Or.inl rfl)) ⟨callB_of 1 hts (gi kt_711) rfl rfl rfl (hts _ kt_676) (hts _ kt_712) (by decide +kernel) ⟨Nat.le_of_ble_eq_true rfl, Nat.le_of_ble_eq_true rfl⟩, (hts _ kt_713), (hts _ kt_714)⟩ ⟨fun a U g mk q => ⟨q.1, PTm.calling q.2⟩, pg_recv hK hP hL_pl hp4 (q := (RX14, TX14, 2)) rfl, fun U hU hWm => ⟨rfl, PTm.mk hU hWm hP hK hD hE hO⟩⟩ rfl rfl hl.1 rfl (lv_room (Nat.le_of_ble_eq_true rfl)) dX15_fieldPlain_93 ⟨by show _ + 0 ≤ 0; omega, by show _ + 0 ≤ 0; omega⟩) hS (fun q _ h => hFc q h) hFc (fun u t H1 locs ht hvm hw hB hz1 hk1 hS => ?_)
      obtain ⟨F_240, f2_241, hB1, hq_242, hq_243, hq_244⟩ := hB
      obtain ⟨hP, hD, hO, hR⟩ := QTm.back hB1 ht hFc hR (fun q h => by simp only [List.mem_cons, List.not_mem_nil, or_false] at h ⊢; omega)
      have hF_245 : F_240 ml = .inl (cs 17, 3000, .inl gl) := (hB1.2.2.2 ml (by rw [ht_32]; simp)).trans hF_70
      have hF_246 : F_240 h0 = .inr (15, (.ref ta) :: (.int (nI zt)) :: (.int (nI zo)) :: (.int (nI ze)) :: (.ref ou) :: (.ref so) :: (.ref ad) :: (.ref na) :: (.ref va) :: (.ref lc) :: (.ref dm) :: (.int (nI fm)) :: (.int (nI sn)) :: (.ref tg) :: (.int v14_35) :: (.int v15_36) :: (.ref pe) :: (.int v17_37) :: (.int v18_38) :: (.int v19_39) :: (.int v20_40) :: (.int v21_41) :: (.int v22_42) :: (.ref ml) :: (.ref bg) :: (.ref co) :: (.ref sp) :: (.ref nb0) :: (.ref nb1) :: (.ref nb2) :: (.int (nI nf)) :: (.int (nI bd)) :: (.int (nI mm)) :: (.int v33_43) :: (.ref pl) :: (.ref se) :: (.ref ke) :: (.ref wi) :: (.ref hs) :: (.ref mo) :: (.ref po) :: (.ref nu) :: (.ref pr) :: (.ref sq) :: (.ref xa) :: (.ref sa) :: (.ref n64) :: (.ref m64) :: (.ref ex) :: (.ref wh) :: (.ref sd) :: (.ref tk) :: (.int v52_44) :: (.int v53_45) :: (.int v54_46) :: (.ref hd) :: (.ref ak) :: (.ref ho) :: (.ref ot) :: []) := (hB1.2.2.2 h0 (by rw [hT_h0]; simp)).trans hF_71
      have hF_247 : F_240 bg = .inl (cs 16, 21, .inl f_58) := (hB1.2.2.2 bg (by rw [ht_57]; simp)).trans hF_72
      have hF_248 : F_240 co = .inl (cs 16, 21, .inl f_75) := (hB1.2.2.2 co (by rw [ht_74]; simp)).trans hF_76
      generalize H1 = H at hP hS ⊢
      have hom_249 := OUTM.add (y := (1, j)) hp6 hq_244 rfl rfl
      have hF_250 : F_240 pl = .inr (14, [.ref rl, .int (nI (aa ++ [(1, j)]).length)]) := by rw [len1]; exact hq_242
      refine lv_iinc (v := (nI (j + 1))) (lv' := [(6, .int (nI (j + 1))), (5, .int (nI kd)), (0, .ref h0), (1, .int (nI jf)), (2, .int x2), (3, .int (nI kS)), (4, .int (nI kE))]) hx hb dX15_fieldPlain_96 hl (k := 0) rfl (nI_1 _) (by decide) rfl (fun ls hl => ?_)
      refine lv_goto (tgt := 68) hx hb dX15_fieldPlain_99 (by decide) ?_
      refine W.widen (k := 0) (n := 0) (by omega) (by omega) ?_
      exact ih_69 ((j + 1), (aa ++ [(1, j)]), f2_241) F_240 (⟨by omega, by omega, by rw [hp3]; exact rng_ap hp1, hF_250, hq_243, hom_249⟩) (by show gm 1 jf - (j + 1) < gm 1 jf - j; omega) hO hR _ _ hP hD hS ls (lv_sub hl [0, 1, 2, 3, 4, 5, 6] rfl)
  ·
    refine lv_aload_n hx hb dX15_fieldPlain_11 rfl (lv_at hl 1 rfl) ?_
    refine pg_get (ci := 15) (v := .ref bg) (C := RX15) (T := TX15) (N := 59) hx hb hts it_15 hown hK hP hL_h0 hF_47 rfl 24 (by decide) (hts _ kt_888) (fun _ h9 => h9) rfl dX15_fieldPlain_12 ?_
    refine lv_iload_n hx hb dX15_fieldPlain_15 rfl (lv_at hl 2 rfl) ?_
    obtain ⟨hi_251, ht_252⟩ := hW.f_bg hL_h0 hT_h0
    obtain ⟨f_253, hF_254, hq_255⟩ := hO.pos hi_251 ht_252
    refine pg_iald hx hb hK hP hi_251 0 hF_254 rfl (vp_in_nI (by omega) (by omega)) dX15_fieldPlain_16 ?_
    refine lv_topi (fun x_256 ex_256 => ?_)
    obtain rfl : x_256 = (nI (gm 0 jf)) := ex_256.trans (by rw [show ((nI jf) : Int32) = nI jf from rfl, nI_clamp (by omega)]; exact hq_255 jf (by omega))
    have hgbx_256 := hgB 0 jf
    refine lv_istore (lv' := [(6, .int (nI (gm 0 jf))), (5, .int (nI kd)), (0, .ref h0), (1, .int (nI jf)), (2, .int x2), (3, .int (nI kS)), (4, .int (nI kE))]) hx hb dX15_fieldPlain_17 hl (by decide) rfl (fun ls hl => ?_)
    obtain ⟨hq_257, hq_258⟩ := hW.octs hi_28 ht_29
    refine W.widen (k := 0) (n := 0) (by omega) (by omega) ?_
    have hF_260 : F ml = .inl (cs 17, 3000, .inl gl) := (hR ml (by rw [ht_32]; simp)).symm.trans hFml
    have hF_261 : F h0 = .inr (15, (.ref ta) :: (.int (nI zt)) :: (.int (nI zo)) :: (.int (nI ze)) :: (.ref ou) :: (.ref so) :: (.ref ad) :: (.ref na) :: (.ref va) :: (.ref lc) :: (.ref dm) :: (.int (nI fm)) :: (.int (nI sn)) :: (.ref tg) :: (.int v14_35) :: (.int v15_36) :: (.ref pe) :: (.int v17_37) :: (.int v18_38) :: (.int v19_39) :: (.int v20_40) :: (.int v21_41) :: (.int v22_42) :: (.ref ml) :: (.ref bg) :: (.ref co) :: (.ref sp) :: (.ref nb0) :: (.ref nb1) :: (.ref nb2) :: (.int (nI nf)) :: (.int (nI bd)) :: (.int (nI mm)) :: (.int v33_43) :: (.ref pl) :: (.ref se) :: (.ref ke) :: (.ref wi) :: (.ref hs) :: (.ref mo) :: (.ref po) :: (.ref nu) :: (.ref pr) :: (.ref sq) :: (.ref xa) :: (.ref sa) :: (.ref n64) :: (.ref m64) :: (.ref ex) :: (.ref wh) :: (.ref sd) :: (.ref tk) :: (.int v52_44) :: (.int v53_45) :: (.int v54_46) :: (.ref hd) :: (.ref ak) :: (.ref ho) :: (.ref ot) :: []) := (hR h0 (by rw [hT_h0]; simp)).symm.trans hF_47
    have hF_262 : F bg = .inl (cs 16, 21, .inl f_253) := (hR bg (by rw [ht_252]; simp)).symm.trans hF_254
    refine pl_loopm (σ := Nat × (List (Nat × Nat)) × (Nat → Int32)) A (dC, dI) cs ty gm L [ρ + 10] F 19 9 (fun (j, aa, fq) => [(6, .int (nI j)), (5, .int (nI kd)), (0, .ref h0), (1, .int (nI jf)), (2, .int x2), (3, .int (nI kS)), (4, .int (nI kE))]) (fun (j, aa, fq) => []) (fun (j, aa, fq) FF => gm 0 jf ≤ j ∧ j ≤ kd ∧ aa = ac ++ skL kS kE (gm 0 jf) (j - gm 0 jf) ∧ FF pl = .inr (14, [.ref rl, .int (nI aa.length)]) ∧ FF rl = .inl (cs 17, 6000, .inl fq) ∧ OUTM gl fq aa) (fun (j, aa, fq) => kd - j) ?_ ((gm 0 jf), ac, fo) F (⟨Nat.le_refl _, by omega, by rw [Nat.sub_self]; exact (List.append_nil _).symm, hFl, hFo, hou⟩) hO hR _ _ hP hD hS ls (lv_sub hl [0, 1, 2, 3, 4, 5, 6] rfl)
    rintro ⟨j, aa, fq⟩ F_259 hv_263 hO hR ih_264 H locs hP hD hS ls hl
    have hl : lv_has ls 9 [(6, .int (nI j)), (5, .int (nI kd)), (0, .ref h0), (1, .int (nI jf)), (2, .int x2), (3, .int (nI kS)), (4, .int (nI kE))] := hl
    have hv_263 : gm 0 jf ≤ j ∧ j ≤ kd ∧ aa = ac ++ skL kS kE (gm 0 jf) (j - gm 0 jf) ∧ F_259 pl = .inr (14, [.ref rl, .int (nI aa.length)]) ∧ F_259 rl = .inl (cs 17, 6000, .inl fq) ∧ OUTM gl fq aa := hv_263
    refine W.eq (g2 := F0 m 19 ls []) rfl ?_
    have hF_265 : F_259 ml = .inl (cs 17, 3000, .inl gl) := (hR ml (by rw [ht_32]; simp)).trans hF_260
    have hF_266 : F_259 h0 = .inr (15, (.ref ta) :: (.int (nI zt)) :: (.int (nI zo)) :: (.int (nI ze)) :: (.ref ou) :: (.ref so) :: (.ref ad) :: (.ref na) :: (.ref va) :: (.ref lc) :: (.ref dm) :: (.int (nI fm)) :: (.int (nI sn)) :: (.ref tg) :: (.int v14_35) :: (.int v15_36) :: (.ref pe) :: (.int v17_37) :: (.int v18_38) :: (.int v19_39) :: (.int v20_40) :: (.int v21_41) :: (.int v22_42) :: (.ref ml) :: (.ref bg) :: (.ref co) :: (.ref sp) :: (.ref nb0) :: (.ref nb1) :: (.ref nb2) :: (.int (nI nf)) :: (.int (nI bd)) :: (.int (nI mm)) :: (.int v33_43) :: (.ref pl) :: (.ref se) :: (.ref ke) :: (.ref wi) :: (.ref hs) :: (.ref mo) :: (.ref po) :: (.ref nu) :: (.ref pr) :: (.ref sq) :: (.ref xa) :: (.ref sa) :: (.ref n64) :: (.ref m64) :: (.ref ex) :: (.ref wh) :: (.ref sd) :: (.ref tk) :: (.int v52_44) :: (.int v53_45) :: (.int v54_46) :: (.ref hd) :: (.ref ak) :: (.ref ho) :: (.ref ot) :: []) := (hR h0 (by rw [hT_h0]; simp)).trans hF_261
    have hF_267 : F_259 bg = .inl (cs 16, 21, .inl f_253) := (hR bg (by rw [ht_252]; simp)).trans hF_262
    obtain ⟨hp1, hp2, hp3, hp4, hp5, hp6⟩ := id hv_263
    have hal : aa.length ≤ ac.length + (j - gm 0 jf) := by rw [hp3, List.length_append]; have h9 := skL_len (s := kS) (e := kE) (b := gm 0 jf) (j - gm 0 jf); omega
    refine lv_iload hx hb dX15_fieldPlain_19 (lv_at hl 0 rfl) ?_
    refine lv_iload hx hb dX15_fieldPlain_21 (lv_at hl 1 rfl) ?_
    refine lv_icmp_ge (tgt := 59) hx hb dX15_fieldPlain_23 (by decide) (fun c_268 => ?_) (fun c_268 => ?_)
    ·
      have hi_269 : kd ≤ j := leN (N := kd) c_268
      have hje : j = kd := by have h9 : kd ≤ j := (nI_leI (by omega) (by omega)).mp c_268; omega
      refine W.widen (k := 0) (n := 0) (by omega) (by omega) ?_
      exact W.vret hx hb hr (fun t ht hWm => ⟨⟨(), rfl, trivial, ⟨F_259, fq, QTm.mk ht hP hD hO hR, (by rw [← skL_fpw c_55 hoj.1 hcd hse, ← hje, ← hp3]; exact hp4), hp5, (by rw [← skL_fpw c_55 hoj.1 hcd hse, ← hje, ← hp3]; exact hp6)⟩⟩, hS.F ht⟩) hS.2.2 dX15_fieldPlain_59
    ·
      have hi_270 : j < kd := ltN (N := kd) c_268
      refine lv_iload hx hb dX15_fieldPlain_26 (lv_at hl 0 rfl) ?_
      refine lv_iload_n hx hb dX15_fieldPlain_28 rfl (lv_at hl 5 rfl) ?_
      refine lv_icmp_lt (tgt := 39) hx hb dX15_fieldPlain_29 (by decide) (fun c_271 => ?_) (fun c_271 => ?_)
      ·
        have hi_272 : j < kS := ltN (N := kS) (Int32.not_le.mpr c_271)
        have hkk1 : j < kS := (nI_ltI (by omega) (by omega)).mp c_271
        have hnc : ¬ (kS ≤ j ∧ j < kE) := by omega
        refine lv_aload_n hx hb dX15_fieldPlain_39 rfl (lv_at hl 2 rfl) ?_
        refine pg_get (ci := 15) (v := .ref pl) (C := RX15) (T := TX15) (N := 59) hx hb hts it_15 hown hK hP hL_h0 hF_266 rfl 34 (by decide) (hts _ kt_901) (fun _ h9 => h9) rfl dX15_fieldPlain_40 ?_
        refine lv_aload_n hx hb dX15_fieldPlain_43 rfl (lv_at hl 2 rfl) ?_
        refine pg_get (ci := 15) (v := .ref ml) (C := RX15) (T := TX15) (N := 59) hx hb hts it_15 hown hK hP hL_h0 hF_266 rfl 23 (by decide) (hts _ kt_887) (fun _ h9 => h9) rfl dX15_fieldPlain_44 ?_
        refine lv_iload hx hb dX15_fieldPlain_47 (lv_at hl 0 rfl) ?_
        refine pg_bald hx hb hK hP hi_31 1 hF_265 rfl (vp_in_nI (by omega) (by omega)) dX15_fieldPlain_49 ?_
        refine lv_topi (fun x_273 ex_273 => ?_)
        obtain rfl : x_273 = gl j := ex_273.trans (congrArg gl (show ((nI j) : Int32).toNatClampNeg = j from nI_clamp (by omega)))
        have hFc := pg_free hD hS hA
        refine va_callv (va_runV (As := [.int (gl j)]) (rest := []) ⟨hx, hb, hml, hown, hts⟩ (s_X14_add_c l dC dI cs ty gm L H.size F_259 pl (ρ + 10) rl 6000 aa.length (gl j) fq hW hL_pl hT_pl hp4 hp5 (by first | omega | assumption | exact Or.inl rfl)) ⟨callB_of 1 hts (gi kt_711) rfl rfl rfl (hts _ kt_676) (hts _ kt_712) (by decide +kernel) ⟨Nat.le_of_ble_eq_true rfl, Nat.le_of_ble_eq_true rfl⟩, (hts _ kt_713), (hts _ kt_714)⟩ ⟨fun a U g mk q => ⟨q.1, PTm.calling q.2⟩, pg_recv hK hP hL_pl hp4 (q := (RX14, TX14, 2)) rfl, fun U hU hWm => ⟨rfl, PTm.mk hU hWm hP hK hD hE hO⟩⟩ rfl rfl hl.1 rfl (lv_room (Nat.le_of_ble_eq_true rfl)) dX15_fieldPlain_50 ⟨by show _ + 0 ≤ 0; omega, by show _ + 0 ≤ 0; omega⟩) hS (fun q _ h => hFc q h) hFc (fun u t H1 locs ht hvm hw hB hz1 hk1 hS => ?_)
        obtain ⟨F_275, f2_276, hB1, hq_277, hq_278, hq_279⟩ := hB
        obtain ⟨hP, hD, hO, hR⟩ := QTm.back hB1 ht hFc hR (fun q h => by simp only [List.mem_cons, List.not_mem_nil, or_false] at h ⊢; omega)
        have hF_280 : F_275 ml = .inl (cs 17, 3000, .inl gl) := (hB1.2.2.2 ml (by rw [ht_32]; simp)).trans hF_265
        have hF_281 : F_275 h0 = .inr (15, (.ref ta) :: (.int (nI zt)) :: (.int (nI zo)) :: (.int (nI ze)) :: (.ref ou) :: (.ref so) :: (.ref ad) :: (.ref na) :: (.ref va) :: (.ref lc) :: (.ref dm) :: (.int (nI fm)) :: (.int (nI sn)) :: (.ref tg) :: (.int v14_35) :: (.int v15_36) :: (.ref pe) :: (.int v17_37) :: (.int v18_38) :: (.int v19_39) :: (.int v20_40) :: (.int v21_41) :: (.int v22_42) :: (.ref ml) :: (.ref bg) :: (.ref co) :: (.ref sp) :: (.ref nb0) :: (.ref nb1) :: (.ref nb2) :: (.int (nI nf)) :: (.int (nI bd)) :: (.int (nI mm)) :: (.int v33_43) :: (.ref pl) :: (.ref se) :: (.ref ke) :: (.ref wi) :: (.ref hs) :: (.ref mo) :: (.ref po) :: (.ref nu) :: (.ref pr) :: (.ref sq) :: (.ref xa) :: (.ref sa) :: (.ref n64) :: (.ref m64) :: (.ref ex) :: (.ref wh) :: (.ref sd) :: (.ref tk) :: (.int v52_44) :: (.int v53_45) :: (.int v54_46) :: (.ref hd) :: (.ref ak) :: (.ref ho) :: (.ref ot) :: []) := (hB1.2.2.2 h0 (by rw [hT_h0]; simp)).trans hF_266
        have hF_282 : F_275 bg = .inl (cs 16, 21, .inl f_253) := (hB1.2.2.2 bg (by rw [ht_252]; simp)).trans hF_267
        generalize H1 = H at hP hS ⊢
        have hom_283 := OUTM.add (y := (0, j)) hp6 hq_279 rfl rfl
        have hF_284 : F_275 pl = .inr (14, [.ref rl, .int (nI (aa ++ [(0, j)]).length)]) := by rw [len1]; exact hq_277
        refine lv_iinc (v := (nI (j + 1))) (lv' := [(6, .int (nI (j + 1))), (5, .int (nI kd)), (0, .ref h0), (1, .int (nI jf)), (2, .int x2), (3, .int (nI kS)), (4, .int (nI kE))]) hx hb dX15_fieldPlain_53 hl (k := 0) rfl (nI_1 _) (by decide) rfl (fun ls hl => ?_)
        refine lv_goto (tgt := 19) hx hb dX15_fieldPlain_56 (by decide) ?_
        refine W.widen (k := 0) (n := 0) (by omega) (by omega) ?_
        exact ih_264 ((j + 1), (aa ++ [(0, j)]), f2_276) F_275 (⟨by omega, by omega, by rw [hp3]; exact skl_ap hp1 hnc, hF_284, hq_278, hom_283⟩) (by show kd - (j + 1) < kd - j; omega) hO hR _ _ hP hD hS ls (lv_sub hl [0, 1, 2, 3, 4, 5, 6] rfl)
      ·
        have hi_285 : kS ≤ j := leN (N := kS) (Int32.not_lt.mp c_271)
        have hkk1 : kS ≤ j := Nat.not_lt.mp (fun q => c_271 ((nI_ltI (by omega) (by omega)).mpr q))
        refine lv_iload hx hb dX15_fieldPlain_32 (lv_at hl 0 rfl) ?_
        refine lv_iload hx hb dX15_fieldPlain_34 (lv_at hl 6 rfl) ?_
        refine lv_icmp_lt (tgt := 53) hx hb dX15_fieldPlain_36 (by decide) (fun c_286 => ?_) (fun c_286 => ?_)
        ·
          have hi_287 : j < kE := ltN (N := kE) (Int32.not_le.mpr c_286)
          have hk2 : j < kE := (nI_ltI (by omega) (by omega)).mp c_286
          refine lv_iinc (v := (nI (j + 1))) (lv' := [(6, .int (nI (j + 1))), (5, .int (nI kd)), (0, .ref h0), (1, .int (nI jf)), (2, .int x2), (3, .int (nI kS)), (4, .int (nI kE))]) hx hb dX15_fieldPlain_53 hl (k := 0) rfl (nI_1 _) (by decide) rfl (fun ls hl => ?_)
          refine lv_goto (tgt := 19) hx hb dX15_fieldPlain_56 (by decide) ?_
          refine W.widen (k := 0) (n := 0) (by omega) (by omega) ?_
          exact ih_264 ((j + 1), aa, fq) F_259 (⟨by omega, by omega, by rw [hp3]; exact skl_sk hp1 ⟨hkk1, hk2⟩, hp4, hp5, hp6⟩) (by show kd - (j + 1) < kd - j; omega) hO hR _ _ hP hD hS ls (lv_sub hl [0, 1, 2, 3, 4, 5, 6] rfl)
        ·
          have hi_288 : kE ≤ j := leN (N := kE) (Int32.not_lt.mp c_286)
          have hk2 : kE ≤ j := Nat.not_lt.mp (fun q => c_286 ((nI_ltI (by omega) (by omega)).mpr q))
          have hnc : ¬ (kS ≤ j ∧ j < kE) := by omega
          refine lv_aload_n hx hb dX15_fieldPlain_39 rfl (lv_at hl 2 rfl) ?_
          refine pg_get (ci := 15) (v := .ref pl) (C := RX15) (T := TX15) (N := 59) hx hb hts it_15 hown hK hP hL_h0 hF_266 rfl 34 (by decide) (hts _ kt_901) (fun _ h9 => h9) rfl dX15_fieldPlain_40 ?_
          refine lv_aload_n hx hb dX15_fieldPlain_43 rfl (lv_at hl 2 rfl) ?_
          refine pg_get (ci := 15) (v := .ref ml) (C := RX15) (T := TX15) (N := 59) hx hb hts it_15 hown hK hP hL_h0 hF_266 rfl 23 (by decide) (hts _ kt_887) (fun _ h9 => h9) rfl dX15_fieldPlain_44 ?_
          refine lv_iload hx hb dX15_fieldPlain_47 (lv_at hl 0 rfl) ?_
          refine pg_bald hx hb hK hP hi_31 1 hF_265 rfl (vp_in_nI (by omega) (by omega)) dX15_fieldPlain_49 ?_
          refine lv_topi (fun x_289 ex_289 => ?_)
          obtain rfl : x_289 = gl j := ex_289.trans (congrArg gl (show ((nI j) : Int32).toNatClampNeg = j from nI_clamp (by omega)))
          have hFc := pg_free hD hS hA
          refine va_callv (va_runV (As := [.int (gl j)]) (rest := []) ⟨hx, hb, hml, hown, hts⟩ (s_X14_add_c l dC dI cs ty gm L H.size F_259 pl (ρ + 10) rl 6000 aa.length (gl j) fq hW hL_pl hT_pl hp4 hp5 (by first | omega | assumption | exact Or.inl rfl)) ⟨callB_of 1 hts (gi kt_711) rfl rfl rfl (hts _ kt_676) (hts _ kt_712) (by decide +kernel) ⟨Nat.le_of_ble_eq_true rfl, Nat.le_of_ble_eq_true rfl⟩, (hts _ kt_713), (hts _ kt_714)⟩ ⟨fun a U g mk q => ⟨q.1, PTm.calling q.2⟩, pg_recv hK hP hL_pl hp4 (q := (RX14, TX14, 2)) rfl, fun U hU hWm => ⟨rfl, PTm.mk hU hWm hP hK hD hE hO⟩⟩ rfl rfl hl.1 rfl (lv_room (Nat.le_of_ble_eq_true rfl)) dX15_fieldPlain_50 ⟨by show _ + 0 ≤ 0; omega, by show _ + 0 ≤ 0; omega⟩) hS (fun q _ h => hFc q h) hFc (fun u t H1 locs ht hvm hw hB hz1 hk1 hS => ?_)
          obtain ⟨F_291, f2_292, hB1, hq_293, hq_294, hq_295⟩ := hB
          obtain ⟨hP, hD, hO, hR⟩ := QTm.back hB1 ht hFc hR (fun q h => by simp only [List.mem_cons, List.not_mem_nil, or_false] at h ⊢; omega)
          have hF_296 : F_291 ml = .inl (cs 17, 3000, .inl gl) := (hB1.2.2.2 ml (by rw [ht_32]; simp)).trans hF_265
          have hF_297 : F_291 h0 = .inr (15, (.ref ta) :: (.int (nI zt)) :: (.int (nI zo)) :: (.int (nI ze)) :: (.ref ou) :: (.ref so) :: (.ref ad) :: (.ref na) :: (.ref va) :: (.ref lc) :: (.ref dm) :: (.int (nI fm)) :: (.int (nI sn)) :: (.ref tg) :: (.int v14_35) :: (.int v15_36) :: (.ref pe) :: (.int v17_37) :: (.int v18_38) :: (.int v19_39) :: (.int v20_40) :: (.int v21_41) :: (.int v22_42) :: (.ref ml) :: (.ref bg) :: (.ref co) :: (.ref sp) :: (.ref nb0) :: (.ref nb1) :: (.ref nb2) :: (.int (nI nf)) :: (.int (nI bd)) :: (.int (nI mm)) :: (.int v33_43) :: (.ref pl) :: (.ref se) :: (.ref ke) :: (.ref wi) :: (.ref hs) :: (.ref mo) :: (.ref po) :: (.ref nu) :: (.ref pr) :: (.ref sq) :: (.ref xa) :: (.ref sa) :: (.ref n64) :: (.ref m64) :: (.ref ex) :: (.ref wh) :: (.ref sd) :: (.ref tk) :: (.int v52_44) :: (.int v53_45) :: (.int v54_46) :: (.ref hd) :: (.ref ak) :: (.ref ho) :: (.ref ot) :: []) := (hB1.2.2.2 h0 (by rw [hT_h0]; simp)).trans hF_266
          have hF_298 : F_291 bg = .inl (cs 16, 21, .inl f_253) := (hB1.2.2.2 bg (by rw [ht_252]; simp)).trans hF_267
          generalize H1 = H at hP hS ⊢
          have hom_299 := OUTM.add (y := (0, j)) hp6 hq_295 rfl rfl
          have hF_300 : F_291 pl = .inr (14, [.ref rl, .int (nI (aa ++ [(0, j)]).length)]) := by rw [len1]; exact hq_293
          refine lv_iinc (v := (nI (j + 1))) (lv' := [(6, .int (nI (j + 1))), (5, .int (nI kd)), (0, .ref h0), (1, .int (nI jf)), (2, .int x2), (3, .int (nI kS)), (4, .int (nI kE))]) hx hb dX15_fieldPlain_53 hl (k := 0) rfl (nI_1 _) (by decide) rfl (fun ls hl => ?_)
          refine lv_goto (tgt := 19) hx hb dX15_fieldPlain_56 (by decide) ?_
          refine W.widen (k := 0) (n := 0) (by omega) (by omega) ?_
          exact ih_264 ((j + 1), (aa ++ [(0, j)]), f2_292) F_291 (⟨by omega, by omega, by rw [hp3]; exact skl_ap hp1 hnc, hF_300, hq_294, hom_299⟩) (by show kd - (j + 1) < kd - j; omega) hO hR _ _ hP hD hS ls (lv_sub hl [0, 1, 2, 3, 4, 5, 6] rfl)
set_option maxHeartbeats 4000000 in
set_option maxRecDepth 100000 in
theorem s_X15_isAlikeTo_x (l : Launch) (dC : Nat → ClassId) (dI : Nat → Nat → Nat) (cs : Nat → ClassId) (ty : TyM) (gm : Nat → Nat → Nat) (L : List Nat) (sz : Nat) (F : Nat → va_E) (h0 : Nat) (ρ : Nat) (ta : Nat) (ou : Nat) (so : Nat) (ad : Nat) (na : Nat) (va : Nat) (lc : Nat) (dm : Nat) (tg : Nat) (pe : Nat) (ml : Nat) (bg : Nat) (co : Nat) (sp : Nat) (nb0 : Nat) (nb1 : Nat) (nb2 : Nat) (pl : Nat) (se : Nat) (ke : Nat) (wi : Nat) (hs : Nat) (mo : Nat) (po : Nat) (nu : Nat) (pr : Nat) (sq : Nat) (xa : Nat) (sa : Nat) (n64 : Nat) (m64 : Nat) (ex : Nat) (wh : Nat) (sd : Nat) (tk : Nat) (hd : Nat) (ak : Nat) (ho : Nat) (ot : Nat) (sx : Nat) (s0 : Nat) (s1 : Nat) (s2 : Nat) (nf : Nat) (bd : Nat) (mm : Nat) (zo : Nat) (fm : Nat) (sn : Nat) (hg : Nat) (gc : Nat) (gv : Nat) (ze : Nat) (zt : Nat) (g1 : Nat) (σ : Nat) (n1 : Nat) (jf : Nat) (a : Nat) (tt : Nat) (z : Nat) (gf : Nat → Int32) (gl : Nat → Int32) (hW : WTm ty gm L) (hL_h0 : h0 ∈ L) (hT_h0 : ty h0 = (15, ρ, [ta, ou, so, ad, na, va, lc, dm, tg, pe, ml, bg, co, sp, nb0, nb1, nb2, pl, se, ke, wi, hs, mo, po, nu, pr, sq, xa, sa, n64, m64, ex, wh, sd, tk, hd, ak, ho, ot, sx, s0, s1, s2, nf, bd, mm, zo, fm, sn, hg, gc, gv, ze, zt])) (hL_g1 : g1 ∈ L) (hT_g1 : ty g1 = (17, σ, [n1])) (hFml : F ml = .inl (cs 17, 3000, .inl gl)) (hFg : F g1 = .inl (cs 17, n1, .inl gf)) (hjf : jf < nf) (hat : a ≤ tt) (htz : tt ≤ z) (hzn : z ≤ n1) (hn9 : n1 ≤ 10000) (hFN : FNC (TC gf z) a tt) : Met l yX15_isAlikeTo (.code yX15_isAlikeTo cX15_isAlikeTo 6 (some .boolean) :: tb) ({ frames := 1, cells := 0, slots := 0, locals := 20 }) (va_Pc [.ref h0, .int (nI jf), .ref g1, .int (nI a), .int (nI tt)] (PTm (dC, dI) cs ty gm L F sz)) (va_Qi (fun (r : Int32) (_ : Unit) => ((r = 1 ∧ ANL (TC gl mm) (gm 0 jf) (gm 1 jf) (TC gf z) a tt) ∨ (r = 0 ∧ ¬ ANL (TC gl mm) (gm 0 jf) (gm 1 jf) (TC gf z) a tt))) (fun _ T9 => ∃ F2 : Nat → va_E, QTm (dC, dI) cs ty gm L [] F F2 (va_A (va_pl L F) sz) T9) (va_A (va_pl L F) sz)) 0 0 (va_A (va_pl L F) sz) := by
  refine Met.ofW (cc := cX15_isAlikeTo) (maxL := 6) (ret := (some .boolean)) (by decide) rfl ?_
  intro p e s m args below meth c s₁ B hml hv
  obtain ⟨rfl, hsz, hP, hK, hD0, hE, hO⟩ := hv
  have hx := B.exec
  have hb := B.bytes
  have hr := B.returns
  have hts : ∀ w ∈ tb, w.before _ s = true := fun w h => atoms_spec (ws := .code yX15_isAlikeTo cX15_isAlikeTo 6 (some .boolean) :: tb) B.pre w (List.mem_cons_of_mem _ h)
  have hown : s.vm.findClass RX15 = some m.cls := findClass_of_methodNamed B.named
  have hlocks := B.notSynchronized
  subst hsz
  have hD := hD0.self (sz := s.heap.size)
  generalize hAe : va_A (va_pl L F) s.heap.size = A at hD ⊢
  have hA : ∀ q : Nat, s.heap.size ≤ q → A q := fun q h => by rw [← hAe]; exact Or.inr h
  have hS : va_S A s.heap s.heap [] := va_S.rf
  have hR : FR ty [] F F := FR.refl
  have hl := lv_entry ([.ref h0, .int (nI jf), .ref g1, .int (nI a), .int (nI tt)]) (n := 6) (Nat.le_of_ble_eq_true rfl)
  rw [lg_entry_eq]
  generalize (lg_sl ([.ref h0, .int (nI jf), .ref g1, .int (nI a), .int (nI tt)]) ++ List.replicate (6 - (lg_sl ([.ref h0, .int (nI jf), .ref g1, .int (nI a), .int (nI tt)])).length) Slot.unset).toArray = ls at hl ⊢
  have hl : lv_has ls 6 [(0, .ref h0), (1, .int (nI jf)), (2, .ref g1), (3, .int (nI a)), (4, .int (nI tt))] := hl
  obtain ⟨hq_23, hq_24, hq_25, hq_26, hq_27, hgO, hgA, hgB, hq_28⟩ := hW.sc hL_h0 hT_h0
  have hoj := hgO jf hjf
  obtain ⟨hq_29, hq_30⟩ := hW.octs hL_g1 hT_g1
  refine lv_aload_n hx hb dX15_isAlikeTo_0 rfl (lv_at hl 0 rfl) ?_
  obtain ⟨v14_31, v15_32, v17_33, v18_34, v19_35, v20_36, v21_37, v22_38, v33_39, v52_40, v53_41, v54_42, hF_43, hq_44, hq_45, hq_46, hq_47, hq_48⟩ := hO.mod hL_h0 hT_h0
  refine pg_get (ci := 15) (v := .ref co) (C := RX15) (T := TX15) (N := 59) hx hb hts it_15 hown hK hP hL_h0 hF_43 rfl 25 (by decide) (hts _ kt_889) (fun _ h9 => h9) rfl dX15_isAlikeTo_1 ?_
  refine lv_iload_n hx hb dX15_isAlikeTo_4 rfl (lv_at hl 1 rfl) ?_
  obtain ⟨hi_49, ht_50⟩ := hW.f_co hL_h0 hT_h0
  obtain ⟨f_51, hF_52, hq_53⟩ := hO.pos hi_49 ht_50
  refine pg_iald hx hb hK hP hi_49 0 hF_52 rfl (vp_in_nI (by omega) (by omega)) dX15_isAlikeTo_5 ?_
  refine lv_topi (fun x_54 ex_54 => ?_)
  obtain rfl : x_54 = (nI (gm 1 jf)) := ex_54.trans (by rw [show ((nI jf) : Int32) = nI jf from rfl, nI_clamp (by omega)]; exact hq_53 jf (by omega))
  have hgbx_54 := hgB 1 jf
  refine lv_aload_n hx hb dX15_isAlikeTo_6 rfl (lv_at hl 0 rfl) ?_
  refine pg_get (ci := 15) (v := .ref bg) (C := RX15) (T := TX15) (N := 59) hx hb hts it_15 hown hK hP hL_h0 hF_43 rfl 24 (by decide) (hts _ kt_888) (fun _ h9 => h9) rfl dX15_isAlikeTo_7 ?_
  refine lv_iload_n hx hb dX15_isAlikeTo_10 rfl (lv_at hl 1 rfl) ?_
  obtain ⟨hi_55, ht_56⟩ := hW.f_bg hL_h0 hT_h0
  obtain ⟨f_57, hF_58, hq_59⟩ := hO.pos hi_55 ht_56
  refine pg_iald hx hb hK hP hi_55 0 hF_58 rfl (vp_in_nI (by omega) (by omega)) dX15_isAlikeTo_11 ?_
  refine lv_topi (fun x_60 ex_60 => ?_)
  obtain rfl : x_60 = (nI (gm 0 jf)) := ex_60.trans (by rw [show ((nI jf) : Int32) = nI jf from rfl, nI_clamp (by omega)]; exact hq_59 jf (by omega))
  have hgbx_60 := hgB 0 jf
  refine lv_isub hx hb dX15_isAlikeTo_12 ?_
  refine lv_topi (fun x_61 ex_61 => ?_)
  obtain rfl : x_61 = (nI ((gm 1 jf) - (gm 0 jf))) := ex_61.trans (pk_sub (a := (gm 1 jf)) (b := (gm 0 jf)) (by omega))
  refine lv_iload hx hb dX15_isAlikeTo_13 (lv_at hl 4 rfl) ?_
  refine lv_iload_n hx hb dX15_isAlikeTo_15 rfl (lv_at hl 3 rfl) ?_
  refine lv_isub hx hb dX15_isAlikeTo_16 ?_
  refine lv_topi (fun x_62 ex_62 => ?_)
  obtain rfl : x_62 = (nI (tt - a)) := ex_62.trans (pk_sub (a := tt) (b := a) (by omega))
  refine lv_icmp_eq (tgt := 22) hx hb dX15_isAlikeTo_17 (by decide) (fun c_63 => ?_) (fun c_63 => ?_)
  ·
    have hi_64 : ((gm 1 jf) - (gm 0 jf)) = (tt - a) := (nI_eq (a := ((gm 1 jf) - (gm 0 jf))) (b := (tt - a)) (by omega) (by omega)).mp c_63
    have hle : gm 1 jf - gm 0 jf = tt - a := (nI_eq (by omega) (by omega)).mp c_63
    refine lv_iconst (v := 0) hx hb dX15_isAlikeTo_22 (by decide) ?_
    refine lv_istore (lv' := [(5, .int 0), (0, .ref h0), (1, .int (nI jf)), (2, .ref g1), (3, .int (nI a)), (4, .int (nI tt))]) hx hb dX15_isAlikeTo_23 hl (by decide) rfl (fun ls hl => ?_)
    refine W.widen (k := 0) (n := 0) (by omega) (by omega) ?_
    refine pl_loopm (σ := Nat) A (dC, dI) cs ty gm L [] F 25 6 (fun j => [(5, .int (nI j)), (0, .ref h0), (1, .int (nI jf)), (2, .ref g1), (3, .int (nI a)), (4, .int (nI tt))]) (fun j => []) (fun j _ => j ≤ tt - a ∧ ∀ i, i < j → smc (TC gl mm (gm 0 jf + i)) = smc (TC gf z (a + i))) (fun j => tt - a - j) ?_ 0 F (⟨Nat.zero_le _, fun i hi => absurd hi (Nat.not_lt_zero _)⟩) hO hR _ _ hP hD hS ls (lv_sub hl [0, 1, 2, 3, 4, 5] rfl)
    rintro j F_65 hv_66 hO hR ih_67 H locs hP hD hS ls hl
    have hl : lv_has ls 6 [(5, .int (nI j)), (0, .ref h0), (1, .int (nI jf)), (2, .ref g1), (3, .int (nI a)), (4, .int (nI tt))] := hl
    have hv_66 : j ≤ tt - a ∧ ∀ i, i < j → smc (TC gl mm (gm 0 jf + i)) = smc (TC gf z (a + i)) := hv_66
    refine W.eq (g2 := F0 m 25 ls []) rfl ?_
    obtain rfl : F = F_65 := (funext (fun a => hR a List.not_mem_nil)).symm
    obtain ⟨hv1, hv2⟩ := id hv_66
    refine lv_iload hx hb dX15_isAlikeTo_25 (lv_at hl 0 rfl) ?_
    refine lv_iload hx hb dX15_isAlikeTo_27 (lv_at hl 5 rfl) ?_
    refine lv_iload_n hx hb dX15_isAlikeTo_29 rfl (lv_at hl 4 rfl) ?_
    refine lv_isub hx hb dX15_isAlikeTo_30 ?_
    refine lv_topi (fun x_68 ex_68 => ?_)
    obtain rfl : x_68 = (nI (tt - a)) := ex_68.trans (pk_sub (a := tt) (b := a) (by omega))
    refine lv_icmp_ge (tgt := 71) hx hb dX15_isAlikeTo_31 (by decide) (fun c_69 => ?_) (fun c_69 => ?_)
    ·
      have hi_70 : (tt - a) ≤ j := leN (N := (tt - a)) c_69
      have hjb : (tt - a) ≤ j := (nI_leI (by omega) (by omega)).mp c_69
      refine lv_iconst (v := 1) hx hb dX15_isAlikeTo_71 (by decide) ?_
      refine W.widen (k := 0) (n := 0) (by omega) (by omega) ?_
      exact W.zret (v := 1) (ty := .boolean) hx hb hr (by decide) (fun t ht hWm => ⟨⟨1, (), rfl, (Or.inl ⟨rfl, hle, fun i hi => hv2 i (by omega)⟩), ⟨F, QTm.mk ht hP hD hO hR⟩⟩, hS.F ht⟩) hS.2.2 dX15_isAlikeTo_72
    ·
      have hi_71 : j < (tt - a) := ltN (N := (tt - a)) c_69
      have hjb : j < (tt - a) := Nat.not_le.mp (fun q => c_69 ((nI_leI (by omega) (by omega)).mpr q))
      refine lv_aload_n hx hb dX15_isAlikeTo_34 rfl (lv_at hl 1 rfl) ?_
      refine pg_get (ci := 15) (v := .ref ml) (C := RX15) (T := TX15) (N := 59) hx hb hts it_15 hown hK hP hL_h0 hF_43 rfl 23 (by decide) (hts _ kt_887) (fun _ h9 => h9) rfl dX15_isAlikeTo_35 ?_
      refine lv_aload_n hx hb dX15_isAlikeTo_38 rfl (lv_at hl 1 rfl) ?_
      refine pg_get (ci := 15) (v := .ref bg) (C := RX15) (T := TX15) (N := 59) hx hb hts it_15 hown hK hP hL_h0 hF_43 rfl 24 (by decide) (hts _ kt_888) (fun _ h9 => h9) rfl dX15_isAlikeTo_39 ?_
      refine lv_iload_n hx hb dX15_isAlikeTo_42 rfl (lv_at hl 2 rfl) ?_
      refine pg_iald hx hb hK hP hi_55 0 hF_58 rfl (vp_in_nI (by omega) (by omega)) dX15_isAlikeTo_43 ?_
      refine lv_topi (fun x_72 ex_72 => ?_)
      obtain rfl : x_72 = (nI (gm 0 jf)) := ex_72.trans (by rw [show ((nI jf) : Int32) = nI jf from rfl, nI_clamp (by omega)]; exact hq_59 jf (by omega))
      have hgbx_72 := hgB 0 jf
      refine lv_iload hx hb dX15_isAlikeTo_44 (lv_at hl 0 rfl) ?_
      refine lv_iadd hx hb dX15_isAlikeTo_46 ?_
      refine lv_topi (fun x_73 ex_73 => ?_)
      obtain rfl : x_73 = (nI (gm 0 jf + j)) := ex_73.trans (nI_add _ j)
      obtain ⟨hi_74, ht_75⟩ := hW.f_ml hL_h0 hT_h0
      obtain ⟨hq_76, hq_77⟩ := hW.octs hi_74 ht_75
      refine pg_bald hx hb hK hP hi_74 1 hFml rfl (vp_in_nI (by omega) (by omega)) dX15_isAlikeTo_47 ?_
      refine lv_topi (fun x_78 ex_78 => ?_)
      obtain rfl : x_78 = gl (gm 0 jf + j) := ex_78.trans (congrArg gl (show ((nI (gm 0 jf + j)) : Int32).toNatClampNeg = (gm 0 jf + j) from nI_clamp (by omega)))
      have hFc := pg_free hD hS hA
      refine va_calli (va_runS (As := [.int (gl (gm 0 jf + j))]) (rest := []) ⟨hx, hb, hml, hown, hts⟩ (s_X15_small_e l dC dI cs ty gm L H.size F (gl (gm 0 jf + j)) hW ) ⟨callB_of 1 hts (gi kt_697) rfl rfl rfl (hts _ kt_669) (hts _ kt_698) (by decide +kernel) ⟨Nat.le_of_ble_eq_true rfl, Nat.le_of_ble_eq_true rfl⟩, (hts _ kt_699)⟩ ⟨fun a U g mk q => ⟨q.1, PTm.calling q.2⟩, fun U hU hWm => ⟨rfl, PTm.mk hU hWm hP hK hD hE hO⟩⟩ rfl rfl hl.1 rfl (lv_room (Nat.le_of_ble_eq_true rfl)) dX15_isAlikeTo_48 ⟨by show _ + 0 ≤ 0; omega, by show _ + 0 ≤ 0; omega⟩) hS (fun q _ h => hFc q h) hFc (fun r_79 u t H1 locs ht hvm hw hB hz1 hk1 hS => ?_)
      obtain ⟨F_80, hB1⟩ := hB
      obtain rfl : F = F_80 := (funext (fun a => hB1.2.2.2 a List.not_mem_nil)).symm
      obtain ⟨hP, hD, hO, hR⟩ := QTm.back hB1 ht hFc hR (fun q h => absurd h List.not_mem_nil)
      generalize H1 = H at hP hS ⊢
      have hw : r_79 = smv (gl (gm 0 jf + j)) := hw
      subst hw
      refine lv_aload_n hx hb dX15_isAlikeTo_51 rfl (lv_at hl 3 rfl) ?_
      refine lv_iload_n hx hb dX15_isAlikeTo_52 rfl (lv_at hl 4 rfl) ?_
      refine lv_iload hx hb dX15_isAlikeTo_53 (lv_at hl 0 rfl) ?_
      refine lv_iadd hx hb dX15_isAlikeTo_55 ?_
      refine lv_topi (fun x_81 ex_81 => ?_)
      obtain rfl : x_81 = (nI (a + j)) := ex_81.trans (nI_add a j)
      refine pg_bald hx hb hK hP hL_g1 1 hFg rfl (vp_in_nI (by omega) (by omega)) dX15_isAlikeTo_56 ?_
      refine lv_topi (fun x_82 ex_82 => ?_)
      obtain rfl : x_82 = gf (a + j) := ex_82.trans (congrArg gf (show ((nI (a + j)) : Int32).toNatClampNeg = (a + j) from nI_clamp (by omega)))
      have hFc := pg_free hD hS hA
      refine va_calli (va_runS (As := [.int (gf (a + j))]) (rest := [.int (smv (gl (gm 0 jf + j)))]) ⟨hx, hb, hml, hown, hts⟩ (s_X15_small_e l dC dI cs ty gm L H.size F (gf (a + j)) hW ) ⟨callB_of 1 hts (gi kt_697) rfl rfl rfl (hts _ kt_669) (hts _ kt_698) (by decide +kernel) ⟨Nat.le_of_ble_eq_true rfl, Nat.le_of_ble_eq_true rfl⟩, (hts _ kt_699)⟩ ⟨fun a U g mk q => ⟨q.1, PTm.calling q.2⟩, fun U hU hWm => ⟨rfl, PTm.mk hU hWm hP hK hD hE hO⟩⟩ rfl rfl hl.1 rfl (lv_room (Nat.le_of_ble_eq_true rfl)) dX15_isAlikeTo_57 ⟨by show _ + 0 ≤ 0; omega, by show _ + 0 ≤ 0; omega⟩) hS (fun q _ h => hFc q h) hFc (fun r_83 u t H1 locs ht hvm hw hB hz1 hk1 hS => ?_)
      obtain ⟨F_84, hB1⟩ := hB
      obtain rfl : F = F_84 := (funext (fun a => hB1.2.2.2 a List.not_mem_nil)).symm
      obtain ⟨hP, hD, hO, hR⟩ := QTm.back hB1 ht hFc hR (fun q h => absurd h List.not_mem_nil)
      generalize H1 = H at hP hS ⊢
      have hw : r_83 = smv (gf (a + j)) := hw
      subst hw
      refine lv_icmp_eq (tgt := 65) hx hb dX15_isAlikeTo_60 (by decide) (fun c_85 => ?_) (fun c_85 => ?_)
      ·
        have hce : smc (TC gl mm (gm 0 jf + j)) = smc (TC gf z (a + j)) := by rw [tcn_in (show gm 0 jf + j < mm by omega), tcn_in (show a + j < z by omega)]; exact (sml_eq (by rw [← tcn_in (show a + j < z by omega)]; exact fsc_lt (hFN.2.2 (a + j) (by omega) (by omega)))).mp c_85
        refine lv_iinc (v := (nI (j + 1))) (lv' := [(5, .int (nI (j + 1))), (0, .ref h0), (1, .int (nI jf)), (2, .ref g1), (3, .int (nI a)), (4, .int (nI tt))]) hx hb dX15_isAlikeTo_65 hl (k := 0) rfl (nI_1 _) (by decide) rfl (fun ls hl => ?_)
        refine lv_goto (tgt := 25) hx hb dX15_isAlikeTo_68 (by decide) ?_
        refine W.widen (k := 0) (n := 0) (by omega) (by omega) ?_
        exact ih_67 (j + 1) F (⟨by omega, all_step hv2 hce⟩) (by show tt - a - (j + 1) < tt - a - j; omega) hO hR _ _ hP hD hS ls (lv_sub hl [0, 1, 2, 3, 4, 5] rfl)
      ·
        have hce : ¬ smc (TC gl mm (gm 0 jf + j)) = smc (TC gf z (a + j)) := by rw [tcn_in (show gm 0 jf + j < mm by omega), tcn_in (show a + j < z by omega)]; exact fun q => c_85 ((sml_eq (by rw [← tcn_in (show a + j < z by omega)]; exact fsc_lt (hFN.2.2 (a + j) (by omega) (by omega)))).mpr q)
        refine lv_iconst (v := 0) hx hb dX15_isAlikeTo_63 (by decide) ?_
        refine W.widen (k := 0) (n := 0) (by omega) (by omega) ?_
        exact W.zret (v := 0) (ty := .boolean) hx hb hr (by decide) (fun t ht hWm => ⟨⟨0, (), rfl, (Or.inr ⟨rfl, fun q => hce (q.2 j hjb)⟩), ⟨F, QTm.mk ht hP hD hO hR⟩⟩, hS.F ht⟩) hS.2.2 dX15_isAlikeTo_64
  ·
    have hi_86 : ((gm 1 jf) - (gm 0 jf)) ≠ (tt - a) := fun q => c_63 (by rw [q])
    have hle : ¬ gm 1 jf - gm 0 jf = tt - a := fun q => c_63 (by rw [q])
    refine lv_iconst (v := 0) hx hb dX15_isAlikeTo_20 (by decide) ?_
    refine W.widen (k := 0) (n := 0) (by omega) (by omega) ?_
    exact W.zret (v := 0) (ty := .boolean) hx hb hr (by decide) (fun t ht hWm => ⟨⟨0, (), rfl, (Or.inr ⟨rfl, fun q => hle q.1⟩), ⟨F, QTm.mk ht hP hD hO hR⟩⟩, hS.F ht⟩) hS.2.2 dX15_isAlikeTo_21
def orE (x y : Option (Nat × Nat)) : Option (Nat × Nat) := match x with
  | some r => some r
  | none => y
theorem orE_a {x y z : Option (Nat × Nat)} : orE (orE x y) z = orE x (orE y z) := by
  cases x with
  | none => rfl
  | some r => rfl
theorem orE_n {y : Option (Nat × Nat)} : orE none y = y := rfl
theorem orE_z {x : Option (Nat × Nat)} : orE x none = x := by
  cases x with
  | none => rfl
  | some r => rfl
theorem owL_y {T : Nat → Nat} {a e q s : Nat} {y : Option (Nat × Nat)} (h : a ≤ e) (hq : fdT T 59 a e = q) (hs : fdT T 61 a q = s) (hb : LTB T a s) : orE (owL T a e) y = orE (owL T (q + 1) e) (some (s + 1, q)) := by
  rw [owL_c h hq, hs]
  cases owL T (q + 1) e with
  | some r => rfl
  | none =>
    show orE (@ite _ (LTB T a s) (Classical.propDecidable _) (some (s + 1, q)) none) y = _
    rw [if_pos hb]
    rfl
theorem owL_x {T : Nat → Nat} {a e q s : Nat} {y : Option (Nat × Nat)} (h : a ≤ e) (hq : fdT T 59 a e = q) (hs : fdT T 61 a q = s) (hb : ¬ LTB T a s) : orE (owL T a e) y = orE (owL T (q + 1) e) y := by
  rw [owL_c h hq, hs]
  cases owL T (q + 1) e with
  | some r => rfl
  | none =>
    show orE (@ite _ (LTB T a s) (Classical.propDecidable _) (some (s + 1, q)) none) y = _
    rw [if_neg hb]
theorem owL_z {T : Nat → Nat} {a e : Nat} (h : e ≤ a) : owL T a e = none := by
  rcases Nat.lt_or_ge e a with c | c
  · exact owL_n c
  · obtain rfl : a = e := by omega
    have hq : fdT T 59 a a = a := fd_at (Nat.le_refl _) (Nat.le_refl _) (fun i h1 h2 => absurd h2 (by omega)) (Or.inl rfl)
    have hs : fdT T 61 a a = a := fd_at (Nat.le_refl _) (Nat.le_refl _) (fun i h1 h2 => absurd h2 (by omega)) (Or.inl rfl)
    have hn : ¬ LTB T a a := fun c => by
      obtain ⟨p, q1, q2⟩ := c
      rw [Nat.sub_self] at q1
      exact nomatch q1
    have h9 := owL_x (y := none) (Nat.le_refl a) hq hs hn
    rw [orE_z, orE_z, owL_n (show a < a + 1 by omega)] at h9
    exact h9
def OPP (x : Option (Nat × Nat)) (s e : Nat) : Prop := (x = none ∧ s = 0 ∧ e = 0) ∨ x = some (s, e)
def OWI (T : Nat → Nat) (a k : Nat) (gg : TGG) (i : Nat) : Prop := ∃ n g f, tgw (flT T a k) (flF T a k) f (if i ≤ k then flF T a i else flF T a k + 1) n g = some gg ∧ flF T a k - (if i ≤ k then flF T a i else flF T a k + 1) ≤ f
theorem owi_0 {T : Nat → Nat} {a k : Nat} {gg : TGG} (h : tgT (flT T a k) (flI T a k).length = some gg) : OWI T a k gg 0 := ⟨0, gz, flF T a k, by
  rw [if_pos (Nat.zero_le _)]
  exact h, by omega⟩
theorem owi_s {T : Nat → Nat} {a k i q : Nat} {gg : TGG} (h : OWI T a k gg i) (hi : i ≤ k) (hqe : fdT T 59 (a + i) (a + k) = q) : (∀ p, a + i ≤ p → p < fdT T 61 (a + i) q → (T p = 32 ∨ T p = 9 ∨ T p = 10) ∨ SML (T p)) ∧ OWI T a k gg (q - a + 1) := by
  obtain ⟨n, g, f, ht, hf⟩ := h
  rw [if_pos hi] at ht hf
  have hq1 := fd_ge (T := T) (c := 59) (a := a + i) (b := a + k) (by omega)
  obtain ⟨hq2, hq3⟩ := fd_y (T := T) (c := 59) (a := a + i) (b := a + k) (by omega)
  rw [hqe] at hq1 hq2 hq3
  have hs1 := fd_ge (T := T) (c := 61) (a := a + i) (b := q) (by omega)
  rcases Nat.lt_or_ge (flF T a i) (flF T a k) with c | c
  · obtain ⟨f2, rfl⟩ : ∃ f2, f = f2 + 1 := ⟨f - 1, by omega⟩
    have hqf := fd_flt (T := T) (a := a) (k := k) (c := 59) (i := i) (j := k) (by omega) hi (Nat.le_refl _)
    rw [hqe] at hqf
    rw [tgw_s, if_neg (by omega), hqf] at ht
    by_cases hQ : TGQ (flT T a k) (flF T a i) (flF T a (q - a)) n g
    · rw [if_pos hQ] at ht
      have hsf := fd_flt (T := T) (a := a) (k := k) (c := 61) (i := i) (j := q - a) (by omega) (by omega) (by omega)
      rw [show a + (q - a) = q by omega] at hsf
      refine ⟨fun p h1 h2 => ?_, ?_⟩
      · by_cases hw : T p = 32 ∨ T p = 9 ∨ T p = 10
        · exact Or.inl hw
        · refine Or.inr ?_
          have hw2 : ¬ (T (a + (p - a)) = 32 ∨ T (a + (p - a)) = 9 ∨ T (a + (p - a)) = 10) := by
            rw [show a + (p - a) = p by omega]
            exact hw
          have h3 := flT_k (k := k) hw2 (by omega)
          have h4 := flF_le (T := T) (a := a) (show i ≤ p - a by omega)
          have h5 := flF_k hw2
          have h6 := flF_le (T := T) (a := a) (show p - a + 1 ≤ fdT T 61 (a + i) q - a by omega)
          have h7 := hQ.2.2.2.2.1 (flF T a (p - a)) h4 (by rw [hsf]; omega)
          rw [h3.2, show a + (p - a) = p by omega] at h7
          exact h7
      · have hx : flF T a (q - a) + 1 = (if q - a + 1 ≤ k then flF T a (q - a + 1) else flF T a k + 1) := by
          rcases Nat.lt_or_ge q (a + k) with w | w
          · rw [if_pos (by omega), flF_k]
            rw [show a + (q - a) = q by omega]
            rcases hq2 with w2 | w2
            · omega
            · omega
          · rw [if_neg (by omega), show q - a = k by omega]
        refine ⟨n + 1, _, f2, by rw [← hx]; exact ht, ?_⟩
        rw [← hx]
        have h9 := flF_le (T := T) (a := a) (show i ≤ q - a by omega)
        omega
    · rw [if_neg hQ] at ht
      exact nomatch ht
  · have hw : ∀ p, i ≤ p → p < k → (T (a + p) = 32 ∨ T (a + p) = 9 ∨ T (a + p) = 10) := fun p h1 h2 => Classical.byContradiction (fun c9 => by
      have w1 := flF_k c9
      have w2 := flF_le (T := T) (a := a) h1
      have w3 := flF_le (T := T) (a := a) (show p + 1 ≤ k by omega)
      omega)
    have hqk : q = a + k := by
      rcases hq2 with w | w
      · exact w
      · refine Classical.byContradiction (fun c9 => ?_)
        have h9 := hw (q - a) (by omega) (by omega)
        rw [show a + (q - a) = q by omega, w] at h9
        omega
    refine ⟨fun p h1 h2 => Or.inl ?_, n, g, f, ?_, ?_⟩
    · have h9 := hw (p - a) (by omega) (by omega)
      rw [show a + (p - a) = p by omega] at h9
      exact h9
    · rw [if_neg (by omega), tgw_d (by omega)]
      rw [tgw_d c] at ht
      exact ht
    · rw [if_neg (by omega)]
      omega
def LTM (T : Nat → Nat) (a i : Nat) (w : Int32) : Prop := (flI T a (i - a) = [] ∧ w = 0) ∨ (∃ p, flI T a (i - a) = [p] ∧ SML (T p) ∧ w = nI (T p)) ∨ (2 ≤ (flI T a (i - a)).length ∧ ∃ (x : Int32) (c d : Nat), SML c ∧ SML d ∧ w = 256 * (256 * x + nI c) + nI d)
theorem ltm_0 {T : Nat → Nat} {a : Nat} : LTM T a a 0 := Or.inl ⟨by rw [Nat.sub_self]; rfl, rfl⟩
theorem ltm_w {T : Nat → Nat} {a i : Nat} {w : Int32} (h : LTM T a i w) (ha : a ≤ i) (hw : T i = 32 ∨ T i = 9 ∨ T i = 10) : LTM T a (i + 1) w := by
  have e : flI T a (i + 1 - a) = flI T a (i - a) := by
    rw [show i + 1 - a = i - a + 1 by omega, flI_s, show a + (i - a) = i by omega, if_pos hw, List.append_nil]
  unfold LTM
  rw [e]
  exact h
theorem ltm_k {T : Nat → Nat} {a i : Nat} {w y : Int32} (h : LTM T a i w) (ha : a ≤ i) (hw : ¬ (T i = 32 ∨ T i = 9 ∨ T i = 10)) (hs : SML (T i)) (hy : y = nI (T i)) : LTM T a (i + 1) (256 * w + y) := by
  have e := lbi_a ha hw
  subst hy
  unfold LTM
  rw [e]
  rcases h with ⟨h1, h2⟩ | ⟨p, h1, h2, h3⟩ | ⟨h1, x, c, d, h2, h3, h4⟩
  · rw [h1, h2]
    exact Or.inr (Or.inl ⟨i, rfl, hs, by rw [show (256 : Int32) * 0 = 0 by decide, Int32.zero_add]⟩)
  · rw [h1, h3]
    exact Or.inr (Or.inr ⟨Nat.le_refl _, 0, T p, T i, h2, hs, by rw [show (256 : Int32) * 0 = 0 by decide, Int32.zero_add]⟩)
  · refine Or.inr (Or.inr ⟨by rw [List.length_append]; omega, 256 * x + nI c, d, T i, h3, hs, by rw [h4]⟩)
theorem bm_16 (X : Int) : Int.bmod X 4294967296 % 65536 = X % 65536 := by
  rw [Int.bmod_def]
  split <;> omega
theorem lt_no {x : Int32} {c d : Nat} (hc : SML c) (hd : SML d) : ¬ 256 * (256 * x + nI c) + nI d = 98 := fun q => by
  obtain ⟨c1, c2⟩ := hc
  obtain ⟨d1, d2⟩ := hd
  have h9 := congrArg (fun y : Int32 => y.toInt % 65536) q
  have h8 : (256 * (256 * x + nI c) + nI d).toInt % 65536 = (98 : Int32).toInt % 65536 := h9
  rw [Int32.toInt_add, Int32.toInt_mul, Int32.toInt_add, Int32.toInt_mul, nI_toInt (by omega), nI_toInt (by omega), show (256 : Int32).toInt = 256 by decide, show (98 : Int32).toInt = 98 by decide, show (2 : Nat) ^ 32 = 4294967296 by decide, bm_16] at h8
  have h7 := bm_16 (256 * x.toInt)
  generalize (256 * x.toInt).bmod 4294967296 = A at h8 h7
  have h6 := bm_16 (A + (c : Int))
  generalize (A + (c : Int)).bmod 4294967296 = B at h8 h6
  have h5 := bm_16 (256 * B)
  generalize (256 * B).bmod 4294967296 = C at h8 h5
  omega
theorem ltm_e {T : Nat → Nat} {a i : Nat} {w : Int32} (h : LTM T a i w) : w = 98 ↔ LTB T a i := by
  rcases h with ⟨h1, h2⟩ | ⟨p, h1, h2, h3⟩ | ⟨h1, x, c, d, h2, h3, h4⟩
  · refine ⟨fun q => absurd (h2.symm.trans q) (by decide), fun q => ?_⟩
    obtain ⟨p, q1, -⟩ := q
    exact nomatch h1.symm.trans q1
  · constructor
    · intro q
      refine ⟨p, h1, ?_⟩
      have h9 := h3.symm.trans q
      have h8 := h2.2
      exact (nI_eq (b := 98) (by omega) (by omega)).mp h9
    · rintro ⟨p2, q1, q2⟩
      have h9 := h1.symm.trans q1
      injection h9 with h9
      rw [h3, h9, q2]
      rfl
  · refine ⟨fun q => absurd (h4.symm.trans q) (lt_no h2 h3), fun q => ?_⟩
    obtain ⟨p, q1, -⟩ := q
    rw [q1] at h1
    exact absurd h1 (show ¬ 2 ≤ 1 by decide)
set_option maxHeartbeats 4000000 in
set_option maxRecDepth 100000 in
theorem s_X15_fieldsPlain_x (l : Launch) (dC : Nat → ClassId) (dI : Nat → Nat → Nat) (cs : Nat → ClassId) (ty : TyM) (gm : Nat → Nat → Nat) (L : List Nat) (sz : Nat) (F : Nat → va_E) (h0 : Nat) (ρ : Nat) (ta : Nat) (ou : Nat) (so : Nat) (ad : Nat) (na : Nat) (va : Nat) (lc : Nat) (dm : Nat) (tg : Nat) (pe : Nat) (ml : Nat) (bg : Nat) (co : Nat) (sp : Nat) (nb0 : Nat) (nb1 : Nat) (nb2 : Nat) (pl : Nat) (se : Nat) (ke : Nat) (wi : Nat) (hs : Nat) (mo : Nat) (po : Nat) (nu : Nat) (pr : Nat) (sq : Nat) (xa : Nat) (sa : Nat) (n64 : Nat) (m64 : Nat) (ex : Nat) (wh : Nat) (sd : Nat) (tk : Nat) (hd : Nat) (ak : Nat) (ho : Nat) (ot : Nat) (sx : Nat) (s0 : Nat) (s1 : Nat) (s2 : Nat) (nf : Nat) (bd : Nat) (mm : Nat) (zo : Nat) (fm : Nat) (sn : Nat) (hg : Nat) (gc : Nat) (gv : Nat) (ze : Nat) (zt : Nat) (sb : Nat) (zx : Nat) (nn : Nat) (fb : Nat → Int32) (e0 : Nat → Int32) (e1 : Nat → Int32) (e2 : Nat → Int32) (gq : Nat → Nat → Nat) (rl : Nat) (gl : Nat → Int32) (jf : Nat) (kS : Nat) (kE : Nat) (gd : Nat → Nat) (g9 : TGG) (v0 : Int32) (hW : WTm ty gm L) (hL_h0 : h0 ∈ L) (hT_h0 : ty h0 = (15, ρ, [ta, ou, so, ad, na, va, lc, dm, tg, pe, ml, bg, co, sp, nb0, nb1, nb2, pl, se, ke, wi, hs, mo, po, nu, pr, sq, xa, sa, n64, m64, ex, wh, sd, tk, hd, ak, ho, ot, sx, s0, s1, s2, nf, bd, mm, zo, fm, sn, hg, gc, gv, ze, zt])) (hL_sx : sx ∈ L) (hT_sx : ty sx = (14, ρ + 12, [sb, 3000])) (hL_pl : pl ∈ L) (hT_pl : ty pl = (14, ρ + 10, [rl, 6000])) (hFs : F se = .inr (13, [.ref sx, .ref s0, .ref s1, .ref s2, .int (nI nn)])) (hFx : F sx = .inr (14, [.ref sb, .int (nI zx)])) (hFb : F sb = .inl (cs 17, 3000, .inl fb)) (hFy0 : F s0 = .inl (cs 16, 40, .inl e0)) (hFy1 : F s1 = .inl (cs 16, 40, .inl e1)) (hFy2 : F s2 = .inl (cs 16, 40, .inl e2)) (hxn : zx ≤ 3000) (hcn : nn ≤ 40) (hhl : HLD e0 e1 e2 nn gq) (hTG : TGI zx nn gq) (hFml : F ml = .inl (cs 17, 3000, .inl gl)) (hpos : ∀ j, j < nf → gm 2 j = min mm (gd j + 1) ∧ gm 1 j < gd j ∧ gd j ≤ mm ∧ EOK (clr gl) mm (gd j)) (hjf : jf < nf) (h52 : gF (F h0) 52 = v0) (hHV : HLV (TC fb zx) (tgA gq (tgR (TC fb zx) gq [104] nn)) (tgB gq (tgR (TC fb zx) gq [104] nn))) (hgt9 : tgT (flT (TC gl mm) (gm 1 jf + 1) (gd jf - (gm 1 jf + 1))) (flI (TC gl mm) (gm 1 jf + 1) (gd jf - (gm 1 jf + 1))).length = some g9) (hOW : owL (TC gl mm) (gm 1 jf + 1) (gd jf) = some (kS, kE)) (hke : (gm 1 jf + 1) < kS ∧ kS ≤ kE ∧ kE ≤ gd jf) : Met l yX15_fieldsPlain (.code yX15_fieldsPlain cX15_fieldsPlain 11 none :: tb) ({ frames := 6, cells := 0, slots := 0, locals := 131 }) (va_Pc [.ref h0, .int (nI jf)] (PTEm (dC, dI) cs ty gm L F sz [])) (va_Qv (fun _ : Unit => True) (fun _ T9 => ∃ F2 : Nat → va_E, ∃ f2 : Nat → Int32, QTm (dC, dI) cs ty gm L [ρ + 10, ρ + 26] F F2 (va_A (va_pl L F) sz) T9 ∧ F2 pl = .inr (14, [.ref rl, .int (nI ((adl (clr gl) (TC gl mm) (TC fb zx) (gm 0) (gm 1) gd nf v0 (hsG (TC fb zx) (tgA gq (tgR (TC fb zx) gq [104] nn)) (tgB gq (tgR (TC fb zx) gq [104] nn)))).2 ++ FPW (clr gl) v0 (gm 0 jf) (gm 1 jf) (gd jf) kS kE).length)]) ∧ F2 rl = .inl (cs 17, 6000, .inl f2) ∧ OUTM gl f2 ((adl (clr gl) (TC gl mm) (TC fb zx) (gm 0) (gm 1) gd nf v0 (hsG (TC fb zx) (tgA gq (tgR (TC fb zx) gq [104] nn)) (tgB gq (tgR (TC fb zx) gq [104] nn)))).2 ++ FPW (clr gl) v0 (gm 0 jf) (gm 1 jf) (gd jf) kS kE) ∧ ((adl (clr gl) (TC gl mm) (TC fb zx) (gm 0) (gm 1) gd nf v0 (hsG (TC fb zx) (tgA gq (tgR (TC fb zx) gq [104] nn)) (tgB gq (tgR (TC fb zx) gq [104] nn)))).2 ++ FPW (clr gl) v0 (gm 0 jf) (gm 1 jf) (gd jf) kS kE).length ≤ 5000) (va_A (va_pl L F) sz)) 0 0 (va_A (va_pl L F) sz) := by
  refine Met.ofW (cc := cX15_fieldsPlain) (maxL := 11) (ret := none) (by decide) rfl ?_
  intro p e s m args below meth c s₁ B hml hv
  obtain ⟨rfl, ⟨hsz, hP, hK, hD0, hE, hO⟩, hG, hX⟩ := hv
  have hx := B.exec
  have hb := B.bytes
  have hr := B.returns
  have hts : ∀ w ∈ tb, w.before _ s = true := fun w h => atoms_spec (ws := .code yX15_fieldsPlain cX15_fieldsPlain 11 none :: tb) B.pre w (List.mem_cons_of_mem _ h)
  have hown : s.vm.findClass RX15 = some m.cls := findClass_of_methodNamed B.named
  have hlocks := B.notSynchronized
  subst hsz
  have hD := hD0.self (sz := s.heap.size)
  generalize hAe : va_A (va_pl L F) s.heap.size = A at hD hG hX ⊢
  have hA : ∀ q : Nat, s.heap.size ≤ q → A q := fun q h => by rw [← hAe]; exact Or.inr h
  have hS : va_S A s.heap s.heap [] := va_S.rf
  have hR : FR ty [ρ + 10, ρ + 26] F F := FR.refl
  have hl := lv_entry ([.ref h0, .int (nI jf)]) (n := 11) (Nat.le_of_ble_eq_true rfl)
  rw [lg_entry_eq]
  generalize (lg_sl ([.ref h0, .int (nI jf)]) ++ List.replicate (11 - (lg_sl ([.ref h0, .int (nI jf)])).length) Slot.unset).toArray = ls at hl ⊢
  have hl : lv_has ls 11 [(0, .ref h0), (1, .int (nI jf))] := hl
  obtain ⟨hq_22, hq_23, hq_24, hq_25, hq_26, hgO, hgA, hgB, hq_27⟩ := hW.sc hL_h0 hT_h0
  have hoj := hgO jf hjf
  obtain ⟨hi_28, ht_29⟩ := hW.f_se hL_h0 hT_h0
  obtain ⟨_, hi_30, hi_31, hi_32, _, ht_33, ht_34, ht_35, hq_36, hq_37⟩ := hW.tags hi_28 ht_29
  have ht_34 : ty s1 = (25, ρ + 81, [40, 1280]) := ht_34
  have ht_35 : ty s2 = (25, ρ + 82, [40, 1280]) := ht_35
  obtain ⟨hi_38, ht_39, hq_40⟩ := hW.txt hL_sx hT_sx
  obtain ⟨hi_41, ht_42, hq_43⟩ := hW.txt hL_pl hT_pl
  obtain ⟨hi_44, ht_45⟩ := hW.f_tk hL_h0 hT_h0
  obtain ⟨v14_46, v15_47, v17_48, v18_49, v19_50, v20_51, v21_52, v22_53, v33_54, v52_55, v53_56, v54_57, hF_58, hq_59, hq_60, hq_61, hq_62, hq_63⟩ := hO.mod hL_h0 hT_h0
  obtain rfl : v0 = v52_55 := by have h9 := h52; rw [hF_58] at h9; exact h9.symm
  have hgd : ∀ j, j < nf → gm 0 j < gd j ∧ gd j ≤ mm := fun j hj => by have h9 := hgO j hj; have h8 := hpos j hj; omega
  have hgo : ∀ j, j + 1 < nf → gd j ≤ gm 0 (j + 1) := fun j hj => by have h9 := hgA j hj; have h8 := hpos j (by omega); have h7 := hgO j (by omega); omega
  obtain ⟨qf1, qf2, qf3, qf4⟩ := hpos jf hjf
  refine lv_aload_n hx hb dX15_fieldsPlain_0 rfl (lv_at hl 0 rfl) ?_
  refine pg_get (ci := 15) (v := .ref pl) (C := RX15) (T := TX15) (N := 59) hx hb hts it_15 hown hK hP hL_h0 hF_58 rfl 34 (by decide) (hts _ kt_901) (fun _ h9 => h9) rfl dX15_fieldsPlain_1 ?_
  refine lv_iconst (v := 0) hx hb dX15_fieldsPlain_4 (by decide) ?_
  obtain ⟨z_64, hF_65, hq_66⟩ := hO.txt hL_pl hT_pl
  refine pg_put (ci := 14) (v := .int 0) (ty := .int) (C := RX14) (T := TX14) (N := 2) hx hb hts it_14 tyX14 tyX14_ok nmX14 hown hK hP hD hS hL_pl hF_65 rfl 1 (by decide) (hts _ kt_709) (fun _ h9 => h9) rfl (by decide +kernel) (rfl) (rfl) (Nat.le_of_ble_eq_true rfl) dX15_fieldsPlain_5 (fun H locs hP hD hS => ?_)
  obtain ⟨F_67, he_68, hP, hD, hO, hR⟩ : ∃ G, G = va_up F pl (.inr (14, [.ref rl, .int 0])) ∧ va_P (dC, dI) vwCl (va_pl L G) H ∧ va_D A (va_pl L G) ∧ OKm cs ty gm L G ∧ FR ty [ρ + 10, ρ + 26] F G := ⟨_, rfl, hP, hD, hO.up (shm.txt hT_pl ⟨0, rfl, (by first | omega | assumption | exact Or.inl rfl | exact Or.inr rfl)⟩), hR.up hT_pl (by simp)⟩
  have hF_69 : F_67 pl = .inr (14, [.ref rl, .int 0]) := by rw [he_68]; exact up_self
  have hF_70 : F_67 se = .inr (13, [.ref sx, .ref s0, .ref s1, .ref s2, .int (nI nn)]) := by rw [he_68, up_ne (ne_ty ht_29 hT_pl (by simp))]; exact hFs
  have hF_71 : F_67 sx = .inr (14, [.ref sb, .int (nI zx)]) := by rw [he_68, up_ne (ne_ty2 hT_sx hT_pl (by simp))]; exact hFx
  have hF_72 : F_67 sb = .inl (cs 17, 3000, .inl fb) := by rw [he_68, up_ne (ne_ty ht_39 hT_pl (by simp))]; exact hFb
  have hF_73 : F_67 s0 = .inl (cs 16, 40, .inl e0) := by rw [he_68, up_ne (ne_ty ht_33 hT_pl (by simp))]; exact hFy0
  have hF_74 : F_67 s1 = .inl (cs 16, 40, .inl e1) := by rw [he_68, up_ne (ne_ty ht_34 hT_pl (by simp))]; exact hFy1
  have hF_75 : F_67 s2 = .inl (cs 16, 40, .inl e2) := by rw [he_68, up_ne (ne_ty ht_35 hT_pl (by simp))]; exact hFy2
  obtain ⟨hi_77, ht_78⟩ := hW.f_ml hL_h0 hT_h0
  have hF_76 : F_67 ml = .inl (cs 17, 3000, .inl gl) := by rw [he_68, up_ne (ne_ty ht_78 hT_pl (by simp))]; exact hFml
  have hF_79 : F_67 h0 = .inr (15, (.ref ta) :: (.int (nI zt)) :: (.int (nI zo)) :: (.int (nI ze)) :: (.ref ou) :: (.ref so) :: (.ref ad) :: (.ref na) :: (.ref va) :: (.ref lc) :: (.ref dm) :: (.int (nI fm)) :: (.int (nI sn)) :: (.ref tg) :: (.int v14_46) :: (.int v15_47) :: (.ref pe) :: (.int v17_48) :: (.int v18_49) :: (.int v19_50) :: (.int v20_51) :: (.int v21_52) :: (.int v22_53) :: (.ref ml) :: (.ref bg) :: (.ref co) :: (.ref sp) :: (.ref nb0) :: (.ref nb1) :: (.ref nb2) :: (.int (nI nf)) :: (.int (nI bd)) :: (.int (nI mm)) :: (.int v33_54) :: (.ref pl) :: (.ref se) :: (.ref ke) :: (.ref wi) :: (.ref hs) :: (.ref mo) :: (.ref po) :: (.ref nu) :: (.ref pr) :: (.ref sq) :: (.ref xa) :: (.ref sa) :: (.ref n64) :: (.ref m64) :: (.ref ex) :: (.ref wh) :: (.ref sd) :: (.ref tk) :: (.int v0) :: (.int v53_56) :: (.int v54_57) :: (.ref hd) :: (.ref ak) :: (.ref ho) :: (.ref ot) :: []) := by rw [he_68, up_ne (ne_ty hT_h0 hT_pl (by simp))]; exact hF_58
  refine lv_aload_n hx hb dX15_fieldsPlain_8 rfl (lv_at hl 0 rfl) ?_
  refine pg_get (ci := 15) (v := .ref tk) (C := RX15) (T := TX15) (N := 59) hx hb hts it_15 hown hK hP hL_h0 hF_79 rfl 51 (by decide) (hts _ kt_929) (fun _ h9 => h9) rfl dX15_fieldsPlain_9 ?_
  refine lv_iconst (v := 0) hx hb dX15_fieldsPlain_12 (by decide) ?_
  have hFc := pg_free hD hS hA
  refine va_callv (va_runS (As := [.ref tk, .int 0]) (rest := []) ⟨hx, hb, hml, hown, hts⟩ (m_J7_fill_49daa l dC dI cs ty gm L H.size F_67 tk (ρ + 26) 20 hW hi_44 ht_45 (by first | omega | assumption | exact Or.inl rfl)) ⟨callB_of 2 hts (gi kt_930) rfl rfl rfl (hts _ kt_808) (hts _ kt_931) (by decide +kernel) ⟨Nat.le_of_ble_eq_true rfl, Nat.le_of_ble_eq_true rfl⟩, (hts _ kt_932)⟩ ⟨fun a U g mk q => ⟨q.1, PTm.calling q.2⟩, fun U hU hWm => ⟨rfl, PTm.mk hU hWm hP hK hD hE hO⟩⟩ rfl rfl hl.1 rfl (lv_room (Nat.le_of_ble_eq_true rfl)) dX15_fieldsPlain_13 ⟨by show _ + 0 ≤ 0; omega, by show _ + 0 ≤ 0; omega⟩) hS (fun q _ h => hFc q h) hFc (fun u t H1 locs ht hvm hw hB hz1 hk1 hS => ?_)
  obtain ⟨F_81, f2_82, hB1, hq_83, hq_84⟩ := hB
  obtain ⟨hP, hD, hO, hR⟩ := QTm.back hB1 ht hFc hR (fun q h => by simp only [List.mem_cons, List.not_mem_nil, or_false] at h ⊢; omega)
  have hF_85 : F_81 pl = .inr (14, [.ref rl, .int 0]) := (hB1.2.2.2 pl (by rw [hT_pl]; simp)).trans hF_69
  have hF_86 : F_81 se = .inr (13, [.ref sx, .ref s0, .ref s1, .ref s2, .int (nI nn)]) := (hB1.2.2.2 se (by rw [ht_29]; simp)).trans hF_70
  have hF_87 : F_81 sx = .inr (14, [.ref sb, .int (nI zx)]) := (hB1.2.2.2 sx (by rw [hT_sx]; simp)).trans hF_71
  have hF_88 : F_81 sb = .inl (cs 17, 3000, .inl fb) := (hB1.2.2.2 sb (by rw [ht_39]; simp)).trans hF_72
  have hF_89 : F_81 s0 = .inl (cs 16, 40, .inl e0) := (hB1.2.2.2 s0 (by rw [ht_33]; simp)).trans hF_73
  have hF_90 : F_81 s1 = .inl (cs 16, 40, .inl e1) := (hB1.2.2.2 s1 (by rw [ht_34]; simp)).trans hF_74
  have hF_91 : F_81 s2 = .inl (cs 16, 40, .inl e2) := (hB1.2.2.2 s2 (by rw [ht_35]; simp)).trans hF_75
  have hF_92 : F_81 ml = .inl (cs 17, 3000, .inl gl) := (hB1.2.2.2 ml (by rw [ht_78]; simp)).trans hF_76
  have hF_93 : F_81 h0 = .inr (15, (.ref ta) :: (.int (nI zt)) :: (.int (nI zo)) :: (.int (nI ze)) :: (.ref ou) :: (.ref so) :: (.ref ad) :: (.ref na) :: (.ref va) :: (.ref lc) :: (.ref dm) :: (.int (nI fm)) :: (.int (nI sn)) :: (.ref tg) :: (.int v14_46) :: (.int v15_47) :: (.ref pe) :: (.int v17_48) :: (.int v18_49) :: (.int v19_50) :: (.int v20_51) :: (.int v21_52) :: (.int v22_53) :: (.ref ml) :: (.ref bg) :: (.ref co) :: (.ref sp) :: (.ref nb0) :: (.ref nb1) :: (.ref nb2) :: (.int (nI nf)) :: (.int (nI bd)) :: (.int (nI mm)) :: (.int v33_54) :: (.ref pl) :: (.ref se) :: (.ref ke) :: (.ref wi) :: (.ref hs) :: (.ref mo) :: (.ref po) :: (.ref nu) :: (.ref pr) :: (.ref sq) :: (.ref xa) :: (.ref sa) :: (.ref n64) :: (.ref m64) :: (.ref ex) :: (.ref wh) :: (.ref sd) :: (.ref tk) :: (.int v0) :: (.int v53_56) :: (.int v54_57) :: (.ref hd) :: (.ref ak) :: (.ref ho) :: (.ref ot) :: []) := (hB1.2.2.2 h0 (by rw [hT_h0]; simp)).trans hF_79
  generalize H1 = H at hP hS ⊢
  have htz := hq_84
  refine lv_aload_n hx hb dX15_fieldsPlain_16 rfl (lv_at hl 0 rfl) ?_
  refine pg_get (ci := 15) (v := .ref se) (C := RX15) (T := TX15) (N := 59) hx hb hts it_15 hown hK hP hL_h0 hF_93 rfl 35 (by decide) (hts _ kt_847) (fun _ h9 => h9) rfl dX15_fieldsPlain_17 ?_
  obtain ⟨q_94, v_95, hr_q_94, hX_q_94⟩ := hG.2.2 ("PostGateModel", 486, "h", [104]) (by decide +kernel)
  have hX_q_94 : SXc q_94 v_95 1 (cct [104]) A s s.heap := hX_q_94
  obtain ⟨xo_q_94, xc_q_94, xv_q_94, xt_q_94, xn_q_94⟩ := id hX_q_94
  have hr_q_94 : vk_R "PostGateModel" 486 "h" q_94 s := hr_q_94
  refine va_ldcwS hx hb hown hr_q_94 dX15_fieldsPlain_20 ?_
  obtain ⟨hq_96, hq_97⟩ := hW.octs hi_38 ht_39
  have hFc := pg_free hD hS hA
  refine va_calli (va_runV (As := [.ref q_94]) (rest := []) ⟨hx, hb, hml, hown, hts⟩ (s_X13_find_x l dC dI cs ty gm L H.size F_81 se (ρ + 11) sx 3000 1280 s0 s1 s2 sb zx nn fb e0 e1 e2 gq q_94 v_95 1 (cct [104]) ([104]) hW hi_28 ht_29 hL_sx hT_sx hF_87 hF_88 (hxn) hF_86 hF_89 hF_90 hF_91 (hcn) (hhl) (hTG) (Nat.le_refl _) (⟨rfl, by decide +kernel⟩)) ⟨callB_of 1 hts (gi kt_828) rfl rfl rfl (hts _ kt_829) (hts _ kt_839) (by decide +kernel) ⟨Nat.le_of_ble_eq_true rfl, Nat.le_of_ble_eq_true rfl⟩, (hts _ kt_831), (hts _ kt_832)⟩ ⟨fun a U g mk q => ⟨q.1, PTEm.calling q.2⟩, pg_recv hK hP hi_28 hF_86 (q := (RX13, TX13, 5)) rfl, fun U hU hWm => ⟨rfl, PTEm.mk hU hWm hP hK hD hE hO hG (fun x hx => by rw [List.mem_singleton] at hx; subst hx; exact hX_q_94) hS hFc⟩⟩ rfl rfl hl.1 rfl (lv_room (Nat.le_of_ble_eq_true rfl)) dX15_fieldsPlain_23 ⟨by show _ + 0 ≤ 0; omega, by show _ + 0 ≤ 0; omega⟩) hS (fun q _ h => hFc q h) hFc (fun r_98 u t H1 locs ht hvm hw hB hz1 hk1 hS => ?_)
  obtain ⟨F_99, hB1⟩ := hB
  obtain rfl : F_81 = F_99 := (funext (fun a => hB1.2.2.2 a List.not_mem_nil)).symm
  obtain ⟨hP, hD, hO, hR⟩ := QTm.back hB1 ht hFc hR (fun q h => absurd h List.not_mem_nil)
  generalize H1 = H at hP hS ⊢
  have hw : RWX (TC fb zx) gq nn [104] r_98 := hw
  have hw_100 := hw
  obtain ⟨j, hjz, ej, hj1, hj2⟩ := rwx_y hw_100 (fun q => by have hR9 : (tgR (TC fb zx) gq [104] nn) = none := rwx_R hw_100 hcn q; rw [hR9] at hHV; exact hlv_0 hHV)
  subst ej
  obtain ⟨hg1, hg2, hg3⟩ := hTG j hjz
  have hR9 : (tgR (TC fb zx) gq [104] nn) = some j := tgR_y hj1 hj2 nn hjz
  have hHA : (tgA gq (tgR (TC fb zx) gq [104] nn)) = gq 1 j + 1 := by rw [hR9]; rfl
  have hHB : (tgB gq (tgR (TC fb zx) gq [104] nn)) = gq 2 j := by rw [hR9]; rfl
  rw [hHA, hHB] at hHV
  refine lv_istore_n (lv' := [(2, .int (nI j)), (0, .ref h0), (1, .int (nI jf))]) hx hb dX15_fieldsPlain_26 rfl hl (by decide) rfl (fun ls hl => ?_)
  refine lv_aload_n hx hb dX15_fieldsPlain_27 rfl (lv_at hl 1 rfl) ?_
  refine pg_get (ci := 15) (v := .ref se) (C := RX15) (T := TX15) (N := 59) hx hb hts it_15 hown hK hP hL_h0 hF_93 rfl 35 (by decide) (hts _ kt_847) (fun _ h9 => h9) rfl dX15_fieldsPlain_28 ?_
  refine pg_get (ci := 13) (v := .ref sx) (C := RX13) (T := TX13) (N := 5) hx hb hts it_13 hown hK hP hi_28 hF_86 rfl 0 (by decide) (hts _ kt_842) (fun _ h9 => h9) rfl dX15_fieldsPlain_31 ?_
  refine pg_get (ci := 14) (v := .ref sb) (C := RX14) (T := TX14) (N := 2) hx hb hts it_14 hown hK hP hL_sx hF_87 rfl 0 (by decide) (hts _ kt_710) (fun _ h9 => h9) rfl dX15_fieldsPlain_34 ?_
  refine lv_astore_n (lv' := [(3, .ref sb), (2, .int (nI j)), (0, .ref h0), (1, .int (nI jf))]) hx hb dX15_fieldsPlain_37 rfl hl (by decide) rfl (fun ls hl => ?_)
  refine lv_aload_n hx hb dX15_fieldsPlain_38 rfl (lv_at hl 2 rfl) ?_
  refine pg_get (ci := 15) (v := .ref se) (C := RX15) (T := TX15) (N := 59) hx hb hts it_15 hown hK hP hL_h0 hF_93 rfl 35 (by decide) (hts _ kt_847) (fun _ h9 => h9) rfl dX15_fieldsPlain_39 ?_
  refine pg_get (ci := 13) (v := .ref s1) (C := RX13) (T := TX13) (N := 5) hx hb hts it_13 hown hK hP hi_28 hF_86 rfl 2 (by decide) (hts _ kt_840) (fun _ h9 => h9) rfl dX15_fieldsPlain_42 ?_
  refine lv_iload_n hx hb dX15_fieldsPlain_45 rfl (lv_at hl 1 rfl) ?_
  refine pg_iald hx hb hK hP hi_31 0 hF_90 rfl (vp_in_nI (by omega) (by omega)) dX15_fieldsPlain_46 ?_
  refine lv_topi (fun x_101 ex_101 => ?_)
  obtain rfl : x_101 = (nI (gq 1 j)) := ex_101.trans (((congrArg e1 (nI_clamp (by omega))).trans (hhl j hjz).2.1))
  refine lv_iconst (v := 1) hx hb dX15_fieldsPlain_47 (by decide) ?_
  refine lv_iadd hx hb dX15_fieldsPlain_48 ?_
  refine lv_topi (fun x_102 ex_102 => ?_)
  obtain rfl : x_102 = (nI (gq 1 j + 1)) := ex_102.trans (nI_1 _)
  refine lv_istore (lv' := [(4, .int (nI (gq 1 j + 1))), (3, .ref sb), (2, .int (nI j)), (0, .ref h0), (1, .int (nI jf))]) hx hb dX15_fieldsPlain_49 hl (by decide) rfl (fun ls hl => ?_)
  obtain ⟨hq_103, hq_104⟩ := hW.octs hi_41 ht_42
  obtain ⟨f_105, hF_106, hq_107⟩ := hO.octs hi_41 ht_42
  refine W.widen (k := 0) (n := 0) (by omega) (by omega) ?_
  have hF_109 : F se = .inr (13, [.ref sx, .ref s0, .ref s1, .ref s2, .int (nI nn)]) := (hR se (by rw [ht_29]; simp)).symm.trans hF_86
  have hF_110 : F sx = .inr (14, [.ref sb, .int (nI zx)]) := (hR sx (by rw [hT_sx]; simp)).symm.trans hF_87
  have hF_111 : F sb = .inl (cs 17, 3000, .inl fb) := (hR sb (by rw [ht_39]; simp)).symm.trans hF_88
  have hF_112 : F s0 = .inl (cs 16, 40, .inl e0) := (hR s0 (by rw [ht_33]; simp)).symm.trans hF_89
  have hF_113 : F s1 = .inl (cs 16, 40, .inl e1) := (hR s1 (by rw [ht_34]; simp)).symm.trans hF_90
  have hF_114 : F s2 = .inl (cs 16, 40, .inl e2) := (hR s2 (by rw [ht_35]; simp)).symm.trans hF_91
  have hF_115 : F ml = .inl (cs 17, 3000, .inl gl) := (hR ml (by rw [ht_78]; simp)).symm.trans hF_92
  have hF_116 : F h0 = .inr (15, (.ref ta) :: (.int (nI zt)) :: (.int (nI zo)) :: (.int (nI ze)) :: (.ref ou) :: (.ref so) :: (.ref ad) :: (.ref na) :: (.ref va) :: (.ref lc) :: (.ref dm) :: (.int (nI fm)) :: (.int (nI sn)) :: (.ref tg) :: (.int v14_46) :: (.int v15_47) :: (.ref pe) :: (.int v17_48) :: (.int v18_49) :: (.int v19_50) :: (.int v20_51) :: (.int v21_52) :: (.int v22_53) :: (.ref ml) :: (.ref bg) :: (.ref co) :: (.ref sp) :: (.ref nb0) :: (.ref nb1) :: (.ref nb2) :: (.int (nI nf)) :: (.int (nI bd)) :: (.int (nI mm)) :: (.int v33_54) :: (.ref pl) :: (.ref se) :: (.ref ke) :: (.ref wi) :: (.ref hs) :: (.ref mo) :: (.ref po) :: (.ref nu) :: (.ref pr) :: (.ref sq) :: (.ref xa) :: (.ref sa) :: (.ref n64) :: (.ref m64) :: (.ref ex) :: (.ref wh) :: (.ref sd) :: (.ref tk) :: (.int v0) :: (.int v53_56) :: (.int v54_57) :: (.ref hd) :: (.ref ak) :: (.ref ho) :: (.ref ot) :: []) := (hR h0 (by rw [hT_h0]; simp)).symm.trans hF_93
  refine pl_loopm (σ := Nat × (List (Nat × Nat)) × (Nat → Int32) × (Nat → Int32)) A (dC, dI) cs ty gm L [ρ + 10, ρ + 26] F 51 11 (fun (w2, pre, tf, fq) => [(4, .int (nI w2)), (3, .ref sb), (2, .int (nI j)), (0, .ref h0), (1, .int (nI jf))]) (fun (w2, pre, tf, fq) => []) (fun (w2, pre, tf, fq) FF => (gq 1 j + 1) ≤ w2 ∧ w2 ≤ (gq 2 j) + 1 ∧ pre ++ hsG (TC fb zx) w2 (gq 2 j) = hsG (TC fb zx) (gq 1 j + 1) (gq 2 j) ∧ ALI (gm 0) gd nf (adl (clr gl) (TC gl mm) (TC fb zx) (gm 0) (gm 1) gd nf v0 pre) ∧ (∀ k, k < 20 → tf k = (adl (clr gl) (TC gl mm) (TC fb zx) (gm 0) (gm 1) gd nf v0 pre).1 k) ∧ OUTM gl fq (adl (clr gl) (TC gl mm) (TC fb zx) (gm 0) (gm 1) gd nf v0 pre).2 ∧ FF tk = .inl (cs 18, 20, .inl tf) ∧ FF pl = .inr (14, [.ref rl, .int (nI (adl (clr gl) (TC gl mm) (TC fb zx) (gm 0) (gm 1) gd nf v0 pre).2.length)]) ∧ FF rl = .inl (cs 17, 6000, .inl fq)) (fun (w2, pre, tf, fq) => (gq 2 j) + 1 - w2) ?_ ((gq 1 j + 1), [], f2_82, f_105) F_81 (⟨Nat.le_refl _, by omega, rfl, ali_0, (fun k hk => htz k hk), OUTM.nil, hq_83, hF_85, hF_106⟩) hO hR _ _ hP hD hS ls (lv_sub hl [0, 1, 2, 3, 4] rfl)
  rintro ⟨w2, pre, tf, fq⟩ F_108 hv_117 hO hR ih_118 H locs hP hD hS ls hl
  have hl : lv_has ls 11 [(4, .int (nI w2)), (3, .ref sb), (2, .int (nI j)), (0, .ref h0), (1, .int (nI jf))] := hl
  have hv_117 : (gq 1 j + 1) ≤ w2 ∧ w2 ≤ (gq 2 j) + 1 ∧ pre ++ hsG (TC fb zx) w2 (gq 2 j) = hsG (TC fb zx) (gq 1 j + 1) (gq 2 j) ∧ ALI (gm 0) gd nf (adl (clr gl) (TC gl mm) (TC fb zx) (gm 0) (gm 1) gd nf v0 pre) ∧ (∀ k, k < 20 → tf k = (adl (clr gl) (TC gl mm) (TC fb zx) (gm 0) (gm 1) gd nf v0 pre).1 k) ∧ OUTM gl fq (adl (clr gl) (TC gl mm) (TC fb zx) (gm 0) (gm 1) gd nf v0 pre).2 ∧ F_108 tk = .inl (cs 18, 20, .inl tf) ∧ F_108 pl = .inr (14, [.ref rl, .int (nI (adl (clr gl) (TC gl mm) (TC fb zx) (gm 0) (gm 1) gd nf v0 pre).2.length)]) ∧ F_108 rl = .inl (cs 17, 6000, .inl fq) := hv_117
  refine W.eq (g2 := F0 m 51 ls []) rfl ?_
  have hF_119 : F_108 se = .inr (13, [.ref sx, .ref s0, .ref s1, .ref s2, .int (nI nn)]) := (hR se (by rw [ht_29]; simp)).trans hF_109
  have hF_120 : F_108 sx = .inr (14, [.ref sb, .int (nI zx)]) := (hR sx (by rw [hT_sx]; simp)).trans hF_110
  have hF_121 : F_108 sb = .inl (cs 17, 3000, .inl fb) := (hR sb (by rw [ht_39]; simp)).trans hF_111
  have hF_122 : F_108 s0 = .inl (cs 16, 40, .inl e0) := (hR s0 (by rw [ht_33]; simp)).trans hF_112
  have hF_123 : F_108 s1 = .inl (cs 16, 40, .inl e1) := (hR s1 (by rw [ht_34]; simp)).trans hF_113
  have hF_124 : F_108 s2 = .inl (cs 16, 40, .inl e2) := (hR s2 (by rw [ht_35]; simp)).trans hF_114
  have hF_125 : F_108 ml = .inl (cs 17, 3000, .inl gl) := (hR ml (by rw [ht_78]; simp)).trans hF_115
  have hF_126 : F_108 h0 = .inr (15, (.ref ta) :: (.int (nI zt)) :: (.int (nI zo)) :: (.int (nI ze)) :: (.ref ou) :: (.ref so) :: (.ref ad) :: (.ref na) :: (.ref va) :: (.ref lc) :: (.ref dm) :: (.int (nI fm)) :: (.int (nI sn)) :: (.ref tg) :: (.int v14_46) :: (.int v15_47) :: (.ref pe) :: (.int v17_48) :: (.int v18_49) :: (.int v19_50) :: (.int v20_51) :: (.int v21_52) :: (.int v22_53) :: (.ref ml) :: (.ref bg) :: (.ref co) :: (.ref sp) :: (.ref nb0) :: (.ref nb1) :: (.ref nb2) :: (.int (nI nf)) :: (.int (nI bd)) :: (.int (nI mm)) :: (.int v33_54) :: (.ref pl) :: (.ref se) :: (.ref ke) :: (.ref wi) :: (.ref hs) :: (.ref mo) :: (.ref po) :: (.ref nu) :: (.ref pr) :: (.ref sq) :: (.ref xa) :: (.ref sa) :: (.ref n64) :: (.ref m64) :: (.ref ex) :: (.ref wh) :: (.ref sd) :: (.ref tk) :: (.int v0) :: (.int v53_56) :: (.int v54_57) :: (.ref hd) :: (.ref ak) :: (.ref ho) :: (.ref ot) :: []) := (hR h0 (by rw [hT_h0]; simp)).trans hF_116
  obtain ⟨hv1, hv2, hv3, hv4, hv5, hv6, hA1, hA2, hA3⟩ := id hv_117
  have hln0 : (adl (clr gl) (TC gl mm) (TC fb zx) (gm 0) (gm 1) gd nf v0 pre).2.length ≤ mm + nf := Nat.le_trans hv4 (tsm_le (zm := mm) hgd hgo nf (Nat.le_refl _)).1
  refine lv_iload hx hb dX15_fieldsPlain_51 (lv_at hl 0 rfl) ?_
  refine lv_aload_n hx hb dX15_fieldsPlain_53 rfl (lv_at hl 3 rfl) ?_
  refine pg_get (ci := 15) (v := .ref se) (C := RX15) (T := TX15) (N := 59) hx hb hts it_15 hown hK hP hL_h0 hF_126 rfl 35 (by decide) (hts _ kt_847) (fun _ h9 => h9) rfl dX15_fieldsPlain_54 ?_
  refine pg_get (ci := 13) (v := .ref s2) (C := RX13) (T := TX13) (N := 5) hx hb hts it_13 hown hK hP hi_28 hF_119 rfl 3 (by decide) (hts _ kt_841) (fun _ h9 => h9) rfl dX15_fieldsPlain_57 ?_
  refine lv_iload_n hx hb dX15_fieldsPlain_60 rfl (lv_at hl 2 rfl) ?_
  refine pg_iald hx hb hK hP hi_32 0 hF_124 rfl (vp_in_nI (by omega) (by omega)) dX15_fieldsPlain_61 ?_
  refine lv_topi (fun x_127 ex_127 => ?_)
  obtain rfl : x_127 = (nI (gq 2 j)) := ex_127.trans (((congrArg e2 (nI_clamp (by omega))).trans (hhl j hjz).2.2))
  refine lv_icmp_gt (tgt := 184) hx hb dX15_fieldsPlain_62 (by decide) (fun c_128 => ?_) (fun c_128 => ?_)
  ·
    have hi_129 : (gq 2 j) < w2 := (nI_ltI (a := (gq 2 j)) (b := w2) (by omega) (by omega)).mp c_128
    have hwe : (gq 2 j) < w2 := (nI_ltI (by omega) (by omega)).mp c_128
    have hpe : pre = hsG (TC fb zx) (gq 1 j + 1) (gq 2 j) := by have h9 := hv3; rw [hsG_n hwe, List.append_nil] at h9; exact h9
    have hF_130 : F_108 pl = .inr (14, [.ref rl, .int (nI (adl (clr gl) (TC gl mm) (TC fb zx) (gm 0) (gm 1) gd nf v0 (hsG (TC fb zx) (gq 1 j + 1) (gq 2 j))).2.length)]) := by rw [← hpe]; exact hA2
    have hou4 : OUTM gl fq (adl (clr gl) (TC gl mm) (TC fb zx) (gm 0) (gm 1) gd nf v0 (hsG (TC fb zx) (gq 1 j + 1) (gq 2 j))).2 := by rw [← hpe]; exact hv6
    have hln4 : (adl (clr gl) (TC gl mm) (TC fb zx) (gm 0) (gm 1) gd nf v0 (hsG (TC fb zx) (gq 1 j + 1) (gq 2 j))).2.length ≤ mm + nf := by rw [← hpe]; exact hln0
    refine lv_aload_n hx hb dX15_fieldsPlain_184 rfl (lv_at hl 3 rfl) ?_
    refine pg_get (ci := 15) (v := .ref co) (C := RX15) (T := TX15) (N := 59) hx hb hts it_15 hown hK hP hL_h0 hF_126 rfl 25 (by decide) (hts _ kt_889) (fun _ h9 => h9) rfl dX15_fieldsPlain_185 ?_
    refine lv_iload_n hx hb dX15_fieldsPlain_188 rfl (lv_at hl 4 rfl) ?_
    obtain ⟨hi_131, ht_132⟩ := hW.f_co hL_h0 hT_h0
    obtain ⟨f_133, hF_134, hq_135⟩ := hO.pos hi_131 ht_132
    refine pg_iald hx hb hK hP hi_131 0 hF_134 rfl (vp_in_nI (by omega) (by omega)) dX15_fieldsPlain_189 ?_
    refine lv_topi (fun x_136 ex_136 => ?_)
    obtain rfl : x_136 = (nI (gm 1 jf)) := ex_136.trans (by rw [show ((nI jf) : Int32) = nI jf from rfl, nI_clamp (by omega)]; exact hq_135 jf (by omega))
    have hgbx_136 := hgB 1 jf
    refine lv_iconst (v := 1) hx hb dX15_fieldsPlain_190 (by decide) ?_
    refine lv_iadd hx hb dX15_fieldsPlain_191 ?_
    refine lv_topi (fun x_137 ex_137 => ?_)
    obtain rfl : x_137 = (nI ((gm 1 jf) + 1)) := ex_137.trans (nI_add (gm 1 jf) 1)
    refine lv_istore (lv' := [(4, .int (nI ((gm 1 jf) + 1))), (3, .ref sb), (2, .int (nI j)), (0, .ref h0), (1, .int (nI jf))]) hx hb dX15_fieldsPlain_192 hl (by decide) rfl (fun ls hl => ?_)
    refine lv_iconst (v := 0) hx hb dX15_fieldsPlain_194 (by decide) ?_
    refine lv_istore (lv' := [(5, .int 0), (4, .int (nI ((gm 1 jf) + 1))), (3, .ref sb), (2, .int (nI j)), (0, .ref h0), (1, .int (nI jf))]) hx hb dX15_fieldsPlain_195 hl (by decide) rfl (fun ls hl => ?_)
    refine lv_iconst (v := 0) hx hb dX15_fieldsPlain_197 (by decide) ?_
    refine lv_istore (lv' := [(6, .int 0), (5, .int 0), (4, .int (nI ((gm 1 jf) + 1))), (3, .ref sb), (2, .int (nI j)), (0, .ref h0), (1, .int (nI jf))]) hx hb dX15_fieldsPlain_198 hl (by decide) rfl (fun ls hl => ?_)
    refine lv_aload_n hx hb dX15_fieldsPlain_200 rfl (lv_at hl 5 rfl) ?_
    refine lv_iload_n hx hb dX15_fieldsPlain_201 rfl (lv_at hl 6 rfl) ?_
    obtain ⟨hq_138, hq_139⟩ := hW.octs hi_77 ht_78
    have hFc := pg_free hD hS hA
    refine va_calli (va_runV (As := [.int (nI jf)]) (rest := []) ⟨hx, hb, hml, hown, hts⟩ (s_X15_valueEnd_e l dC dI cs ty gm L H.size F_108 h0 ρ ta ou so ad na va lc dm tg pe ml bg co sp nb0 nb1 nb2 pl se ke wi hs mo po nu pr sq xa sa n64 m64 ex wh sd tk hd ak ho ot sx s0 s1 s2 nf bd mm zo fm sn hg gc gv ze zt jf (gd jf) gl hW hL_h0 hT_h0 hF_125 (hjf) (qf1) (qf2) (qf3) (qf4)) ⟨callB_of 1 hts (gi kt_897) rfl rfl rfl (hts _ kt_669) (hts _ kt_898) (by decide +kernel) ⟨Nat.le_of_ble_eq_true rfl, Nat.le_of_ble_eq_true rfl⟩, (hts _ kt_899), (hts _ kt_900)⟩ ⟨fun a U g mk q => ⟨q.1, PTm.calling q.2⟩, pg_recv hK hP hL_h0 hF_126 (q := (RX15, TX15, 59)) rfl, fun U hU hWm => ⟨rfl, PTm.mk hU hWm hP hK hD hE hO⟩⟩ rfl rfl hl.1 rfl (lv_room (Nat.le_of_ble_eq_true rfl)) dX15_fieldsPlain_202 ⟨by show _ + 0 ≤ 0; omega, by show _ + 0 ≤ 0; omega⟩) hS (fun q _ h => hFc q h) hFc (fun r_140 u t H1 locs ht hvm hw hB hz1 hk1 hS => ?_)
    obtain ⟨F_141, hB1⟩ := hB
    obtain rfl : F_108 = F_141 := (funext (fun a => hB1.2.2.2 a List.not_mem_nil)).symm
    obtain ⟨hP, hD, hO, hR⟩ := QTm.back hB1 ht hFc hR (fun q h => absurd h List.not_mem_nil)
    generalize H1 = H at hP hS ⊢
    have hw : r_140 = nI (gd jf) := hw
    subst hw
    refine lv_istore (lv' := [(7, .int (nI (gd jf))), (6, .int 0), (5, .int 0), (4, .int (nI ((gm 1 jf) + 1))), (3, .ref sb), (2, .int (nI j)), (0, .ref h0), (1, .int (nI jf))]) hx hb dX15_fieldsPlain_205 hl (by decide) rfl (fun ls hl => ?_)
    refine W.widen (k := 0) (n := 0) (by omega) (by omega) ?_
    have hF_143 : F se = .inr (13, [.ref sx, .ref s0, .ref s1, .ref s2, .int (nI nn)]) := (hR se (by rw [ht_29]; simp)).symm.trans hF_119
    have hF_144 : F sx = .inr (14, [.ref sb, .int (nI zx)]) := (hR sx (by rw [hT_sx]; simp)).symm.trans hF_120
    have hF_145 : F sb = .inl (cs 17, 3000, .inl fb) := (hR sb (by rw [ht_39]; simp)).symm.trans hF_121
    have hF_146 : F s0 = .inl (cs 16, 40, .inl e0) := (hR s0 (by rw [ht_33]; simp)).symm.trans hF_122
    have hF_147 : F s1 = .inl (cs 16, 40, .inl e1) := (hR s1 (by rw [ht_34]; simp)).symm.trans hF_123
    have hF_148 : F s2 = .inl (cs 16, 40, .inl e2) := (hR s2 (by rw [ht_35]; simp)).symm.trans hF_124
    have hF_149 : F ml = .inl (cs 17, 3000, .inl gl) := (hR ml (by rw [ht_78]; simp)).symm.trans hF_125
    have hF_150 : F h0 = .inr (15, (.ref ta) :: (.int (nI zt)) :: (.int (nI zo)) :: (.int (nI ze)) :: (.ref ou) :: (.ref so) :: (.ref ad) :: (.ref na) :: (.ref va) :: (.ref lc) :: (.ref dm) :: (.int (nI fm)) :: (.int (nI sn)) :: (.ref tg) :: (.int v14_46) :: (.int v15_47) :: (.ref pe) :: (.int v17_48) :: (.int v18_49) :: (.int v19_50) :: (.int v20_51) :: (.int v21_52) :: (.int v22_53) :: (.ref ml) :: (.ref bg) :: (.ref co) :: (.ref sp) :: (.ref nb0) :: (.ref nb1) :: (.ref nb2) :: (.int (nI nf)) :: (.int (nI bd)) :: (.int (nI mm)) :: (.int v33_54) :: (.ref pl) :: (.ref se) :: (.ref ke) :: (.ref wi) :: (.ref hs) :: (.ref mo) :: (.ref po) :: (.ref nu) :: (.ref pr) :: (.ref sq) :: (.ref xa) :: (.ref sa) :: (.ref n64) :: (.ref m64) :: (.ref ex) :: (.ref wh) :: (.ref sd) :: (.ref tk) :: (.int v0) :: (.int v53_56) :: (.int v54_57) :: (.ref hd) :: (.ref ak) :: (.ref ho) :: (.ref ot) :: []) := (hR h0 (by rw [hT_h0]; simp)).symm.trans hF_126
    have hF_151 : F co = .inl (cs 16, 21, .inl f_133) := (hR co (by rw [ht_132]; simp)).symm.trans hF_134
    refine pl_loopm (σ := Nat × Nat × Nat × (Option (Nat × Nat))) A (dC, dI) cs ty gm L [ρ + 10, ρ + 26] F 207 11 (fun (j2, w5, w6, acc) => [(7, .int (nI (gd jf))), (6, .int (nI w6)), (5, .int (nI w5)), (4, .int (nI j2)), (0, .ref h0), (1, .int (nI jf))]) (fun (j2, w5, w6, acc) => []) (fun (j2, w5, w6, acc) FF => (gm 1 jf + 1) ≤ j2 ∧ j2 ≤ gd jf + 1 ∧ OWI (TC gl mm) (gm 1 jf + 1) (gd jf - (gm 1 jf + 1)) g9 (j2 - (gm 1 jf + 1)) ∧ owL (TC gl mm) (gm 1 jf + 1) (gd jf) = orE (owL (TC gl mm) j2 (gd jf)) acc ∧ OPP acc w5 w6 ∧ FF pl = .inr (14, [.ref rl, .int (nI (adl (clr gl) (TC gl mm) (TC fb zx) (gm 0) (gm 1) gd nf v0 (hsG (TC fb zx) (gq 1 j + 1) (gq 2 j))).2.length)]) ∧ FF rl = .inl (cs 17, 6000, .inl fq)) (fun (j2, w5, w6, acc) => gd jf + 1 - j2) ?_ (((gm 1 jf) + 1), 0, 0, none) F_108 (⟨Nat.le_refl _, by omega, (by rw [Nat.sub_self]; exact owi_0 hgt9), (by rw [orE_z]), Or.inl ⟨rfl, rfl, rfl⟩, hF_130, hA3⟩) hO hR _ _ hP hD hS ls (lv_sub hl [0, 1, 2, 3, 6, 7] rfl)
    rintro ⟨j2, w5, w6, acc⟩ F_142 hv_152 hO hR ih_153 H locs hP hD hS ls hl
    have hl : lv_has ls 11 [(7, .int (nI (gd jf))), (6, .int (nI w6)), (5, .int (nI w5)), (4, .int (nI j2)), (0, .ref h0), (1, .int (nI jf))] := hl
    have hv_152 : (gm 1 jf + 1) ≤ j2 ∧ j2 ≤ gd jf + 1 ∧ OWI (TC gl mm) (gm 1 jf + 1) (gd jf - (gm 1 jf + 1)) g9 (j2 - (gm 1 jf + 1)) ∧ owL (TC gl mm) (gm 1 jf + 1) (gd jf) = orE (owL (TC gl mm) j2 (gd jf)) acc ∧ OPP acc w5 w6 ∧ F_142 pl = .inr (14, [.ref rl, .int (nI (adl (clr gl) (TC gl mm) (TC fb zx) (gm 0) (gm 1) gd nf v0 (hsG (TC fb zx) (gq 1 j + 1) (gq 2 j))).2.length)]) ∧ F_142 rl = .inl (cs 17, 6000, .inl fq) := hv_152
    refine W.eq (g2 := F0 m 207 ls []) rfl ?_
    have hF_154 : F_142 se = .inr (13, [.ref sx, .ref s0, .ref s1, .ref s2, .int (nI nn)]) := (hR se (by rw [ht_29]; simp)).trans hF_143
    have hF_155 : F_142 sx = .inr (14, [.ref sb, .int (nI zx)]) := (hR sx (by rw [hT_sx]; simp)).trans hF_144
    have hF_156 : F_142 sb = .inl (cs 17, 3000, .inl fb) := (hR sb (by rw [ht_39]; simp)).trans hF_145
    have hF_157 : F_142 s0 = .inl (cs 16, 40, .inl e0) := (hR s0 (by rw [ht_33]; simp)).trans hF_146
    have hF_158 : F_142 s1 = .inl (cs 16, 40, .inl e1) := (hR s1 (by rw [ht_34]; simp)).trans hF_147
    have hF_159 : F_142 s2 = .inl (cs 16, 40, .inl e2) := (hR s2 (by rw [ht_35]; simp)).trans hF_148
    have hF_160 : F_142 ml = .inl (cs 17, 3000, .inl gl) := (hR ml (by rw [ht_78]; simp)).trans hF_149
    have hF_161 : F_142 h0 = .inr (15, (.ref ta) :: (.int (nI zt)) :: (.int (nI zo)) :: (.int (nI ze)) :: (.ref ou) :: (.ref so) :: (.ref ad) :: (.ref na) :: (.ref va) :: (.ref lc) :: (.ref dm) :: (.int (nI fm)) :: (.int (nI sn)) :: (.ref tg) :: (.int v14_46) :: (.int v15_47) :: (.ref pe) :: (.int v17_48) :: (.int v18_49) :: (.int v19_50) :: (.int v20_51) :: (.int v21_52) :: (.int v22_53) :: (.ref ml) :: (.ref bg) :: (.ref co) :: (.ref sp) :: (.ref nb0) :: (.ref nb1) :: (.ref nb2) :: (.int (nI nf)) :: (.int (nI bd)) :: (.int (nI mm)) :: (.int v33_54) :: (.ref pl) :: (.ref se) :: (.ref ke) :: (.ref wi) :: (.ref hs) :: (.ref mo) :: (.ref po) :: (.ref nu) :: (.ref pr) :: (.ref sq) :: (.ref xa) :: (.ref sa) :: (.ref n64) :: (.ref m64) :: (.ref ex) :: (.ref wh) :: (.ref sd) :: (.ref tk) :: (.int v0) :: (.int v53_56) :: (.int v54_57) :: (.ref hd) :: (.ref ak) :: (.ref ho) :: (.ref ot) :: []) := (hR h0 (by rw [hT_h0]; simp)).trans hF_150
    have hF_162 : F_142 co = .inl (cs 16, 21, .inl f_133) := (hR co (by rw [ht_132]; simp)).trans hF_151
    obtain ⟨ho1, ho2, ho3, ho4, ho5, hE1_, hE2_⟩ := id hv_152
    refine lv_iload hx hb dX15_fieldsPlain_207 (lv_at hl 3 rfl) ?_
    refine lv_iload hx hb dX15_fieldsPlain_209 (lv_at hl 0 rfl) ?_
    refine lv_icmp_ge (tgt := 342) hx hb dX15_fieldsPlain_211 (by decide) (fun c_163 => ?_) (fun c_163 => ?_)
    ·
      have hi_164 : (gd jf) ≤ j2 := leN (N := (gd jf)) c_163
      have hje : gd jf ≤ j2 := (nI_leI (by omega) (by omega)).mp c_163
      have hacc : acc = some (kS, kE) := by have h9 := ho4.symm.trans hOW; rw [owL_z hje, orE_n] at h9; exact h9
      obtain ⟨hw5, hw6⟩ : kS = w5 ∧ kE = w6 := by rcases ho5 with q | q; exact nomatch q.1.symm.trans hacc; have h9 := Option.some.inj (hacc.symm.trans q); exact ⟨congrArg Prod.fst h9, congrArg Prod.snd h9⟩
      subst hw5
      subst hw6
      refine lv_aload_n hx hb dX15_fieldsPlain_342 rfl (lv_at hl 4 rfl) ?_
      refine lv_iload_n hx hb dX15_fieldsPlain_343 rfl (lv_at hl 5 rfl) ?_
      refine lv_aload_n hx hb dX15_fieldsPlain_344 rfl (lv_at hl 4 rfl) ?_
      refine pg_get (ci := 15) (v := .int v0) (C := RX15) (T := TX15) (N := 59) hx hb hts it_15 hown hK hP hL_h0 hF_161 rfl 52 (by decide) (hts _ kt_857) (fun _ h9 => h9) rfl dX15_fieldsPlain_345 ?_
      refine lv_iload hx hb dX15_fieldsPlain_348 (lv_at hl 2 rfl) ?_
      refine lv_iload hx hb dX15_fieldsPlain_350 (lv_at hl 1 rfl) ?_
      have hFc := pg_free hD hS hA
      refine va_callv (va_runV (As := [.int (nI jf), .int v0, .int (nI kS), .int (nI kE)]) (rest := []) ⟨hx, hb, hml, hown, hts⟩ (s_X15_fieldPlain_s l dC dI cs ty gm L H.size F_142 h0 ρ ta ou so ad na va lc dm tg pe ml bg co sp nb0 nb1 nb2 pl se ke wi hs mo po nu pr sq xa sa n64 m64 ex wh sd tk hd ak ho ot sx s0 s1 s2 nf bd mm zo fm sn hg gc gv ze zt rl jf (gd jf) kS kE ((adl (clr gl) (TC gl mm) (TC fb zx) (gm 0) (gm 1) gd nf v0 (hsG (TC fb zx) (gq 1 j + 1) (gq 2 j))).2) fq gl v0 hW hL_h0 hT_h0 hL_pl hT_pl hF_160 (hjf) (qf1) (qf2) (qf3) (qf4) hE1_ hE2_ (hou4) (Or.inr ⟨by omega, hke.2.1, hke.2.2⟩) (by omega) (by omega)) ⟨callB_of 4 hts (gi kt_933) rfl rfl rfl (hts _ kt_669) (hts _ kt_934) (by decide +kernel) ⟨Nat.le_of_ble_eq_true rfl, Nat.le_of_ble_eq_true rfl⟩, (hts _ kt_935), (hts _ kt_936)⟩ ⟨fun a U g mk q => ⟨q.1, PTm.calling q.2⟩, pg_recv hK hP hL_h0 hF_161 (q := (RX15, TX15, 59)) rfl, fun U hU hWm => ⟨rfl, PTm.mk hU hWm hP hK hD hE hO⟩⟩ rfl rfl hl.1 rfl (lv_room (Nat.le_of_ble_eq_true rfl)) dX15_fieldsPlain_352 ⟨by show _ + 0 ≤ 0; omega, by show _ + 0 ≤ 0; omega⟩) hS (fun q _ h => hFc q h) hFc (fun u t H1 locs ht hvm hw hB hz1 hk1 hS => ?_)
      obtain ⟨F_166, f2_167, hB1, hq_168, hq_169, hq_170⟩ := hB
      obtain ⟨hP, hD, hO, hR⟩ := QTm.back hB1 ht hFc hR (fun q h => by simp only [List.mem_cons, List.not_mem_nil, or_false] at h ⊢; omega)
      have hF_171 : F_166 se = .inr (13, [.ref sx, .ref s0, .ref s1, .ref s2, .int (nI nn)]) := (hB1.2.2.2 se (by rw [ht_29]; simp)).trans hF_154
      have hF_172 : F_166 sx = .inr (14, [.ref sb, .int (nI zx)]) := (hB1.2.2.2 sx (by rw [hT_sx]; simp)).trans hF_155
      have hF_173 : F_166 sb = .inl (cs 17, 3000, .inl fb) := (hB1.2.2.2 sb (by rw [ht_39]; simp)).trans hF_156
      have hF_174 : F_166 s0 = .inl (cs 16, 40, .inl e0) := (hB1.2.2.2 s0 (by rw [ht_33]; simp)).trans hF_157
      have hF_175 : F_166 s1 = .inl (cs 16, 40, .inl e1) := (hB1.2.2.2 s1 (by rw [ht_34]; simp)).trans hF_158
      have hF_176 : F_166 s2 = .inl (cs 16, 40, .inl e2) := (hB1.2.2.2 s2 (by rw [ht_35]; simp)).trans hF_159
      have hF_177 : F_166 ml = .inl (cs 17, 3000, .inl gl) := (hB1.2.2.2 ml (by rw [ht_78]; simp)).trans hF_160
      have hF_178 : F_166 h0 = .inr (15, (.ref ta) :: (.int (nI zt)) :: (.int (nI zo)) :: (.int (nI ze)) :: (.ref ou) :: (.ref so) :: (.ref ad) :: (.ref na) :: (.ref va) :: (.ref lc) :: (.ref dm) :: (.int (nI fm)) :: (.int (nI sn)) :: (.ref tg) :: (.int v14_46) :: (.int v15_47) :: (.ref pe) :: (.int v17_48) :: (.int v18_49) :: (.int v19_50) :: (.int v20_51) :: (.int v21_52) :: (.int v22_53) :: (.ref ml) :: (.ref bg) :: (.ref co) :: (.ref sp) :: (.ref nb0) :: (.ref nb1) :: (.ref nb2) :: (.int (nI nf)) :: (.int (nI bd)) :: (.int (nI mm)) :: (.int v33_54) :: (.ref pl) :: (.ref se) :: (.ref ke) :: (.ref wi) :: (.ref hs) :: (.ref mo) :: (.ref po) :: (.ref nu) :: (.ref pr) :: (.ref sq) :: (.ref xa) :: (.ref sa) :: (.ref n64) :: (.ref m64) :: (.ref ex) :: (.ref wh) :: (.ref sd) :: (.ref tk) :: (.int v0) :: (.int v53_56) :: (.int v54_57) :: (.ref hd) :: (.ref ak) :: (.ref ho) :: (.ref ot) :: []) := (hB1.2.2.2 h0 (by rw [hT_h0]; simp)).trans hF_161
      have hF_179 : F_166 co = .inl (cs 16, 21, .inl f_133) := (hB1.2.2.2 co (by rw [ht_132]; simp)).trans hF_162
      generalize H1 = H at hP hS ⊢
      refine W.widen (k := 0) (n := 0) (by omega) (by omega) ?_
      exact W.vret hx hb hr (fun t ht hWm => ⟨⟨(), rfl, trivial, ⟨F_166, f2_167, QTm.mk ht hP hD hO hR, (by rw [hHA, hHB]; exact hq_168), hq_169, (by rw [hHA, hHB]; exact hq_170), (by rw [hHA, hHB, List.length_append]; have h9 := FPW_len (T := clr gl) (x := v0) (d := gd jf) hoj.1 qf2 (Or.inr ⟨show gm 1 jf < kS by omega, hke.2.1, hke.2.2⟩); omega)⟩⟩, hS.F ht⟩) hS.2.2 dX15_fieldsPlain_355
    ·
      have hi_180 : j2 < (gd jf) := ltN (N := (gd jf)) c_163
      have hje : j2 < gd jf := Nat.not_le.mp (fun q => c_163 ((nI_leI (by omega) (by omega)).mpr q))
      refine lv_iload hx hb dX15_fieldsPlain_214 (lv_at hl 3 rfl) ?_
      refine lv_istore (lv' := [(8, .int (nI j2)), (7, .int (nI (gd jf))), (6, .int (nI w6)), (5, .int (nI w5)), (4, .int (nI j2)), (0, .ref h0), (1, .int (nI jf))]) hx hb dX15_fieldsPlain_216 hl (by decide) rfl (fun ls hl => ?_)
      refine lv_iload hx hb dX15_fieldsPlain_218 (lv_at hl 4 rfl) ?_
      refine lv_istore (lv' := [(9, .int (nI j2)), (8, .int (nI j2)), (7, .int (nI (gd jf))), (6, .int (nI w6)), (5, .int (nI w5)), (4, .int (nI j2)), (0, .ref h0), (1, .int (nI jf))]) hx hb dX15_fieldsPlain_220 hl (by decide) rfl (fun ls hl => ?_)
      refine lv_iconst (v := 0) hx hb dX15_fieldsPlain_222 (by decide) ?_
      refine lv_istore (lv' := [(10, .int 0), (9, .int (nI j2)), (8, .int (nI j2)), (7, .int (nI (gd jf))), (6, .int (nI w6)), (5, .int (nI w5)), (4, .int (nI j2)), (0, .ref h0), (1, .int (nI jf))]) hx hb dX15_fieldsPlain_223 hl (by decide) rfl (fun ls hl => ?_)
      refine W.widen (k := 0) (n := 0) (by omega) (by omega) ?_
      have hF_182 : F se = .inr (13, [.ref sx, .ref s0, .ref s1, .ref s2, .int (nI nn)]) := (hR se (by rw [ht_29]; simp)).symm.trans hF_154
      have hF_183 : F sx = .inr (14, [.ref sb, .int (nI zx)]) := (hR sx (by rw [hT_sx]; simp)).symm.trans hF_155
      have hF_184 : F sb = .inl (cs 17, 3000, .inl fb) := (hR sb (by rw [ht_39]; simp)).symm.trans hF_156
      have hF_185 : F s0 = .inl (cs 16, 40, .inl e0) := (hR s0 (by rw [ht_33]; simp)).symm.trans hF_157
      have hF_186 : F s1 = .inl (cs 16, 40, .inl e1) := (hR s1 (by rw [ht_34]; simp)).symm.trans hF_158
      have hF_187 : F s2 = .inl (cs 16, 40, .inl e2) := (hR s2 (by rw [ht_35]; simp)).symm.trans hF_159
      have hF_188 : F ml = .inl (cs 17, 3000, .inl gl) := (hR ml (by rw [ht_78]; simp)).symm.trans hF_160
      have hF_189 : F h0 = .inr (15, (.ref ta) :: (.int (nI zt)) :: (.int (nI zo)) :: (.int (nI ze)) :: (.ref ou) :: (.ref so) :: (.ref ad) :: (.ref na) :: (.ref va) :: (.ref lc) :: (.ref dm) :: (.int (nI fm)) :: (.int (nI sn)) :: (.ref tg) :: (.int v14_46) :: (.int v15_47) :: (.ref pe) :: (.int v17_48) :: (.int v18_49) :: (.int v19_50) :: (.int v20_51) :: (.int v21_52) :: (.int v22_53) :: (.ref ml) :: (.ref bg) :: (.ref co) :: (.ref sp) :: (.ref nb0) :: (.ref nb1) :: (.ref nb2) :: (.int (nI nf)) :: (.int (nI bd)) :: (.int (nI mm)) :: (.int v33_54) :: (.ref pl) :: (.ref se) :: (.ref ke) :: (.ref wi) :: (.ref hs) :: (.ref mo) :: (.ref po) :: (.ref nu) :: (.ref pr) :: (.ref sq) :: (.ref xa) :: (.ref sa) :: (.ref n64) :: (.ref m64) :: (.ref ex) :: (.ref wh) :: (.ref sd) :: (.ref tk) :: (.int v0) :: (.int v53_56) :: (.int v54_57) :: (.ref hd) :: (.ref ak) :: (.ref ho) :: (.ref ot) :: []) := (hR h0 (by rw [hT_h0]; simp)).symm.trans hF_161
      have hF_190 : F co = .inl (cs 16, 21, .inl f_133) := (hR co (by rw [ht_132]; simp)).symm.trans hF_162
      refine pl_loopm (σ := Nat) A (dC, dI) cs ty gm L [ρ + 10, ρ + 26] F 225 11 (fun i2 => [(10, .int 0), (9, .int (nI j2)), (8, .int (nI i2)), (7, .int (nI (gd jf))), (6, .int (nI w6)), (5, .int (nI w5)), (4, .int (nI j2)), (0, .ref h0), (1, .int (nI jf))]) (fun i2 => []) (fun i2 FF => j2 ≤ i2 ∧ i2 ≤ gd jf ∧ (∀ q9, j2 ≤ q9 → q9 < i2 → ¬ (TC gl mm) q9 = 59) ∧ FF pl = .inr (14, [.ref rl, .int (nI (adl (clr gl) (TC gl mm) (TC fb zx) (gm 0) (gm 1) gd nf v0 (hsG (TC fb zx) (gq 1 j + 1) (gq 2 j))).2.length)]) ∧ FF rl = .inl (cs 17, 6000, .inl fq)) (fun i2 => gd jf - i2) ?_ j2 F_142 (⟨Nat.le_refl _, by omega, fun q9 h1 h2 => absurd h2 (by omega), hE1_, hE2_⟩) hO hR _ _ hP hD hS ls (lv_sub hl [0, 1, 2, 3, 4, 5, 6, 7, 8] rfl)
      rintro i2 F_181 hv_191 hO hR ih_192 H locs hP hD hS ls hl
      have hl : lv_has ls 11 [(10, .int 0), (9, .int (nI j2)), (8, .int (nI i2)), (7, .int (nI (gd jf))), (6, .int (nI w6)), (5, .int (nI w5)), (4, .int (nI j2)), (0, .ref h0), (1, .int (nI jf))] := hl
      have hv_191 : j2 ≤ i2 ∧ i2 ≤ gd jf ∧ (∀ q9, j2 ≤ q9 → q9 < i2 → ¬ (TC gl mm) q9 = 59) ∧ F_181 pl = .inr (14, [.ref rl, .int (nI (adl (clr gl) (TC gl mm) (TC fb zx) (gm 0) (gm 1) gd nf v0 (hsG (TC fb zx) (gq 1 j + 1) (gq 2 j))).2.length)]) ∧ F_181 rl = .inl (cs 17, 6000, .inl fq) := hv_191
      refine W.eq (g2 := F0 m 225 ls []) rfl ?_
      have hF_193 : F_181 se = .inr (13, [.ref sx, .ref s0, .ref s1, .ref s2, .int (nI nn)]) := (hR se (by rw [ht_29]; simp)).trans hF_182
      have hF_194 : F_181 sx = .inr (14, [.ref sb, .int (nI zx)]) := (hR sx (by rw [hT_sx]; simp)).trans hF_183
      have hF_195 : F_181 sb = .inl (cs 17, 3000, .inl fb) := (hR sb (by rw [ht_39]; simp)).trans hF_184
      have hF_196 : F_181 s0 = .inl (cs 16, 40, .inl e0) := (hR s0 (by rw [ht_33]; simp)).trans hF_185
      have hF_197 : F_181 s1 = .inl (cs 16, 40, .inl e1) := (hR s1 (by rw [ht_34]; simp)).trans hF_186
      have hF_198 : F_181 s2 = .inl (cs 16, 40, .inl e2) := (hR s2 (by rw [ht_35]; simp)).trans hF_187
      have hF_199 : F_181 ml = .inl (cs 17, 3000, .inl gl) := (hR ml (by rw [ht_78]; simp)).trans hF_188
      have hF_200 : F_181 h0 = .inr (15, (.ref ta) :: (.int (nI zt)) :: (.int (nI zo)) :: (.int (nI ze)) :: (.ref ou) :: (.ref so) :: (.ref ad) :: (.ref na) :: (.ref va) :: (.ref lc) :: (.ref dm) :: (.int (nI fm)) :: (.int (nI sn)) :: (.ref tg) :: (.int v14_46) :: (.int v15_47) :: (.ref pe) :: (.int v17_48) :: (.int v18_49) :: (.int v19_50) :: (.int v20_51) :: (.int v21_52) :: (.int v22_53) :: (.ref ml) :: (.ref bg) :: (.ref co) :: (.ref sp) :: (.ref nb0) :: (.ref nb1) :: (.ref nb2) :: (.int (nI nf)) :: (.int (nI bd)) :: (.int (nI mm)) :: (.int v33_54) :: (.ref pl) :: (.ref se) :: (.ref ke) :: (.ref wi) :: (.ref hs) :: (.ref mo) :: (.ref po) :: (.ref nu) :: (.ref pr) :: (.ref sq) :: (.ref xa) :: (.ref sa) :: (.ref n64) :: (.ref m64) :: (.ref ex) :: (.ref wh) :: (.ref sd) :: (.ref tk) :: (.int v0) :: (.int v53_56) :: (.int v54_57) :: (.ref hd) :: (.ref ak) :: (.ref ho) :: (.ref ot) :: []) := (hR h0 (by rw [hT_h0]; simp)).trans hF_189
      have hF_201 : F_181 co = .inl (cs 16, 21, .inl f_133) := (hR co (by rw [ht_132]; simp)).trans hF_190
      obtain ⟨hf1_, hf2_, hf3_, hE3_, hE4_⟩ := id hv_191
      refine lv_iload hx hb dX15_fieldsPlain_225 (lv_at hl 2 rfl) ?_
      refine lv_iload hx hb dX15_fieldsPlain_227 (lv_at hl 3 rfl) ?_
      refine lv_icmp_ge (tgt := 250) hx hb dX15_fieldsPlain_229 (by decide) (fun c_202 => ?_) (fun c_202 => ?_)
      ·
        have hi_203 : (gd jf) ≤ i2 := leN (N := (gd jf)) c_202
        have hi2b : (gd jf) ≤ i2 := (nI_leI (by omega) (by omega)).mp c_202
        have hq59 : fdT (TC gl mm) 59 j2 (gd jf) = i2 := fd_at hf1_ hf2_ hf3_ (Or.inl (by omega))
        obtain ⟨hsml, hown2⟩ := owi_s ho3 (by omega) (show fdT (TC gl mm) 59 ((gm 1 jf + 1) + (j2 - (gm 1 jf + 1))) ((gm 1 jf + 1) + (gd jf - (gm 1 jf + 1))) = i2 by rw [show (gm 1 jf + 1) + (j2 - (gm 1 jf + 1)) = j2 by omega, show (gm 1 jf + 1) + (gd jf - (gm 1 jf + 1)) = gd jf by omega]; exact hq59)
        rw [show (gm 1 jf + 1) + (j2 - (gm 1 jf + 1)) = j2 by omega] at hsml
        refine W.widen (k := 0) (n := 0) (by omega) (by omega) ?_
        have hF_205 : F se = .inr (13, [.ref sx, .ref s0, .ref s1, .ref s2, .int (nI nn)]) := (hR se (by rw [ht_29]; simp)).symm.trans hF_193
        have hF_206 : F sx = .inr (14, [.ref sb, .int (nI zx)]) := (hR sx (by rw [hT_sx]; simp)).symm.trans hF_194
        have hF_207 : F sb = .inl (cs 17, 3000, .inl fb) := (hR sb (by rw [ht_39]; simp)).symm.trans hF_195
        have hF_208 : F s0 = .inl (cs 16, 40, .inl e0) := (hR s0 (by rw [ht_33]; simp)).symm.trans hF_196
        have hF_209 : F s1 = .inl (cs 16, 40, .inl e1) := (hR s1 (by rw [ht_34]; simp)).symm.trans hF_197
        have hF_210 : F s2 = .inl (cs 16, 40, .inl e2) := (hR s2 (by rw [ht_35]; simp)).symm.trans hF_198
        have hF_211 : F ml = .inl (cs 17, 3000, .inl gl) := (hR ml (by rw [ht_78]; simp)).symm.trans hF_199
        have hF_212 : F h0 = .inr (15, (.ref ta) :: (.int (nI zt)) :: (.int (nI zo)) :: (.int (nI ze)) :: (.ref ou) :: (.ref so) :: (.ref ad) :: (.ref na) :: (.ref va) :: (.ref lc) :: (.ref dm) :: (.int (nI fm)) :: (.int (nI sn)) :: (.ref tg) :: (.int v14_46) :: (.int v15_47) :: (.ref pe) :: (.int v17_48) :: (.int v18_49) :: (.int v19_50) :: (.int v20_51) :: (.int v21_52) :: (.int v22_53) :: (.ref ml) :: (.ref bg) :: (.ref co) :: (.ref sp) :: (.ref nb0) :: (.ref nb1) :: (.ref nb2) :: (.int (nI nf)) :: (.int (nI bd)) :: (.int (nI mm)) :: (.int v33_54) :: (.ref pl) :: (.ref se) :: (.ref ke) :: (.ref wi) :: (.ref hs) :: (.ref mo) :: (.ref po) :: (.ref nu) :: (.ref pr) :: (.ref sq) :: (.ref xa) :: (.ref sa) :: (.ref n64) :: (.ref m64) :: (.ref ex) :: (.ref wh) :: (.ref sd) :: (.ref tk) :: (.int v0) :: (.int v53_56) :: (.int v54_57) :: (.ref hd) :: (.ref ak) :: (.ref ho) :: (.ref ot) :: []) := (hR h0 (by rw [hT_h0]; simp)).symm.trans hF_200
        have hF_213 : F co = .inl (cs 16, 21, .inl f_133) := (hR co (by rw [ht_132]; simp)).symm.trans hF_201
        refine pl_loopm (σ := Nat × Int32) A (dC, dI) cs ty gm L [ρ + 10, ρ + 26] F 250 11 (fun (i3, w10) => [(10, .int w10), (9, .int (nI i3)), (8, .int (nI i2)), (7, .int (nI (gd jf))), (6, .int (nI w6)), (5, .int (nI w5)), (4, .int (nI j2)), (0, .ref h0), (1, .int (nI jf))]) (fun (i3, w10) => []) (fun (i3, w10) FF => j2 ≤ i3 ∧ i3 ≤ i2 ∧ (∀ q9, j2 ≤ q9 → q9 < i3 → ¬ (TC gl mm) q9 = 61) ∧ LTM (TC gl mm) j2 i3 w10 ∧ FF pl = .inr (14, [.ref rl, .int (nI (adl (clr gl) (TC gl mm) (TC fb zx) (gm 0) (gm 1) gd nf v0 (hsG (TC fb zx) (gq 1 j + 1) (gq 2 j))).2.length)]) ∧ FF rl = .inl (cs 17, 6000, .inl fq)) (fun (i3, w10) => i2 - i3) ?_ (j2, 0) F_181 (⟨Nat.le_refl _, by omega, fun q9 h1 h2 => absurd h2 (by omega), ltm_0, hE3_, hE4_⟩) hO hR _ _ hP hD hS ls (lv_sub hl [0, 1, 2, 3, 4, 5, 6, 7, 8] rfl)
        rintro ⟨i3, w10⟩ F_204 hv_214 hO hR ih_215 H locs hP hD hS ls hl
        have hl : lv_has ls 11 [(10, .int w10), (9, .int (nI i3)), (8, .int (nI i2)), (7, .int (nI (gd jf))), (6, .int (nI w6)), (5, .int (nI w5)), (4, .int (nI j2)), (0, .ref h0), (1, .int (nI jf))] := hl
        have hv_214 : j2 ≤ i3 ∧ i3 ≤ i2 ∧ (∀ q9, j2 ≤ q9 → q9 < i3 → ¬ (TC gl mm) q9 = 61) ∧ LTM (TC gl mm) j2 i3 w10 ∧ F_204 pl = .inr (14, [.ref rl, .int (nI (adl (clr gl) (TC gl mm) (TC fb zx) (gm 0) (gm 1) gd nf v0 (hsG (TC fb zx) (gq 1 j + 1) (gq 2 j))).2.length)]) ∧ F_204 rl = .inl (cs 17, 6000, .inl fq) := hv_214
        refine W.eq (g2 := F0 m 250 ls []) rfl ?_
        have hF_216 : F_204 se = .inr (13, [.ref sx, .ref s0, .ref s1, .ref s2, .int (nI nn)]) := (hR se (by rw [ht_29]; simp)).trans hF_205
        have hF_217 : F_204 sx = .inr (14, [.ref sb, .int (nI zx)]) := (hR sx (by rw [hT_sx]; simp)).trans hF_206
        have hF_218 : F_204 sb = .inl (cs 17, 3000, .inl fb) := (hR sb (by rw [ht_39]; simp)).trans hF_207
        have hF_219 : F_204 s0 = .inl (cs 16, 40, .inl e0) := (hR s0 (by rw [ht_33]; simp)).trans hF_208
        have hF_220 : F_204 s1 = .inl (cs 16, 40, .inl e1) := (hR s1 (by rw [ht_34]; simp)).trans hF_209
        have hF_221 : F_204 s2 = .inl (cs 16, 40, .inl e2) := (hR s2 (by rw [ht_35]; simp)).trans hF_210
        have hF_222 : F_204 ml = .inl (cs 17, 3000, .inl gl) := (hR ml (by rw [ht_78]; simp)).trans hF_211
        have hF_223 : F_204 h0 = .inr (15, (.ref ta) :: (.int (nI zt)) :: (.int (nI zo)) :: (.int (nI ze)) :: (.ref ou) :: (.ref so) :: (.ref ad) :: (.ref na) :: (.ref va) :: (.ref lc) :: (.ref dm) :: (.int (nI fm)) :: (.int (nI sn)) :: (.ref tg) :: (.int v14_46) :: (.int v15_47) :: (.ref pe) :: (.int v17_48) :: (.int v18_49) :: (.int v19_50) :: (.int v20_51) :: (.int v21_52) :: (.int v22_53) :: (.ref ml) :: (.ref bg) :: (.ref co) :: (.ref sp) :: (.ref nb0) :: (.ref nb1) :: (.ref nb2) :: (.int (nI nf)) :: (.int (nI bd)) :: (.int (nI mm)) :: (.int v33_54) :: (.ref pl) :: (.ref se) :: (.ref ke) :: (.ref wi) :: (.ref hs) :: (.ref mo) :: (.ref po) :: (.ref nu) :: (.ref pr) :: (.ref sq) :: (.ref xa) :: (.ref sa) :: (.ref n64) :: (.ref m64) :: (.ref ex) :: (.ref wh) :: (.ref sd) :: (.ref tk) :: (.int v0) :: (.int v53_56) :: (.int v54_57) :: (.ref hd) :: (.ref ak) :: (.ref ho) :: (.ref ot) :: []) := (hR h0 (by rw [hT_h0]; simp)).trans hF_212
        have hF_224 : F_204 co = .inl (cs 16, 21, .inl f_133) := (hR co (by rw [ht_132]; simp)).trans hF_213
        obtain ⟨hs1_, hs2_, hs3_, hs4_, hE7_, hE8_⟩ := id hv_214
        refine lv_iload hx hb dX15_fieldsPlain_250 (lv_at hl 1 rfl) ?_
        refine lv_iload hx hb dX15_fieldsPlain_252 (lv_at hl 2 rfl) ?_
        have hF_227 : F se = .inr (13, [.ref sx, .ref s0, .ref s1, .ref s2, .int (nI nn)]) := (hR se (by rw [ht_29]; simp)).symm.trans hF_216
        have hF_228 : F sx = .inr (14, [.ref sb, .int (nI zx)]) := (hR sx (by rw [hT_sx]; simp)).symm.trans hF_217
        have hF_229 : F sb = .inl (cs 17, 3000, .inl fb) := (hR sb (by rw [ht_39]; simp)).symm.trans hF_218
        have hF_230 : F s0 = .inl (cs 16, 40, .inl e0) := (hR s0 (by rw [ht_33]; simp)).symm.trans hF_219
        have hF_231 : F s1 = .inl (cs 16, 40, .inl e1) := (hR s1 (by rw [ht_34]; simp)).symm.trans hF_220
        have hF_232 : F s2 = .inl (cs 16, 40, .inl e2) := (hR s2 (by rw [ht_35]; simp)).symm.trans hF_221
        have hF_233 : F ml = .inl (cs 17, 3000, .inl gl) := (hR ml (by rw [ht_78]; simp)).symm.trans hF_222
        have hF_234 : F h0 = .inr (15, (.ref ta) :: (.int (nI zt)) :: (.int (nI zo)) :: (.int (nI ze)) :: (.ref ou) :: (.ref so) :: (.ref ad) :: (.ref na) :: (.ref va) :: (.ref lc) :: (.ref dm) :: (.int (nI fm)) :: (.int (nI sn)) :: (.ref tg) :: (.int v14_46) :: (.int v15_47) :: (.ref pe) :: (.int v17_48) :: (.int v18_49) :: (.int v19_50) :: (.int v20_51) :: (.int v21_52) :: (.int v22_53) :: (.ref ml) :: (.ref bg) :: (.ref co) :: (.ref sp) :: (.ref nb0) :: (.ref nb1) :: (.ref nb2) :: (.int (nI nf)) :: (.int (nI bd)) :: (.int (nI mm)) :: (.int v33_54) :: (.ref pl) :: (.ref se) :: (.ref ke) :: (.ref wi) :: (.ref hs) :: (.ref mo) :: (.ref po) :: (.ref nu) :: (.ref pr) :: (.ref sq) :: (.ref xa) :: (.ref sa) :: (.ref n64) :: (.ref m64) :: (.ref ex) :: (.ref wh) :: (.ref sd) :: (.ref tk) :: (.int v0) :: (.int v53_56) :: (.int v54_57) :: (.ref hd) :: (.ref ak) :: (.ref ho) :: (.ref ot) :: []) := (hR h0 (by rw [hT_h0]; simp)).symm.trans hF_223
        have hF_235 : F co = .inl (cs 16, 21, .inl f_133) := (hR co (by rw [ht_132]; simp)).symm.trans hF_224
        refine W.widen (k := 0) (n := 0) (by omega) (by omega) ?_
        refine pl_cutm (σ := Unit) A (dC, dI) cs ty gm L [ρ + 10, ρ + 26] F 316 11 (fun u0 => [(10, .int w10), (9, .int (nI i3)), (8, .int (nI i2)), (7, .int (nI (gd jf))), (6, .int (nI w6)), (5, .int (nI w5)), (4, .int (nI j2)), (0, .ref h0), (1, .int (nI jf))]) (fun u0 => []) (fun u0 FF => fdT (TC gl mm) 61 j2 i2 = i3 ∧ (w10 = 98 ↔ LTB (TC gl mm) j2 i3) ∧ FF pl = .inr (14, [.ref rl, .int (nI (adl (clr gl) (TC gl mm) (TC fb zx) (gm 0) (gm 1) gd nf v0 (hsG (TC fb zx) (gq 1 j + 1) (gq 2 j))).2.length)]) ∧ FF rl = .inl (cs 17, 6000, .inl fq)) ?_ (fun jn_225 => ?_)
        ·
          rintro u0 F_226 hv_236 hO hR H locs hP hD hS ls hl
          have hl : lv_has ls 11 [(10, .int w10), (9, .int (nI i3)), (8, .int (nI i2)), (7, .int (nI (gd jf))), (6, .int (nI w6)), (5, .int (nI w5)), (4, .int (nI j2)), (0, .ref h0), (1, .int (nI jf))] := hl
          have hv_236 : fdT (TC gl mm) 61 j2 i2 = i3 ∧ (w10 = 98 ↔ LTB (TC gl mm) j2 i3) ∧ F_226 pl = .inr (14, [.ref rl, .int (nI (adl (clr gl) (TC gl mm) (TC fb zx) (gm 0) (gm 1) gd nf v0 (hsG (TC fb zx) (gq 1 j + 1) (gq 2 j))).2.length)]) ∧ F_226 rl = .inl (cs 17, 6000, .inl fq) := hv_236
          refine W.eq (g2 := F0 m 316 ls []) rfl ?_
          have hF_237 : F_226 se = .inr (13, [.ref sx, .ref s0, .ref s1, .ref s2, .int (nI nn)]) := (hR se (by rw [ht_29]; simp)).trans hF_227
          have hF_238 : F_226 sx = .inr (14, [.ref sb, .int (nI zx)]) := (hR sx (by rw [hT_sx]; simp)).trans hF_228
          have hF_239 : F_226 sb = .inl (cs 17, 3000, .inl fb) := (hR sb (by rw [ht_39]; simp)).trans hF_229
          have hF_240 : F_226 s0 = .inl (cs 16, 40, .inl e0) := (hR s0 (by rw [ht_33]; simp)).trans hF_230
          have hF_241 : F_226 s1 = .inl (cs 16, 40, .inl e1) := (hR s1 (by rw [ht_34]; simp)).trans hF_231
          have hF_242 : F_226 s2 = .inl (cs 16, 40, .inl e2) := (hR s2 (by rw [ht_35]; simp)).trans hF_232
          have hF_243 : F_226 ml = .inl (cs 17, 3000, .inl gl) := (hR ml (by rw [ht_78]; simp)).trans hF_233
          have hF_244 : F_226 h0 = .inr (15, (.ref ta) :: (.int (nI zt)) :: (.int (nI zo)) :: (.int (nI ze)) :: (.ref ou) :: (.ref so) :: (.ref ad) :: (.ref na) :: (.ref va) :: (.ref lc) :: (.ref dm) :: (.int (nI fm)) :: (.int (nI sn)) :: (.ref tg) :: (.int v14_46) :: (.int v15_47) :: (.ref pe) :: (.int v17_48) :: (.int v18_49) :: (.int v19_50) :: (.int v20_51) :: (.int v21_52) :: (.int v22_53) :: (.ref ml) :: (.ref bg) :: (.ref co) :: (.ref sp) :: (.ref nb0) :: (.ref nb1) :: (.ref nb2) :: (.int (nI nf)) :: (.int (nI bd)) :: (.int (nI mm)) :: (.int v33_54) :: (.ref pl) :: (.ref se) :: (.ref ke) :: (.ref wi) :: (.ref hs) :: (.ref mo) :: (.ref po) :: (.ref nu) :: (.ref pr) :: (.ref sq) :: (.ref xa) :: (.ref sa) :: (.ref n64) :: (.ref m64) :: (.ref ex) :: (.ref wh) :: (.ref sd) :: (.ref tk) :: (.int v0) :: (.int v53_56) :: (.int v54_57) :: (.ref hd) :: (.ref ak) :: (.ref ho) :: (.ref ot) :: []) := (hR h0 (by rw [hT_h0]; simp)).trans hF_234
          have hF_245 : F_226 co = .inl (cs 16, 21, .inl f_133) := (hR co (by rw [ht_132]; simp)).trans hF_235
          obtain ⟨hq61, hlt9, hE9_, hE0_⟩ := id hv_236
          refine lv_iload hx hb dX15_fieldsPlain_316 (lv_at hl 0 rfl) ?_
          refine lv_bipush (v := 98) hx hb dX15_fieldsPlain_318 (by decide) ?_
          refine lv_icmp_ne (tgt := 333) hx hb dX15_fieldsPlain_320 (by decide) (fun c_246 => ?_) (fun c_246 => ?_)
          ·
            refine lv_iload hx hb dX15_fieldsPlain_333 (lv_at hl 2 rfl) ?_
            refine lv_iconst (v := 1) hx hb dX15_fieldsPlain_335 (by decide) ?_
            refine lv_iadd hx hb dX15_fieldsPlain_336 ?_
            refine lv_topi (fun x_247 ex_247 => ?_)
            obtain rfl : x_247 = (nI (i2 + 1)) := ex_247.trans (nI_1 i2)
            refine lv_istore (lv' := [(4, .int (nI (i2 + 1))), (10, .int w10), (9, .int (nI i3)), (8, .int (nI i2)), (7, .int (nI (gd jf))), (6, .int (nI w6)), (5, .int (nI w5)), (0, .ref h0), (1, .int (nI jf))]) hx hb dX15_fieldsPlain_337 hl (by decide) rfl (fun ls hl => ?_)
            refine lv_goto (tgt := 207) hx hb dX15_fieldsPlain_339 (by decide) ?_
            refine W.widen (k := 0) (n := 0) (by omega) (by omega) ?_
            exact ih_153 ((i2 + 1), w5, w6, acc) F_226 (⟨by omega, by omega, (by rw [show i2 + 1 - (gm 1 jf + 1) = i2 - (gm 1 jf + 1) + 1 by omega]; exact hown2), (ho4.trans (owL_x (by omega) hq59 hq61 (fun q => c_246 (hlt9.mpr q)))), ho5, hE9_, hE0_⟩) (by show gd jf + 1 - (i2 + 1) < gd jf + 1 - j2; omega) hO hR _ _ hP hD hS ls (lv_sub hl [4, 5, 6, 0, 7, 8] rfl)
          ·
            refine lv_iload hx hb dX15_fieldsPlain_323 (lv_at hl 1 rfl) ?_
            refine lv_iconst (v := 1) hx hb dX15_fieldsPlain_325 (by decide) ?_
            refine lv_iadd hx hb dX15_fieldsPlain_326 ?_
            refine lv_topi (fun x_248 ex_248 => ?_)
            obtain rfl : x_248 = (nI (i3 + 1)) := ex_248.trans (nI_1 i3)
            refine lv_istore (lv' := [(5, .int (nI (i3 + 1))), (10, .int w10), (9, .int (nI i3)), (8, .int (nI i2)), (7, .int (nI (gd jf))), (6, .int (nI w6)), (4, .int (nI j2)), (0, .ref h0), (1, .int (nI jf))]) hx hb dX15_fieldsPlain_327 hl (by decide) rfl (fun ls hl => ?_)
            refine lv_iload hx hb dX15_fieldsPlain_329 (lv_at hl 3 rfl) ?_
            refine lv_istore (lv' := [(6, .int (nI i2)), (5, .int (nI (i3 + 1))), (10, .int w10), (9, .int (nI i3)), (8, .int (nI i2)), (7, .int (nI (gd jf))), (4, .int (nI j2)), (0, .ref h0), (1, .int (nI jf))]) hx hb dX15_fieldsPlain_331 hl (by decide) rfl (fun ls hl => ?_)
            refine lv_iload hx hb dX15_fieldsPlain_333 (lv_at hl 4 rfl) ?_
            refine lv_iconst (v := 1) hx hb dX15_fieldsPlain_335 (by decide) ?_
            refine lv_iadd hx hb dX15_fieldsPlain_336 ?_
            refine lv_topi (fun x_249 ex_249 => ?_)
            obtain rfl : x_249 = (nI (i2 + 1)) := ex_249.trans (nI_1 i2)
            refine lv_istore (lv' := [(4, .int (nI (i2 + 1))), (6, .int (nI i2)), (5, .int (nI (i3 + 1))), (10, .int w10), (9, .int (nI i3)), (8, .int (nI i2)), (7, .int (nI (gd jf))), (0, .ref h0), (1, .int (nI jf))]) hx hb dX15_fieldsPlain_337 hl (by decide) rfl (fun ls hl => ?_)
            refine lv_goto (tgt := 207) hx hb dX15_fieldsPlain_339 (by decide) ?_
            refine W.widen (k := 0) (n := 0) (by omega) (by omega) ?_
            exact ih_153 ((i2 + 1), (i3 + 1), i2, (some (i3 + 1, i2))) F_226 (⟨by omega, by omega, (by rw [show i2 + 1 - (gm 1 jf + 1) = i2 - (gm 1 jf + 1) + 1 by omega]; exact hown2), (ho4.trans (owL_y (by omega) hq59 hq61 (hlt9.mp c_246))), (Or.inr rfl), hE9_, hE0_⟩) (by show gd jf + 1 - (i2 + 1) < gd jf + 1 - j2; omega) hO hR _ _ hP hD hS ls (lv_sub hl [6, 1, 2, 0, 7, 8] rfl)
        ·
          refine lv_icmp_ge (tgt := 316) hx hb dX15_fieldsPlain_254 (by decide) (fun c_250 => ?_) (fun c_250 => ?_)
          ·
            have hi_251 : i2 ≤ i3 := leN (N := i2) c_250
            have hi3b : i2 ≤ i3 := (nI_leI (by omega) (by omega)).mp c_250
            refine W.widen (k := 0) (n := 0) (by omega) (by omega) ?_
            exact jn_225 () F_204 (⟨fd_at hs1_ hs2_ hs3_ (Or.inl (by omega)), ltm_e hs4_, hE7_, hE8_⟩) hO hR _ _ hP hD hS ls (lv_sub hl [0, 1, 2, 3, 4, 5, 6, 7, 8] rfl)
          ·
            have hi_252 : i3 < i2 := ltN (N := i2) c_250
            have hi3b : i3 < i2 := Nat.not_le.mp (fun q => c_250 ((nI_leI (by omega) (by omega)).mpr q))
            refine lv_aload_n hx hb dX15_fieldsPlain_257 rfl (lv_at hl 7 rfl) ?_
            refine pg_get (ci := 15) (v := .ref ml) (C := RX15) (T := TX15) (N := 59) hx hb hts it_15 hown hK hP hL_h0 hF_223 rfl 23 (by decide) (hts _ kt_887) (fun _ h9 => h9) rfl dX15_fieldsPlain_258 ?_
            refine lv_iload hx hb dX15_fieldsPlain_261 (lv_at hl 1 rfl) ?_
            refine pg_bald hx hb hK hP hi_77 1 hF_222 rfl (vp_in_nI (by omega) (by omega)) dX15_fieldsPlain_263 ?_
            refine lv_topi (fun x_253 ex_253 => ?_)
            obtain rfl : x_253 = gl i3 := ex_253.trans (congrArg gl (show ((nI i3) : Int32).toNatClampNeg = i3 from nI_clamp (by omega)))
            refine lv_bipush (v := 61) hx hb dX15_fieldsPlain_264 (by decide) ?_
            refine lv_icmp_eq (tgt := 316) hx hb dX15_fieldsPlain_266 (by decide) (fun c_254 => ?_) (fun c_254 => ?_)
            ·
              have h61 : (TC gl mm) i3 = 61 := (tcc (show i3 < mm by omega) 61 (by omega)).mpr c_254
              refine W.widen (k := 0) (n := 0) (by omega) (by omega) ?_
              exact jn_225 () F_204 (⟨fd_at hs1_ hs2_ hs3_ (Or.inr h61), ltm_e hs4_, hE7_, hE8_⟩) hO hR _ _ hP hD hS ls (lv_sub hl [0, 1, 2, 3, 4, 5, 6, 7, 8] rfl)
            ·
              have hn61 : ¬ (TC gl mm) i3 = 61 := fun q => c_254 ((tcc (show i3 < mm by omega) 61 (by omega)).mp q)
              refine lv_aload_n hx hb dX15_fieldsPlain_269 rfl (lv_at hl 7 rfl) ?_
              refine pg_get (ci := 15) (v := .ref ml) (C := RX15) (T := TX15) (N := 59) hx hb hts it_15 hown hK hP hL_h0 hF_223 rfl 23 (by decide) (hts _ kt_887) (fun _ h9 => h9) rfl dX15_fieldsPlain_270 ?_
              refine lv_iload hx hb dX15_fieldsPlain_273 (lv_at hl 1 rfl) ?_
              refine pg_bald hx hb hK hP hi_77 1 hF_222 rfl (vp_in_nI (by omega) (by omega)) dX15_fieldsPlain_275 ?_
              refine lv_topi (fun x_255 ex_255 => ?_)
              obtain rfl : x_255 = gl i3 := ex_255.trans (congrArg gl (show ((nI i3) : Int32).toNatClampNeg = i3 from nI_clamp (by omega)))
              have hFc := pg_free hD hS hA
              refine va_calli (va_runS (As := [.int (gl i3)]) (rest := []) ⟨hx, hb, hml, hown, hts⟩ (s_X15_isWhite_e l dC dI cs ty gm L H.size F_204 (gl i3) hW ) ⟨callB_of 1 hts (gi kt_715) rfl rfl rfl (hts _ kt_669) (hts _ kt_716) (by decide +kernel) ⟨Nat.le_of_ble_eq_true rfl, Nat.le_of_ble_eq_true rfl⟩, (hts _ kt_717)⟩ ⟨fun a U g mk q => ⟨q.1, PTm.calling q.2⟩, fun U hU hWm => ⟨rfl, PTm.mk hU hWm hP hK hD hE hO⟩⟩ rfl rfl hl.1 rfl (lv_room (Nat.le_of_ble_eq_true rfl)) dX15_fieldsPlain_276 ⟨by show _ + 0 ≤ 0; omega, by show _ + 0 ≤ 0; omega⟩) hS (fun q _ h => hFc q h) hFc (fun r_256 u t H1 locs ht hvm hw hB hz1 hk1 hS => ?_)
              obtain ⟨F_257, hB1⟩ := hB
              obtain rfl : F_204 = F_257 := (funext (fun a => hB1.2.2.2 a List.not_mem_nil)).symm
              obtain ⟨hP, hD, hO, hR⟩ := QTm.back hB1 ht hFc hR (fun q h => absurd h List.not_mem_nil)
              generalize H1 = H at hP hS ⊢
              have hw : r_256 = (if (gl i3) = 32 ∨ (gl i3) = 9 then 1 else 0) := hw
              have hw_258 := hw
              refine lv_if_ne (tgt := 310) hx hb dX15_fieldsPlain_279 (by decide) (fun c_259 => ?_) (fun c_259 => ?_)
              ·
                refine lv_iinc (v := (nI (i3 + 1))) (lv' := [(9, .int (nI (i3 + 1))), (10, .int w10), (8, .int (nI i2)), (7, .int (nI (gd jf))), (6, .int (nI w6)), (5, .int (nI w5)), (4, .int (nI j2)), (0, .ref h0), (1, .int (nI jf))]) hx hb dX15_fieldsPlain_310 hl (k := 1) rfl (nI_1 _) (by decide) rfl (fun ls hl => ?_)
                refine lv_goto (tgt := 250) hx hb dX15_fieldsPlain_313 (by decide) ?_
                refine W.widen (k := 0) (n := 0) (by omega) (by omega) ?_
                exact ih_215 ((i3 + 1), w10) F_204 (⟨by omega, by omega, fun q9 h1 h2 => by rcases Nat.lt_or_ge q9 i3 with w9 | w9; exact hs3_ q9 h1 w9; rw [show q9 = i3 by omega]; exact hn61, ltm_w hs4_ hs1_ (by rcases ifb1 hw_258 c_259 with q | q; exact Or.inl ((tcc (show i3 < mm by omega) 32 (by omega)).mpr q); exact Or.inr (Or.inl ((tcc (show i3 < mm by omega) 9 (by omega)).mpr q))), hE7_, hE8_⟩) (by show i2 - (i3 + 1) < i2 - i3; omega) hO hR _ _ hP hD hS ls (lv_sub hl [1, 0, 2, 3, 4, 5, 6, 7, 8] rfl)
              ·
                refine lv_aload_n hx hb dX15_fieldsPlain_282 rfl (lv_at hl 7 rfl) ?_
                refine pg_get (ci := 15) (v := .ref ml) (C := RX15) (T := TX15) (N := 59) hx hb hts it_15 hown hK hP hL_h0 hF_223 rfl 23 (by decide) (hts _ kt_887) (fun _ h9 => h9) rfl dX15_fieldsPlain_283 ?_
                refine lv_iload hx hb dX15_fieldsPlain_286 (lv_at hl 1 rfl) ?_
                refine pg_bald hx hb hK hP hi_77 1 hF_222 rfl (vp_in_nI (by omega) (by omega)) dX15_fieldsPlain_288 ?_
                refine lv_topi (fun x_260 ex_260 => ?_)
                obtain rfl : x_260 = gl i3 := ex_260.trans (congrArg gl (show ((nI i3) : Int32).toNatClampNeg = i3 from nI_clamp (by omega)))
                refine lv_bipush (v := 10) hx hb dX15_fieldsPlain_289 (by decide) ?_
                refine lv_icmp_eq (tgt := 310) hx hb dX15_fieldsPlain_291 (by decide) (fun c_261 => ?_) (fun c_261 => ?_)
                ·
                  refine lv_iinc (v := (nI (i3 + 1))) (lv' := [(9, .int (nI (i3 + 1))), (10, .int w10), (8, .int (nI i2)), (7, .int (nI (gd jf))), (6, .int (nI w6)), (5, .int (nI w5)), (4, .int (nI j2)), (0, .ref h0), (1, .int (nI jf))]) hx hb dX15_fieldsPlain_310 hl (k := 1) rfl (nI_1 _) (by decide) rfl (fun ls hl => ?_)
                  refine lv_goto (tgt := 250) hx hb dX15_fieldsPlain_313 (by decide) ?_
                  refine W.widen (k := 0) (n := 0) (by omega) (by omega) ?_
                  exact ih_215 ((i3 + 1), w10) F_204 (⟨by omega, by omega, fun q9 h1 h2 => by rcases Nat.lt_or_ge q9 i3 with w9 | w9; exact hs3_ q9 h1 w9; rw [show q9 = i3 by omega]; exact hn61, ltm_w hs4_ hs1_ (Or.inr (Or.inr ((tcc (show i3 < mm by omega) 10 (by omega)).mpr c_261))), hE7_, hE8_⟩) (by show i2 - (i3 + 1) < i2 - i3; omega) hO hR _ _ hP hD hS ls (lv_sub hl [1, 0, 2, 3, 4, 5, 6, 7, 8] rfl)
                ·
                  have hnw : ¬ ((TC gl mm) i3 = 32 ∨ (TC gl mm) i3 = 9 ∨ (TC gl mm) i3 = 10) := fun q => by rcases q with q | q | q; exact ifb0 hw_258 c_259 (Or.inl ((tcc (show i3 < mm by omega) 32 (by omega)).mp q)); exact ifb0 hw_258 c_259 (Or.inr ((tcc (show i3 < mm by omega) 9 (by omega)).mp q)); exact c_261 ((tcc (show i3 < mm by omega) 10 (by omega)).mp q)
                  have hsm9 : SML ((TC gl mm) i3) := (hsml i3 hs1_ (fd_gt hs1_ hi3b (fun q9 h1 h2 => by rcases Nat.lt_or_ge q9 i3 with w9 | w9; exact hs3_ q9 h1 w9; rw [show q9 = i3 by omega]; exact hn61))).resolve_left hnw
                  have hgl9 : gl i3 = nI ((TC gl mm) i3) := tc_nI (by omega) (by have h9 := hsm9.2; omega)
                  refine lv_sipush (v := 256) hx hb dX15_fieldsPlain_294 (by decide) ?_
                  refine lv_iload hx hb dX15_fieldsPlain_297 (lv_at hl 0 rfl) ?_
                  refine lv_imul hx hb dX15_fieldsPlain_299 ?_
                  refine lv_topi (fun x_262 ex_262 => ?_)
                  obtain rfl : x_262 = (256 * w10) := ex_262.trans (rfl)
                  refine lv_aload_n hx hb dX15_fieldsPlain_300 rfl (lv_at hl 7 rfl) ?_
                  refine pg_get (ci := 15) (v := .ref ml) (C := RX15) (T := TX15) (N := 59) hx hb hts it_15 hown hK hP hL_h0 hF_223 rfl 23 (by decide) (hts _ kt_887) (fun _ h9 => h9) rfl dX15_fieldsPlain_301 ?_
                  refine lv_iload hx hb dX15_fieldsPlain_304 (lv_at hl 1 rfl) ?_
                  refine pg_bald hx hb hK hP hi_77 1 hF_222 rfl (vp_in_nI (by omega) (by omega)) dX15_fieldsPlain_306 ?_
                  refine lv_topi (fun x_263 ex_263 => ?_)
                  obtain rfl : x_263 = gl i3 := ex_263.trans (congrArg gl (show ((nI i3) : Int32).toNatClampNeg = i3 from nI_clamp (by omega)))
                  refine lv_iadd hx hb dX15_fieldsPlain_307 ?_
                  refine lv_topi (fun x_264 ex_264 => ?_)
                  obtain rfl : x_264 = (256 * w10 + gl i3) := ex_264.trans (rfl)
                  refine lv_istore (lv' := [(10, .int (256 * w10 + gl i3)), (9, .int (nI i3)), (8, .int (nI i2)), (7, .int (nI (gd jf))), (6, .int (nI w6)), (5, .int (nI w5)), (4, .int (nI j2)), (0, .ref h0), (1, .int (nI jf))]) hx hb dX15_fieldsPlain_308 hl (by decide) rfl (fun ls hl => ?_)
                  refine lv_iinc (v := (nI (i3 + 1))) (lv' := [(9, .int (nI (i3 + 1))), (10, .int (256 * w10 + gl i3)), (8, .int (nI i2)), (7, .int (nI (gd jf))), (6, .int (nI w6)), (5, .int (nI w5)), (4, .int (nI j2)), (0, .ref h0), (1, .int (nI jf))]) hx hb dX15_fieldsPlain_310 hl (k := 1) rfl (nI_1 _) (by decide) rfl (fun ls hl => ?_)
                  refine lv_goto (tgt := 250) hx hb dX15_fieldsPlain_313 (by decide) ?_
                  refine W.widen (k := 0) (n := 0) (by omega) (by omega) ?_
                  exact ih_215 ((i3 + 1), (256 * w10 + gl i3)) F_204 (⟨by omega, by omega, fun q9 h1 h2 => by rcases Nat.lt_or_ge q9 i3 with w9 | w9; exact hs3_ q9 h1 w9; rw [show q9 = i3 by omega]; exact hn61, ltm_k hs4_ hs1_ hnw hsm9 hgl9, hE7_, hE8_⟩) (by show i2 - (i3 + 1) < i2 - i3; omega) hO hR _ _ hP hD hS ls (lv_sub hl [1, 0, 2, 3, 4, 5, 6, 7, 8] rfl)
      ·
        have hi_265 : i2 < (gd jf) := ltN (N := (gd jf)) c_202
        have hi2b : i2 < (gd jf) := Nat.not_le.mp (fun q => c_202 ((nI_leI (by omega) (by omega)).mpr q))
        refine lv_aload_n hx hb dX15_fieldsPlain_232 rfl (lv_at hl 7 rfl) ?_
        refine pg_get (ci := 15) (v := .ref ml) (C := RX15) (T := TX15) (N := 59) hx hb hts it_15 hown hK hP hL_h0 hF_200 rfl 23 (by decide) (hts _ kt_887) (fun _ h9 => h9) rfl dX15_fieldsPlain_233 ?_
        refine lv_iload hx hb dX15_fieldsPlain_236 (lv_at hl 2 rfl) ?_
        refine pg_bald hx hb hK hP hi_77 1 hF_199 rfl (vp_in_nI (by omega) (by omega)) dX15_fieldsPlain_238 ?_
        refine lv_topi (fun x_266 ex_266 => ?_)
        obtain rfl : x_266 = gl i2 := ex_266.trans (congrArg gl (show ((nI i2) : Int32).toNatClampNeg = i2 from nI_clamp (by omega)))
        refine lv_bipush (v := 59) hx hb dX15_fieldsPlain_239 (by decide) ?_
        refine lv_icmp_eq (tgt := 250) hx hb dX15_fieldsPlain_241 (by decide) (fun c_267 => ?_) (fun c_267 => ?_)
        ·
          have h59 : (TC gl mm) i2 = 59 := (tcc (show i2 < mm by omega) 59 (by omega)).mpr c_267
          have hq59 : fdT (TC gl mm) 59 j2 (gd jf) = i2 := fd_at hf1_ hf2_ hf3_ (Or.inr h59)
          obtain ⟨hsml, hown2⟩ := owi_s ho3 (by omega) (show fdT (TC gl mm) 59 ((gm 1 jf + 1) + (j2 - (gm 1 jf + 1))) ((gm 1 jf + 1) + (gd jf - (gm 1 jf + 1))) = i2 by rw [show (gm 1 jf + 1) + (j2 - (gm 1 jf + 1)) = j2 by omega, show (gm 1 jf + 1) + (gd jf - (gm 1 jf + 1)) = gd jf by omega]; exact hq59)
          rw [show (gm 1 jf + 1) + (j2 - (gm 1 jf + 1)) = j2 by omega] at hsml
          refine W.widen (k := 0) (n := 0) (by omega) (by omega) ?_
          have hF_269 : F se = .inr (13, [.ref sx, .ref s0, .ref s1, .ref s2, .int (nI nn)]) := (hR se (by rw [ht_29]; simp)).symm.trans hF_193
          have hF_270 : F sx = .inr (14, [.ref sb, .int (nI zx)]) := (hR sx (by rw [hT_sx]; simp)).symm.trans hF_194
          have hF_271 : F sb = .inl (cs 17, 3000, .inl fb) := (hR sb (by rw [ht_39]; simp)).symm.trans hF_195
          have hF_272 : F s0 = .inl (cs 16, 40, .inl e0) := (hR s0 (by rw [ht_33]; simp)).symm.trans hF_196
          have hF_273 : F s1 = .inl (cs 16, 40, .inl e1) := (hR s1 (by rw [ht_34]; simp)).symm.trans hF_197
          have hF_274 : F s2 = .inl (cs 16, 40, .inl e2) := (hR s2 (by rw [ht_35]; simp)).symm.trans hF_198
          have hF_275 : F ml = .inl (cs 17, 3000, .inl gl) := (hR ml (by rw [ht_78]; simp)).symm.trans hF_199
          have hF_276 : F h0 = .inr (15, (.ref ta) :: (.int (nI zt)) :: (.int (nI zo)) :: (.int (nI ze)) :: (.ref ou) :: (.ref so) :: (.ref ad) :: (.ref na) :: (.ref va) :: (.ref lc) :: (.ref dm) :: (.int (nI fm)) :: (.int (nI sn)) :: (.ref tg) :: (.int v14_46) :: (.int v15_47) :: (.ref pe) :: (.int v17_48) :: (.int v18_49) :: (.int v19_50) :: (.int v20_51) :: (.int v21_52) :: (.int v22_53) :: (.ref ml) :: (.ref bg) :: (.ref co) :: (.ref sp) :: (.ref nb0) :: (.ref nb1) :: (.ref nb2) :: (.int (nI nf)) :: (.int (nI bd)) :: (.int (nI mm)) :: (.int v33_54) :: (.ref pl) :: (.ref se) :: (.ref ke) :: (.ref wi) :: (.ref hs) :: (.ref mo) :: (.ref po) :: (.ref nu) :: (.ref pr) :: (.ref sq) :: (.ref xa) :: (.ref sa) :: (.ref n64) :: (.ref m64) :: (.ref ex) :: (.ref wh) :: (.ref sd) :: (.ref tk) :: (.int v0) :: (.int v53_56) :: (.int v54_57) :: (.ref hd) :: (.ref ak) :: (.ref ho) :: (.ref ot) :: []) := (hR h0 (by rw [hT_h0]; simp)).symm.trans hF_200
          have hF_277 : F co = .inl (cs 16, 21, .inl f_133) := (hR co (by rw [ht_132]; simp)).symm.trans hF_201
          refine pl_loopm (σ := Nat × Int32) A (dC, dI) cs ty gm L [ρ + 10, ρ + 26] F 250 11 (fun (i3, w10) => [(10, .int w10), (9, .int (nI i3)), (8, .int (nI i2)), (7, .int (nI (gd jf))), (6, .int (nI w6)), (5, .int (nI w5)), (4, .int (nI j2)), (0, .ref h0), (1, .int (nI jf))]) (fun (i3, w10) => []) (fun (i3, w10) FF => j2 ≤ i3 ∧ i3 ≤ i2 ∧ (∀ q9, j2 ≤ q9 → q9 < i3 → ¬ (TC gl mm) q9 = 61) ∧ LTM (TC gl mm) j2 i3 w10 ∧ FF pl = .inr (14, [.ref rl, .int (nI (adl (clr gl) (TC gl mm) (TC fb zx) (gm 0) (gm 1) gd nf v0 (hsG (TC fb zx) (gq 1 j + 1) (gq 2 j))).2.length)]) ∧ FF rl = .inl (cs 17, 6000, .inl fq)) (fun (i3, w10) => i2 - i3) ?_ (j2, 0) F_181 (⟨Nat.le_refl _, by omega, fun q9 h1 h2 => absurd h2 (by omega), ltm_0, hE3_, hE4_⟩) hO hR _ _ hP hD hS ls (lv_sub hl [0, 1, 2, 3, 4, 5, 6, 7, 8] rfl)
          rintro ⟨i3, w10⟩ F_268 hv_278 hO hR ih_279 H locs hP hD hS ls hl
          have hl : lv_has ls 11 [(10, .int w10), (9, .int (nI i3)), (8, .int (nI i2)), (7, .int (nI (gd jf))), (6, .int (nI w6)), (5, .int (nI w5)), (4, .int (nI j2)), (0, .ref h0), (1, .int (nI jf))] := hl
          have hv_278 : j2 ≤ i3 ∧ i3 ≤ i2 ∧ (∀ q9, j2 ≤ q9 → q9 < i3 → ¬ (TC gl mm) q9 = 61) ∧ LTM (TC gl mm) j2 i3 w10 ∧ F_268 pl = .inr (14, [.ref rl, .int (nI (adl (clr gl) (TC gl mm) (TC fb zx) (gm 0) (gm 1) gd nf v0 (hsG (TC fb zx) (gq 1 j + 1) (gq 2 j))).2.length)]) ∧ F_268 rl = .inl (cs 17, 6000, .inl fq) := hv_278
          refine W.eq (g2 := F0 m 250 ls []) rfl ?_
          have hF_280 : F_268 se = .inr (13, [.ref sx, .ref s0, .ref s1, .ref s2, .int (nI nn)]) := (hR se (by rw [ht_29]; simp)).trans hF_269
          have hF_281 : F_268 sx = .inr (14, [.ref sb, .int (nI zx)]) := (hR sx (by rw [hT_sx]; simp)).trans hF_270
          have hF_282 : F_268 sb = .inl (cs 17, 3000, .inl fb) := (hR sb (by rw [ht_39]; simp)).trans hF_271
          have hF_283 : F_268 s0 = .inl (cs 16, 40, .inl e0) := (hR s0 (by rw [ht_33]; simp)).trans hF_272
          have hF_284 : F_268 s1 = .inl (cs 16, 40, .inl e1) := (hR s1 (by rw [ht_34]; simp)).trans hF_273
          have hF_285 : F_268 s2 = .inl (cs 16, 40, .inl e2) := (hR s2 (by rw [ht_35]; simp)).trans hF_274
          have hF_286 : F_268 ml = .inl (cs 17, 3000, .inl gl) := (hR ml (by rw [ht_78]; simp)).trans hF_275
          have hF_287 : F_268 h0 = .inr (15, (.ref ta) :: (.int (nI zt)) :: (.int (nI zo)) :: (.int (nI ze)) :: (.ref ou) :: (.ref so) :: (.ref ad) :: (.ref na) :: (.ref va) :: (.ref lc) :: (.ref dm) :: (.int (nI fm)) :: (.int (nI sn)) :: (.ref tg) :: (.int v14_46) :: (.int v15_47) :: (.ref pe) :: (.int v17_48) :: (.int v18_49) :: (.int v19_50) :: (.int v20_51) :: (.int v21_52) :: (.int v22_53) :: (.ref ml) :: (.ref bg) :: (.ref co) :: (.ref sp) :: (.ref nb0) :: (.ref nb1) :: (.ref nb2) :: (.int (nI nf)) :: (.int (nI bd)) :: (.int (nI mm)) :: (.int v33_54) :: (.ref pl) :: (.ref se) :: (.ref ke) :: (.ref wi) :: (.ref hs) :: (.ref mo) :: (.ref po) :: (.ref nu) :: (.ref pr) :: (.ref sq) :: (.ref xa) :: (.ref sa) :: (.ref n64) :: (.ref m64) :: (.ref ex) :: (.ref wh) :: (.ref sd) :: (.ref tk) :: (.int v0) :: (.int v53_56) :: (.int v54_57) :: (.ref hd) :: (.ref ak) :: (.ref ho) :: (.ref ot) :: []) := (hR h0 (by rw [hT_h0]; simp)).trans hF_276
          have hF_288 : F_268 co = .inl (cs 16, 21, .inl f_133) := (hR co (by rw [ht_132]; simp)).trans hF_277
          obtain ⟨hs1_, hs2_, hs3_, hs4_, hE7_, hE8_⟩ := id hv_278
          refine lv_iload hx hb dX15_fieldsPlain_250 (lv_at hl 1 rfl) ?_
          refine lv_iload hx hb dX15_fieldsPlain_252 (lv_at hl 2 rfl) ?_
          have hF_291 : F se = .inr (13, [.ref sx, .ref s0, .ref s1, .ref s2, .int (nI nn)]) := (hR se (by rw [ht_29]; simp)).symm.trans hF_280
          have hF_292 : F sx = .inr (14, [.ref sb, .int (nI zx)]) := (hR sx (by rw [hT_sx]; simp)).symm.trans hF_281
          have hF_293 : F sb = .inl (cs 17, 3000, .inl fb) := (hR sb (by rw [ht_39]; simp)).symm.trans hF_282
          have hF_294 : F s0 = .inl (cs 16, 40, .inl e0) := (hR s0 (by rw [ht_33]; simp)).symm.trans hF_283
          have hF_295 : F s1 = .inl (cs 16, 40, .inl e1) := (hR s1 (by rw [ht_34]; simp)).symm.trans hF_284
          have hF_296 : F s2 = .inl (cs 16, 40, .inl e2) := (hR s2 (by rw [ht_35]; simp)).symm.trans hF_285
          have hF_297 : F ml = .inl (cs 17, 3000, .inl gl) := (hR ml (by rw [ht_78]; simp)).symm.trans hF_286
          have hF_298 : F h0 = .inr (15, (.ref ta) :: (.int (nI zt)) :: (.int (nI zo)) :: (.int (nI ze)) :: (.ref ou) :: (.ref so) :: (.ref ad) :: (.ref na) :: (.ref va) :: (.ref lc) :: (.ref dm) :: (.int (nI fm)) :: (.int (nI sn)) :: (.ref tg) :: (.int v14_46) :: (.int v15_47) :: (.ref pe) :: (.int v17_48) :: (.int v18_49) :: (.int v19_50) :: (.int v20_51) :: (.int v21_52) :: (.int v22_53) :: (.ref ml) :: (.ref bg) :: (.ref co) :: (.ref sp) :: (.ref nb0) :: (.ref nb1) :: (.ref nb2) :: (.int (nI nf)) :: (.int (nI bd)) :: (.int (nI mm)) :: (.int v33_54) :: (.ref pl) :: (.ref se) :: (.ref ke) :: (.ref wi) :: (.ref hs) :: (.ref mo) :: (.ref po) :: (.ref nu) :: (.ref pr) :: (.ref sq) :: (.ref xa) :: (.ref sa) :: (.ref n64) :: (.ref m64) :: (.ref ex) :: (.ref wh) :: (.ref sd) :: (.ref tk) :: (.int v0) :: (.int v53_56) :: (.int v54_57) :: (.ref hd) :: (.ref ak) :: (.ref ho) :: (.ref ot) :: []) := (hR h0 (by rw [hT_h0]; simp)).symm.trans hF_287
          have hF_299 : F co = .inl (cs 16, 21, .inl f_133) := (hR co (by rw [ht_132]; simp)).symm.trans hF_288
          refine W.widen (k := 0) (n := 0) (by omega) (by omega) ?_
          refine pl_cutm (σ := Unit) A (dC, dI) cs ty gm L [ρ + 10, ρ + 26] F 316 11 (fun u0 => [(10, .int w10), (9, .int (nI i3)), (8, .int (nI i2)), (7, .int (nI (gd jf))), (6, .int (nI w6)), (5, .int (nI w5)), (4, .int (nI j2)), (0, .ref h0), (1, .int (nI jf))]) (fun u0 => []) (fun u0 FF => fdT (TC gl mm) 61 j2 i2 = i3 ∧ (w10 = 98 ↔ LTB (TC gl mm) j2 i3) ∧ FF pl = .inr (14, [.ref rl, .int (nI (adl (clr gl) (TC gl mm) (TC fb zx) (gm 0) (gm 1) gd nf v0 (hsG (TC fb zx) (gq 1 j + 1) (gq 2 j))).2.length)]) ∧ FF rl = .inl (cs 17, 6000, .inl fq)) ?_ (fun jn_289 => ?_)
          ·
            rintro u0 F_290 hv_300 hO hR H locs hP hD hS ls hl
            have hl : lv_has ls 11 [(10, .int w10), (9, .int (nI i3)), (8, .int (nI i2)), (7, .int (nI (gd jf))), (6, .int (nI w6)), (5, .int (nI w5)), (4, .int (nI j2)), (0, .ref h0), (1, .int (nI jf))] := hl
            have hv_300 : fdT (TC gl mm) 61 j2 i2 = i3 ∧ (w10 = 98 ↔ LTB (TC gl mm) j2 i3) ∧ F_290 pl = .inr (14, [.ref rl, .int (nI (adl (clr gl) (TC gl mm) (TC fb zx) (gm 0) (gm 1) gd nf v0 (hsG (TC fb zx) (gq 1 j + 1) (gq 2 j))).2.length)]) ∧ F_290 rl = .inl (cs 17, 6000, .inl fq) := hv_300
            refine W.eq (g2 := F0 m 316 ls []) rfl ?_
            have hF_301 : F_290 se = .inr (13, [.ref sx, .ref s0, .ref s1, .ref s2, .int (nI nn)]) := (hR se (by rw [ht_29]; simp)).trans hF_291
            have hF_302 : F_290 sx = .inr (14, [.ref sb, .int (nI zx)]) := (hR sx (by rw [hT_sx]; simp)).trans hF_292
            have hF_303 : F_290 sb = .inl (cs 17, 3000, .inl fb) := (hR sb (by rw [ht_39]; simp)).trans hF_293
            have hF_304 : F_290 s0 = .inl (cs 16, 40, .inl e0) := (hR s0 (by rw [ht_33]; simp)).trans hF_294
            have hF_305 : F_290 s1 = .inl (cs 16, 40, .inl e1) := (hR s1 (by rw [ht_34]; simp)).trans hF_295
            have hF_306 : F_290 s2 = .inl (cs 16, 40, .inl e2) := (hR s2 (by rw [ht_35]; simp)).trans hF_296
            have hF_307 : F_290 ml = .inl (cs 17, 3000, .inl gl) := (hR ml (by rw [ht_78]; simp)).trans hF_297
            have hF_308 : F_290 h0 = .inr (15, (.ref ta) :: (.int (nI zt)) :: (.int (nI zo)) :: (.int (nI ze)) :: (.ref ou) :: (.ref so) :: (.ref ad) :: (.ref na) :: (.ref va) :: (.ref lc) :: (.ref dm) :: (.int (nI fm)) :: (.int (nI sn)) :: (.ref tg) :: (.int v14_46) :: (.int v15_47) :: (.ref pe) :: (.int v17_48) :: (.int v18_49) :: (.int v19_50) :: (.int v20_51) :: (.int v21_52) :: (.int v22_53) :: (.ref ml) :: (.ref bg) :: (.ref co) :: (.ref sp) :: (.ref nb0) :: (.ref nb1) :: (.ref nb2) :: (.int (nI nf)) :: (.int (nI bd)) :: (.int (nI mm)) :: (.int v33_54) :: (.ref pl) :: (.ref se) :: (.ref ke) :: (.ref wi) :: (.ref hs) :: (.ref mo) :: (.ref po) :: (.ref nu) :: (.ref pr) :: (.ref sq) :: (.ref xa) :: (.ref sa) :: (.ref n64) :: (.ref m64) :: (.ref ex) :: (.ref wh) :: (.ref sd) :: (.ref tk) :: (.int v0) :: (.int v53_56) :: (.int v54_57) :: (.ref hd) :: (.ref ak) :: (.ref ho) :: (.ref ot) :: []) := (hR h0 (by rw [hT_h0]; simp)).trans hF_298
            have hF_309 : F_290 co = .inl (cs 16, 21, .inl f_133) := (hR co (by rw [ht_132]; simp)).trans hF_299
            obtain ⟨hq61, hlt9, hE9_, hE0_⟩ := id hv_300
            refine lv_iload hx hb dX15_fieldsPlain_316 (lv_at hl 0 rfl) ?_
            refine lv_bipush (v := 98) hx hb dX15_fieldsPlain_318 (by decide) ?_
            refine lv_icmp_ne (tgt := 333) hx hb dX15_fieldsPlain_320 (by decide) (fun c_310 => ?_) (fun c_310 => ?_)
            ·
              refine lv_iload hx hb dX15_fieldsPlain_333 (lv_at hl 2 rfl) ?_
              refine lv_iconst (v := 1) hx hb dX15_fieldsPlain_335 (by decide) ?_
              refine lv_iadd hx hb dX15_fieldsPlain_336 ?_
              refine lv_topi (fun x_311 ex_311 => ?_)
              obtain rfl : x_311 = (nI (i2 + 1)) := ex_311.trans (nI_1 i2)
              refine lv_istore (lv' := [(4, .int (nI (i2 + 1))), (10, .int w10), (9, .int (nI i3)), (8, .int (nI i2)), (7, .int (nI (gd jf))), (6, .int (nI w6)), (5, .int (nI w5)), (0, .ref h0), (1, .int (nI jf))]) hx hb dX15_fieldsPlain_337 hl (by decide) rfl (fun ls hl => ?_)
              refine lv_goto (tgt := 207) hx hb dX15_fieldsPlain_339 (by decide) ?_
              refine W.widen (k := 0) (n := 0) (by omega) (by omega) ?_
              exact ih_153 ((i2 + 1), w5, w6, acc) F_290 (⟨by omega, by omega, (by rw [show i2 + 1 - (gm 1 jf + 1) = i2 - (gm 1 jf + 1) + 1 by omega]; exact hown2), (ho4.trans (owL_x (by omega) hq59 hq61 (fun q => c_310 (hlt9.mpr q)))), ho5, hE9_, hE0_⟩) (by show gd jf + 1 - (i2 + 1) < gd jf + 1 - j2; omega) hO hR _ _ hP hD hS ls (lv_sub hl [4, 5, 6, 0, 7, 8] rfl)
            ·
              refine lv_iload hx hb dX15_fieldsPlain_323 (lv_at hl 1 rfl) ?_
              refine lv_iconst (v := 1) hx hb dX15_fieldsPlain_325 (by decide) ?_
              refine lv_iadd hx hb dX15_fieldsPlain_326 ?_
              refine lv_topi (fun x_312 ex_312 => ?_)
              obtain rfl : x_312 = (nI (i3 + 1)) := ex_312.trans (nI_1 i3)
              refine lv_istore (lv' := [(5, .int (nI (i3 + 1))), (10, .int w10), (9, .int (nI i3)), (8, .int (nI i2)), (7, .int (nI (gd jf))), (6, .int (nI w6)), (4, .int (nI j2)), (0, .ref h0), (1, .int (nI jf))]) hx hb dX15_fieldsPlain_327 hl (by decide) rfl (fun ls hl => ?_)
              refine lv_iload hx hb dX15_fieldsPlain_329 (lv_at hl 3 rfl) ?_
              refine lv_istore (lv' := [(6, .int (nI i2)), (5, .int (nI (i3 + 1))), (10, .int w10), (9, .int (nI i3)), (8, .int (nI i2)), (7, .int (nI (gd jf))), (4, .int (nI j2)), (0, .ref h0), (1, .int (nI jf))]) hx hb dX15_fieldsPlain_331 hl (by decide) rfl (fun ls hl => ?_)
              refine lv_iload hx hb dX15_fieldsPlain_333 (lv_at hl 4 rfl) ?_
              refine lv_iconst (v := 1) hx hb dX15_fieldsPlain_335 (by decide) ?_
              refine lv_iadd hx hb dX15_fieldsPlain_336 ?_
              refine lv_topi (fun x_313 ex_313 => ?_)
              obtain rfl : x_313 = (nI (i2 + 1)) := ex_313.trans (nI_1 i2)
              refine lv_istore (lv' := [(4, .int (nI (i2 + 1))), (6, .int (nI i2)), (5, .int (nI (i3 + 1))), (10, .int w10), (9, .int (nI i3)), (8, .int (nI i2)), (7, .int (nI (gd jf))), (0, .ref h0), (1, .int (nI jf))]) hx hb dX15_fieldsPlain_337 hl (by decide) rfl (fun ls hl => ?_)
              refine lv_goto (tgt := 207) hx hb dX15_fieldsPlain_339 (by decide) ?_
              refine W.widen (k := 0) (n := 0) (by omega) (by omega) ?_
              exact ih_153 ((i2 + 1), (i3 + 1), i2, (some (i3 + 1, i2))) F_290 (⟨by omega, by omega, (by rw [show i2 + 1 - (gm 1 jf + 1) = i2 - (gm 1 jf + 1) + 1 by omega]; exact hown2), (ho4.trans (owL_y (by omega) hq59 hq61 (hlt9.mp c_310))), (Or.inr rfl), hE9_, hE0_⟩) (by show gd jf + 1 - (i2 + 1) < gd jf + 1 - j2; omega) hO hR _ _ hP hD hS ls (lv_sub hl [6, 1, 2, 0, 7, 8] rfl)
          ·
            refine lv_icmp_ge (tgt := 316) hx hb dX15_fieldsPlain_254 (by decide) (fun c_314 => ?_) (fun c_314 => ?_)
            ·
              have hi_315 : i2 ≤ i3 := leN (N := i2) c_314
              have hi3b : i2 ≤ i3 := (nI_leI (by omega) (by omega)).mp c_314
              refine W.widen (k := 0) (n := 0) (by omega) (by omega) ?_
              exact jn_289 () F_268 (⟨fd_at hs1_ hs2_ hs3_ (Or.inl (by omega)), ltm_e hs4_, hE7_, hE8_⟩) hO hR _ _ hP hD hS ls (lv_sub hl [0, 1, 2, 3, 4, 5, 6, 7, 8] rfl)
            ·
              have hi_316 : i3 < i2 := ltN (N := i2) c_314
              have hi3b : i3 < i2 := Nat.not_le.mp (fun q => c_314 ((nI_leI (by omega) (by omega)).mpr q))
              refine lv_aload_n hx hb dX15_fieldsPlain_257 rfl (lv_at hl 7 rfl) ?_
              refine pg_get (ci := 15) (v := .ref ml) (C := RX15) (T := TX15) (N := 59) hx hb hts it_15 hown hK hP hL_h0 hF_287 rfl 23 (by decide) (hts _ kt_887) (fun _ h9 => h9) rfl dX15_fieldsPlain_258 ?_
              refine lv_iload hx hb dX15_fieldsPlain_261 (lv_at hl 1 rfl) ?_
              refine pg_bald hx hb hK hP hi_77 1 hF_286 rfl (vp_in_nI (by omega) (by omega)) dX15_fieldsPlain_263 ?_
              refine lv_topi (fun x_317 ex_317 => ?_)
              obtain rfl : x_317 = gl i3 := ex_317.trans (congrArg gl (show ((nI i3) : Int32).toNatClampNeg = i3 from nI_clamp (by omega)))
              refine lv_bipush (v := 61) hx hb dX15_fieldsPlain_264 (by decide) ?_
              refine lv_icmp_eq (tgt := 316) hx hb dX15_fieldsPlain_266 (by decide) (fun c_318 => ?_) (fun c_318 => ?_)
              ·
                have h61 : (TC gl mm) i3 = 61 := (tcc (show i3 < mm by omega) 61 (by omega)).mpr c_318
                refine W.widen (k := 0) (n := 0) (by omega) (by omega) ?_
                exact jn_289 () F_268 (⟨fd_at hs1_ hs2_ hs3_ (Or.inr h61), ltm_e hs4_, hE7_, hE8_⟩) hO hR _ _ hP hD hS ls (lv_sub hl [0, 1, 2, 3, 4, 5, 6, 7, 8] rfl)
              ·
                have hn61 : ¬ (TC gl mm) i3 = 61 := fun q => c_318 ((tcc (show i3 < mm by omega) 61 (by omega)).mp q)
                refine lv_aload_n hx hb dX15_fieldsPlain_269 rfl (lv_at hl 7 rfl) ?_
                refine pg_get (ci := 15) (v := .ref ml) (C := RX15) (T := TX15) (N := 59) hx hb hts it_15 hown hK hP hL_h0 hF_287 rfl 23 (by decide) (hts _ kt_887) (fun _ h9 => h9) rfl dX15_fieldsPlain_270 ?_
                refine lv_iload hx hb dX15_fieldsPlain_273 (lv_at hl 1 rfl) ?_
                refine pg_bald hx hb hK hP hi_77 1 hF_286 rfl (vp_in_nI (by omega) (by omega)) dX15_fieldsPlain_275 ?_
                refine lv_topi (fun x_319 ex_319 => ?_)
                obtain rfl : x_319 = gl i3 := ex_319.trans (congrArg gl (show ((nI i3) : Int32).toNatClampNeg = i3 from nI_clamp (by omega)))
                have hFc := pg_free hD hS hA
                refine va_calli (va_runS (As := [.int (gl i3)]) (rest := []) ⟨hx, hb, hml, hown, hts⟩ (s_X15_isWhite_e l dC dI cs ty gm L H.size F_268 (gl i3) hW ) ⟨callB_of 1 hts (gi kt_715) rfl rfl rfl (hts _ kt_669) (hts _ kt_716) (by decide +kernel) ⟨Nat.le_of_ble_eq_true rfl, Nat.le_of_ble_eq_true rfl⟩, (hts _ kt_717)⟩ ⟨fun a U g mk q => ⟨q.1, PTm.calling q.2⟩, fun U hU hWm => ⟨rfl, PTm.mk hU hWm hP hK hD hE hO⟩⟩ rfl rfl hl.1 rfl (lv_room (Nat.le_of_ble_eq_true rfl)) dX15_fieldsPlain_276 ⟨by show _ + 0 ≤ 0; omega, by show _ + 0 ≤ 0; omega⟩) hS (fun q _ h => hFc q h) hFc (fun r_320 u t H1 locs ht hvm hw hB hz1 hk1 hS => ?_)
                obtain ⟨F_321, hB1⟩ := hB
                obtain rfl : F_268 = F_321 := (funext (fun a => hB1.2.2.2 a List.not_mem_nil)).symm
                obtain ⟨hP, hD, hO, hR⟩ := QTm.back hB1 ht hFc hR (fun q h => absurd h List.not_mem_nil)
                generalize H1 = H at hP hS ⊢
                have hw : r_320 = (if (gl i3) = 32 ∨ (gl i3) = 9 then 1 else 0) := hw
                have hw_322 := hw
                refine lv_if_ne (tgt := 310) hx hb dX15_fieldsPlain_279 (by decide) (fun c_323 => ?_) (fun c_323 => ?_)
                ·
                  refine lv_iinc (v := (nI (i3 + 1))) (lv' := [(9, .int (nI (i3 + 1))), (10, .int w10), (8, .int (nI i2)), (7, .int (nI (gd jf))), (6, .int (nI w6)), (5, .int (nI w5)), (4, .int (nI j2)), (0, .ref h0), (1, .int (nI jf))]) hx hb dX15_fieldsPlain_310 hl (k := 1) rfl (nI_1 _) (by decide) rfl (fun ls hl => ?_)
                  refine lv_goto (tgt := 250) hx hb dX15_fieldsPlain_313 (by decide) ?_
                  refine W.widen (k := 0) (n := 0) (by omega) (by omega) ?_
                  exact ih_279 ((i3 + 1), w10) F_268 (⟨by omega, by omega, fun q9 h1 h2 => by rcases Nat.lt_or_ge q9 i3 with w9 | w9; exact hs3_ q9 h1 w9; rw [show q9 = i3 by omega]; exact hn61, ltm_w hs4_ hs1_ (by rcases ifb1 hw_322 c_323 with q | q; exact Or.inl ((tcc (show i3 < mm by omega) 32 (by omega)).mpr q); exact Or.inr (Or.inl ((tcc (show i3 < mm by omega) 9 (by omega)).mpr q))), hE7_, hE8_⟩) (by show i2 - (i3 + 1) < i2 - i3; omega) hO hR _ _ hP hD hS ls (lv_sub hl [1, 0, 2, 3, 4, 5, 6, 7, 8] rfl)
                ·
                  refine lv_aload_n hx hb dX15_fieldsPlain_282 rfl (lv_at hl 7 rfl) ?_
                  refine pg_get (ci := 15) (v := .ref ml) (C := RX15) (T := TX15) (N := 59) hx hb hts it_15 hown hK hP hL_h0 hF_287 rfl 23 (by decide) (hts _ kt_887) (fun _ h9 => h9) rfl dX15_fieldsPlain_283 ?_
                  refine lv_iload hx hb dX15_fieldsPlain_286 (lv_at hl 1 rfl) ?_
                  refine pg_bald hx hb hK hP hi_77 1 hF_286 rfl (vp_in_nI (by omega) (by omega)) dX15_fieldsPlain_288 ?_
                  refine lv_topi (fun x_324 ex_324 => ?_)
                  obtain rfl : x_324 = gl i3 := ex_324.trans (congrArg gl (show ((nI i3) : Int32).toNatClampNeg = i3 from nI_clamp (by omega)))
                  refine lv_bipush (v := 10) hx hb dX15_fieldsPlain_289 (by decide) ?_
                  refine lv_icmp_eq (tgt := 310) hx hb dX15_fieldsPlain_291 (by decide) (fun c_325 => ?_) (fun c_325 => ?_)
                  ·
                    refine lv_iinc (v := (nI (i3 + 1))) (lv' := [(9, .int (nI (i3 + 1))), (10, .int w10), (8, .int (nI i2)), (7, .int (nI (gd jf))), (6, .int (nI w6)), (5, .int (nI w5)), (4, .int (nI j2)), (0, .ref h0), (1, .int (nI jf))]) hx hb dX15_fieldsPlain_310 hl (k := 1) rfl (nI_1 _) (by decide) rfl (fun ls hl => ?_)
                    refine lv_goto (tgt := 250) hx hb dX15_fieldsPlain_313 (by decide) ?_
                    refine W.widen (k := 0) (n := 0) (by omega) (by omega) ?_
                    exact ih_279 ((i3 + 1), w10) F_268 (⟨by omega, by omega, fun q9 h1 h2 => by rcases Nat.lt_or_ge q9 i3 with w9 | w9; exact hs3_ q9 h1 w9; rw [show q9 = i3 by omega]; exact hn61, ltm_w hs4_ hs1_ (Or.inr (Or.inr ((tcc (show i3 < mm by omega) 10 (by omega)).mpr c_325))), hE7_, hE8_⟩) (by show i2 - (i3 + 1) < i2 - i3; omega) hO hR _ _ hP hD hS ls (lv_sub hl [1, 0, 2, 3, 4, 5, 6, 7, 8] rfl)
                  ·
                    have hnw : ¬ ((TC gl mm) i3 = 32 ∨ (TC gl mm) i3 = 9 ∨ (TC gl mm) i3 = 10) := fun q => by rcases q with q | q | q; exact ifb0 hw_322 c_323 (Or.inl ((tcc (show i3 < mm by omega) 32 (by omega)).mp q)); exact ifb0 hw_322 c_323 (Or.inr ((tcc (show i3 < mm by omega) 9 (by omega)).mp q)); exact c_325 ((tcc (show i3 < mm by omega) 10 (by omega)).mp q)
                    have hsm9 : SML ((TC gl mm) i3) := (hsml i3 hs1_ (fd_gt hs1_ hi3b (fun q9 h1 h2 => by rcases Nat.lt_or_ge q9 i3 with w9 | w9; exact hs3_ q9 h1 w9; rw [show q9 = i3 by omega]; exact hn61))).resolve_left hnw
                    have hgl9 : gl i3 = nI ((TC gl mm) i3) := tc_nI (by omega) (by have h9 := hsm9.2; omega)
                    refine lv_sipush (v := 256) hx hb dX15_fieldsPlain_294 (by decide) ?_
                    refine lv_iload hx hb dX15_fieldsPlain_297 (lv_at hl 0 rfl) ?_
                    refine lv_imul hx hb dX15_fieldsPlain_299 ?_
                    refine lv_topi (fun x_326 ex_326 => ?_)
                    obtain rfl : x_326 = (256 * w10) := ex_326.trans (rfl)
                    refine lv_aload_n hx hb dX15_fieldsPlain_300 rfl (lv_at hl 7 rfl) ?_
                    refine pg_get (ci := 15) (v := .ref ml) (C := RX15) (T := TX15) (N := 59) hx hb hts it_15 hown hK hP hL_h0 hF_287 rfl 23 (by decide) (hts _ kt_887) (fun _ h9 => h9) rfl dX15_fieldsPlain_301 ?_
                    refine lv_iload hx hb dX15_fieldsPlain_304 (lv_at hl 1 rfl) ?_
                    refine pg_bald hx hb hK hP hi_77 1 hF_286 rfl (vp_in_nI (by omega) (by omega)) dX15_fieldsPlain_306 ?_
                    refine lv_topi (fun x_327 ex_327 => ?_)
                    obtain rfl : x_327 = gl i3 := ex_327.trans (congrArg gl (show ((nI i3) : Int32).toNatClampNeg = i3 from nI_clamp (by omega)))
                    refine lv_iadd hx hb dX15_fieldsPlain_307 ?_
                    refine lv_topi (fun x_328 ex_328 => ?_)
                    obtain rfl : x_328 = (256 * w10 + gl i3) := ex_328.trans (rfl)
                    refine lv_istore (lv' := [(10, .int (256 * w10 + gl i3)), (9, .int (nI i3)), (8, .int (nI i2)), (7, .int (nI (gd jf))), (6, .int (nI w6)), (5, .int (nI w5)), (4, .int (nI j2)), (0, .ref h0), (1, .int (nI jf))]) hx hb dX15_fieldsPlain_308 hl (by decide) rfl (fun ls hl => ?_)
                    refine lv_iinc (v := (nI (i3 + 1))) (lv' := [(9, .int (nI (i3 + 1))), (10, .int (256 * w10 + gl i3)), (8, .int (nI i2)), (7, .int (nI (gd jf))), (6, .int (nI w6)), (5, .int (nI w5)), (4, .int (nI j2)), (0, .ref h0), (1, .int (nI jf))]) hx hb dX15_fieldsPlain_310 hl (k := 1) rfl (nI_1 _) (by decide) rfl (fun ls hl => ?_)
                    refine lv_goto (tgt := 250) hx hb dX15_fieldsPlain_313 (by decide) ?_
                    refine W.widen (k := 0) (n := 0) (by omega) (by omega) ?_
                    exact ih_279 ((i3 + 1), (256 * w10 + gl i3)) F_268 (⟨by omega, by omega, fun q9 h1 h2 => by rcases Nat.lt_or_ge q9 i3 with w9 | w9; exact hs3_ q9 h1 w9; rw [show q9 = i3 by omega]; exact hn61, ltm_k hs4_ hs1_ hnw hsm9 hgl9, hE7_, hE8_⟩) (by show i2 - (i3 + 1) < i2 - i3; omega) hO hR _ _ hP hD hS ls (lv_sub hl [1, 0, 2, 3, 4, 5, 6, 7, 8] rfl)
        ·
          have hn59 : ¬ (TC gl mm) i2 = 59 := fun q => c_267 ((tcc (show i2 < mm by omega) 59 (by omega)).mp q)
          refine lv_iinc (v := (nI (i2 + 1))) (lv' := [(8, .int (nI (i2 + 1))), (10, .int 0), (9, .int (nI j2)), (7, .int (nI (gd jf))), (6, .int (nI w6)), (5, .int (nI w5)), (4, .int (nI j2)), (0, .ref h0), (1, .int (nI jf))]) hx hb dX15_fieldsPlain_244 hl (k := 2) rfl (nI_1 _) (by decide) rfl (fun ls hl => ?_)
          refine lv_goto (tgt := 225) hx hb dX15_fieldsPlain_247 (by decide) ?_
          refine W.widen (k := 0) (n := 0) (by omega) (by omega) ?_
          exact ih_192 (i2 + 1) F_181 (⟨by omega, by omega, fun q9 h1 h2 => by rcases Nat.lt_or_ge q9 i2 with w9 | w9; exact hf3_ q9 h1 w9; rw [show q9 = i2 by omega]; exact hn59, hE3_, hE4_⟩) (by show gd jf - (i2 + 1) < gd jf - i2; omega) hO hR _ _ hP hD hS ls (lv_sub hl [1, 2, 0, 3, 4, 5, 6, 7, 8] rfl)
  ·
    have hi_329 : w2 ≤ (gq 2 j) := Nat.not_lt.mp (fun q => c_128 ((nI_ltI (a := (gq 2 j)) (b := w2) (by omega) (by omega)).mpr q))
    have hwe : w2 ≤ (gq 2 j) := Nat.not_lt.mp (fun q => c_128 ((nI_ltI (by omega) (by omega)).mpr q))
    refine lv_iload hx hb dX15_fieldsPlain_65 (lv_at hl 0 rfl) ?_
    refine lv_istore (lv' := [(5, .int (nI w2)), (4, .int (nI w2)), (3, .ref sb), (2, .int (nI j)), (0, .ref h0), (1, .int (nI jf))]) hx hb dX15_fieldsPlain_67 hl (by decide) rfl (fun ls hl => ?_)
    refine W.widen (k := 0) (n := 0) (by omega) (by omega) ?_
    have hF_331 : F se = .inr (13, [.ref sx, .ref s0, .ref s1, .ref s2, .int (nI nn)]) := (hR se (by rw [ht_29]; simp)).symm.trans hF_119
    have hF_332 : F sx = .inr (14, [.ref sb, .int (nI zx)]) := (hR sx (by rw [hT_sx]; simp)).symm.trans hF_120
    have hF_333 : F sb = .inl (cs 17, 3000, .inl fb) := (hR sb (by rw [ht_39]; simp)).symm.trans hF_121
    have hF_334 : F s0 = .inl (cs 16, 40, .inl e0) := (hR s0 (by rw [ht_33]; simp)).symm.trans hF_122
    have hF_335 : F s1 = .inl (cs 16, 40, .inl e1) := (hR s1 (by rw [ht_34]; simp)).symm.trans hF_123
    have hF_336 : F s2 = .inl (cs 16, 40, .inl e2) := (hR s2 (by rw [ht_35]; simp)).symm.trans hF_124
    have hF_337 : F ml = .inl (cs 17, 3000, .inl gl) := (hR ml (by rw [ht_78]; simp)).symm.trans hF_125
    have hF_338 : F h0 = .inr (15, (.ref ta) :: (.int (nI zt)) :: (.int (nI zo)) :: (.int (nI ze)) :: (.ref ou) :: (.ref so) :: (.ref ad) :: (.ref na) :: (.ref va) :: (.ref lc) :: (.ref dm) :: (.int (nI fm)) :: (.int (nI sn)) :: (.ref tg) :: (.int v14_46) :: (.int v15_47) :: (.ref pe) :: (.int v17_48) :: (.int v18_49) :: (.int v19_50) :: (.int v20_51) :: (.int v21_52) :: (.int v22_53) :: (.ref ml) :: (.ref bg) :: (.ref co) :: (.ref sp) :: (.ref nb0) :: (.ref nb1) :: (.ref nb2) :: (.int (nI nf)) :: (.int (nI bd)) :: (.int (nI mm)) :: (.int v33_54) :: (.ref pl) :: (.ref se) :: (.ref ke) :: (.ref wi) :: (.ref hs) :: (.ref mo) :: (.ref po) :: (.ref nu) :: (.ref pr) :: (.ref sq) :: (.ref xa) :: (.ref sa) :: (.ref n64) :: (.ref m64) :: (.ref ex) :: (.ref wh) :: (.ref sd) :: (.ref tk) :: (.int v0) :: (.int v53_56) :: (.int v54_57) :: (.ref hd) :: (.ref ak) :: (.ref ho) :: (.ref ot) :: []) := (hR h0 (by rw [hT_h0]; simp)).symm.trans hF_126
    refine pl_loopm (σ := Nat) A (dC, dI) cs ty gm L [ρ + 10, ρ + 26] F 69 11 (fun i => [(5, .int (nI i)), (4, .int (nI w2)), (3, .ref sb), (2, .int (nI j)), (0, .ref h0), (1, .int (nI jf))]) (fun i => []) (fun i FF => w2 ≤ i ∧ i ≤ (gq 2 j) ∧ (∀ q9, w2 ≤ q9 → q9 < i → ¬ (TC fb zx) q9 = 58) ∧ FF tk = .inl (cs 18, 20, .inl tf) ∧ FF pl = .inr (14, [.ref rl, .int (nI (adl (clr gl) (TC gl mm) (TC fb zx) (gm 0) (gm 1) gd nf v0 pre).2.length)]) ∧ FF rl = .inl (cs 17, 6000, .inl fq)) (fun i => (gq 2 j) - i) ?_ w2 F_108 (⟨Nat.le_refl _, hwe, fun q9 h1 h2 => absurd h2 (by omega), hA1, hA2, hA3⟩) hO hR _ _ hP hD hS ls (lv_sub hl [0, 1, 2, 3, 4, 5] rfl)
    rintro i F_330 hv_339 hO hR ih_340 H locs hP hD hS ls hl
    have hl : lv_has ls 11 [(5, .int (nI i)), (4, .int (nI w2)), (3, .ref sb), (2, .int (nI j)), (0, .ref h0), (1, .int (nI jf))] := hl
    have hv_339 : w2 ≤ i ∧ i ≤ (gq 2 j) ∧ (∀ q9, w2 ≤ q9 → q9 < i → ¬ (TC fb zx) q9 = 58) ∧ F_330 tk = .inl (cs 18, 20, .inl tf) ∧ F_330 pl = .inr (14, [.ref rl, .int (nI (adl (clr gl) (TC gl mm) (TC fb zx) (gm 0) (gm 1) gd nf v0 pre).2.length)]) ∧ F_330 rl = .inl (cs 17, 6000, .inl fq) := hv_339
    refine W.eq (g2 := F0 m 69 ls []) rfl ?_
    have hF_341 : F_330 se = .inr (13, [.ref sx, .ref s0, .ref s1, .ref s2, .int (nI nn)]) := (hR se (by rw [ht_29]; simp)).trans hF_331
    have hF_342 : F_330 sx = .inr (14, [.ref sb, .int (nI zx)]) := (hR sx (by rw [hT_sx]; simp)).trans hF_332
    have hF_343 : F_330 sb = .inl (cs 17, 3000, .inl fb) := (hR sb (by rw [ht_39]; simp)).trans hF_333
    have hF_344 : F_330 s0 = .inl (cs 16, 40, .inl e0) := (hR s0 (by rw [ht_33]; simp)).trans hF_334
    have hF_345 : F_330 s1 = .inl (cs 16, 40, .inl e1) := (hR s1 (by rw [ht_34]; simp)).trans hF_335
    have hF_346 : F_330 s2 = .inl (cs 16, 40, .inl e2) := (hR s2 (by rw [ht_35]; simp)).trans hF_336
    have hF_347 : F_330 ml = .inl (cs 17, 3000, .inl gl) := (hR ml (by rw [ht_78]; simp)).trans hF_337
    have hF_348 : F_330 h0 = .inr (15, (.ref ta) :: (.int (nI zt)) :: (.int (nI zo)) :: (.int (nI ze)) :: (.ref ou) :: (.ref so) :: (.ref ad) :: (.ref na) :: (.ref va) :: (.ref lc) :: (.ref dm) :: (.int (nI fm)) :: (.int (nI sn)) :: (.ref tg) :: (.int v14_46) :: (.int v15_47) :: (.ref pe) :: (.int v17_48) :: (.int v18_49) :: (.int v19_50) :: (.int v20_51) :: (.int v21_52) :: (.int v22_53) :: (.ref ml) :: (.ref bg) :: (.ref co) :: (.ref sp) :: (.ref nb0) :: (.ref nb1) :: (.ref nb2) :: (.int (nI nf)) :: (.int (nI bd)) :: (.int (nI mm)) :: (.int v33_54) :: (.ref pl) :: (.ref se) :: (.ref ke) :: (.ref wi) :: (.ref hs) :: (.ref mo) :: (.ref po) :: (.ref nu) :: (.ref pr) :: (.ref sq) :: (.ref xa) :: (.ref sa) :: (.ref n64) :: (.ref m64) :: (.ref ex) :: (.ref wh) :: (.ref sd) :: (.ref tk) :: (.int v0) :: (.int v53_56) :: (.int v54_57) :: (.ref hd) :: (.ref ak) :: (.ref ho) :: (.ref ot) :: []) := (hR h0 (by rw [hT_h0]; simp)).trans hF_338
    obtain ⟨hi1, hi2, hi3, hB1_, hB2_, hB3_⟩ := id hv_339
    refine lv_iload hx hb dX15_fieldsPlain_69 (lv_at hl 0 rfl) ?_
    refine lv_aload_n hx hb dX15_fieldsPlain_71 rfl (lv_at hl 4 rfl) ?_
    refine pg_get (ci := 15) (v := .ref se) (C := RX15) (T := TX15) (N := 59) hx hb hts it_15 hown hK hP hL_h0 hF_348 rfl 35 (by decide) (hts _ kt_847) (fun _ h9 => h9) rfl dX15_fieldsPlain_72 ?_
    refine pg_get (ci := 13) (v := .ref s2) (C := RX13) (T := TX13) (N := 5) hx hb hts it_13 hown hK hP hi_28 hF_341 rfl 3 (by decide) (hts _ kt_841) (fun _ h9 => h9) rfl dX15_fieldsPlain_75 ?_
    refine lv_iload_n hx hb dX15_fieldsPlain_78 rfl (lv_at hl 3 rfl) ?_
    refine pg_iald hx hb hK hP hi_32 0 hF_346 rfl (vp_in_nI (by omega) (by omega)) dX15_fieldsPlain_79 ?_
    refine lv_topi (fun x_349 ex_349 => ?_)
    obtain rfl : x_349 = (nI (gq 2 j)) := ex_349.trans (((congrArg e2 (nI_clamp (by omega))).trans (hhl j hjz).2.2))
    have hF_352 : F se = .inr (13, [.ref sx, .ref s0, .ref s1, .ref s2, .int (nI nn)]) := (hR se (by rw [ht_29]; simp)).symm.trans hF_341
    have hF_353 : F sx = .inr (14, [.ref sb, .int (nI zx)]) := (hR sx (by rw [hT_sx]; simp)).symm.trans hF_342
    have hF_354 : F sb = .inl (cs 17, 3000, .inl fb) := (hR sb (by rw [ht_39]; simp)).symm.trans hF_343
    have hF_355 : F s0 = .inl (cs 16, 40, .inl e0) := (hR s0 (by rw [ht_33]; simp)).symm.trans hF_344
    have hF_356 : F s1 = .inl (cs 16, 40, .inl e1) := (hR s1 (by rw [ht_34]; simp)).symm.trans hF_345
    have hF_357 : F s2 = .inl (cs 16, 40, .inl e2) := (hR s2 (by rw [ht_35]; simp)).symm.trans hF_346
    have hF_358 : F ml = .inl (cs 17, 3000, .inl gl) := (hR ml (by rw [ht_78]; simp)).symm.trans hF_347
    have hF_359 : F h0 = .inr (15, (.ref ta) :: (.int (nI zt)) :: (.int (nI zo)) :: (.int (nI ze)) :: (.ref ou) :: (.ref so) :: (.ref ad) :: (.ref na) :: (.ref va) :: (.ref lc) :: (.ref dm) :: (.int (nI fm)) :: (.int (nI sn)) :: (.ref tg) :: (.int v14_46) :: (.int v15_47) :: (.ref pe) :: (.int v17_48) :: (.int v18_49) :: (.int v19_50) :: (.int v20_51) :: (.int v21_52) :: (.int v22_53) :: (.ref ml) :: (.ref bg) :: (.ref co) :: (.ref sp) :: (.ref nb0) :: (.ref nb1) :: (.ref nb2) :: (.int (nI nf)) :: (.int (nI bd)) :: (.int (nI mm)) :: (.int v33_54) :: (.ref pl) :: (.ref se) :: (.ref ke) :: (.ref wi) :: (.ref hs) :: (.ref mo) :: (.ref po) :: (.ref nu) :: (.ref pr) :: (.ref sq) :: (.ref xa) :: (.ref sa) :: (.ref n64) :: (.ref m64) :: (.ref ex) :: (.ref wh) :: (.ref sd) :: (.ref tk) :: (.int v0) :: (.int v53_56) :: (.int v54_57) :: (.ref hd) :: (.ref ak) :: (.ref ho) :: (.ref ot) :: []) := (hR h0 (by rw [hT_h0]; simp)).symm.trans hF_348
    refine W.widen (k := 0) (n := 0) (by omega) (by omega) ?_
    refine pl_cutm (σ := Unit) A (dC, dI) cs ty gm L [ρ + 10, ρ + 26] F 98 11 (fun u0 => [(5, .int (nI i)), (4, .int (nI w2)), (3, .ref sb), (2, .int (nI j)), (0, .ref h0), (1, .int (nI jf))]) (fun u0 => []) (fun u0 FF => fdT (TC fb zx) 58 w2 (gq 2 j) = i ∧ FF tk = .inl (cs 18, 20, .inl tf) ∧ FF pl = .inr (14, [.ref rl, .int (nI (adl (clr gl) (TC gl mm) (TC fb zx) (gm 0) (gm 1) gd nf v0 pre).2.length)]) ∧ FF rl = .inl (cs 17, 6000, .inl fq)) ?_ (fun jn_350 => ?_)
    ·
      rintro u0 F_351 hv_360 hO hR H locs hP hD hS ls hl
      have hl : lv_has ls 11 [(5, .int (nI i)), (4, .int (nI w2)), (3, .ref sb), (2, .int (nI j)), (0, .ref h0), (1, .int (nI jf))] := hl
      have hv_360 : fdT (TC fb zx) 58 w2 (gq 2 j) = i ∧ F_351 tk = .inl (cs 18, 20, .inl tf) ∧ F_351 pl = .inr (14, [.ref rl, .int (nI (adl (clr gl) (TC gl mm) (TC fb zx) (gm 0) (gm 1) gd nf v0 pre).2.length)]) ∧ F_351 rl = .inl (cs 17, 6000, .inl fq) := hv_360
      refine W.eq (g2 := F0 m 98 ls []) rfl ?_
      have hF_361 : F_351 se = .inr (13, [.ref sx, .ref s0, .ref s1, .ref s2, .int (nI nn)]) := (hR se (by rw [ht_29]; simp)).trans hF_352
      have hF_362 : F_351 sx = .inr (14, [.ref sb, .int (nI zx)]) := (hR sx (by rw [hT_sx]; simp)).trans hF_353
      have hF_363 : F_351 sb = .inl (cs 17, 3000, .inl fb) := (hR sb (by rw [ht_39]; simp)).trans hF_354
      have hF_364 : F_351 s0 = .inl (cs 16, 40, .inl e0) := (hR s0 (by rw [ht_33]; simp)).trans hF_355
      have hF_365 : F_351 s1 = .inl (cs 16, 40, .inl e1) := (hR s1 (by rw [ht_34]; simp)).trans hF_356
      have hF_366 : F_351 s2 = .inl (cs 16, 40, .inl e2) := (hR s2 (by rw [ht_35]; simp)).trans hF_357
      have hF_367 : F_351 ml = .inl (cs 17, 3000, .inl gl) := (hR ml (by rw [ht_78]; simp)).trans hF_358
      have hF_368 : F_351 h0 = .inr (15, (.ref ta) :: (.int (nI zt)) :: (.int (nI zo)) :: (.int (nI ze)) :: (.ref ou) :: (.ref so) :: (.ref ad) :: (.ref na) :: (.ref va) :: (.ref lc) :: (.ref dm) :: (.int (nI fm)) :: (.int (nI sn)) :: (.ref tg) :: (.int v14_46) :: (.int v15_47) :: (.ref pe) :: (.int v17_48) :: (.int v18_49) :: (.int v19_50) :: (.int v20_51) :: (.int v21_52) :: (.int v22_53) :: (.ref ml) :: (.ref bg) :: (.ref co) :: (.ref sp) :: (.ref nb0) :: (.ref nb1) :: (.ref nb2) :: (.int (nI nf)) :: (.int (nI bd)) :: (.int (nI mm)) :: (.int v33_54) :: (.ref pl) :: (.ref se) :: (.ref ke) :: (.ref wi) :: (.ref hs) :: (.ref mo) :: (.ref po) :: (.ref nu) :: (.ref pr) :: (.ref sq) :: (.ref xa) :: (.ref sa) :: (.ref n64) :: (.ref m64) :: (.ref ex) :: (.ref wh) :: (.ref sd) :: (.ref tk) :: (.int v0) :: (.int v53_56) :: (.int v54_57) :: (.ref hd) :: (.ref ak) :: (.ref ho) :: (.ref ot) :: []) := (hR h0 (by rw [hT_h0]; simp)).trans hF_359
      obtain ⟨hfd, hC1_, hC2_, hC3_⟩ := id hv_360
      have hpr2 : (pre ++ [(w2, i)]) ++ hsG (TC fb zx) (i + 1) (gq 2 j) = hsG (TC fb zx) (gq 1 j + 1) (gq 2 j) := by have h9 := hv3; rw [hsG_c hwe hfd] at h9; rw [List.append_assoc]; exact h9
      have hFN := hHV (w2, i) (by rw [← hpr2]; exact List.mem_append.mpr (Or.inl (List.mem_append.mpr (Or.inr (List.mem_singleton.mpr rfl)))))
      refine lv_aload_n hx hb dX15_fieldsPlain_98 rfl (lv_at hl 4 rfl) ?_
      refine pg_get (ci := 15) (v := .int (nI nf)) (C := RX15) (T := TX15) (N := 59) hx hb hts it_15 hown hK hP hL_h0 hF_368 rfl 30 (by decide) (hts _ kt_892) (fun _ h9 => h9) rfl dX15_fieldsPlain_99 ?_
      refine lv_iconst (v := 1) hx hb dX15_fieldsPlain_102 (by decide) ?_
      refine lv_isub hx hb dX15_fieldsPlain_103 ?_
      refine lv_topi (fun x_369 ex_369 => ?_)
      obtain rfl : x_369 = (dnk nf) := ex_369.trans ((dn_st nf).symm)
      refine lv_istore (lv' := [(6, .int (dnk nf)), (5, .int (nI i)), (4, .int (nI w2)), (3, .ref sb), (2, .int (nI j)), (0, .ref h0), (1, .int (nI jf))]) hx hb dX15_fieldsPlain_104 hl (by decide) rfl (fun ls hl => ?_)
      refine W.widen (k := 0) (n := 0) (by omega) (by omega) ?_
      have hF_371 : F se = .inr (13, [.ref sx, .ref s0, .ref s1, .ref s2, .int (nI nn)]) := (hR se (by rw [ht_29]; simp)).symm.trans hF_361
      have hF_372 : F sx = .inr (14, [.ref sb, .int (nI zx)]) := (hR sx (by rw [hT_sx]; simp)).symm.trans hF_362
      have hF_373 : F sb = .inl (cs 17, 3000, .inl fb) := (hR sb (by rw [ht_39]; simp)).symm.trans hF_363
      have hF_374 : F s0 = .inl (cs 16, 40, .inl e0) := (hR s0 (by rw [ht_33]; simp)).symm.trans hF_364
      have hF_375 : F s1 = .inl (cs 16, 40, .inl e1) := (hR s1 (by rw [ht_34]; simp)).symm.trans hF_365
      have hF_376 : F s2 = .inl (cs 16, 40, .inl e2) := (hR s2 (by rw [ht_35]; simp)).symm.trans hF_366
      have hF_377 : F ml = .inl (cs 17, 3000, .inl gl) := (hR ml (by rw [ht_78]; simp)).symm.trans hF_367
      have hF_378 : F h0 = .inr (15, (.ref ta) :: (.int (nI zt)) :: (.int (nI zo)) :: (.int (nI ze)) :: (.ref ou) :: (.ref so) :: (.ref ad) :: (.ref na) :: (.ref va) :: (.ref lc) :: (.ref dm) :: (.int (nI fm)) :: (.int (nI sn)) :: (.ref tg) :: (.int v14_46) :: (.int v15_47) :: (.ref pe) :: (.int v17_48) :: (.int v18_49) :: (.int v19_50) :: (.int v20_51) :: (.int v21_52) :: (.int v22_53) :: (.ref ml) :: (.ref bg) :: (.ref co) :: (.ref sp) :: (.ref nb0) :: (.ref nb1) :: (.ref nb2) :: (.int (nI nf)) :: (.int (nI bd)) :: (.int (nI mm)) :: (.int v33_54) :: (.ref pl) :: (.ref se) :: (.ref ke) :: (.ref wi) :: (.ref hs) :: (.ref mo) :: (.ref po) :: (.ref nu) :: (.ref pr) :: (.ref sq) :: (.ref xa) :: (.ref sa) :: (.ref n64) :: (.ref m64) :: (.ref ex) :: (.ref wh) :: (.ref sd) :: (.ref tk) :: (.int v0) :: (.int v53_56) :: (.int v54_57) :: (.ref hd) :: (.ref ak) :: (.ref ho) :: (.ref ot) :: []) := (hR h0 (by rw [hT_h0]; simp)).symm.trans hF_368
      refine pl_loopm (σ := Int32 × Nat) A (dC, dI) cs ty gm L [ρ + 10, ρ + 26] F 106 11 (fun (i1, k) => [(6, .int i1), (5, .int (nI i)), (4, .int (nI w2)), (3, .ref sb), (2, .int (nI j)), (0, .ref h0), (1, .int (nI jf))]) (fun (i1, k) => []) (fun (i1, k) FF => k ≤ nf ∧ i1 = dnk k ∧ lstF (PNL (TC gl mm) (TC fb zx) (gm 0) (gm 1) (adl (clr gl) (TC gl mm) (TC fb zx) (gm 0) (gm 1) gd nf v0 pre).1 (w2, i)) nf = lstF (PNL (TC gl mm) (TC fb zx) (gm 0) (gm 1) (adl (clr gl) (TC gl mm) (TC fb zx) (gm 0) (gm 1) gd nf v0 pre).1 (w2, i)) k ∧ FF tk = .inl (cs 18, 20, .inl tf) ∧ FF pl = .inr (14, [.ref rl, .int (nI (adl (clr gl) (TC gl mm) (TC fb zx) (gm 0) (gm 1) gd nf v0 pre).2.length)]) ∧ FF rl = .inl (cs 17, 6000, .inl fq)) (fun (i1, k) => k) ?_ ((dnk nf), nf) F_351 (⟨Nat.le_refl _, rfl, rfl, hC1_, hC2_, hC3_⟩) hO hR _ _ hP hD hS ls (lv_sub hl [0, 1, 2, 3, 4, 5, 6] rfl)
      rintro ⟨i1, k⟩ F_370 hv_379 hO hR ih_380 H locs hP hD hS ls hl
      have hl : lv_has ls 11 [(6, .int i1), (5, .int (nI i)), (4, .int (nI w2)), (3, .ref sb), (2, .int (nI j)), (0, .ref h0), (1, .int (nI jf))] := hl
      have hv_379 : k ≤ nf ∧ i1 = dnk k ∧ lstF (PNL (TC gl mm) (TC fb zx) (gm 0) (gm 1) (adl (clr gl) (TC gl mm) (TC fb zx) (gm 0) (gm 1) gd nf v0 pre).1 (w2, i)) nf = lstF (PNL (TC gl mm) (TC fb zx) (gm 0) (gm 1) (adl (clr gl) (TC gl mm) (TC fb zx) (gm 0) (gm 1) gd nf v0 pre).1 (w2, i)) k ∧ F_370 tk = .inl (cs 18, 20, .inl tf) ∧ F_370 pl = .inr (14, [.ref rl, .int (nI (adl (clr gl) (TC gl mm) (TC fb zx) (gm 0) (gm 1) gd nf v0 pre).2.length)]) ∧ F_370 rl = .inl (cs 17, 6000, .inl fq) := hv_379
      refine W.eq (g2 := F0 m 106 ls []) rfl ?_
      have hF_381 : F_370 se = .inr (13, [.ref sx, .ref s0, .ref s1, .ref s2, .int (nI nn)]) := (hR se (by rw [ht_29]; simp)).trans hF_371
      have hF_382 : F_370 sx = .inr (14, [.ref sb, .int (nI zx)]) := (hR sx (by rw [hT_sx]; simp)).trans hF_372
      have hF_383 : F_370 sb = .inl (cs 17, 3000, .inl fb) := (hR sb (by rw [ht_39]; simp)).trans hF_373
      have hF_384 : F_370 s0 = .inl (cs 16, 40, .inl e0) := (hR s0 (by rw [ht_33]; simp)).trans hF_374
      have hF_385 : F_370 s1 = .inl (cs 16, 40, .inl e1) := (hR s1 (by rw [ht_34]; simp)).trans hF_375
      have hF_386 : F_370 s2 = .inl (cs 16, 40, .inl e2) := (hR s2 (by rw [ht_35]; simp)).trans hF_376
      have hF_387 : F_370 ml = .inl (cs 17, 3000, .inl gl) := (hR ml (by rw [ht_78]; simp)).trans hF_377
      have hF_388 : F_370 h0 = .inr (15, (.ref ta) :: (.int (nI zt)) :: (.int (nI zo)) :: (.int (nI ze)) :: (.ref ou) :: (.ref so) :: (.ref ad) :: (.ref na) :: (.ref va) :: (.ref lc) :: (.ref dm) :: (.int (nI fm)) :: (.int (nI sn)) :: (.ref tg) :: (.int v14_46) :: (.int v15_47) :: (.ref pe) :: (.int v17_48) :: (.int v18_49) :: (.int v19_50) :: (.int v20_51) :: (.int v21_52) :: (.int v22_53) :: (.ref ml) :: (.ref bg) :: (.ref co) :: (.ref sp) :: (.ref nb0) :: (.ref nb1) :: (.ref nb2) :: (.int (nI nf)) :: (.int (nI bd)) :: (.int (nI mm)) :: (.int v33_54) :: (.ref pl) :: (.ref se) :: (.ref ke) :: (.ref wi) :: (.ref hs) :: (.ref mo) :: (.ref po) :: (.ref nu) :: (.ref pr) :: (.ref sq) :: (.ref xa) :: (.ref sa) :: (.ref n64) :: (.ref m64) :: (.ref ex) :: (.ref wh) :: (.ref sd) :: (.ref tk) :: (.int v0) :: (.int v53_56) :: (.int v54_57) :: (.ref hd) :: (.ref ak) :: (.ref ho) :: (.ref ot) :: []) := (hR h0 (by rw [hT_h0]; simp)).trans hF_378
      obtain ⟨hr1, hr2, hr3, hD1_, hD2_, hD3_⟩ := id hv_379
      refine lv_iload hx hb dX15_fieldsPlain_106 (lv_at hl 0 rfl) ?_
      refine lv_if_lt (tgt := 141) hx hb dX15_fieldsPlain_108 (by decide) (fun c_389 => ?_) (fun c_389 => ?_)
      ·
        have hk0 : k = 0 := by rw [hr2] at c_389; exact dnk_neg (by omega) c_389
        refine lv_iload hx hb dX15_fieldsPlain_141 (lv_at hl 0 rfl) ?_
        refine lv_if_lt (tgt := 175) hx hb dX15_fieldsPlain_143 (by decide) (fun c_390 => ?_) (fun c_390 => absurd (c_389) c_390)
        have hF_391 : F_370 pl = .inr (14, [.ref rl, .int (nI (adl (clr gl) (TC gl mm) (TC fb zx) (gm 0) (gm 1) gd nf v0 (pre ++ [(w2, i)])).2.length)]) := (by rw [adl_s, als_n (show lstF (PNL (TC gl mm) (TC fb zx) (gm 0) (gm 1) (adl (clr gl) (TC gl mm) (TC fb zx) (gm 0) (gm 1) gd nf v0 pre).1 (w2, i)) nf = none from by rw [hr3, hk0]; rfl)]; exact hD2_)
        refine lv_iload hx hb dX15_fieldsPlain_175 (lv_at hl 1 rfl) ?_
        refine lv_iconst (v := 1) hx hb dX15_fieldsPlain_177 (by decide) ?_
        refine lv_iadd hx hb dX15_fieldsPlain_178 ?_
        refine lv_topi (fun x_392 ex_392 => ?_)
        obtain rfl : x_392 = (nI (i + 1)) := ex_392.trans (nI_1 i)
        refine lv_istore (lv' := [(4, .int (nI (i + 1))), (6, .int i1), (5, .int (nI i)), (3, .ref sb), (2, .int (nI j)), (0, .ref h0), (1, .int (nI jf))]) hx hb dX15_fieldsPlain_179 hl (by decide) rfl (fun ls hl => ?_)
        refine lv_goto (tgt := 51) hx hb dX15_fieldsPlain_181 (by decide) ?_
        refine W.widen (k := 0) (n := 0) (by omega) (by omega) ?_
        exact ih_118 ((i + 1), (pre ++ [(w2, i)]), tf, fq) F_370 (⟨by omega, by omega, hpr2, (by rw [adl_s, als_n (show lstF (PNL (TC gl mm) (TC fb zx) (gm 0) (gm 1) (adl (clr gl) (TC gl mm) (TC fb zx) (gm 0) (gm 1) gd nf v0 pre).1 (w2, i)) nf = none from by rw [hr3, hk0]; rfl)]; exact hv4), (by rw [adl_s, als_n (show lstF (PNL (TC gl mm) (TC fb zx) (gm 0) (gm 1) (adl (clr gl) (TC gl mm) (TC fb zx) (gm 0) (gm 1) gd nf v0 pre).1 (w2, i)) nf = none from by rw [hr3, hk0]; rfl)]; exact hv5), (by rw [adl_s, als_n (show lstF (PNL (TC gl mm) (TC fb zx) (gm 0) (gm 1) (adl (clr gl) (TC gl mm) (TC fb zx) (gm 0) (gm 1) gd nf v0 pre).1 (w2, i)) nf = none from by rw [hr3, hk0]; rfl)]; exact hv6), hD1_, hF_391, hD3_⟩) (by show (gq 2 j) + 1 - (i + 1) < (gq 2 j) + 1 - w2; omega) hO hR _ _ hP hD hS ls (lv_sub hl [0, 3, 4, 5, 6] rfl)
      ·
        have hk1_ : 1 ≤ k := by rw [hr2] at c_389; exact dnk_pos c_389
        have hie : i1 = nI (k - 1) := by rw [hr2, dnk_s hk1_]
        clear hr2
        subst hie
        have hok := hgO (k - 1) (by omega)
        obtain ⟨qk1, qk2, qk3, qk4⟩ := hpos (k - 1) (by omega)
        refine lv_aload_n hx hb dX15_fieldsPlain_111 rfl (lv_at hl 5 rfl) ?_
        refine pg_get (ci := 15) (v := .ref tk) (C := RX15) (T := TX15) (N := 59) hx hb hts it_15 hown hK hP hL_h0 hF_388 rfl 51 (by decide) (hts _ kt_929) (fun _ h9 => h9) rfl dX15_fieldsPlain_112 ?_
        refine lv_iload hx hb dX15_fieldsPlain_115 (lv_at hl 0 rfl) ?_
        refine pg_zald hx hb hK hP hi_44 2 hD1_ rfl (vp_in_nI (by omega) (by omega)) dX15_fieldsPlain_117 ?_
        refine lv_topi (fun x_393 ex_393 => ?_)
        obtain rfl : x_393 = (tf (k - 1)) := ex_393.trans (congrArg tf (nI_clamp (by omega)))
        refine lv_if_ne (tgt := 135) hx hb dX15_fieldsPlain_118 (by decide) (fun c_394 => ?_) (fun c_394 => ?_)
        ·
          have hls : lstF (PNL (TC gl mm) (TC fb zx) (gm 0) (gm 1) (adl (clr gl) (TC gl mm) (TC fb zx) (gm 0) (gm 1) gd nf v0 pre).1 (w2, i)) k = lstF (PNL (TC gl mm) (TC fb zx) (gm 0) (gm 1) (adl (clr gl) (TC gl mm) (TC fb zx) (gm 0) (gm 1) gd nf v0 pre).1 (w2, i)) (k - 1) := by have h9 := lst_n (P := (PNL (TC gl mm) (TC fb zx) (gm 0) (gm 1) (adl (clr gl) (TC gl mm) (TC fb zx) (gm 0) (gm 1) gd nf v0 pre).1 (w2, i))) (n := k - 1) (fun q => c_394 ((hv5 (k - 1) (by omega)).trans q.1)); rw [show k - 1 + 1 = k by omega] at h9; exact h9
          refine lv_iinc (v := (dnk (k - 1))) (lv' := [(6, .int (dnk (k - 1))), (5, .int (nI i)), (4, .int (nI w2)), (3, .ref sb), (2, .int (nI j)), (0, .ref h0), (1, .int (nI jf))]) hx hb dX15_fieldsPlain_135 hl (k := 0) rfl (rfl) (by decide) rfl (fun ls hl => ?_)
          refine lv_goto (tgt := 106) hx hb dX15_fieldsPlain_138 (by decide) ?_
          refine W.widen (k := 0) (n := 0) (by omega) (by omega) ?_
          exact ih_380 ((dnk (k - 1)), (k - 1)) F_370 (⟨by omega, rfl, hr3.trans hls, hD1_, hD2_, hD3_⟩) (by show (k - 1) < k; omega) hO hR _ _ hP hD hS ls (lv_sub hl [0, 1, 2, 3, 4, 5, 6] rfl)
        ·
          refine lv_aload_n hx hb dX15_fieldsPlain_121 rfl (lv_at hl 5 rfl) ?_
          refine lv_iload hx hb dX15_fieldsPlain_122 (lv_at hl 0 rfl) ?_
          refine lv_aload_n hx hb dX15_fieldsPlain_124 rfl (lv_at hl 3 rfl) ?_
          refine lv_iload hx hb dX15_fieldsPlain_125 (lv_at hl 2 rfl) ?_
          refine lv_iload hx hb dX15_fieldsPlain_127 (lv_at hl 1 rfl) ?_
          obtain ⟨hq_395, hq_396⟩ := hW.octs hi_77 ht_78
          have hFc := pg_free hD hS hA
          refine va_calli (va_runV (As := [.int (nI (k - 1)), .ref sb, .int (nI w2), .int (nI i)]) (rest := []) ⟨hx, hb, hml, hown, hts⟩ (s_X15_isAlikeTo_x l dC dI cs ty gm L H.size F_370 h0 ρ ta ou so ad na va lc dm tg pe ml bg co sp nb0 nb1 nb2 pl se ke wi hs mo po nu pr sq xa sa n64 m64 ex wh sd tk hd ak ho ot sx s0 s1 s2 nf bd mm zo fm sn hg gc gv ze zt sb (ρ + 12) 3000 (k - 1) w2 i zx fb gl hW hL_h0 hT_h0 hi_38 ht_39 hF_387 hF_383 (by omega) (hi1) (by omega) (hxn) (by omega) (hFN)) ⟨callB_of 4 hts (gi kt_937) rfl rfl rfl (hts _ kt_669) (hts _ kt_938) (by decide +kernel) ⟨Nat.le_of_ble_eq_true rfl, Nat.le_of_ble_eq_true rfl⟩, (hts _ kt_939), (hts _ kt_940)⟩ ⟨fun a U g mk q => ⟨q.1, PTm.calling q.2⟩, pg_recv hK hP hL_h0 hF_388 (q := (RX15, TX15, 59)) rfl, fun U hU hWm => ⟨rfl, PTm.mk hU hWm hP hK hD hE hO⟩⟩ rfl rfl hl.1 rfl (lv_room (Nat.le_of_ble_eq_true rfl)) dX15_fieldsPlain_129 ⟨by show _ + 0 ≤ 0; omega, by show _ + 0 ≤ 0; omega⟩) hS (fun q _ h => hFc q h) hFc (fun r_397 u t H1 locs ht hvm hw hB hz1 hk1 hS => ?_)
          obtain ⟨F_398, hB1⟩ := hB
          obtain rfl : F_370 = F_398 := (funext (fun a => hB1.2.2.2 a List.not_mem_nil)).symm
          obtain ⟨hP, hD, hO, hR⟩ := QTm.back hB1 ht hFc hR (fun q h => absurd h List.not_mem_nil)
          generalize H1 = H at hP hS ⊢
          have hw : ((r_397 = 1 ∧ ANL (TC gl mm) (gm 0 (k - 1)) (gm 1 (k - 1)) (TC fb zx) w2 i) ∨ (r_397 = 0 ∧ ¬ ANL (TC gl mm) (gm 0 (k - 1)) (gm 1 (k - 1)) (TC fb zx) w2 i)) := hw
          have hw_399 := hw
          refine lv_if_ne (tgt := 141) hx hb dX15_fieldsPlain_132 (by decide) (fun c_400 => ?_) (fun c_400 => ?_)
          ·
            have hlk : lstF (PNL (TC gl mm) (TC fb zx) (gm 0) (gm 1) (adl (clr gl) (TC gl mm) (TC fb zx) (gm 0) (gm 1) gd nf v0 pre).1 (w2, i)) nf = some (k - 1) := by rw [hr3]; have h9 := lst_y (P := (PNL (TC gl mm) (TC fb zx) (gm 0) (gm 1) (adl (clr gl) (TC gl mm) (TC fb zx) (gm 0) (gm 1) gd nf v0 pre).1 (w2, i))) (n := k - 1) ⟨(hv5 (k - 1) (by omega)).symm.trans c_394, orp1 hw_399 c_400⟩; rw [show k - 1 + 1 = k by omega] at h9; exact h9
            have hal2 := ali_s (TT := clr gl) (x := v0) (gd := gd) hv4 hlk ⟨hok.1, qk2⟩
            have htl := (tsm_le (tk := upd (adl (clr gl) (TC gl mm) (TC fb zx) (gm 0) (gm 1) gd nf v0 pre).1 (k - 1) 1) (zm := mm) hgd hgo nf (Nat.le_refl _)).1
            have hln : ((adl (clr gl) (TC gl mm) (TC fb zx) (gm 0) (gm 1) gd nf v0 pre).2 ++ ((FPL (clr gl) v0 (gm 0 (k - 1)) (gm 1 (k - 1)) (gd (k - 1))) ++ [(2, 10)])).length ≤ mm + nf := Nat.le_trans hal2 htl
            refine lv_iload hx hb dX15_fieldsPlain_141 (lv_at hl 0 rfl) ?_
            refine lv_if_lt (tgt := 175) hx hb dX15_fieldsPlain_143 (by decide) (fun c_401 => absurd c_401 (nI_pos (by omega))) (fun c_401 => ?_)
            refine lv_aload_n hx hb dX15_fieldsPlain_146 rfl (lv_at hl 5 rfl) ?_
            refine pg_get (ci := 15) (v := .ref tk) (C := RX15) (T := TX15) (N := 59) hx hb hts it_15 hown hK hP hL_h0 hF_388 rfl 51 (by decide) (hts _ kt_929) (fun _ h9 => h9) rfl dX15_fieldsPlain_147 ?_
            refine lv_iload hx hb dX15_fieldsPlain_150 (lv_at hl 0 rfl) ?_
            refine lv_iconst (v := 1) hx hb dX15_fieldsPlain_152 (by decide) ?_
            refine pg_zast hx hb hK hP hD hS hi_44 2 hD1_ rfl (vp_in_nI (by omega) (by omega)) dX15_fieldsPlain_153 (fun H locs hP hD hS => ?_)
            obtain ⟨F_402, he_403, hP, hD, hO, hR⟩ : ∃ G, G = va_up F_370 tk (.inl (cs 18, 20, .inl (upd tf ((nI (k - 1))).toNatClampNeg (vp_nar .boolean (1))))) ∧ va_P (dC, dI) vwCl (va_pl L G) H ∧ va_D A (va_pl L G) ∧ OKm cs ty gm L G ∧ FR ty [ρ + 10, ρ + 26] F G := ⟨_, rfl, hP, hD, hO.up (shm.bits ht_45 ⟨_, rfl⟩), hR.up ht_45 (by simp)⟩
            have hF_404 : F_402 tk = .inl (cs 18, 20, .inl (upd tf ((nI (k - 1))).toNatClampNeg (vp_nar .boolean (1)))) := by rw [he_403]; exact up_self
            have hF_405 : F_402 se = .inr (13, [.ref sx, .ref s0, .ref s1, .ref s2, .int (nI nn)]) := by rw [he_403, up_ne (ne_ty ht_29 ht_45 (by simp))]; exact hF_381
            have hF_406 : F_402 sx = .inr (14, [.ref sb, .int (nI zx)]) := by rw [he_403, up_ne (ne_ty hT_sx ht_45 (by simp))]; exact hF_382
            have hF_407 : F_402 sb = .inl (cs 17, 3000, .inl fb) := by rw [he_403, up_ne (ne_ty ht_39 ht_45 (by simp))]; exact hF_383
            have hF_408 : F_402 s0 = .inl (cs 16, 40, .inl e0) := by rw [he_403, up_ne (ne_ty ht_33 ht_45 (by simp))]; exact hF_384
            have hF_409 : F_402 s1 = .inl (cs 16, 40, .inl e1) := by rw [he_403, up_ne (ne_ty ht_34 ht_45 (by simp))]; exact hF_385
            have hF_410 : F_402 s2 = .inl (cs 16, 40, .inl e2) := by rw [he_403, up_ne (ne_ty ht_35 ht_45 (by simp))]; exact hF_386
            have hF_411 : F_402 ml = .inl (cs 17, 3000, .inl gl) := by rw [he_403, up_ne (ne_ty ht_78 ht_45 (by simp))]; exact hF_387
            have hF_412 : F_402 h0 = .inr (15, (.ref ta) :: (.int (nI zt)) :: (.int (nI zo)) :: (.int (nI ze)) :: (.ref ou) :: (.ref so) :: (.ref ad) :: (.ref na) :: (.ref va) :: (.ref lc) :: (.ref dm) :: (.int (nI fm)) :: (.int (nI sn)) :: (.ref tg) :: (.int v14_46) :: (.int v15_47) :: (.ref pe) :: (.int v17_48) :: (.int v18_49) :: (.int v19_50) :: (.int v20_51) :: (.int v21_52) :: (.int v22_53) :: (.ref ml) :: (.ref bg) :: (.ref co) :: (.ref sp) :: (.ref nb0) :: (.ref nb1) :: (.ref nb2) :: (.int (nI nf)) :: (.int (nI bd)) :: (.int (nI mm)) :: (.int v33_54) :: (.ref pl) :: (.ref se) :: (.ref ke) :: (.ref wi) :: (.ref hs) :: (.ref mo) :: (.ref po) :: (.ref nu) :: (.ref pr) :: (.ref sq) :: (.ref xa) :: (.ref sa) :: (.ref n64) :: (.ref m64) :: (.ref ex) :: (.ref wh) :: (.ref sd) :: (.ref tk) :: (.int v0) :: (.int v53_56) :: (.int v54_57) :: (.ref hd) :: (.ref ak) :: (.ref ho) :: (.ref ot) :: []) := by rw [he_403, up_ne (ne_ty hT_h0 ht_45 (by simp))]; exact hF_388
            have hF_413 : F_402 pl = .inr (14, [.ref rl, .int (nI (adl (clr gl) (TC gl mm) (TC fb zx) (gm 0) (gm 1) gd nf v0 pre).2.length)]) := by rw [he_403, up_ne (ne_ty hT_pl ht_45 (by simp))]; exact hD2_
            have hF_414 : F_402 rl = .inl (cs 17, 6000, .inl fq) := by rw [he_403, up_ne (ne_ty ht_42 ht_45 (by simp))]; exact hD3_
            obtain ⟨f_415, hF_404, hfe_416⟩ : ∃ f : Nat → Int32, F_402 tk = .inl (cs 18, 20, .inl f) ∧ f = upd tf ((nI (k - 1))).toNatClampNeg (vp_nar .boolean (1)) := ⟨_, hF_404, rfl⟩
            refine lv_aload_n hx hb dX15_fieldsPlain_154 rfl (lv_at hl 5 rfl) ?_
            refine lv_iload hx hb dX15_fieldsPlain_155 (lv_at hl 0 rfl) ?_
            refine lv_aload_n hx hb dX15_fieldsPlain_157 rfl (lv_at hl 5 rfl) ?_
            refine pg_get (ci := 15) (v := .int v0) (C := RX15) (T := TX15) (N := 59) hx hb hts it_15 hown hK hP hL_h0 hF_412 rfl 52 (by decide) (hts _ kt_857) (fun _ h9 => h9) rfl dX15_fieldsPlain_158 ?_
            refine lv_iconst (v := 0) hx hb dX15_fieldsPlain_161 (by decide) ?_
            refine lv_iconst (v := 0) hx hb dX15_fieldsPlain_162 (by decide) ?_
            refine W.eq (g2 := F0 m 163 ls [.int (nI 0), .int (nI 0), .int v0, .int (nI (k - 1)), .ref h0]) rfl ?_
            have hFc := pg_free hD hS hA
            refine va_callv (va_runV (As := [.int (nI (k - 1)), .int v0, .int (nI 0), .int (nI 0)]) (rest := []) ⟨hx, hb, hml, hown, hts⟩ (s_X15_fieldPlain_s l dC dI cs ty gm L H.size F_402 h0 ρ ta ou so ad na va lc dm tg pe ml bg co sp nb0 nb1 nb2 pl se ke wi hs mo po nu pr sq xa sa n64 m64 ex wh sd tk hd ak ho ot sx s0 s1 s2 nf bd mm zo fm sn hg gc gv ze zt rl (k - 1) (gd (k - 1)) 0 0 ((adl (clr gl) (TC gl mm) (TC fb zx) (gm 0) (gm 1) gd nf v0 pre).2) fq gl v0 hW hL_h0 hT_h0 hL_pl hT_pl hF_411 (by omega) (qk1) (qk2) (qk3) (qk4) hF_413 hF_414 (hv6) (Or.inl rfl) (Nat.zero_le _) (by omega)) ⟨callB_of 4 hts (gi kt_933) rfl rfl rfl (hts _ kt_669) (hts _ kt_934) (by decide +kernel) ⟨Nat.le_of_ble_eq_true rfl, Nat.le_of_ble_eq_true rfl⟩, (hts _ kt_935), (hts _ kt_936)⟩ ⟨fun a U g mk q => ⟨q.1, PTm.calling q.2⟩, pg_recv hK hP hL_h0 hF_412 (q := (RX15, TX15, 59)) rfl, fun U hU hWm => ⟨rfl, PTm.mk hU hWm hP hK hD hE hO⟩⟩ rfl rfl hl.1 rfl (lv_room (Nat.le_of_ble_eq_true rfl)) dX15_fieldsPlain_163 ⟨by show _ + 0 ≤ 0; omega, by show _ + 0 ≤ 0; omega⟩) hS (fun q _ h => hFc q h) hFc (fun u t H1 locs ht hvm hw hB hz1 hk1 hS => ?_)
            obtain ⟨F_418, f2_419, hB1, hq_420, hq_421, hq_422⟩ := hB
            obtain ⟨hP, hD, hO, hR⟩ := QTm.back hB1 ht hFc hR (fun q h => by simp only [List.mem_cons, List.not_mem_nil, or_false] at h ⊢; omega)
            have hF_423 : F_418 tk = .inl (cs 18, 20, .inl f_415) := (hB1.2.2.2 tk (by rw [ht_45]; simp)).trans hF_404
            have hF_424 : F_418 se = .inr (13, [.ref sx, .ref s0, .ref s1, .ref s2, .int (nI nn)]) := (hB1.2.2.2 se (by rw [ht_29]; simp)).trans hF_405
            have hF_425 : F_418 sx = .inr (14, [.ref sb, .int (nI zx)]) := (hB1.2.2.2 sx (by rw [hT_sx]; simp)).trans hF_406
            have hF_426 : F_418 sb = .inl (cs 17, 3000, .inl fb) := (hB1.2.2.2 sb (by rw [ht_39]; simp)).trans hF_407
            have hF_427 : F_418 s0 = .inl (cs 16, 40, .inl e0) := (hB1.2.2.2 s0 (by rw [ht_33]; simp)).trans hF_408
            have hF_428 : F_418 s1 = .inl (cs 16, 40, .inl e1) := (hB1.2.2.2 s1 (by rw [ht_34]; simp)).trans hF_409
            have hF_429 : F_418 s2 = .inl (cs 16, 40, .inl e2) := (hB1.2.2.2 s2 (by rw [ht_35]; simp)).trans hF_410
            have hF_430 : F_418 ml = .inl (cs 17, 3000, .inl gl) := (hB1.2.2.2 ml (by rw [ht_78]; simp)).trans hF_411
            have hF_431 : F_418 h0 = .inr (15, (.ref ta) :: (.int (nI zt)) :: (.int (nI zo)) :: (.int (nI ze)) :: (.ref ou) :: (.ref so) :: (.ref ad) :: (.ref na) :: (.ref va) :: (.ref lc) :: (.ref dm) :: (.int (nI fm)) :: (.int (nI sn)) :: (.ref tg) :: (.int v14_46) :: (.int v15_47) :: (.ref pe) :: (.int v17_48) :: (.int v18_49) :: (.int v19_50) :: (.int v20_51) :: (.int v21_52) :: (.int v22_53) :: (.ref ml) :: (.ref bg) :: (.ref co) :: (.ref sp) :: (.ref nb0) :: (.ref nb1) :: (.ref nb2) :: (.int (nI nf)) :: (.int (nI bd)) :: (.int (nI mm)) :: (.int v33_54) :: (.ref pl) :: (.ref se) :: (.ref ke) :: (.ref wi) :: (.ref hs) :: (.ref mo) :: (.ref po) :: (.ref nu) :: (.ref pr) :: (.ref sq) :: (.ref xa) :: (.ref sa) :: (.ref n64) :: (.ref m64) :: (.ref ex) :: (.ref wh) :: (.ref sd) :: (.ref tk) :: (.int v0) :: (.int v53_56) :: (.int v54_57) :: (.ref hd) :: (.ref ak) :: (.ref ho) :: (.ref ot) :: []) := (hB1.2.2.2 h0 (by rw [hT_h0]; simp)).trans hF_412
            generalize H1 = H at hP hS ⊢
            have hF_432 : F_418 pl = .inr (14, [.ref rl, .int (nI ((adl (clr gl) (TC gl mm) (TC fb zx) (gm 0) (gm 1) gd nf v0 pre).2 ++ (FPL (clr gl) v0 (gm 0 (k - 1)) (gm 1 (k - 1)) (gd (k - 1)))).length)]) := by have h9 := hq_420; rw [FPW_0] at h9; exact h9
            have hou2 := hq_422
            rw [FPW_0] at hou2
            have hl3 := hln
            rw [← List.append_assoc, len1] at hl3
            refine lv_aload_n hx hb dX15_fieldsPlain_166 rfl (lv_at hl 5 rfl) ?_
            refine pg_get (ci := 15) (v := .ref pl) (C := RX15) (T := TX15) (N := 59) hx hb hts it_15 hown hK hP hL_h0 hF_431 rfl 34 (by decide) (hts _ kt_901) (fun _ h9 => h9) rfl dX15_fieldsPlain_167 ?_
            refine lv_bipush (v := 10) hx hb dX15_fieldsPlain_170 (by decide) ?_
            have hFc := pg_free hD hS hA
            refine va_callv (va_runV (As := [.int 10]) (rest := []) ⟨hx, hb, hml, hown, hts⟩ (s_X14_add_c l dC dI cs ty gm L H.size F_418 pl (ρ + 10) rl 6000 (((adl (clr gl) (TC gl mm) (TC fb zx) (gm 0) (gm 1) gd nf v0 pre).2 ++ (FPL (clr gl) v0 (gm 0 (k - 1)) (gm 1 (k - 1)) (gd (k - 1)))).length) 10 f2_419 hW hL_pl hT_pl hF_432 hq_421 (by omega)) ⟨callB_of 1 hts (gi kt_711) rfl rfl rfl (hts _ kt_676) (hts _ kt_712) (by decide +kernel) ⟨Nat.le_of_ble_eq_true rfl, Nat.le_of_ble_eq_true rfl⟩, (hts _ kt_713), (hts _ kt_714)⟩ ⟨fun a U g mk q => ⟨q.1, PTm.calling q.2⟩, pg_recv hK hP hL_pl hF_432 (q := (RX14, TX14, 2)) rfl, fun U hU hWm => ⟨rfl, PTm.mk hU hWm hP hK hD hE hO⟩⟩ rfl rfl hl.1 rfl (lv_room (Nat.le_of_ble_eq_true rfl)) dX15_fieldsPlain_172 ⟨by show _ + 0 ≤ 0; omega, by show _ + 0 ≤ 0; omega⟩) hS (fun q _ h => hFc q h) hFc (fun u t H1 locs ht hvm hw hB hz1 hk1 hS => ?_)
            obtain ⟨F_434, f2_435, hB1, hq_436, hq_437, hq_438⟩ := hB
            obtain ⟨hP, hD, hO, hR⟩ := QTm.back hB1 ht hFc hR (fun q h => by simp only [List.mem_cons, List.not_mem_nil, or_false] at h ⊢; omega)
            have hF_439 : F_434 tk = .inl (cs 18, 20, .inl f_415) := (hB1.2.2.2 tk (by rw [ht_45]; simp)).trans hF_423
            have hF_440 : F_434 se = .inr (13, [.ref sx, .ref s0, .ref s1, .ref s2, .int (nI nn)]) := (hB1.2.2.2 se (by rw [ht_29]; simp)).trans hF_424
            have hF_441 : F_434 sx = .inr (14, [.ref sb, .int (nI zx)]) := (hB1.2.2.2 sx (by rw [hT_sx]; simp)).trans hF_425
            have hF_442 : F_434 sb = .inl (cs 17, 3000, .inl fb) := (hB1.2.2.2 sb (by rw [ht_39]; simp)).trans hF_426
            have hF_443 : F_434 s0 = .inl (cs 16, 40, .inl e0) := (hB1.2.2.2 s0 (by rw [ht_33]; simp)).trans hF_427
            have hF_444 : F_434 s1 = .inl (cs 16, 40, .inl e1) := (hB1.2.2.2 s1 (by rw [ht_34]; simp)).trans hF_428
            have hF_445 : F_434 s2 = .inl (cs 16, 40, .inl e2) := (hB1.2.2.2 s2 (by rw [ht_35]; simp)).trans hF_429
            have hF_446 : F_434 ml = .inl (cs 17, 3000, .inl gl) := (hB1.2.2.2 ml (by rw [ht_78]; simp)).trans hF_430
            have hF_447 : F_434 h0 = .inr (15, (.ref ta) :: (.int (nI zt)) :: (.int (nI zo)) :: (.int (nI ze)) :: (.ref ou) :: (.ref so) :: (.ref ad) :: (.ref na) :: (.ref va) :: (.ref lc) :: (.ref dm) :: (.int (nI fm)) :: (.int (nI sn)) :: (.ref tg) :: (.int v14_46) :: (.int v15_47) :: (.ref pe) :: (.int v17_48) :: (.int v18_49) :: (.int v19_50) :: (.int v20_51) :: (.int v21_52) :: (.int v22_53) :: (.ref ml) :: (.ref bg) :: (.ref co) :: (.ref sp) :: (.ref nb0) :: (.ref nb1) :: (.ref nb2) :: (.int (nI nf)) :: (.int (nI bd)) :: (.int (nI mm)) :: (.int v33_54) :: (.ref pl) :: (.ref se) :: (.ref ke) :: (.ref wi) :: (.ref hs) :: (.ref mo) :: (.ref po) :: (.ref nu) :: (.ref pr) :: (.ref sq) :: (.ref xa) :: (.ref sa) :: (.ref n64) :: (.ref m64) :: (.ref ex) :: (.ref wh) :: (.ref sd) :: (.ref tk) :: (.int v0) :: (.int v53_56) :: (.int v54_57) :: (.ref hd) :: (.ref ak) :: (.ref ho) :: (.ref ot) :: []) := (hB1.2.2.2 h0 (by rw [hT_h0]; simp)).trans hF_431
            generalize H1 = H at hP hS ⊢
            have hF_448 : F_434 pl = .inr (14, [.ref rl, .int (nI ((adl (clr gl) (TC gl mm) (TC fb zx) (gm 0) (gm 1) gd nf v0 pre).2 ++ ((FPL (clr gl) v0 (gm 0 (k - 1)) (gm 1 (k - 1)) (gd (k - 1))) ++ [(2, 10)])).length)]) := by rw [← List.append_assoc, len1]; exact hq_436
            have hou3 : OUTM gl f2_435 ((adl (clr gl) (TC gl mm) (TC fb zx) (gm 0) (gm 1) gd nf v0 pre).2 ++ ((FPL (clr gl) v0 (gm 0 (k - 1)) (gm 1 (k - 1)) (gd (k - 1))) ++ [(2, 10)])) := by rw [← List.append_assoc]; exact OUTM.add (y := (2, 10)) hou2 hq_438 rfl rfl
            have hF_449 : F_434 pl = .inr (14, [.ref rl, .int (nI (adl (clr gl) (TC gl mm) (TC fb zx) (gm 0) (gm 1) gd nf v0 (pre ++ [(w2, i)])).2.length)]) := (by rw [adl_s, als_y (TT := clr gl) (gd := gd) (x := v0) (st := (adl (clr gl) (TC gl mm) (TC fb zx) (gm 0) (gm 1) gd nf v0 pre)) hlk]; exact hF_448)
            refine lv_iload hx hb dX15_fieldsPlain_175 (lv_at hl 1 rfl) ?_
            refine lv_iconst (v := 1) hx hb dX15_fieldsPlain_177 (by decide) ?_
            refine lv_iadd hx hb dX15_fieldsPlain_178 ?_
            refine lv_topi (fun x_450 ex_450 => ?_)
            obtain rfl : x_450 = (nI (i + 1)) := ex_450.trans (nI_1 i)
            refine lv_istore (lv' := [(4, .int (nI (i + 1))), (6, .int (nI (k - 1))), (5, .int (nI i)), (3, .ref sb), (2, .int (nI j)), (0, .ref h0), (1, .int (nI jf))]) hx hb dX15_fieldsPlain_179 hl (by decide) rfl (fun ls hl => ?_)
            refine lv_goto (tgt := 51) hx hb dX15_fieldsPlain_181 (by decide) ?_
            refine W.widen (k := 0) (n := 0) (by omega) (by omega) ?_
            exact ih_118 ((i + 1), (pre ++ [(w2, i)]), f_415, f2_435) F_434 (⟨by omega, by omega, hpr2, (by rw [adl_s, als_y (TT := clr gl) (gd := gd) (x := v0) (st := (adl (clr gl) (TC gl mm) (TC fb zx) (gm 0) (gm 1) gd nf v0 pre)) hlk]; exact hal2), (by rw [adl_s, als_y (TT := clr gl) (gd := gd) (x := v0) (st := (adl (clr gl) (TC gl mm) (TC fb zx) (gm 0) (gm 1) gd nf v0 pre)) hlk]; exact (fun q hq => by rw [hfe_416, nI_clamp (by omega)]; show upd tf (k - 1) (vp_nar .boolean 1) q = upd (adl (clr gl) (TC gl mm) (TC fb zx) (gm 0) (gm 1) gd nf v0 pre).1 (k - 1) 1 q; by_cases c9 : q = k - 1; rw [c9, updc_at, updc_at]; decide; rw [updc_ne c9, updc_ne c9]; exact hv5 q hq)), (by rw [adl_s, als_y (TT := clr gl) (gd := gd) (x := v0) (st := (adl (clr gl) (TC gl mm) (TC fb zx) (gm 0) (gm 1) gd nf v0 pre)) hlk]; exact hou3), hF_439, hF_449, hq_437⟩) (by show (gq 2 j) + 1 - (i + 1) < (gq 2 j) + 1 - w2; omega) hO hR _ _ hP hD hS ls (lv_sub hl [0, 3, 4, 5, 6] rfl)
          ·
            have hls : lstF (PNL (TC gl mm) (TC fb zx) (gm 0) (gm 1) (adl (clr gl) (TC gl mm) (TC fb zx) (gm 0) (gm 1) gd nf v0 pre).1 (w2, i)) k = lstF (PNL (TC gl mm) (TC fb zx) (gm 0) (gm 1) (adl (clr gl) (TC gl mm) (TC fb zx) (gm 0) (gm 1) gd nf v0 pre).1 (w2, i)) (k - 1) := by have h9 := lst_n (P := (PNL (TC gl mm) (TC fb zx) (gm 0) (gm 1) (adl (clr gl) (TC gl mm) (TC fb zx) (gm 0) (gm 1) gd nf v0 pre).1 (w2, i))) (n := k - 1) (fun q => orp0 hw_399 c_400 q.2); rw [show k - 1 + 1 = k by omega] at h9; exact h9
            refine lv_iinc (v := (dnk (k - 1))) (lv' := [(6, .int (dnk (k - 1))), (5, .int (nI i)), (4, .int (nI w2)), (3, .ref sb), (2, .int (nI j)), (0, .ref h0), (1, .int (nI jf))]) hx hb dX15_fieldsPlain_135 hl (k := 0) rfl (rfl) (by decide) rfl (fun ls hl => ?_)
            refine lv_goto (tgt := 106) hx hb dX15_fieldsPlain_138 (by decide) ?_
            refine W.widen (k := 0) (n := 0) (by omega) (by omega) ?_
            exact ih_380 ((dnk (k - 1)), (k - 1)) F_370 (⟨by omega, rfl, hr3.trans hls, hD1_, hD2_, hD3_⟩) (by show (k - 1) < k; omega) hO hR _ _ hP hD hS ls (lv_sub hl [0, 1, 2, 3, 4, 5, 6] rfl)
    ·
      refine lv_icmp_ge (tgt := 98) hx hb dX15_fieldsPlain_80 (by decide) (fun c_451 => ?_) (fun c_451 => ?_)
      ·
        have hi_452 : (gq 2 j) ≤ i := leN (N := (gq 2 j)) c_451
        have hib : i = (gq 2 j) := by have h9 : (gq 2 j) ≤ i := (nI_leI (by omega) (by omega)).mp c_451; omega
        have hfd : fdT (TC fb zx) 58 w2 (gq 2 j) = i := fd_at hi1 hi2 hi3 (Or.inl hib)
        refine W.widen (k := 0) (n := 0) (by omega) (by omega) ?_
        exact jn_350 () F_330 (⟨hfd, hB1_, hB2_, hB3_⟩) hO hR _ _ hP hD hS ls (lv_sub hl [0, 1, 2, 3, 4, 5] rfl)
      ·
        have hi_453 : i < (gq 2 j) := ltN (N := (gq 2 j)) c_451
        have hib : i < (gq 2 j) := Nat.not_le.mp (fun q => c_451 ((nI_leI (by omega) (by omega)).mpr q))
        refine lv_aload_n hx hb dX15_fieldsPlain_83 rfl (lv_at hl 2 rfl) ?_
        refine lv_iload hx hb dX15_fieldsPlain_84 (lv_at hl 0 rfl) ?_
        refine pg_bald hx hb hK hP hi_38 1 hF_343 rfl (vp_in_nI (by omega) (by omega)) dX15_fieldsPlain_86 ?_
        refine lv_topi (fun x_454 ex_454 => ?_)
        obtain rfl : x_454 = (fb i) := ex_454.trans (congrArg fb (nI_clamp (by omega)))
        refine lv_bipush (v := 58) hx hb dX15_fieldsPlain_87 (by decide) ?_
        refine lv_icmp_eq (tgt := 98) hx hb dX15_fieldsPlain_89 (by decide) (fun c_455 => ?_) (fun c_455 => ?_)
        ·
          have hfd : fdT (TC fb zx) 58 w2 (gq 2 j) = i := fd_at hi1 hi2 hi3 (Or.inr ((tcc (show i < zx by omega) 58 (by omega)).mpr c_455))
          refine W.widen (k := 0) (n := 0) (by omega) (by omega) ?_
          exact jn_350 () F_330 (⟨hfd, hB1_, hB2_, hB3_⟩) hO hR _ _ hP hD hS ls (lv_sub hl [0, 1, 2, 3, 4, 5] rfl)
        ·
          have hne : ¬ (TC fb zx) i = 58 := fun q => c_455 ((tcc (show i < zx by omega) 58 (by omega)).mp q)
          refine lv_iinc (v := (nI (i + 1))) (lv' := [(5, .int (nI (i + 1))), (4, .int (nI w2)), (3, .ref sb), (2, .int (nI j)), (0, .ref h0), (1, .int (nI jf))]) hx hb dX15_fieldsPlain_92 hl (k := 0) rfl (nI_1 _) (by decide) rfl (fun ls hl => ?_)
          refine lv_goto (tgt := 69) hx hb dX15_fieldsPlain_95 (by decide) ?_
          refine W.widen (k := 0) (n := 0) (by omega) (by omega) ?_
          exact ih_340 (i + 1) F_330 (⟨by omega, by omega, fun q9 h1 h2 => by rcases Nat.lt_or_ge q9 i with w9 | w9; exact hi3 q9 h1 w9; rw [show q9 = i by omega]; exact hne, hB1_, hB2_, hB3_⟩) (by show (gq 2 j) - (i + 1) < (gq 2 j) - i; omega) hO hR _ _ hP hD hS ls (lv_sub hl [0, 1, 2, 3, 4, 5] rfl)
