def fv5 (a b c d e : Int32) : Nat → Int32 := upd (upd (upd (upd (upd (fun _ => 0) 0 a) 1 b) 2 c) 3 d) 4 e
def byv (fv : Nat → Int32) (k : Nat) : Int32 := vp_nar .byte ((fv (k / 4) >>> (nI (24 - 8 * (k % 4)) &&& 31)).toInt8.toInt32)
theorem bfm_of {F : Nat → va_E} {a n : Nat} {c : ClassId} {f : Nat → Int32} (hF : F a = .inl (c, n, .inl f)) (h : ∃ g : Nat → Int32, F a = .inl (c, n, .inl g) ∧ BFm g) : BFm f := by
  obtain ⟨g, h1, h2⟩ := h
  have e := hF.symm.trans h1
  injection e with e
  injection e with _ e
  injection e with _ e
  injection e with e
  rw [e]
  exact h2
set_option maxHeartbeats 4000000 in
set_option maxRecDepth 100000 in
theorem s_X15_feed_e (l : Launch) (dC : Nat → ClassId) (dI : Nat → Nat → Nat) (cs : Nat → ClassId) (ty0 : TyM) (gm : Nat → Nat → Nat) (L0 : List Nat) (sz : Nat) (F : Nat → va_E) (h0 : Nat) (ρ : Nat) (ta : Nat) (ou : Nat) (so : Nat) (ad : Nat) (na : Nat) (va : Nat) (lc : Nat) (dm : Nat) (tg : Nat) (pe : Nat) (ml : Nat) (bg : Nat) (co : Nat) (sp : Nat) (nb0 : Nat) (nb1 : Nat) (nb2 : Nat) (pl : Nat) (se : Nat) (ke : Nat) (wi : Nat) (hs : Nat) (mo : Nat) (po : Nat) (nu : Nat) (pr : Nat) (sq : Nat) (xa : Nat) (sa : Nat) (n64 : Nat) (m64 : Nat) (ex : Nat) (wh : Nat) (sd : Nat) (tk : Nat) (hd : Nat) (ak : Nat) (ho : Nat) (ot : Nat) (sx : Nat) (s0 : Nat) (s1 : Nat) (s2 : Nat) (nf : Nat) (bd : Nat) (mm : Nat) (zo : Nat) (fm : Nat) (sn : Nat) (hg : Nat) (gc : Nat) (gv : Nat) (ze : Nat) (zt : Nat) (x1 : Int32) (x2 : Int32) (x3 : Int32) (x4 : Int32) (x5 : Int32) (gt : Nat → Int32) (hW : WTm ty0 gm L0) (hL_h0 : h0 ∈ L0) (hT_h0 : ty0 h0 = (15, ρ, [ta, ou, so, ad, na, va, lc, dm, tg, pe, ml, bg, co, sp, nb0, nb1, nb2, pl, se, ke, wi, hs, mo, po, nu, pr, sq, xa, sa, n64, m64, ex, wh, sd, tk, hd, ak, ho, ot, sx, s0, s1, s2, nf, bd, mm, zo, fm, sn, hg, gc, gv, ze, zt])) (hFta : F ta = .inl (cs 17, 3000, .inl gt)) (hfit : zt + 20 ≤ 3000) : Met l yX15_feed (.code yX15_feed cX15_feed 8 (some .int) :: tb) ({ frames := 0, cells := 1, slots := 5, locals := 0 }) (va_Pc [.ref h0, .int x1, .int x2, .int x3, .int x4, .int x5] (PTm (dC, dI) cs ty0 gm L0 F sz)) (va_Qi (fun (r : Int32) (_ : Unit) => r = nI (zt + 20)) (fun _ T9 => ∃ F2 : Nat → va_E, ∃ ty2 : TyM, ∃ g2 : Nat → Int32, ty2 = rtf ty0 h0 (15, ρ, [ta, ou, so, ad, na, va, lc, dm, tg, pe, ml, bg, co, sp, nb0, nb1, nb2, pl, se, ke, wi, hs, mo, po, nu, pr, sq, xa, sa, n64, m64, ex, wh, sd, tk, hd, ak, ho, ot, sx, s0, s1, s2, nf, bd, mm, zo, fm, sn, hg, gc, gv, ze, zt + 20]) ∧ QTm (dC, dI) cs ty2 gm L0 [ρ, ρ + 1] F F2 (va_A (va_pl L0 F) sz) T9 ∧ WTm ty2 gm L0 ∧ F2 ta = .inl (cs 17, 3000, .inl g2) ∧ (∀ i, i < zt → g2 i = gt i) ∧ (∀ k, k < 20 → g2 (zt + k) = byv (fv5 x1 x2 x3 x4 x5) k)) (va_A (va_pl L0 F) sz)) 1 5 (va_A (va_pl L0 F) sz) := by
  refine Met.ofW (cc := cX15_feed) (maxL := 8) (ret := (some .int)) (by decide) rfl ?_
  intro p e s m args below meth c s₁ B hml hv
  obtain ⟨rfl, hsz, hP, hK, hD0, hE, hO⟩ := hv
  have hx := B.exec
  have hb := B.bytes
  have hr := B.returns
  have hts : ∀ w ∈ tb, w.before _ s = true := fun w h => atoms_spec (ws := .code yX15_feed cX15_feed 8 (some .int) :: tb) B.pre w (List.mem_cons_of_mem _ h)
  have hown : s.vm.findClass RX15 = some m.cls := findClass_of_methodNamed B.named
  have hlocks := B.notSynchronized
  subst hsz
  have hD := hD0.self (sz := s.heap.size)
  generalize hAe : va_A (va_pl L0 F) s.heap.size = A at hD ⊢
  have hA : ∀ q : Nat, s.heap.size ≤ q → A q := fun q h => by rw [← hAe]; exact Or.inr h
  have hS : va_S A s.heap s.heap [] := va_S.rf
  have hR : FR ty0 [ρ, ρ + 1] F F := FR.refl
  have hl := lv_entry ([.ref h0, .int x1, .int x2, .int x3, .int x4, .int x5]) (n := 8) (Nat.le_of_ble_eq_true rfl)
  rw [lg_entry_eq]
  generalize (lg_sl ([.ref h0, .int x1, .int x2, .int x3, .int x4, .int x5]) ++ List.replicate (8 - (lg_sl ([.ref h0, .int x1, .int x2, .int x3, .int x4, .int x5])).length) Slot.unset).toArray = ls at hl ⊢
  have hl : lv_has ls 8 [(0, .ref h0), (1, .int x1), (2, .int x2), (3, .int x3), (4, .int x4), (5, .int x5)] := hl
  obtain ⟨hq_23, hq_24, hq_25, hq_26, hq_27, hgO, hgA, hgB, hq_28⟩ := hW.sc hL_h0 hT_h0
  refine lv_aload_n hx hb dX15_feed_0 rfl (lv_at hl 0 rfl) ?_
  obtain ⟨v14_29, v15_30, v17_31, v18_32, v19_33, v20_34, v21_35, v22_36, v33_37, v52_38, v53_39, v54_40, hF_41, hq_42, hq_43, hq_44, hq_45, hq_46⟩ := hO.mod hL_h0 hT_h0
  refine pg_get (ci := 15) (v := .int (nI zt)) (C := RX15) (T := TX15) (N := 59) hx hb hts it_15 hown hK hP hL_h0 hF_41 rfl 1 (by decide) (hts _ kt_998) (fun _ h9 => h9) rfl dX15_feed_1 ?_
  refine lv_bipush (v := 20) hx hb dX15_feed_4 (by decide) ?_
  refine lv_iadd hx hb dX15_feed_6 ?_
  refine lv_topi (fun x_47 ex_47 => ?_)
  obtain rfl : x_47 = (nI (zt + 20)) := ex_47.trans (nI_add zt 20)
  refine lv_sipush (v := 3000) hx hb dX15_feed_7 (by decide) ?_
  refine lv_icmp_le (tgt := 16) hx hb dX15_feed_10 (by decide) (fun c_48 => ?_) (fun c_48 => absurd ((nI_leI (b := 3000) (by omega) (by omega)).mpr hfit) c_48)
  obtain ⟨hi_49, ht_50⟩ := hW.f_ta hL_h0 hT_h0
  have hiT := hi_49
  refine lv_iconst (v := 5) hx hb dX15_feed_16 (by decide) ?_
  refine va_newa (atype := .int) (ty := .int) (a0 := (5, .inl (fun _ => 0))) (N' := 5) hx hb (hts _ kt_1007) rfl hK hP hD hS hA (fun _ => rfl) (by decide) (by decide) (by show _ * 4 ≤ _; omega) (by show _ + 1 ≤ 1; omega) (by show _ + 5 ≤ 5; omega) dX15_feed_17 (fun q5 cA H hKn hP hD hS => ?_)
  have hq5 : q5 ∉ L0 := va_pl_fresh2 (X := []) hD
  obtain rfl : cA = cs 16 := cid_int hK hKn
  rw [va_pl_push hq5] at hP hD
  have hW0 := hW
  have hT0 := hT_h0
  have hL00 := hL_h0
  obtain ⟨L, hL9⟩ : ∃ L : List Nat, L = L0 ++ [q5] := ⟨_, rfl⟩
  obtain ⟨ty, hty9⟩ : ∃ t9 : TyM, t9 = rtf ty0 q5 (16, ρ, [5]) := ⟨_, rfl⟩
  obtain ⟨F5, hF5e⟩ : ∃ G : Nat → va_E, G = va_up F q5 (.inl (cs 16, 5, .inl (fun _ => 0))) := ⟨_, rfl⟩
  have hO : OKm cs ty gm L F5 := by rw [hL9, hty9, hF5e]; exact OKm.ext hO hq5 (shm.ints rtf_self ⟨_, rfl⟩)
  have hW : WTm ty gm L := by rw [hL9, hty9]; exact WTm.ext_ints hW hq5 ⟨by decide, by decide⟩
  have hR : FR ty [ρ, ρ + 1] F F5 := by rw [hty9, hF5e]; exact FR.refl.up rtf_self (by simp)
  rw [← hL9, ← hF5e] at hP hD
  have hL_h0 : h0 ∈ L := by rw [hL9]; exact List.mem_append_left _ hL00
  have hT_h0 : ty h0 = (15, ρ, [ta, ou, so, ad, na, va, lc, dm, tg, pe, ml, bg, co, sp, nb0, nb1, nb2, pl, se, ke, wi, hs, mo, po, nu, pr, sq, xa, sa, n64, m64, ex, wh, sd, tk, hd, ak, ho, ot, sx, s0, s1, s2, nf, bd, mm, zo, fm, sn, hg, gc, gv, ze, zt]) := by rw [hty9]; exact rtf_in hq5 hL00 hT0
  have hi5 : q5 ∈ L := by rw [hL9]; exact List.mem_append_right _ (List.mem_singleton.mpr rfl)
  have ht5 : ty q5 = (16, ρ, [5]) := by rw [hty9]; exact rtf_self
  have hF5 : F5 q5 = .inl (cs 16, 5, .inl (fun _ => 0)) := by rw [hF5e]; exact up_self
  obtain ⟨hq_73, hq_74, hq_75, hq_76, hq_77, hgO, hgA, hgB, hq_78⟩ := hW.sc hL_h0 hT_h0
  have hFta5 : F5 ta = .inl (cs 17, 3000, .inl gt) := by rw [hF5e, up_ne (ne_in hq5 hiT)]; exact hFta
  refine lv_dup hx hb dX15_feed_19 rfl ?_
  refine lv_iconst (v := 0) hx hb dX15_feed_20 (by decide) ?_
  refine lv_iload_n hx hb dX15_feed_21 rfl (lv_at hl 1 rfl) ?_
  obtain ⟨hq_79, hq_80⟩ := hW.ints hi5 ht5
  refine pg_iast hx hb hK hP hD hS hi5 0 hF5 rfl (show vp_in (0 : Int32) 5 from (show vp_in (nI 0) 5 from vp_in_nI (by omega) (by omega))) dX15_feed_22 (fun H locs hP hD hS => ?_)
  obtain ⟨F_81, he_82, hP, hD, hO, hR⟩ : ∃ G, G = va_up F5 q5 (.inl (cs 16, 5, .inl (upd (fun _ => 0) (0 : Int32).toNatClampNeg (x1)))) ∧ va_P (dC, dI) vwCl (va_pl L G) H ∧ va_D A (va_pl L G) ∧ OKm cs ty gm L G ∧ FR ty [ρ, ρ + 1] F G := ⟨_, rfl, hP, hD, hO.up (shm.ints ht5 ⟨_, rfl⟩), hR.up ht5 (by simp)⟩
  have hF_83 : F_81 q5 = .inl (cs 16, 5, .inl (upd (fun _ => 0) (0 : Int32).toNatClampNeg (x1))) := by rw [he_82]; exact up_self
  obtain ⟨hi_85, ht_86⟩ := hW.f_ta hL_h0 hT_h0
  have hF_84 : F_81 ta = .inl (cs 17, 3000, .inl gt) := by rw [he_82, up_ne (ne_ty ht_86 ht5 (by simp))]; exact hFta5
  have hF_87 : F_81 q5 = .inl (cs 16, 5, .inl (upd (fun _ => 0) 0 x1)) := by have h9 := hF_83; rwa [show (0 : Int32).toNatClampNeg = 0 by decide] at h9
  refine lv_dup hx hb dX15_feed_23 rfl ?_
  refine lv_iconst (v := 1) hx hb dX15_feed_24 (by decide) ?_
  refine lv_iload_n hx hb dX15_feed_25 rfl (lv_at hl 2 rfl) ?_
  refine pg_iast hx hb hK hP hD hS hi5 0 hF_87 rfl (show vp_in (1 : Int32) 5 from (show vp_in (nI 1) 5 from vp_in_nI (by omega) (by omega))) dX15_feed_26 (fun H locs hP hD hS => ?_)
  obtain ⟨F_88, he_89, hP, hD, hO, hR⟩ : ∃ G, G = va_up F_81 q5 (.inl (cs 16, 5, .inl (upd (upd (fun _ => 0) 0 x1) (1 : Int32).toNatClampNeg (x2)))) ∧ va_P (dC, dI) vwCl (va_pl L G) H ∧ va_D A (va_pl L G) ∧ OKm cs ty gm L G ∧ FR ty [ρ, ρ + 1] F G := ⟨_, rfl, hP, hD, hO.up (shm.ints ht5 ⟨_, rfl⟩), hR.up ht5 (by simp)⟩
  have hF_90 : F_88 q5 = .inl (cs 16, 5, .inl (upd (upd (fun _ => 0) 0 x1) (1 : Int32).toNatClampNeg (x2))) := by rw [he_89]; exact up_self
  have hF_91 : F_88 ta = .inl (cs 17, 3000, .inl gt) := by rw [he_89, up_ne (ne_ty ht_86 ht5 (by simp))]; exact hF_84
  have hF_92 : F_88 q5 = .inl (cs 16, 5, .inl (upd (upd (fun _ => 0) 0 x1) 1 x2)) := by have h9 := hF_90; rwa [show (1 : Int32).toNatClampNeg = 1 by decide] at h9
  refine lv_dup hx hb dX15_feed_27 rfl ?_
  refine lv_iconst (v := 2) hx hb dX15_feed_28 (by decide) ?_
  refine lv_iload_n hx hb dX15_feed_29 rfl (lv_at hl 3 rfl) ?_
  refine pg_iast hx hb hK hP hD hS hi5 0 hF_92 rfl (show vp_in (2 : Int32) 5 from (show vp_in (nI 2) 5 from vp_in_nI (by omega) (by omega))) dX15_feed_30 (fun H locs hP hD hS => ?_)
  obtain ⟨F_93, he_94, hP, hD, hO, hR⟩ : ∃ G, G = va_up F_88 q5 (.inl (cs 16, 5, .inl (upd (upd (upd (fun _ => 0) 0 x1) 1 x2) (2 : Int32).toNatClampNeg (x3)))) ∧ va_P (dC, dI) vwCl (va_pl L G) H ∧ va_D A (va_pl L G) ∧ OKm cs ty gm L G ∧ FR ty [ρ, ρ + 1] F G := ⟨_, rfl, hP, hD, hO.up (shm.ints ht5 ⟨_, rfl⟩), hR.up ht5 (by simp)⟩
  have hF_95 : F_93 q5 = .inl (cs 16, 5, .inl (upd (upd (upd (fun _ => 0) 0 x1) 1 x2) (2 : Int32).toNatClampNeg (x3))) := by rw [he_94]; exact up_self
  have hF_96 : F_93 ta = .inl (cs 17, 3000, .inl gt) := by rw [he_94, up_ne (ne_ty ht_86 ht5 (by simp))]; exact hF_91
  have hF_97 : F_93 q5 = .inl (cs 16, 5, .inl (upd (upd (upd (fun _ => 0) 0 x1) 1 x2) 2 x3)) := by have h9 := hF_95; rwa [show (2 : Int32).toNatClampNeg = 2 by decide] at h9
  refine lv_dup hx hb dX15_feed_31 rfl ?_
  refine lv_iconst (v := 3) hx hb dX15_feed_32 (by decide) ?_
  refine lv_iload hx hb dX15_feed_33 (lv_at hl 4 rfl) ?_
  refine pg_iast hx hb hK hP hD hS hi5 0 hF_97 rfl (show vp_in (3 : Int32) 5 from (show vp_in (nI 3) 5 from vp_in_nI (by omega) (by omega))) dX15_feed_35 (fun H locs hP hD hS => ?_)
  obtain ⟨F_98, he_99, hP, hD, hO, hR⟩ : ∃ G, G = va_up F_93 q5 (.inl (cs 16, 5, .inl (upd (upd (upd (upd (fun _ => 0) 0 x1) 1 x2) 2 x3) (3 : Int32).toNatClampNeg (x4)))) ∧ va_P (dC, dI) vwCl (va_pl L G) H ∧ va_D A (va_pl L G) ∧ OKm cs ty gm L G ∧ FR ty [ρ, ρ + 1] F G := ⟨_, rfl, hP, hD, hO.up (shm.ints ht5 ⟨_, rfl⟩), hR.up ht5 (by simp)⟩
  have hF_100 : F_98 q5 = .inl (cs 16, 5, .inl (upd (upd (upd (upd (fun _ => 0) 0 x1) 1 x2) 2 x3) (3 : Int32).toNatClampNeg (x4))) := by rw [he_99]; exact up_self
  have hF_101 : F_98 ta = .inl (cs 17, 3000, .inl gt) := by rw [he_99, up_ne (ne_ty ht_86 ht5 (by simp))]; exact hF_96
  have hF_102 : F_98 q5 = .inl (cs 16, 5, .inl (upd (upd (upd (upd (fun _ => 0) 0 x1) 1 x2) 2 x3) 3 x4)) := by have h9 := hF_100; rwa [show (3 : Int32).toNatClampNeg = 3 by decide] at h9
  refine lv_dup hx hb dX15_feed_36 rfl ?_
  refine lv_iconst (v := 4) hx hb dX15_feed_37 (by decide) ?_
  refine lv_iload hx hb dX15_feed_38 (lv_at hl 5 rfl) ?_
  refine pg_iast hx hb hK hP hD hS hi5 0 hF_102 rfl (show vp_in (4 : Int32) 5 from (show vp_in (nI 4) 5 from vp_in_nI (by omega) (by omega))) dX15_feed_40 (fun H locs hP hD hS => ?_)
  obtain ⟨F_103, he_104, hP, hD, hO, hR⟩ : ∃ G, G = va_up F_98 q5 (.inl (cs 16, 5, .inl (upd (upd (upd (upd (upd (fun _ => 0) 0 x1) 1 x2) 2 x3) 3 x4) (4 : Int32).toNatClampNeg (x5)))) ∧ va_P (dC, dI) vwCl (va_pl L G) H ∧ va_D A (va_pl L G) ∧ OKm cs ty gm L G ∧ FR ty [ρ, ρ + 1] F G := ⟨_, rfl, hP, hD, hO.up (shm.ints ht5 ⟨_, rfl⟩), hR.up ht5 (by simp)⟩
  have hF_105 : F_103 q5 = .inl (cs 16, 5, .inl (upd (upd (upd (upd (upd (fun _ => 0) 0 x1) 1 x2) 2 x3) 3 x4) (4 : Int32).toNatClampNeg (x5))) := by rw [he_104]; exact up_self
  have hF_106 : F_103 ta = .inl (cs 17, 3000, .inl gt) := by rw [he_104, up_ne (ne_ty ht_86 ht5 (by simp))]; exact hF_101
  have hF_107 : F_103 q5 = .inl (cs 16, 5, .inl (upd (upd (upd (upd (upd (fun _ => 0) 0 x1) 1 x2) 2 x3) 3 x4) 4 x5)) := by have h9 := hF_105; rwa [show (4 : Int32).toNatClampNeg = 4 by decide] at h9
  refine lv_astore (lv' := [(6, .ref q5), (0, .ref h0), (1, .int x1), (2, .int x2), (3, .int x3), (4, .int x4), (5, .int x5)]) hx hb dX15_feed_41 hl (by decide) rfl (fun ls hl => ?_)
  have hFq : F_103 q5 = .inl (cs 16, 5, .inl (fv5 x1 x2 x3 x4 x5)) := hF_107
  refine lv_iconst (v := 0) hx hb dX15_feed_43 (by decide) ?_
  refine lv_istore (lv' := [(7, .int 0), (6, .ref q5), (0, .ref h0), (1, .int x1), (2, .int x2), (3, .int x3), (4, .int x4), (5, .int x5)]) hx hb dX15_feed_44 hl (by decide) rfl (fun ls hl => ?_)
  refine W.widen (k := 1) (n := 5) (by omega) (by omega) ?_
  refine pl_loopm (σ := Nat) A (dC, dI) cs ty gm L [ρ, ρ + 1] F 46 8 (fun j => [(7, .int (nI j)), (6, .ref q5), (0, .ref h0)]) (fun j => []) (fun j FF => j ≤ 20 ∧ FF q5 = .inl (cs 16, 5, .inl (fv5 x1 x2 x3 x4 x5)) ∧ ∃ g2 : Nat → Int32, FF ta = .inl (cs 17, 3000, .inl g2) ∧ (∀ i, i < zt → g2 i = gt i) ∧ (∀ k, k < j → g2 (zt + k) = byv (fv5 x1 x2 x3 x4 x5) k)) (fun j => 20 - j) ?_ 0 F_103 (⟨by omega, hFq, gt, hF_106, fun _ _ => rfl, fun k hk => absurd hk (Nat.not_lt_zero _)⟩) hO hR _ _ hP hD hS ls (lv_sub hl [0, 1, 2] rfl)
  rintro j F_108 hv_109 hO hR ih_110 H locs hP hD hS ls hl
  have hl : lv_has ls 8 [(7, .int (nI j)), (6, .ref q5), (0, .ref h0)] := hl
  have hv_109 : j ≤ 20 ∧ F_108 q5 = .inl (cs 16, 5, .inl (fv5 x1 x2 x3 x4 x5)) ∧ ∃ g2 : Nat → Int32, F_108 ta = .inl (cs 17, 3000, .inl g2) ∧ (∀ i, i < zt → g2 i = gt i) ∧ (∀ k, k < j → g2 (zt + k) = byv (fv5 x1 x2 x3 x4 x5) k) := hv_109
  refine W.eq (g2 := F0 m 46 ls []) rfl ?_
  obtain ⟨hj1, hj2, g2, hj3, hj4, hj5⟩ := hv_109
  have hBF := bfm_of hj3 (hO.octs hi_85 ht_86)
  refine lv_iload hx hb dX15_feed_46 (lv_at hl 0 rfl) ?_
  refine lv_bipush (v := 20) hx hb dX15_feed_48 (by decide) ?_
  refine lv_icmp_ge (tgt := 90) hx hb dX15_feed_50 (by decide) (fun c_111 => ?_) (fun c_111 => ?_)
  ·
    have hi_112 : 20 ≤ j := leN (N := 20) c_111
    obtain rfl : j = 20 := by omega
    refine lv_aload_n hx hb dX15_feed_90 rfl (lv_at hl 2 rfl) ?_
    refine lv_dup hx hb dX15_feed_91 rfl ?_
    obtain ⟨v14_113, v15_114, v17_115, v18_116, v19_117, v20_118, v21_119, v22_120, v33_121, v52_122, v53_123, v54_124, hF_125, hq_126, hq_127, hq_128, hq_129, hq_130⟩ := hO.mod hL_h0 hT_h0
    refine pg_get (ci := 15) (v := .int (nI zt)) (C := RX15) (T := TX15) (N := 59) hx hb hts it_15 hown hK hP hL_h0 hF_125 rfl 1 (by decide) (hts _ kt_998) (fun _ h9 => h9) rfl dX15_feed_92 ?_
    refine lv_bipush (v := 20) hx hb dX15_feed_95 (by decide) ?_
    refine lv_iadd hx hb dX15_feed_97 ?_
    refine lv_topi (fun x_131 ex_131 => ?_)
    obtain rfl : x_131 = (nI (zt + 20)) := ex_131.trans (nI_add zt 20)
    refine pg_put (ci := 15) (v := .int (nI (zt + 20))) (ty := .int) (C := RX15) (T := TX15) (N := 59) hx hb hts it_15 tyX15 tyX15_ok nmX15 hown hK hP hD hS hL_h0 hF_125 rfl 1 (by decide) (hts _ kt_998) (fun _ h9 => h9) rfl (by decide +kernel) (rfl) (rfl) (Nat.le_of_ble_eq_true rfl) dX15_feed_98 (fun H locs hP hD hS => ?_)
    obtain ⟨F_132, he_133, hP, hD, hR⟩ : ∃ G, G = va_up F_108 h0 (.inr (15, (.ref ta) :: (.int (nI (zt + 20))) :: (.int (nI zo)) :: (.int (nI ze)) :: (.ref ou) :: (.ref so) :: (.ref ad) :: (.ref na) :: (.ref va) :: (.ref lc) :: (.ref dm) :: (.int (nI fm)) :: (.int (nI sn)) :: (.ref tg) :: (.int v14_113) :: (.int v15_114) :: (.ref pe) :: (.int v17_115) :: (.int v18_116) :: (.int v19_117) :: (.int v20_118) :: (.int v21_119) :: (.int v22_120) :: (.ref ml) :: (.ref bg) :: (.ref co) :: (.ref sp) :: (.ref nb0) :: (.ref nb1) :: (.ref nb2) :: (.int (nI nf)) :: (.int (nI bd)) :: (.int (nI mm)) :: (.int v33_121) :: (.ref pl) :: (.ref se) :: (.ref ke) :: (.ref wi) :: (.ref hs) :: (.ref mo) :: (.ref po) :: (.ref nu) :: (.ref pr) :: (.ref sq) :: (.ref xa) :: (.ref sa) :: (.ref n64) :: (.ref m64) :: (.ref ex) :: (.ref wh) :: (.ref sd) :: (.ref tk) :: (.int v52_122) :: (.int v53_123) :: (.int v54_124) :: (.ref hd) :: (.ref ak) :: (.ref ho) :: (.ref ot) :: [])) ∧ va_P (dC, dI) vwCl (va_pl L G) H ∧ va_D A (va_pl L G) ∧ FR ty [ρ, ρ + 1] F G := ⟨_, rfl, hP, hD, hR.up hT_h0 (by simp)⟩
    have hF_134 : F_132 ta = .inl (cs 17, 3000, .inl g2) := by rw [he_133, up_ne (ne_ty ht_86 hT_h0 (by simp))]; exact hj3
    obtain ⟨ty, hty, hT_h0, hW, hO, hR⟩ : ∃ t9 : TyM, t9 = rtf ty h0 (15, ρ, [ta, ou, so, ad, na, va, lc, dm, tg, pe, ml, bg, co, sp, nb0, nb1, nb2, pl, se, ke, wi, hs, mo, po, nu, pr, sq, xa, sa, n64, m64, ex, wh, sd, tk, hd, ak, ho, ot, sx, s0, s1, s2, nf, bd, mm, zo, fm, sn, hg, gc, gv, ze, zt + 20]) ∧ t9 h0 = (15, ρ, [ta, ou, so, ad, na, va, lc, dm, tg, pe, ml, bg, co, sp, nb0, nb1, nb2, pl, se, ke, wi, hs, mo, po, nu, pr, sq, xa, sa, n64, m64, ex, wh, sd, tk, hd, ak, ho, ot, sx, s0, s1, s2, nf, bd, mm, zo, fm, sn, hg, gc, gv, ze, zt + 20]) ∧ WTm t9 gm L ∧ OKm cs t9 gm L F_132 ∧ FR t9 [ρ, ρ + 1] F F_132 := ⟨_, rfl, rtf_self, hW.zt hL_h0 hT_h0 (by omega), (by rw [he_133]; exact OKm.retype hO hT_h0 (shm.mod rtf_self ⟨v14_113, v15_114, v17_115, v18_116, v19_117, v20_118, v21_119, v22_120, v33_121, v52_122, v53_123, v54_124, rfl, (by first | omega | assumption | exact Or.inl rfl | exact Or.inr rfl), (by first | omega | assumption | exact Or.inl rfl | exact Or.inr rfl), (by first | omega | assumption | exact Or.inl rfl | exact Or.inr rfl), (by first | omega | assumption | exact Or.inl rfl | exact Or.inr rfl), (by first | omega | assumption | exact Or.inl rfl | exact Or.inr rfl)⟩)), FR.retype hT_h0 hR⟩
    have hF_135 : F_132 h0 = .inr (15, (.ref ta) :: (.int (nI (zt + 20))) :: (.int (nI zo)) :: (.int (nI ze)) :: (.ref ou) :: (.ref so) :: (.ref ad) :: (.ref na) :: (.ref va) :: (.ref lc) :: (.ref dm) :: (.int (nI fm)) :: (.int (nI sn)) :: (.ref tg) :: (.int v14_113) :: (.int v15_114) :: (.ref pe) :: (.int v17_115) :: (.int v18_116) :: (.int v19_117) :: (.int v20_118) :: (.int v21_119) :: (.int v22_120) :: (.ref ml) :: (.ref bg) :: (.ref co) :: (.ref sp) :: (.ref nb0) :: (.ref nb1) :: (.ref nb2) :: (.int (nI nf)) :: (.int (nI bd)) :: (.int (nI mm)) :: (.int v33_121) :: (.ref pl) :: (.ref se) :: (.ref ke) :: (.ref wi) :: (.ref hs) :: (.ref mo) :: (.ref po) :: (.ref nu) :: (.ref pr) :: (.ref sq) :: (.ref xa) :: (.ref sa) :: (.ref n64) :: (.ref m64) :: (.ref ex) :: (.ref wh) :: (.ref sd) :: (.ref tk) :: (.int v52_122) :: (.int v53_123) :: (.int v54_124) :: (.ref hd) :: (.ref ak) :: (.ref ho) :: (.ref ot) :: []) := by rw [he_133]; exact up_self
    obtain ⟨hq_158, hq_159, hq_160, hq_161, hq_162, hgO, hgA, hgB, hq_163⟩ := hW.sc hL_h0 hT_h0
    refine lv_aload_n hx hb dX15_feed_101 rfl (lv_at hl 2 rfl) ?_
    refine pg_get (ci := 15) (v := .int (nI (zt + 20))) (C := RX15) (T := TX15) (N := 59) hx hb hts it_15 hown hK hP hL_h0 hF_135 rfl 1 (by decide) (hts _ kt_998) (fun _ h9 => h9) rfl dX15_feed_102 ?_
    have hq0 : h0 ≠ q5 := fun w => hq5 (w ▸ hL00)
    have hO3 : OKm cs (rtf (rtf ty0 h0 (15, ρ, [ta, ou, so, ad, na, va, lc, dm, tg, pe, ml, bg, co, sp, nb0, nb1, nb2, pl, se, ke, wi, hs, mo, po, nu, pr, sq, xa, sa, n64, m64, ex, wh, sd, tk, hd, ak, ho, ot, sx, s0, s1, s2, nf, bd, mm, zo, fm, sn, hg, gc, gv, ze, zt + 20])) q5 (16, ρ, [5])) gm (L0 ++ [q5]) F_132 := by rw [rtf_comm hq0, ← hty9, ← hty, ← hL9]; exact hO
    have hO2 : OKm cs (rtf ty0 h0 (15, ρ, [ta, ou, so, ad, na, va, lc, dm, tg, pe, ml, bg, co, sp, nb0, nb1, nb2, pl, se, ke, wi, hs, mo, po, nu, pr, sq, xa, sa, n64, m64, ex, wh, sd, tk, hd, ak, ho, ot, sx, s0, s1, s2, nf, bd, mm, zo, fm, sn, hg, gc, gv, ze, zt + 20])) gm L0 (va_up F_132 q5 (F q5)) := OKm.cut hq5 (by simp) hO3
    have hR3 : FR (rtf (rtf ty0 h0 (15, ρ, [ta, ou, so, ad, na, va, lc, dm, tg, pe, ml, bg, co, sp, nb0, nb1, nb2, pl, se, ke, wi, hs, mo, po, nu, pr, sq, xa, sa, n64, m64, ex, wh, sd, tk, hd, ak, ho, ot, sx, s0, s1, s2, nf, bd, mm, zo, fm, sn, hg, gc, gv, ze, zt + 20])) q5 (16, ρ, [5])) [ρ, ρ + 1] F F_132 := by rw [rtf_comm hq0, ← hty9, ← hty]; exact hR
    have hR2 := FR.cut hR3
    have hP2 : va_P (dC, dI) vwCl (va_pl L0 (va_up F_132 q5 (F q5))) H := va_P.by (ws := va_pl (L0 ++ [q5]) F_132) (by rw [← hL9]; exact hP) (fun k => k) (pl_sub hq5)
    have hD2 : va_D A (va_pl L0 (va_up F_132 q5 (F q5))) := va_D.by (ws := va_pl (L0 ++ [q5]) F_132) (by rw [← hL9]; exact hD) (fun k => k) (pl_sub hq5) (fun i j _ _ h => h)
    have hW2 : WTm (rtf ty0 h0 (15, ρ, [ta, ou, so, ad, na, va, lc, dm, tg, pe, ml, bg, co, sp, nb0, nb1, nb2, pl, se, ke, wi, hs, mo, po, nu, pr, sq, xa, sa, n64, m64, ex, wh, sd, tk, hd, ak, ho, ot, sx, s0, s1, s2, nf, bd, mm, zo, fm, sn, hg, gc, gv, ze, zt + 20])) gm L0 := hW0.zt hL00 hT0 (by omega)
    refine W.widen (k := 1) (n := 5) (by omega) (by omega) ?_
    exact W.iret (v := (nI (zt + 20))) hx hb hr (fun t ht hWm => ⟨⟨(nI (zt + 20)), (), rfl, rfl, ⟨va_up F_132 q5 (F q5), rtf ty0 h0 (15, ρ, [ta, ou, so, ad, na, va, lc, dm, tg, pe, ml, bg, co, sp, nb0, nb1, nb2, pl, se, ke, wi, hs, mo, po, nu, pr, sq, xa, sa, n64, m64, ex, wh, sd, tk, hd, ak, ho, ot, sx, s0, s1, s2, nf, bd, mm, zo, fm, sn, hg, gc, gv, ze, zt + 20]), g2, rfl, QTm.mk ht hP2 hD2 hO2 hR2, hW2, (by rw [up_ne (ne_in hq5 hiT)]; exact hF_134), hj4, hj5⟩⟩, hS.F ht⟩) hS.2.2 dX15_feed_105
  ·
    have hi_164 : j < 20 := ltN (N := 20) c_111
    refine lv_aload_n hx hb dX15_feed_53 rfl (lv_at hl 2 rfl) ?_
    obtain ⟨v14_165, v15_166, v17_167, v18_168, v19_169, v20_170, v21_171, v22_172, v33_173, v52_174, v53_175, v54_176, hF_177, hq_178, hq_179, hq_180, hq_181, hq_182⟩ := hO.mod hL_h0 hT_h0
    refine pg_get (ci := 15) (v := .ref ta) (C := RX15) (T := TX15) (N := 59) hx hb hts it_15 hown hK hP hL_h0 hF_177 rfl 0 (by decide) (hts _ kt_1006) (fun _ h9 => h9) rfl dX15_feed_54 ?_
    refine lv_aload_n hx hb dX15_feed_57 rfl (lv_at hl 2 rfl) ?_
    refine pg_get (ci := 15) (v := .int (nI zt)) (C := RX15) (T := TX15) (N := 59) hx hb hts it_15 hown hK hP hL_h0 hF_177 rfl 1 (by decide) (hts _ kt_998) (fun _ h9 => h9) rfl dX15_feed_58 ?_
    refine lv_iload hx hb dX15_feed_61 (lv_at hl 0 rfl) ?_
    refine lv_iadd hx hb dX15_feed_63 ?_
    refine lv_topi (fun x_183 ex_183 => ?_)
    obtain rfl : x_183 = (nI (zt + j)) := ex_183.trans (nI_add zt j)
    refine lv_aload hx hb dX15_feed_64 (lv_at hl 1 rfl) ?_
    refine lv_iload hx hb dX15_feed_66 (lv_at hl 0 rfl) ?_
    refine lv_iconst (v := 4) hx hb dX15_feed_68 (by decide) ?_
    refine lv_idiv hx hb dX15_feed_69 (by decide) ?_
    refine lv_topi (fun x_184 ex_184 => ?_)
    obtain rfl : x_184 = (nI (j / 4)) := ex_184.trans (pk_div (d := 4) (by omega) (by omega) (by omega))
    refine pg_iald hx hb hK hP hi5 0 hj2 rfl (vp_in_nI (by omega) (by omega)) dX15_feed_70 ?_
    refine lv_topi (fun x_185 ex_185 => ?_)
    obtain rfl : x_185 = ((fv5 x1 x2 x3 x4 x5) (j / 4)) := ex_185.trans (congrArg (fv5 x1 x2 x3 x4 x5) (nI_clamp (by omega)))
    refine lv_bipush (v := 24) hx hb dX15_feed_71 (by decide) ?_
    refine lv_bipush (v := 8) hx hb dX15_feed_73 (by decide) ?_
    refine lv_iload hx hb dX15_feed_75 (lv_at hl 0 rfl) ?_
    refine lv_iconst (v := 4) hx hb dX15_feed_77 (by decide) ?_
    refine lv_irem hx hb dX15_feed_78 (by decide) ?_
    refine lv_topi (fun x_186 ex_186 => ?_)
    obtain rfl : x_186 = (nI (j % 4)) := ex_186.trans (pk_rem (a := j) (d := 4) (by omega) (by omega) (by omega))
    refine lv_imul hx hb dX15_feed_79 ?_
    refine lv_topi (fun x_187 ex_187 => ?_)
    obtain rfl : x_187 = (nI (8 * (j % 4))) := ex_187.trans (pk_mul 8 (j % 4))
    refine lv_isub hx hb dX15_feed_80 ?_
    refine lv_topi (fun x_188 ex_188 => ?_)
    obtain rfl : x_188 = (nI (24 - (8 * (j % 4)))) := ex_188.trans (pk_sub (a := 24) (b := (8 * (j % 4))) (by omega))
    refine lv_ishr hx hb dX15_feed_81 ?_
    refine lv_topi (fun x_189 ex_189 => ?_)
    obtain rfl : x_189 = ((fv5 x1 x2 x3 x4 x5) (j / 4) >>> (nI (24 - 8 * (j % 4)) &&& 31)) := ex_189.trans (rfl)
    refine lv_i2b hx hb dX15_feed_82 rfl ?_
    refine lv_topi (fun x_190 ex_190 => ?_)
    obtain rfl : x_190 = ((fv5 x1 x2 x3 x4 x5) (j / 4) >>> (nI (24 - 8 * (j % 4)) &&& 31)).toInt8.toInt32 := ex_190.trans (rfl)
    obtain ⟨hq_191, hq_192⟩ := hW.octs hi_85 ht_86
    refine pg_bast hx hb hK hP hD hS hi_85 1 hj3 rfl (vp_in_nI (by omega) (by omega)) dX15_feed_83 (fun H locs hP hD hS => ?_)
    obtain ⟨F_193, he_194, hP, hD, hO, hR⟩ : ∃ G, G = va_up F_108 ta (.inl (cs 17, 3000, .inl (upd g2 ((nI (zt + j))).toNatClampNeg (vp_nar .byte (((fv5 x1 x2 x3 x4 x5) (j / 4) >>> (nI (24 - 8 * (j % 4)) &&& 31)).toInt8.toInt32))))) ∧ va_P (dC, dI) vwCl (va_pl L G) H ∧ va_D A (va_pl L G) ∧ OKm cs ty gm L G ∧ FR ty [ρ, ρ + 1] F G := ⟨_, rfl, hP, hD, hO.up (shm.octs ht_86 ⟨_, rfl, bfm_upd hBF _ _⟩), hR.up ht_86 (by simp)⟩
    have hF_195 : F_193 ta = .inl (cs 17, 3000, .inl (upd g2 ((nI (zt + j))).toNatClampNeg (vp_nar .byte (((fv5 x1 x2 x3 x4 x5) (j / 4) >>> (nI (24 - 8 * (j % 4)) &&& 31)).toInt8.toInt32)))) := by rw [he_194]; exact up_self
    have hF_196 : F_193 q5 = .inl (cs 16, 5, .inl (fv5 x1 x2 x3 x4 x5)) := by rw [he_194, up_ne (ne_ty ht5 ht_86 (by simp))]; exact hj2
    have hF_197 : F_193 h0 = .inr (15, (.ref ta) :: (.int (nI zt)) :: (.int (nI zo)) :: (.int (nI ze)) :: (.ref ou) :: (.ref so) :: (.ref ad) :: (.ref na) :: (.ref va) :: (.ref lc) :: (.ref dm) :: (.int (nI fm)) :: (.int (nI sn)) :: (.ref tg) :: (.int v14_165) :: (.int v15_166) :: (.ref pe) :: (.int v17_167) :: (.int v18_168) :: (.int v19_169) :: (.int v20_170) :: (.int v21_171) :: (.int v22_172) :: (.ref ml) :: (.ref bg) :: (.ref co) :: (.ref sp) :: (.ref nb0) :: (.ref nb1) :: (.ref nb2) :: (.int (nI nf)) :: (.int (nI bd)) :: (.int (nI mm)) :: (.int v33_173) :: (.ref pl) :: (.ref se) :: (.ref ke) :: (.ref wi) :: (.ref hs) :: (.ref mo) :: (.ref po) :: (.ref nu) :: (.ref pr) :: (.ref sq) :: (.ref xa) :: (.ref sa) :: (.ref n64) :: (.ref m64) :: (.ref ex) :: (.ref wh) :: (.ref sd) :: (.ref tk) :: (.int v52_174) :: (.int v53_175) :: (.int v54_176) :: (.ref hd) :: (.ref ak) :: (.ref ho) :: (.ref ot) :: []) := by rw [he_194, up_ne (ne_ty hT_h0 ht_86 (by simp))]; exact hF_177
    obtain ⟨f_198, hF_195, hq_199, hfe_200⟩ : ∃ f : Nat → Int32, F_193 ta = .inl (cs 17, 3000, .inl f) ∧ BFm f ∧ f = upd g2 ((nI (zt + j))).toNatClampNeg (vp_nar .byte (((fv5 x1 x2 x3 x4 x5) (j / 4) >>> (nI (24 - 8 * (j % 4)) &&& 31)).toInt8.toInt32)) := ⟨_, hF_195, bfm_upd hBF _ _, rfl⟩
    refine lv_iinc (v := (nI (j + 1))) (lv' := [(7, .int (nI (j + 1))), (6, .ref q5), (0, .ref h0)]) hx hb dX15_feed_84 hl (k := 0) rfl (nI_1 _) (by decide) rfl (fun ls hl => ?_)
    refine lv_goto (tgt := 46) hx hb dX15_feed_87 (by decide) ?_
    refine W.widen (k := 1) (n := 5) (by omega) (by omega) ?_
    exact ih_110 (j + 1) F_193 (⟨by omega, hF_196, f_198, hF_195, fun i hi => by rw [hfe_200, nI_clamp (by omega), updm_ne (by omega)]; exact hj4 i hi, fun k hk => by rcases Nat.lt_or_ge k j with q | q; (rw [hfe_200, nI_clamp (by omega), updm_ne (by omega)]; exact hj5 k q); (rw [show k = j by omega, hfe_200, nI_clamp (by omega), updm_at]; rfl)⟩) (by show 20 - (j + 1) < 20 - j; omega) hO hR _ _ hP hD hS ls (lv_sub hl [0, 1, 2] rfl)
