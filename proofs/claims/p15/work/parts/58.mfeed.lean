theorem dX15_feed_0 : decode cX15_feed 0 = .ok (.aload_n 0, 1) := by decide +kernel
theorem dX15_feed_1 : decode cX15_feed 1 = .ok (.getfield 166, 3) := by decide +kernel
theorem dX15_feed_4 : decode cX15_feed 4 = .ok (.bipush 20, 2) := by decide +kernel
theorem dX15_feed_6 : decode cX15_feed 6 = .ok (.iadd, 1) := by decide +kernel
theorem dX15_feed_7 : decode cX15_feed 7 = .ok (.sipush 3000, 3) := by decide +kernel
theorem dX15_feed_10 : decode cX15_feed 10 = .ok (.if_icmp .le 6, 3) := by decide +kernel
theorem dX15_feed_13 : decode cX15_feed 13 = .ok (.bipush (-3), 2) := by decide +kernel
theorem dX15_feed_15 : decode cX15_feed 15 = .ok (.ireturn, 1) := by decide +kernel
theorem dX15_feed_16 : decode cX15_feed 16 = .ok (.iconst 5, 1) := by decide +kernel
theorem dX15_feed_17 : decode cX15_feed 17 = .ok (.newarray .int, 2) := by decide +kernel
theorem dX15_feed_19 : decode cX15_feed 19 = .ok (.dup, 1) := by decide +kernel
theorem dX15_feed_20 : decode cX15_feed 20 = .ok (.iconst 0, 1) := by decide +kernel
theorem dX15_feed_21 : decode cX15_feed 21 = .ok (.iload_n 1, 1) := by decide +kernel
theorem dX15_feed_22 : decode cX15_feed 22 = .ok (.iastore, 1) := by decide +kernel
theorem dX15_feed_23 : decode cX15_feed 23 = .ok (.dup, 1) := by decide +kernel
theorem dX15_feed_24 : decode cX15_feed 24 = .ok (.iconst 1, 1) := by decide +kernel
theorem dX15_feed_25 : decode cX15_feed 25 = .ok (.iload_n 2, 1) := by decide +kernel
theorem dX15_feed_26 : decode cX15_feed 26 = .ok (.iastore, 1) := by decide +kernel
theorem dX15_feed_27 : decode cX15_feed 27 = .ok (.dup, 1) := by decide +kernel
theorem dX15_feed_28 : decode cX15_feed 28 = .ok (.iconst 2, 1) := by decide +kernel
theorem dX15_feed_29 : decode cX15_feed 29 = .ok (.iload_n 3, 1) := by decide +kernel
theorem dX15_feed_30 : decode cX15_feed 30 = .ok (.iastore, 1) := by decide +kernel
theorem dX15_feed_31 : decode cX15_feed 31 = .ok (.dup, 1) := by decide +kernel
theorem dX15_feed_32 : decode cX15_feed 32 = .ok (.iconst 3, 1) := by decide +kernel
theorem dX15_feed_33 : decode cX15_feed 33 = .ok (.iload 4, 2) := by decide +kernel
theorem dX15_feed_35 : decode cX15_feed 35 = .ok (.iastore, 1) := by decide +kernel
theorem dX15_feed_36 : decode cX15_feed 36 = .ok (.dup, 1) := by decide +kernel
theorem dX15_feed_37 : decode cX15_feed 37 = .ok (.iconst 4, 1) := by decide +kernel
theorem dX15_feed_38 : decode cX15_feed 38 = .ok (.iload 5, 2) := by decide +kernel
theorem dX15_feed_40 : decode cX15_feed 40 = .ok (.iastore, 1) := by decide +kernel
theorem dX15_feed_41 : decode cX15_feed 41 = .ok (.astore 6, 2) := by decide +kernel
theorem dX15_feed_43 : decode cX15_feed 43 = .ok (.iconst 0, 1) := by decide +kernel
theorem dX15_feed_44 : decode cX15_feed 44 = .ok (.istore 7, 2) := by decide +kernel
theorem dX15_feed_46 : decode cX15_feed 46 = .ok (.iload 7, 2) := by decide +kernel
theorem dX15_feed_48 : decode cX15_feed 48 = .ok (.bipush 20, 2) := by decide +kernel
theorem dX15_feed_50 : decode cX15_feed 50 = .ok (.if_icmp .ge 40, 3) := by decide +kernel
theorem dX15_feed_53 : decode cX15_feed 53 = .ok (.aload_n 0, 1) := by decide +kernel
theorem dX15_feed_54 : decode cX15_feed 54 = .ok (.getfield 31, 3) := by decide +kernel
theorem dX15_feed_57 : decode cX15_feed 57 = .ok (.aload_n 0, 1) := by decide +kernel
theorem dX15_feed_58 : decode cX15_feed 58 = .ok (.getfield 166, 3) := by decide +kernel
theorem dX15_feed_61 : decode cX15_feed 61 = .ok (.iload 7, 2) := by decide +kernel
theorem dX15_feed_63 : decode cX15_feed 63 = .ok (.iadd, 1) := by decide +kernel
theorem dX15_feed_64 : decode cX15_feed 64 = .ok (.aload 6, 2) := by decide +kernel
theorem dX15_feed_66 : decode cX15_feed 66 = .ok (.iload 7, 2) := by decide +kernel
theorem dX15_feed_68 : decode cX15_feed 68 = .ok (.iconst 4, 1) := by decide +kernel
theorem dX15_feed_69 : decode cX15_feed 69 = .ok (.idiv, 1) := by decide +kernel
theorem dX15_feed_70 : decode cX15_feed 70 = .ok (.iaload, 1) := by decide +kernel
theorem dX15_feed_71 : decode cX15_feed 71 = .ok (.bipush 24, 2) := by decide +kernel
theorem dX15_feed_73 : decode cX15_feed 73 = .ok (.bipush 8, 2) := by decide +kernel
theorem dX15_feed_75 : decode cX15_feed 75 = .ok (.iload 7, 2) := by decide +kernel
theorem dX15_feed_77 : decode cX15_feed 77 = .ok (.iconst 4, 1) := by decide +kernel
theorem dX15_feed_78 : decode cX15_feed 78 = .ok (.irem, 1) := by decide +kernel
theorem dX15_feed_79 : decode cX15_feed 79 = .ok (.imul, 1) := by decide +kernel
theorem dX15_feed_80 : decode cX15_feed 80 = .ok (.isub, 1) := by decide +kernel
theorem dX15_feed_81 : decode cX15_feed 81 = .ok (.ishr, 1) := by decide +kernel
theorem dX15_feed_82 : decode cX15_feed 82 = .ok (.i2b, 1) := by decide +kernel
theorem dX15_feed_83 : decode cX15_feed 83 = .ok (.bastore, 1) := by decide +kernel
theorem dX15_feed_84 : decode cX15_feed 84 = .ok (.iinc 7 1, 3) := by decide +kernel
theorem dX15_feed_87 : decode cX15_feed 87 = .ok (.goto (-41), 3) := by decide +kernel
theorem dX15_feed_90 : decode cX15_feed 90 = .ok (.aload_n 0, 1) := by decide +kernel
theorem dX15_feed_91 : decode cX15_feed 91 = .ok (.dup, 1) := by decide +kernel
theorem dX15_feed_92 : decode cX15_feed 92 = .ok (.getfield 166, 3) := by decide +kernel
theorem dX15_feed_95 : decode cX15_feed 95 = .ok (.bipush 20, 2) := by decide +kernel
theorem dX15_feed_97 : decode cX15_feed 97 = .ok (.iadd, 1) := by decide +kernel
theorem dX15_feed_98 : decode cX15_feed 98 = .ok (.putfield 166, 3) := by decide +kernel
theorem dX15_feed_101 : decode cX15_feed 101 = .ok (.aload_n 0, 1) := by decide +kernel
theorem dX15_feed_102 : decode cX15_feed 102 = .ok (.getfield 166, 3) := by decide +kernel
theorem dX15_feed_105 : decode cX15_feed 105 = .ok (.ireturn, 1) := by decide +kernel
theorem kt_1007 : Cond.arrayClass .int ∈ tb := tb_at (i := 136) (by decide +kernel) (by decide +kernel)
set_option maxHeartbeats 4000000 in
set_option maxRecDepth 100000 in
theorem s_X15_feed (l : Launch) (dC : Nat → ClassId) (dI : Nat → Nat → Nat) (cs : Nat → ClassId) (ty0 : TyM) (gm : Nat → Nat → Nat) (L0 : List Nat) (sz : Nat) (F : Nat → va_E) (h0 : Nat) (ρ : Nat) (ta : Nat) (ou : Nat) (so : Nat) (ad : Nat) (na : Nat) (va : Nat) (lc : Nat) (dm : Nat) (tg : Nat) (pe : Nat) (ml : Nat) (bg : Nat) (co : Nat) (sp : Nat) (nb0 : Nat) (nb1 : Nat) (nb2 : Nat) (pl : Nat) (se : Nat) (ke : Nat) (wi : Nat) (hs : Nat) (mo : Nat) (po : Nat) (nu : Nat) (pr : Nat) (sq : Nat) (xa : Nat) (sa : Nat) (n64 : Nat) (m64 : Nat) (ex : Nat) (wh : Nat) (sd : Nat) (tk : Nat) (hd : Nat) (ak : Nat) (ho : Nat) (ot : Nat) (sx : Nat) (s0 : Nat) (s1 : Nat) (s2 : Nat) (nf : Nat) (bd : Nat) (mm : Nat) (zo : Nat) (fm : Nat) (sn : Nat) (hg : Nat) (gc : Nat) (gv : Nat) (ze : Nat) (zt : Nat) (x1 : Int32) (x2 : Int32) (x3 : Int32) (x4 : Int32) (x5 : Int32) (hW : WTm ty0 gm L0) (hL_h0 : h0 ∈ L0) (hT_h0 : ty0 h0 = (15, ρ, [ta, ou, so, ad, na, va, lc, dm, tg, pe, ml, bg, co, sp, nb0, nb1, nb2, pl, se, ke, wi, hs, mo, po, nu, pr, sq, xa, sa, n64, m64, ex, wh, sd, tk, hd, ak, ho, ot, sx, s0, s1, s2, nf, bd, mm, zo, fm, sn, hg, gc, gv, ze, zt])) : Met l yX15_feed (.code yX15_feed cX15_feed 8 (some .int) :: tb) ({ frames := 0, cells := 1, slots := 5, locals := 0 }) (va_Pc [.ref h0, .int x1, .int x2, .int x3, .int x4, .int x5] (PTm (dC, dI) cs ty0 gm L0 F sz)) (va_Qi (fun (r : Int32) (_ : Unit) => r = (if 2980 < zt then (-3) else nI (zt + 20))) (fun _ T9 => ∃ F2 : Nat → va_E, ∃ ty2 : TyM, ty2 = rtf ty0 h0 (15, ρ, [ta, ou, so, ad, na, va, lc, dm, tg, pe, ml, bg, co, sp, nb0, nb1, nb2, pl, se, ke, wi, hs, mo, po, nu, pr, sq, xa, sa, n64, m64, ex, wh, sd, tk, hd, ak, ho, ot, sx, s0, s1, s2, nf, bd, mm, zo, fm, sn, hg, gc, gv, ze, (if 2980 < zt then zt else zt + 20)]) ∧ QTm (dC, dI) cs ty2 gm L0 [ρ, ρ + 1] F F2 (va_A (va_pl L0 F) sz) T9 ∧ WTm ty2 gm L0) (va_A (va_pl L0 F) sz)) 1 5 (va_A (va_pl L0 F) sz) := by
  refine Met.ofW (cc := cX15_feed) (maxL := 8) (ret := (some .int)) (by decide) rfl ?_
  intro p e s m args below meth c s₁ B hml hv
  obtain ⟨rfl, hsz, hP, hK, hD0, hE, hO⟩ := hv
  have hx := B.exec
  have hb := B.bytes
  have hr := B.returns
  have hts : ∀ w ∈ tb, w.before _ s = true := fun w h => atoms_spec (ws := .code yX15_feed cX15_feed 8 (some .int) :: tb) B.pre w (List.mem_cons_of_mem _ h)
  have hown : s.vm.findClass RX15 = some m.cls := findClass_of_methodNamed B.named
  have hlocks := B.notSynchronized
  subst hsz
  have hD := hD0.self (sz := s.heap.size)
  generalize hAe : va_A (va_pl L0 F) s.heap.size = A at hD ⊢
  have hA : ∀ q : Nat, s.heap.size ≤ q → A q := fun q h => by rw [← hAe]; exact Or.inr h
  have hS : va_S A s.heap s.heap [] := va_S.rf
  have hR : FR ty0 [ρ, ρ + 1] F F := FR.refl
  have hl := lv_entry ([.ref h0, .int x1, .int x2, .int x3, .int x4, .int x5]) (n := 8) (Nat.le_of_ble_eq_true rfl)
  rw [lg_entry_eq]
  generalize (lg_sl ([.ref h0, .int x1, .int x2, .int x3, .int x4, .int x5]) ++ List.replicate (8 - (lg_sl ([.ref h0, .int x1, .int x2, .int x3, .int x4, .int x5])).length) Slot.unset).toArray = ls at hl ⊢
  have hl : lv_has ls 8 [(0, .ref h0), (1, .int x1), (2, .int x2), (3, .int x3), (4, .int x4), (5, .int x5)] := hl
  obtain ⟨hq_23, hq_24, hq_25, hq_26, hq_27, hgO, hgA, hgB, hq_28⟩ := hW.sc hL_h0 hT_h0
  refine lv_aload_n hx hb dX15_feed_0 rfl (lv_at hl 0 rfl) ?_
  obtain ⟨v14_29, v15_30, v17_31, v18_32, v19_33, v20_34, v21_35, v22_36, v33_37, v52_38, v53_39, v54_40, hF_41, hq_42, hq_43, hq_44, hq_45, hq_46⟩ := hO.mod hL_h0 hT_h0
  refine pg_get (ci := 15) (v := .int (nI zt)) (C := RX15) (T := TX15) (N := 59) hx hb hts it_15 hown hK hP hL_h0 hF_41 rfl 1 (by decide) (hts _ kt_998) (fun _ h9 => h9) rfl dX15_feed_1 ?_
  refine lv_bipush (v := 20) hx hb dX15_feed_4 (by decide) ?_
  refine lv_iadd hx hb dX15_feed_6 ?_
  refine lv_topi (fun x_47 ex_47 => ?_)
  obtain rfl : x_47 = (nI (zt + 20)) := ex_47.trans (nI_add zt 20)
  refine lv_sipush (v := 3000) hx hb dX15_feed_7 (by decide) ?_
  refine lv_icmp_le (tgt := 16) hx hb dX15_feed_10 (by decide) (fun c_48 => ?_) (fun c_48 => ?_)
  ·
    have hi_49 : (zt + 20) ≤ 3000 := (nI_leI (a := (zt + 20)) (b := 3000) (by omega) (by omega)).mp c_48
    refine lv_iconst (v := 5) hx hb dX15_feed_16 (by decide) ?_
    refine va_newa (atype := .int) (ty := .int) (a0 := (5, .inl (fun _ => 0))) (N' := 5) hx hb (hts _ kt_1007) rfl hK hP hD hS hA (fun _ => rfl) (by decide) (by decide) (by show _ * 4 ≤ _; omega) (by show _ + 1 ≤ 1; omega) (by show _ + 5 ≤ 5; omega) dX15_feed_17 (fun q5 cA H hKn hP hD hS => ?_)
    have hq5 : q5 ∉ L0 := va_pl_fresh2 (X := []) hD
    obtain rfl : cA = cs 16 := cid_int hK hKn
    rw [va_pl_push hq5] at hP hD
    have hW0 := hW
    have hT0 := hT_h0
    have hL00 := hL_h0
    obtain ⟨L, hL9⟩ : ∃ L : List Nat, L = L0 ++ [q5] := ⟨_, rfl⟩
    obtain ⟨ty, hty9⟩ : ∃ t9 : TyM, t9 = rtf ty0 q5 (16, ρ, [5]) := ⟨_, rfl⟩
    obtain ⟨F5, hF5e⟩ : ∃ G : Nat → va_E, G = va_up F q5 (.inl (cs 16, 5, .inl (fun _ => 0))) := ⟨_, rfl⟩
    have hO : OKm cs ty gm L F5 := by rw [hL9, hty9, hF5e]; exact OKm.ext hO hq5 (shm.ints rtf_self ⟨_, rfl⟩)
    have hW : WTm ty gm L := by rw [hL9, hty9]; exact WTm.ext_ints hW hq5 ⟨by decide, by decide⟩
    have hR : FR ty [ρ, ρ + 1] F F5 := by rw [hty9, hF5e]; exact FR.refl.up rtf_self (by simp)
    rw [← hL9, ← hF5e] at hP hD
    have hL_h0 : h0 ∈ L := by rw [hL9]; exact List.mem_append_left _ hL00
    have hT_h0 : ty h0 = (15, ρ, [ta, ou, so, ad, na, va, lc, dm, tg, pe, ml, bg, co, sp, nb0, nb1, nb2, pl, se, ke, wi, hs, mo, po, nu, pr, sq, xa, sa, n64, m64, ex, wh, sd, tk, hd, ak, ho, ot, sx, s0, s1, s2, nf, bd, mm, zo, fm, sn, hg, gc, gv, ze, zt]) := by rw [hty9]; exact rtf_in hq5 hL00 hT0
    have hi5 : q5 ∈ L := by rw [hL9]; exact List.mem_append_right _ (List.mem_singleton.mpr rfl)
    have ht5 : ty q5 = (16, ρ, [5]) := by rw [hty9]; exact rtf_self
    have hF5 : F5 q5 = .inl (cs 16, 5, .inl (fun _ => 0)) := by rw [hF5e]; exact up_self
    obtain ⟨hq_72, hq_73, hq_74, hq_75, hq_76, hgO, hgA, hgB, hq_77⟩ := hW.sc hL_h0 hT_h0
    refine lv_dup hx hb dX15_feed_19 rfl ?_
    refine lv_iconst (v := 0) hx hb dX15_feed_20 (by decide) ?_
    refine lv_iload_n hx hb dX15_feed_21 rfl (lv_at hl 1 rfl) ?_
    obtain ⟨hq_78, hq_79⟩ := hW.ints hi5 ht5
    refine pg_iast hx hb hK hP hD hS hi5 0 hF5 rfl (show vp_in (0 : Int32) 5 from (show vp_in (nI 0) 5 from vp_in_nI (by omega) (by omega))) dX15_feed_22 (fun H locs hP hD hS => ?_)
    obtain ⟨F_80, he_81, hP, hD, hO, hR⟩ : ∃ G, G = va_up F5 q5 (.inl (cs 16, 5, .inl (upd (fun _ => 0) (0 : Int32).toNatClampNeg (x1)))) ∧ va_P (dC, dI) vwCl (va_pl L G) H ∧ va_D A (va_pl L G) ∧ OKm cs ty gm L G ∧ FR ty [ρ, ρ + 1] F G := ⟨_, rfl, hP, hD, hO.up (shm.ints ht5 ⟨_, rfl⟩), hR.up ht5 (by simp)⟩
    have hF_82 : F_80 q5 = .inl (cs 16, 5, .inl (upd (fun _ => 0) (0 : Int32).toNatClampNeg (x1))) := by rw [he_81]; exact up_self
    obtain ⟨f_83, hF_82⟩ : ∃ f : Nat → Int32, F_80 q5 = .inl (cs 16, 5, .inl f) := ⟨_, hF_82⟩
    refine lv_dup hx hb dX15_feed_23 rfl ?_
    refine lv_iconst (v := 1) hx hb dX15_feed_24 (by decide) ?_
    refine lv_iload_n hx hb dX15_feed_25 rfl (lv_at hl 2 rfl) ?_
    refine pg_iast hx hb hK hP hD hS hi5 0 hF_82 rfl (show vp_in (1 : Int32) 5 from (show vp_in (nI 1) 5 from vp_in_nI (by omega) (by omega))) dX15_feed_26 (fun H locs hP hD hS => ?_)
    obtain ⟨F_84, he_85, hP, hD, hO, hR⟩ : ∃ G, G = va_up F_80 q5 (.inl (cs 16, 5, .inl (upd f_83 (1 : Int32).toNatClampNeg (x2)))) ∧ va_P (dC, dI) vwCl (va_pl L G) H ∧ va_D A (va_pl L G) ∧ OKm cs ty gm L G ∧ FR ty [ρ, ρ + 1] F G := ⟨_, rfl, hP, hD, hO.up (shm.ints ht5 ⟨_, rfl⟩), hR.up ht5 (by simp)⟩
    have hF_86 : F_84 q5 = .inl (cs 16, 5, .inl (upd f_83 (1 : Int32).toNatClampNeg (x2))) := by rw [he_85]; exact up_self
    obtain ⟨f_87, hF_86⟩ : ∃ f : Nat → Int32, F_84 q5 = .inl (cs 16, 5, .inl f) := ⟨_, hF_86⟩
    refine lv_dup hx hb dX15_feed_27 rfl ?_
    refine lv_iconst (v := 2) hx hb dX15_feed_28 (by decide) ?_
    refine lv_iload_n hx hb dX15_feed_29 rfl (lv_at hl 3 rfl) ?_
    refine pg_iast hx hb hK hP hD hS hi5 0 hF_86 rfl (show vp_in (2 : Int32) 5 from (show vp_in (nI 2) 5 from vp_in_nI (by omega) (by omega))) dX15_feed_30 (fun H locs hP hD hS => ?_)
    obtain ⟨F_88, he_89, hP, hD, hO, hR⟩ : ∃ G, G = va_up F_84 q5 (.inl (cs 16, 5, .inl (upd f_87 (2 : Int32).toNatClampNeg (x3)))) ∧ va_P (dC, dI) vwCl (va_pl L G) H ∧ va_D A (va_pl L G) ∧ OKm cs ty gm L G ∧ FR ty [ρ, ρ + 1] F G := ⟨_, rfl, hP, hD, hO.up (shm.ints ht5 ⟨_, rfl⟩), hR.up ht5 (by simp)⟩
    have hF_90 : F_88 q5 = .inl (cs 16, 5, .inl (upd f_87 (2 : Int32).toNatClampNeg (x3))) := by rw [he_89]; exact up_self
    obtain ⟨f_91, hF_90⟩ : ∃ f : Nat → Int32, F_88 q5 = .inl (cs 16, 5, .inl f) := ⟨_, hF_90⟩
    refine lv_dup hx hb dX15_feed_31 rfl ?_
    refine lv_iconst (v := 3) hx hb dX15_feed_32 (by decide) ?_
    refine lv_iload hx hb dX15_feed_33 (lv_at hl 4 rfl) ?_
    refine pg_iast hx hb hK hP hD hS hi5 0 hF_90 rfl (show vp_in (3 : Int32) 5 from (show vp_in (nI 3) 5 from vp_in_nI (by omega) (by omega))) dX15_feed_35 (fun H locs hP hD hS => ?_)
    obtain ⟨F_92, he_93, hP, hD, hO, hR⟩ : ∃ G, G = va_up F_88 q5 (.inl (cs 16, 5, .inl (upd f_91 (3 : Int32).toNatClampNeg (x4)))) ∧ va_P (dC, dI) vwCl (va_pl L G) H ∧ va_D A (va_pl L G) ∧ OKm cs ty gm L G ∧ FR ty [ρ, ρ + 1] F G := ⟨_, rfl, hP, hD, hO.up (shm.ints ht5 ⟨_, rfl⟩), hR.up ht5 (by simp)⟩
    have hF_94 : F_92 q5 = .inl (cs 16, 5, .inl (upd f_91 (3 : Int32).toNatClampNeg (x4))) := by rw [he_93]; exact up_self
    obtain ⟨f_95, hF_94⟩ : ∃ f : Nat → Int32, F_92 q5 = .inl (cs 16, 5, .inl f) := ⟨_, hF_94⟩
    refine lv_dup hx hb dX15_feed_36 rfl ?_
    refine lv_iconst (v := 4) hx hb dX15_feed_37 (by decide) ?_
    refine lv_iload hx hb dX15_feed_38 (lv_at hl 5 rfl) ?_
    refine pg_iast hx hb hK hP hD hS hi5 0 hF_94 rfl (show vp_in (4 : Int32) 5 from (show vp_in (nI 4) 5 from vp_in_nI (by omega) (by omega))) dX15_feed_40 (fun H locs hP hD hS => ?_)
    obtain ⟨F_96, he_97, hP, hD, hO, hR⟩ : ∃ G, G = va_up F_92 q5 (.inl (cs 16, 5, .inl (upd f_95 (4 : Int32).toNatClampNeg (x5)))) ∧ va_P (dC, dI) vwCl (va_pl L G) H ∧ va_D A (va_pl L G) ∧ OKm cs ty gm L G ∧ FR ty [ρ, ρ + 1] F G := ⟨_, rfl, hP, hD, hO.up (shm.ints ht5 ⟨_, rfl⟩), hR.up ht5 (by simp)⟩
    have hF_98 : F_96 q5 = .inl (cs 16, 5, .inl (upd f_95 (4 : Int32).toNatClampNeg (x5))) := by rw [he_97]; exact up_self
    obtain ⟨f_99, hF_98⟩ : ∃ f : Nat → Int32, F_96 q5 = .inl (cs 16, 5, .inl f) := ⟨_, hF_98⟩
    refine lv_astore (lv' := [(6, .ref q5), (0, .ref h0), (1, .int x1), (2, .int x2), (3, .int x3), (4, .int x4), (5, .int x5)]) hx hb dX15_feed_41 hl (by decide) rfl (fun ls hl => ?_)
    refine lv_iconst (v := 0) hx hb dX15_feed_43 (by decide) ?_
    refine lv_istore (lv' := [(7, .int 0), (6, .ref q5), (0, .ref h0), (1, .int x1), (2, .int x2), (3, .int x3), (4, .int x4), (5, .int x5)]) hx hb dX15_feed_44 hl (by decide) rfl (fun ls hl => ?_)
    refine W.widen (k := 1) (n := 5) (by omega) (by omega) ?_
    refine pl_loopm (σ := Nat) A (dC, dI) cs ty gm L [ρ, ρ + 1] F 46 8 (fun j => [(7, .int (nI j)), (6, .ref q5), (0, .ref h0)]) (fun j => []) (fun j _ => j ≤ 20) (fun j => 20 - j) ?_ 0 F_96 (by omega) hO hR _ _ hP hD hS ls (lv_sub hl [0, 1, 2] rfl)
    rintro j F_100 hv_101 hO hR ih_102 H locs hP hD hS ls hl
    have hl : lv_has ls 8 [(7, .int (nI j)), (6, .ref q5), (0, .ref h0)] := hl
    have hv_101 : j ≤ 20 := hv_101
    refine W.eq (g2 := F0 m 46 ls []) rfl ?_
    refine lv_iload hx hb dX15_feed_46 (lv_at hl 0 rfl) ?_
    refine lv_bipush (v := 20) hx hb dX15_feed_48 (by decide) ?_
    refine lv_icmp_ge (tgt := 90) hx hb dX15_feed_50 (by decide) (fun c_103 => ?_) (fun c_103 => ?_)
    ·
      have hi_104 : 20 ≤ j := leN (N := 20) c_103
      refine lv_aload_n hx hb dX15_feed_90 rfl (lv_at hl 2 rfl) ?_
      refine lv_dup hx hb dX15_feed_91 rfl ?_
      obtain ⟨v14_105, v15_106, v17_107, v18_108, v19_109, v20_110, v21_111, v22_112, v33_113, v52_114, v53_115, v54_116, hF_117, hq_118, hq_119, hq_120, hq_121, hq_122⟩ := hO.mod hL_h0 hT_h0
      refine pg_get (ci := 15) (v := .int (nI zt)) (C := RX15) (T := TX15) (N := 59) hx hb hts it_15 hown hK hP hL_h0 hF_117 rfl 1 (by decide) (hts _ kt_998) (fun _ h9 => h9) rfl dX15_feed_92 ?_
      refine lv_bipush (v := 20) hx hb dX15_feed_95 (by decide) ?_
      refine lv_iadd hx hb dX15_feed_97 ?_
      refine lv_topi (fun x_123 ex_123 => ?_)
      obtain rfl : x_123 = (nI (zt + 20)) := ex_123.trans (nI_add zt 20)
      refine pg_put (ci := 15) (v := .int (nI (zt + 20))) (ty := .int) (C := RX15) (T := TX15) (N := 59) hx hb hts it_15 tyX15 tyX15_ok nmX15 hown hK hP hD hS hL_h0 hF_117 rfl 1 (by decide) (hts _ kt_998) (fun _ h9 => h9) rfl (by decide +kernel) (rfl) (rfl) (Nat.le_of_ble_eq_true rfl) dX15_feed_98 (fun H locs hP hD hS => ?_)
      obtain ⟨F_124, he_125, hP, hD, hR⟩ : ∃ G, G = va_up F_100 h0 (.inr (15, (.ref ta) :: (.int (nI (zt + 20))) :: (.int (nI zo)) :: (.int (nI ze)) :: (.ref ou) :: (.ref so) :: (.ref ad) :: (.ref na) :: (.ref va) :: (.ref lc) :: (.ref dm) :: (.int (nI fm)) :: (.int (nI sn)) :: (.ref tg) :: (.int v14_105) :: (.int v15_106) :: (.ref pe) :: (.int v17_107) :: (.int v18_108) :: (.int v19_109) :: (.int v20_110) :: (.int v21_111) :: (.int v22_112) :: (.ref ml) :: (.ref bg) :: (.ref co) :: (.ref sp) :: (.ref nb0) :: (.ref nb1) :: (.ref nb2) :: (.int (nI nf)) :: (.int (nI bd)) :: (.int (nI mm)) :: (.int v33_113) :: (.ref pl) :: (.ref se) :: (.ref ke) :: (.ref wi) :: (.ref hs) :: (.ref mo) :: (.ref po) :: (.ref nu) :: (.ref pr) :: (.ref sq) :: (.ref xa) :: (.ref sa) :: (.ref n64) :: (.ref m64) :: (.ref ex) :: (.ref wh) :: (.ref sd) :: (.ref tk) :: (.int v52_114) :: (.int v53_115) :: (.int v54_116) :: (.ref hd) :: (.ref ak) :: (.ref ho) :: (.ref ot) :: [])) ∧ va_P (dC, dI) vwCl (va_pl L G) H ∧ va_D A (va_pl L G) ∧ FR ty [ρ, ρ + 1] F G := ⟨_, rfl, hP, hD, hR.up hT_h0 (by simp)⟩
      obtain ⟨ty, hty, hT_h0, hW, hO, hR⟩ : ∃ t9 : TyM, t9 = rtf ty h0 (15, ρ, [ta, ou, so, ad, na, va, lc, dm, tg, pe, ml, bg, co, sp, nb0, nb1, nb2, pl, se, ke, wi, hs, mo, po, nu, pr, sq, xa, sa, n64, m64, ex, wh, sd, tk, hd, ak, ho, ot, sx, s0, s1, s2, nf, bd, mm, zo, fm, sn, hg, gc, gv, ze, zt + 20]) ∧ t9 h0 = (15, ρ, [ta, ou, so, ad, na, va, lc, dm, tg, pe, ml, bg, co, sp, nb0, nb1, nb2, pl, se, ke, wi, hs, mo, po, nu, pr, sq, xa, sa, n64, m64, ex, wh, sd, tk, hd, ak, ho, ot, sx, s0, s1, s2, nf, bd, mm, zo, fm, sn, hg, gc, gv, ze, zt + 20]) ∧ WTm t9 gm L ∧ OKm cs t9 gm L F_124 ∧ FR t9 [ρ, ρ + 1] F F_124 := ⟨_, rfl, rtf_self, hW.zt hL_h0 hT_h0 (by omega), (by rw [he_125]; exact OKm.retype hO hT_h0 (shm.mod rtf_self ⟨v14_105, v15_106, v17_107, v18_108, v19_109, v20_110, v21_111, v22_112, v33_113, v52_114, v53_115, v54_116, rfl, (by first | omega | assumption | exact Or.inl rfl | exact Or.inr rfl), (by first | omega | assumption | exact Or.inl rfl | exact Or.inr rfl), (by first | omega | assumption | exact Or.inl rfl | exact Or.inr rfl), (by first | omega | assumption | exact Or.inl rfl | exact Or.inr rfl), (by first | omega | assumption | exact Or.inl rfl | exact Or.inr rfl)⟩)), FR.retype hT_h0 hR⟩
      have hF_126 : F_124 h0 = .inr (15, (.ref ta) :: (.int (nI (zt + 20))) :: (.int (nI zo)) :: (.int (nI ze)) :: (.ref ou) :: (.ref so) :: (.ref ad) :: (.ref na) :: (.ref va) :: (.ref lc) :: (.ref dm) :: (.int (nI fm)) :: (.int (nI sn)) :: (.ref tg) :: (.int v14_105) :: (.int v15_106) :: (.ref pe) :: (.int v17_107) :: (.int v18_108) :: (.int v19_109) :: (.int v20_110) :: (.int v21_111) :: (.int v22_112) :: (.ref ml) :: (.ref bg) :: (.ref co) :: (.ref sp) :: (.ref nb0) :: (.ref nb1) :: (.ref nb2) :: (.int (nI nf)) :: (.int (nI bd)) :: (.int (nI mm)) :: (.int v33_113) :: (.ref pl) :: (.ref se) :: (.ref ke) :: (.ref wi) :: (.ref hs) :: (.ref mo) :: (.ref po) :: (.ref nu) :: (.ref pr) :: (.ref sq) :: (.ref xa) :: (.ref sa) :: (.ref n64) :: (.ref m64) :: (.ref ex) :: (.ref wh) :: (.ref sd) :: (.ref tk) :: (.int v52_114) :: (.int v53_115) :: (.int v54_116) :: (.ref hd) :: (.ref ak) :: (.ref ho) :: (.ref ot) :: []) := by rw [he_125]; exact up_self
      obtain ⟨hq_149, hq_150, hq_151, hq_152, hq_153, hgO, hgA, hgB, hq_154⟩ := hW.sc hL_h0 hT_h0
      refine lv_aload_n hx hb dX15_feed_101 rfl (lv_at hl 2 rfl) ?_
      refine pg_get (ci := 15) (v := .int (nI (zt + 20))) (C := RX15) (T := TX15) (N := 59) hx hb hts it_15 hown hK hP hL_h0 hF_126 rfl 1 (by decide) (hts _ kt_998) (fun _ h9 => h9) rfl dX15_feed_102 ?_
      have hq0 : h0 ≠ q5 := fun w => hq5 (w ▸ hL00)
      have hO3 : OKm cs (rtf (rtf ty0 h0 (15, ρ, [ta, ou, so, ad, na, va, lc, dm, tg, pe, ml, bg, co, sp, nb0, nb1, nb2, pl, se, ke, wi, hs, mo, po, nu, pr, sq, xa, sa, n64, m64, ex, wh, sd, tk, hd, ak, ho, ot, sx, s0, s1, s2, nf, bd, mm, zo, fm, sn, hg, gc, gv, ze, zt + 20])) q5 (16, ρ, [5])) gm (L0 ++ [q5]) F_124 := by rw [rtf_comm hq0, ← hty9, ← hty, ← hL9]; exact hO
      have hO2 : OKm cs (rtf ty0 h0 (15, ρ, [ta, ou, so, ad, na, va, lc, dm, tg, pe, ml, bg, co, sp, nb0, nb1, nb2, pl, se, ke, wi, hs, mo, po, nu, pr, sq, xa, sa, n64, m64, ex, wh, sd, tk, hd, ak, ho, ot, sx, s0, s1, s2, nf, bd, mm, zo, fm, sn, hg, gc, gv, ze, zt + 20])) gm L0 (va_up F_124 q5 (F q5)) := OKm.cut hq5 (by simp) hO3
      have hR3 : FR (rtf (rtf ty0 h0 (15, ρ, [ta, ou, so, ad, na, va, lc, dm, tg, pe, ml, bg, co, sp, nb0, nb1, nb2, pl, se, ke, wi, hs, mo, po, nu, pr, sq, xa, sa, n64, m64, ex, wh, sd, tk, hd, ak, ho, ot, sx, s0, s1, s2, nf, bd, mm, zo, fm, sn, hg, gc, gv, ze, zt + 20])) q5 (16, ρ, [5])) [ρ, ρ + 1] F F_124 := by rw [rtf_comm hq0, ← hty9, ← hty]; exact hR
      have hR2 := FR.cut hR3
      have hP2 : va_P (dC, dI) vwCl (va_pl L0 (va_up F_124 q5 (F q5))) H := va_P.by (ws := va_pl (L0 ++ [q5]) F_124) (by rw [← hL9]; exact hP) (fun k => k) (pl_sub hq5)
      have hD2 : va_D A (va_pl L0 (va_up F_124 q5 (F q5))) := va_D.by (ws := va_pl (L0 ++ [q5]) F_124) (by rw [← hL9]; exact hD) (fun k => k) (pl_sub hq5) (fun i j _ _ h => h)
      have hW2 : WTm (rtf ty0 h0 (15, ρ, [ta, ou, so, ad, na, va, lc, dm, tg, pe, ml, bg, co, sp, nb0, nb1, nb2, pl, se, ke, wi, hs, mo, po, nu, pr, sq, xa, sa, n64, m64, ex, wh, sd, tk, hd, ak, ho, ot, sx, s0, s1, s2, nf, bd, mm, zo, fm, sn, hg, gc, gv, ze, zt + 20])) gm L0 := hW0.zt hL00 hT0 (by omega)
      refine W.widen (k := 1) (n := 5) (by omega) (by omega) ?_
      exact W.iret (v := (nI (zt + 20))) hx hb hr (fun t ht hWm => ⟨⟨(nI (zt + 20)), (), rfl, (by rw [if_neg (show ¬ 2980 < zt from by omega)]), ⟨va_up F_124 q5 (F q5), rtf ty0 h0 (15, ρ, [ta, ou, so, ad, na, va, lc, dm, tg, pe, ml, bg, co, sp, nb0, nb1, nb2, pl, se, ke, wi, hs, mo, po, nu, pr, sq, xa, sa, n64, m64, ex, wh, sd, tk, hd, ak, ho, ot, sx, s0, s1, s2, nf, bd, mm, zo, fm, sn, hg, gc, gv, ze, zt + 20]), (by rw [if_neg (show ¬ 2980 < zt from by omega)]), QTm.mk ht hP2 hD2 hO2 hR2, hW2⟩⟩, hS.F ht⟩) hS.2.2 dX15_feed_105
    ·
      have hi_155 : j < 20 := ltN (N := 20) c_103
      refine lv_aload_n hx hb dX15_feed_53 rfl (lv_at hl 2 rfl) ?_
      obtain ⟨v14_156, v15_157, v17_158, v18_159, v19_160, v20_161, v21_162, v22_163, v33_164, v52_165, v53_166, v54_167, hF_168, hq_169, hq_170, hq_171, hq_172, hq_173⟩ := hO.mod hL_h0 hT_h0
      refine pg_get (ci := 15) (v := .ref ta) (C := RX15) (T := TX15) (N := 59) hx hb hts it_15 hown hK hP hL_h0 hF_168 rfl 0 (by decide) (hts _ kt_1006) (fun _ h9 => h9) rfl dX15_feed_54 ?_
      refine lv_aload_n hx hb dX15_feed_57 rfl (lv_at hl 2 rfl) ?_
      refine pg_get (ci := 15) (v := .int (nI zt)) (C := RX15) (T := TX15) (N := 59) hx hb hts it_15 hown hK hP hL_h0 hF_168 rfl 1 (by decide) (hts _ kt_998) (fun _ h9 => h9) rfl dX15_feed_58 ?_
      refine lv_iload hx hb dX15_feed_61 (lv_at hl 0 rfl) ?_
      refine lv_iadd hx hb dX15_feed_63 ?_
      refine lv_topi (fun x_174 ex_174 => ?_)
      obtain rfl : x_174 = (nI (zt + j)) := ex_174.trans (nI_add zt j)
      refine lv_aload hx hb dX15_feed_64 (lv_at hl 1 rfl) ?_
      refine lv_iload hx hb dX15_feed_66 (lv_at hl 0 rfl) ?_
      refine lv_iconst (v := 4) hx hb dX15_feed_68 (by decide) ?_
      refine lv_idiv hx hb dX15_feed_69 (by decide) ?_
      refine lv_topi (fun x_175 ex_175 => ?_)
      obtain rfl : x_175 = (nI (j / 4)) := ex_175.trans (pk_div (d := 4) (by omega) (by omega) (by omega))
      obtain ⟨f_176, hF_177⟩ := hO.ints hi5 ht5
      refine pg_iald hx hb hK hP hi5 0 hF_177 rfl (vp_in_nI (by omega) (by omega)) dX15_feed_70 ?_
      refine lv_topi (fun x_178 _ => ?_)
      refine lv_bipush (v := 24) hx hb dX15_feed_71 (by decide) ?_
      refine lv_bipush (v := 8) hx hb dX15_feed_73 (by decide) ?_
      refine lv_iload hx hb dX15_feed_75 (lv_at hl 0 rfl) ?_
      refine lv_iconst (v := 4) hx hb dX15_feed_77 (by decide) ?_
      refine lv_irem hx hb dX15_feed_78 (by decide) ?_
      refine lv_topi (fun x_179 ex_179 => ?_)
      obtain rfl : x_179 = (nI (j % 4)) := ex_179.trans (pk_rem (a := j) (d := 4) (by omega) (by omega) (by omega))
      refine lv_imul hx hb dX15_feed_79 ?_
      refine lv_topi (fun x_180 ex_180 => ?_)
      obtain rfl : x_180 = (nI (8 * (j % 4))) := ex_180.trans (pk_mul 8 (j % 4))
      refine lv_isub hx hb dX15_feed_80 ?_
      refine lv_topi (fun x_181 ex_181 => ?_)
      obtain rfl : x_181 = (24 - (nI (8 * (j % 4)))) := ex_181.trans (rfl)
      refine lv_ishr hx hb dX15_feed_81 ?_
      refine lv_topi (fun x_182 _ => ?_)
      refine lv_i2b hx hb dX15_feed_82 rfl ?_
      refine lv_topi (fun x_183 _ => ?_)
      obtain ⟨hi_184, ht_185⟩ := hW.f_ta hL_h0 hT_h0
      obtain ⟨hq_186, hq_187⟩ := hW.octs hi_184 ht_185
      obtain ⟨f_188, hF_189, hq_190⟩ := hO.octs hi_184 ht_185
      refine pg_bast hx hb hK hP hD hS hi_184 1 hF_189 rfl (vp_in_nI (by omega) (by omega)) dX15_feed_83 (fun H locs hP hD hS => ?_)
      obtain ⟨F_191, he_192, hP, hD, hO, hR⟩ : ∃ G, G = va_up F_100 ta (.inl (cs 17, 3000, .inl (upd f_188 ((nI (zt + j))).toNatClampNeg (vp_nar .byte (x_183))))) ∧ va_P (dC, dI) vwCl (va_pl L G) H ∧ va_D A (va_pl L G) ∧ OKm cs ty gm L G ∧ FR ty [ρ, ρ + 1] F G := ⟨_, rfl, hP, hD, hO.up (shm.octs ht_185 ⟨_, rfl, bfm_upd hq_190 _ _⟩), hR.up ht_185 (by simp)⟩
      have hF_193 : F_191 ta = .inl (cs 17, 3000, .inl (upd f_188 ((nI (zt + j))).toNatClampNeg (vp_nar .byte (x_183)))) := by rw [he_192]; exact up_self
      have hF_194 : F_191 h0 = .inr (15, (.ref ta) :: (.int (nI zt)) :: (.int (nI zo)) :: (.int (nI ze)) :: (.ref ou) :: (.ref so) :: (.ref ad) :: (.ref na) :: (.ref va) :: (.ref lc) :: (.ref dm) :: (.int (nI fm)) :: (.int (nI sn)) :: (.ref tg) :: (.int v14_156) :: (.int v15_157) :: (.ref pe) :: (.int v17_158) :: (.int v18_159) :: (.int v19_160) :: (.int v20_161) :: (.int v21_162) :: (.int v22_163) :: (.ref ml) :: (.ref bg) :: (.ref co) :: (.ref sp) :: (.ref nb0) :: (.ref nb1) :: (.ref nb2) :: (.int (nI nf)) :: (.int (nI bd)) :: (.int (nI mm)) :: (.int v33_164) :: (.ref pl) :: (.ref se) :: (.ref ke) :: (.ref wi) :: (.ref hs) :: (.ref mo) :: (.ref po) :: (.ref nu) :: (.ref pr) :: (.ref sq) :: (.ref xa) :: (.ref sa) :: (.ref n64) :: (.ref m64) :: (.ref ex) :: (.ref wh) :: (.ref sd) :: (.ref tk) :: (.int v52_165) :: (.int v53_166) :: (.int v54_167) :: (.ref hd) :: (.ref ak) :: (.ref ho) :: (.ref ot) :: []) := by rw [he_192, up_ne (ne_ty hT_h0 ht_185 (by simp))]; exact hF_168
      have hF_195 : F_191 q5 = .inl (cs 16, 5, .inl f_176) := by rw [he_192, up_ne (ne_ty ht5 ht_185 (by simp))]; exact hF_177
      obtain ⟨f_196, hF_193, hq_197⟩ : ∃ f : Nat → Int32, F_191 ta = .inl (cs 17, 3000, .inl f) ∧ BFm f := ⟨_, hF_193, bfm_upd hq_190 _ _⟩
      refine lv_iinc (v := (nI (j + 1))) (lv' := [(7, .int (nI (j + 1))), (6, .ref q5), (0, .ref h0)]) hx hb dX15_feed_84 hl (k := 0) rfl (nI_1 _) (by decide) rfl (fun ls hl => ?_)
      refine lv_goto (tgt := 46) hx hb dX15_feed_87 (by decide) ?_
      refine W.widen (k := 1) (n := 5) (by omega) (by omega) ?_
      exact ih_102 (j + 1) F_191 (by first | omega | exact ⟨by omega, by omega⟩ | trivial) (by show 20 - (j + 1) < 20 - j; omega) hO hR _ _ hP hD hS ls (lv_sub hl [0, 1, 2] rfl)
  ·
    have hi_198 : 3000 < (zt + 20) := Nat.not_le.mp (fun q => c_48 ((nI_leI (a := (zt + 20)) (b := 3000) (by omega) (by omega)).mpr q))
    refine lv_bipush (v := (-3)) hx hb dX15_feed_13 (by decide) ?_
    refine W.widen (k := 1) (n := 5) (by omega) (by omega) ?_
    exact W.iret (v := (-3)) hx hb hr (fun t ht hWm => ⟨⟨(-3), (), rfl, (by rw [if_pos (show 2980 < zt from by omega)]), ⟨F, ty0, (by rw [if_pos (show 2980 < zt from by omega)]; exact (rtf_id hT_h0).symm), QTm.mk ht hP hD hO hR, hW⟩⟩, hS.F ht⟩) hS.2.2 dX15_feed_15
