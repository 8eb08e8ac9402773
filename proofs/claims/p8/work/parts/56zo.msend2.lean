theorem dX15_sender_0 : decode cX15_sender 0 = .ok (.aload_n 0, 1) := by decide +kernel
theorem dX15_sender_1 : decode cX15_sender 1 = .ok (.invokevirtual 174, 3) := by decide +kernel
theorem dX15_sender_4 : decode cX15_sender 4 = .ok (.istore_n 2, 1) := by decide +kernel
theorem dX15_sender_5 : decode cX15_sender 5 = .ok (.iconst 0, 1) := by decide +kernel
theorem dX15_sender_6 : decode cX15_sender 6 = .ok (.istore_n 3, 1) := by decide +kernel
theorem dX15_sender_7 : decode cX15_sender 7 = .ok (.iload_n 3, 1) := by decide +kernel
theorem dX15_sender_8 : decode cX15_sender 8 = .ok (.iload_n 2, 1) := by decide +kernel
theorem dX15_sender_9 : decode cX15_sender 9 = .ok (.if_icmp .ge 20, 3) := by decide +kernel
theorem dX15_sender_12 : decode cX15_sender 12 = .ok (.aload_n 0, 1) := by decide +kernel
theorem dX15_sender_13 : decode cX15_sender 13 = .ok (.getfield 31, 3) := by decide +kernel
theorem dX15_sender_16 : decode cX15_sender 16 = .ok (.iload_n 3, 1) := by decide +kernel
theorem dX15_sender_17 : decode cX15_sender 17 = .ok (.baload, 1) := by decide +kernel
theorem dX15_sender_18 : decode cX15_sender 18 = .ok (.bipush 64, 2) := by decide +kernel
theorem dX15_sender_20 : decode cX15_sender 20 = .ok (.if_icmp .eq 9, 3) := by decide +kernel
theorem dX15_sender_23 : decode cX15_sender 23 = .ok (.iinc 3 1, 3) := by decide +kernel
theorem dX15_sender_26 : decode cX15_sender 26 = .ok (.goto (-19), 3) := by decide +kernel
theorem dX15_sender_29 : decode cX15_sender 29 = .ok (.iload_n 3, 1) := by decide +kernel
theorem dX15_sender_30 : decode cX15_sender 30 = .ok (.iload_n 2, 1) := by decide +kernel
theorem dX15_sender_31 : decode cX15_sender 31 = .ok (.if_icmp .eq 29, 3) := by decide +kernel
theorem dX15_sender_34 : decode cX15_sender 34 = .ok (.iload_n 3, 1) := by decide +kernel
theorem dX15_sender_35 : decode cX15_sender 35 = .ok (.i2l, 1) := by decide +kernel
theorem dX15_sender_36 : decode cX15_sender 36 = .ok (.lconst 1, 1) := by decide +kernel
theorem dX15_sender_37 : decode cX15_sender 37 = .ok (.ldc2_w 200, 3) := by decide +kernel
theorem dX15_sender_40 : decode cX15_sender 40 = .ok (.invokestatic 170, 3) := by decide +kernel
theorem dX15_sender_43 : decode cX15_sender 43 = .ok (.ifCond .eq 17, 3) := by decide +kernel
theorem dX15_sender_46 : decode cX15_sender 46 = .ok (.aload_n 0, 1) := by decide +kernel
theorem dX15_sender_47 : decode cX15_sender 47 = .ok (.getfield 31, 3) := by decide +kernel
theorem dX15_sender_50 : decode cX15_sender 50 = .ok (.iload_n 3, 1) := by decide +kernel
theorem dX15_sender_51 : decode cX15_sender 51 = .ok (.iconst 1, 1) := by decide +kernel
theorem dX15_sender_52 : decode cX15_sender 52 = .ok (.iadd, 1) := by decide +kernel
theorem dX15_sender_53 : decode cX15_sender 53 = .ok (.iload_n 2, 1) := by decide +kernel
theorem dX15_sender_54 : decode cX15_sender 54 = .ok (.invokestatic 182, 3) := by decide +kernel
theorem dX15_sender_57 : decode cX15_sender 57 = .ok (.ifCond .ne 5, 3) := by decide +kernel
theorem dX15_sender_60 : decode cX15_sender 60 = .ok (.iconst (-1), 1) := by decide +kernel
theorem dX15_sender_61 : decode cX15_sender 61 = .ok (.ireturn, 1) := by decide +kernel
theorem dX15_sender_62 : decode cX15_sender 62 = .ok (.iconst 0, 1) := by decide +kernel
theorem dX15_sender_63 : decode cX15_sender 63 = .ok (.istore 4, 2) := by decide +kernel
theorem dX15_sender_65 : decode cX15_sender 65 = .ok (.iload 4, 2) := by decide +kernel
theorem dX15_sender_67 : decode cX15_sender 67 = .ok (.iload_n 3, 1) := by decide +kernel
theorem dX15_sender_68 : decode cX15_sender 68 = .ok (.if_icmp .ge 64, 3) := by decide +kernel
theorem dX15_sender_71 : decode cX15_sender 71 = .ok (.aload_n 0, 1) := by decide +kernel
theorem dX15_sender_72 : decode cX15_sender 72 = .ok (.getfield 31, 3) := by decide +kernel
theorem dX15_sender_75 : decode cX15_sender 75 = .ok (.iload 4, 2) := by decide +kernel
theorem dX15_sender_77 : decode cX15_sender 77 = .ok (.baload, 1) := by decide +kernel
theorem dX15_sender_78 : decode cX15_sender 78 = .ok (.istore 5, 2) := by decide +kernel
theorem dX15_sender_80 : decode cX15_sender 80 = .ok (.iload 5, 2) := by decide +kernel
theorem dX15_sender_82 : decode cX15_sender 82 = .ok (.invokestatic 3, 3) := by decide +kernel
theorem dX15_sender_85 : decode cX15_sender 85 = .ok (.ifCond .ne 41, 3) := by decide +kernel
theorem dX15_sender_88 : decode cX15_sender 88 = .ok (.iload 5, 2) := by decide +kernel
theorem dX15_sender_90 : decode cX15_sender 90 = .ok (.invokestatic 202, 3) := by decide +kernel
theorem dX15_sender_93 : decode cX15_sender 93 = .ok (.ifCond .ne 33, 3) := by decide +kernel
theorem dX15_sender_96 : decode cX15_sender 96 = .ok (.iload 5, 2) := by decide +kernel
theorem dX15_sender_98 : decode cX15_sender 98 = .ok (.bipush 46, 2) := by decide +kernel
theorem dX15_sender_100 : decode cX15_sender 100 = .ok (.if_icmp .eq 26, 3) := by decide +kernel
theorem dX15_sender_103 : decode cX15_sender 103 = .ok (.iload 5, 2) := by decide +kernel
theorem dX15_sender_105 : decode cX15_sender 105 = .ok (.bipush 45, 2) := by decide +kernel
theorem dX15_sender_107 : decode cX15_sender 107 = .ok (.if_icmp .eq 19, 3) := by decide +kernel
theorem dX15_sender_110 : decode cX15_sender 110 = .ok (.iload 5, 2) := by decide +kernel
theorem dX15_sender_112 : decode cX15_sender 112 = .ok (.bipush 95, 2) := by decide +kernel
theorem dX15_sender_114 : decode cX15_sender 114 = .ok (.if_icmp .eq 12, 3) := by decide +kernel
theorem dX15_sender_117 : decode cX15_sender 117 = .ok (.iload 5, 2) := by decide +kernel
theorem dX15_sender_119 : decode cX15_sender 119 = .ok (.bipush 43, 2) := by decide +kernel
theorem dX15_sender_121 : decode cX15_sender 121 = .ok (.if_icmp .eq 5, 3) := by decide +kernel
theorem dX15_sender_124 : decode cX15_sender 124 = .ok (.iconst (-1), 1) := by decide +kernel
theorem dX15_sender_125 : decode cX15_sender 125 = .ok (.ireturn, 1) := by decide +kernel
theorem dX15_sender_126 : decode cX15_sender 126 = .ok (.iinc 4 1, 3) := by decide +kernel
theorem dX15_sender_129 : decode cX15_sender 129 = .ok (.goto (-64), 3) := by decide +kernel
theorem dX15_sender_132 : decode cX15_sender 132 = .ok (.aload_n 0, 1) := by decide +kernel
theorem dX15_sender_133 : decode cX15_sender 133 = .ok (.getfield 57, 3) := by decide +kernel
theorem dX15_sender_136 : decode cX15_sender 136 = .ok (.aload_n 0, 1) := by decide +kernel
theorem dX15_sender_137 : decode cX15_sender 137 = .ok (.getfield 31, 3) := by decide +kernel
theorem dX15_sender_140 : decode cX15_sender 140 = .ok (.iconst 0, 1) := by decide +kernel
theorem dX15_sender_141 : decode cX15_sender 141 = .ok (.iload_n 3, 1) := by decide +kernel
theorem dX15_sender_142 : decode cX15_sender 142 = .ok (.invokevirtual 186, 3) := by decide +kernel
theorem dX15_sender_145 : decode cX15_sender 145 = .ok (.aload_n 0, 1) := by decide +kernel
theorem dX15_sender_146 : decode cX15_sender 146 = .ok (.getfield 61, 3) := by decide +kernel
theorem dX15_sender_149 : decode cX15_sender 149 = .ok (.aload_n 0, 1) := by decide +kernel
theorem dX15_sender_150 : decode cX15_sender 150 = .ok (.getfield 31, 3) := by decide +kernel
theorem dX15_sender_153 : decode cX15_sender 153 = .ok (.iload_n 3, 1) := by decide +kernel
theorem dX15_sender_154 : decode cX15_sender 154 = .ok (.iconst 1, 1) := by decide +kernel
theorem dX15_sender_155 : decode cX15_sender 155 = .ok (.iadd, 1) := by decide +kernel
theorem dX15_sender_156 : decode cX15_sender 156 = .ok (.iload_n 2, 1) := by decide +kernel
theorem dX15_sender_157 : decode cX15_sender 157 = .ok (.invokevirtual 186, 3) := by decide +kernel
theorem dX15_sender_160 : decode cX15_sender 160 = .ok (.aload_n 0, 1) := by decide +kernel
theorem dX15_sender_161 : decode cX15_sender 161 = .ok (.iload_n 1, 1) := by decide +kernel
theorem dX15_sender_162 : decode cX15_sender 162 = .ok (.putfield 205, 3) := by decide +kernel
theorem dX15_sender_165 : decode cX15_sender 165 = .ok (.aload_n 0, 1) := by decide +kernel
theorem dX15_sender_166 : decode cX15_sender 166 = .ok (.iconst 1, 1) := by decide +kernel
theorem dX15_sender_167 : decode cX15_sender 167 = .ok (.putfield 208, 3) := by decide +kernel
theorem dX15_sender_170 : decode cX15_sender 170 = .ok (.iconst 0, 1) := by decide +kernel
theorem dX15_sender_171 : decode cX15_sender 171 = .ok (.ireturn, 1) := by decide +kernel
theorem kt_1186 : Cond.constantLong RX15 200 30 ∈ tb := tb_at (i := 1515) (by decide +kernel) (by decide +kernel)
theorem kt_1187 : Cond.fieldLink RX15 208 "PostGateModel" "sent" "Z" ∈ tb := tb_at (i := 1301) (by decide +kernel) (by decide +kernel)
def xN (x : Int32) : Nat := x.toBitVec.toNat
theorem xN_e (x : Int32) : nI (xN x) = x := Int32.toBitVec_inj.mp (by
  show (nI x.toBitVec.toNat).toBitVec = x.toBitVec
  unfold nI
  simp)
def fmq (gs : Option Nat) (fm : Nat) (x : Int32) : Nat := match gs with
  | none => fm
  | some _ => xN x
def snq (gs : Option Nat) (sn : Nat) : Nat := match gs with
  | none => sn
  | some _ => 1
set_option maxHeartbeats 4000000 in
set_option maxRecDepth 100000 in
theorem s_X15_sender_x (l : Launch) (dC : Nat → ClassId) (dI : Nat → Nat → Nat) (cs : Nat → ClassId) (ty : TyM) (gm : Nat → Nat → Nat) (L : List Nat) (sz : Nat) (F : Nat → va_E) (h0 : Nat) (ρ : Nat) (ta : Nat) (ou : Nat) (so : Nat) (ad : Nat) (na : Nat) (va : Nat) (lc : Nat) (dm : Nat) (tg : Nat) (pe : Nat) (ml : Nat) (bg : Nat) (co : Nat) (sp : Nat) (nb0 : Nat) (nb1 : Nat) (nb2 : Nat) (pl : Nat) (se : Nat) (ke : Nat) (wi : Nat) (hs : Nat) (mo : Nat) (po : Nat) (nu : Nat) (pr : Nat) (sq : Nat) (xa : Nat) (sa : Nat) (n64 : Nat) (m64 : Nat) (ex : Nat) (wh : Nat) (sd : Nat) (tk : Nat) (hd : Nat) (ak : Nat) (ho : Nat) (ot : Nat) (sx : Nat) (s0 : Nat) (s1 : Nat) (s2 : Nat) (nf : Nat) (bd : Nat) (mm : Nat) (fm : Nat) (sn : Nat) (hg : Nat) (gc : Nat) (gv : Nat) (ze : Nat) (zt : Nat) (x1 : Int32) (gt : Nat → Int32) (hW : WTm ty gm L) (hL_h0 : h0 ∈ L) (hT_h0 : ty h0 = (15, ρ, [ta, ou, so, ad, na, va, lc, dm, tg, pe, ml, bg, co, sp, nb0, nb1, nb2, pl, se, ke, wi, hs, mo, po, nu, pr, sq, xa, sa, n64, m64, ex, wh, sd, tk, hd, ak, ho, ot, sx, s0, s1, s2, nf, bd, mm, fm, sn, hg, gc, gv, ze, zt])) (hFta : F ta = .inl (cs 17, 3000, .inl gt)) : Met l yX15_sender (.code yX15_sender cX15_sender 6 (some .int) :: tb) ({ frames := 3, cells := 0, slots := 0, locals := 94 }) (va_Pc [.ref h0, .int x1] (PTm (dC, dI) cs ty gm L F sz)) (va_Qi (fun (r : Int32) (gs : Option Nat) => ((r = 0 ∧ ∃ k, FST gt 64 zt k ∧ LCL gt k ∧ NM gt (k + 1) zt = true ∧ gs = some k) ∨ (r = (-1) ∧ ¬ SND gt zt ∧ gs = none))) (fun (gs : Option Nat) T9 => ∃ F2 : Nat → va_E, ∃ ty2 : TyM, ty2 = rtf ty h0 (15, ρ, [ta, ou, so, ad, na, va, lc, dm, tg, pe, ml, bg, co, sp, nb0, nb1, nb2, pl, se, ke, wi, hs, mo, po, nu, pr, sq, xa, sa, n64, m64, ex, wh, sd, tk, hd, ak, ho, ot, sx, s0, s1, s2, nf, bd, mm, (fmq gs fm x1), (snq gs sn), hg, gc, gv, ze, 0]) ∧ QTm (dC, dI) cs ty2 gm L [ρ, ρ + 5, ρ + 32] F F2 (va_A (va_pl L F) sz) T9 ∧ WTm ty2 gm L ∧ ((gs = none ∧ FR ty [ρ] F F2) ∨ (∃ k, gs = some k ∧ TXM cs F2 lc 30 (tpL gt 0 k) ∧ TXM cs F2 dm 60 (tpL gt (k + 1) (zt - (k + 1)))))) (va_A (va_pl L F) sz)) 0 0 (va_A (va_pl L F) sz) := by
  refine Met.ofW (cc := cX15_sender) (maxL := 6) (ret := (some .int)) (by decide) rfl ?_
  intro p e s m args below meth c s₁ B hml hv
  obtain ⟨rfl, hsz, hP, hK, hD0, hE, hO⟩ := hv
  have hx := B.exec
  have hb := B.bytes
  have hr := B.returns
  have hts : ∀ w ∈ tb, w.before _ s = true := fun w h => atoms_spec (ws := .code yX15_sender cX15_sender 6 (some .int) :: tb) B.pre w (List.mem_cons_of_mem _ h)
  have hown : s.vm.findClass RX15 = some m.cls := findClass_of_methodNamed B.named
  have hlocks := B.notSynchronized
  subst hsz
  have hD := hD0.self (sz := s.heap.size)
  generalize hAe : va_A (va_pl L F) s.heap.size = A at hD ⊢
  have hA : ∀ q : Nat, s.heap.size ≤ q → A q := fun q h => by rw [← hAe]; exact Or.inr h
  have hS : va_S A s.heap s.heap [] := va_S.rf
  have hR : FR ty [ρ, ρ + 5, ρ + 32] F F := FR.refl
  have hl := lv_entry ([.ref h0, .int x1]) (n := 6) (Nat.le_of_ble_eq_true rfl)
  rw [lg_entry_eq]
  generalize (lg_sl ([.ref h0, .int x1]) ++ List.replicate (6 - (lg_sl ([.ref h0, .int x1])).length) Slot.unset).toArray = ls at hl ⊢
  have hl : lv_has ls 6 [(0, .ref h0), (1, .int x1)] := hl
  obtain ⟨ty0, hty0⟩ : ∃ t9 : TyM, t9 = ty := ⟨_, rfl⟩
  have hT00 := hT_h0
  obtain ⟨hq_23, hq_24, hq_25, hq_26, hq_27, hgO, hgA, hgB, hq_28⟩ := hW.sc hL_h0 hT_h0
  refine lv_aload_n hx hb dX15_sender_0 rfl (lv_at hl 0 rfl) ?_
  obtain ⟨zo_29, v14_30, v15_31, v17_32, v18_33, v19_34, v20_35, v21_36, v22_37, v33_38, v52_39, v53_40, v54_41, hF_42, hq_43, hq_44, hq_45, hq_46, hq_47⟩ := hO.mod hL_h0 hT_h0
  have hFc := pg_free hD hS hA
  refine va_calli (va_runV (As := []) (rest := []) ⟨hx, hb, hml, hown, hts⟩ (s_X15_used l dC dI cs ty gm L s.heap.size F h0 ρ ta ou so ad na va lc dm tg pe ml bg co sp nb0 nb1 nb2 pl se ke wi hs mo po nu pr sq xa sa n64 m64 ex wh sd tk hd ak ho ot sx s0 s1 s2 nf bd mm fm sn hg gc gv ze zt zo_29 v14_30 v15_31 v17_32 v18_33 v19_34 v20_35 v21_36 v22_37 v33_38 v52_39 v53_40 v54_41 hW hL_h0 hT_h0 hF_42 (by first | omega | assumption | exact Or.inl rfl) (by first | omega | assumption | exact Or.inl rfl) (by first | omega | assumption | exact Or.inl rfl) (by first | omega | assumption | exact Or.inl rfl) (by first | omega | assumption | exact Or.inl rfl)) ⟨callB_of 0 hts (gi kt_1005) rfl rfl rfl (hts _ kt_669) (hts _ kt_1006) (by decide +kernel) ⟨Nat.le_of_ble_eq_true rfl, Nat.le_of_ble_eq_true rfl⟩, (hts _ kt_1007), (hts _ kt_1008)⟩ ⟨fun a U g mk q => ⟨q.1, PTm.calling q.2⟩, pg_recv hK hP hL_h0 hF_42 (q := (RX15, TX15, 59)) rfl, fun U hU hWm => ⟨rfl, PTm.mk hU hWm hP hK hD hE hO⟩⟩ rfl rfl hl.1 rfl (lv_room (Nat.le_of_ble_eq_true rfl)) dX15_sender_1 ⟨by show _ + 0 ≤ 0; omega, by show _ + 0 ≤ 0; omega⟩) hS (fun q _ h => hFc q h) hFc (fun r_48 u t H1 locs ht hvm hw hB hz1 hk1 hS => ?_)
  obtain ⟨F_49, ty9, hty9, hB1, hW9, hq_50⟩ := hB
  subst hty9
  have hR9 := FR.retype (im2 := [ta, ou, so, ad, na, va, lc, dm, tg, pe, ml, bg, co, sp, nb0, nb1, nb2, pl, se, ke, wi, hs, mo, po, nu, pr, sq, xa, sa, n64, m64, ex, wh, sd, tk, hd, ak, ho, ot, sx, s0, s1, s2, nf, bd, mm, fm, sn, hg, gc, gv, ze, 0]) hT_h0 hR
  obtain ⟨hP, hD, hO, hR⟩ := QTm.back hB1 ht hFc hR9 (fun q h => by simp only [List.mem_cons, List.not_mem_nil, or_false] at h ⊢; omega)
  obtain ⟨ty, hty, hT_h0, hW, hO, hR⟩ : ∃ t9 : TyM, t9 = rtf ty h0 (15, ρ, [ta, ou, so, ad, na, va, lc, dm, tg, pe, ml, bg, co, sp, nb0, nb1, nb2, pl, se, ke, wi, hs, mo, po, nu, pr, sq, xa, sa, n64, m64, ex, wh, sd, tk, hd, ak, ho, ot, sx, s0, s1, s2, nf, bd, mm, fm, sn, hg, gc, gv, ze, 0]) ∧ t9 h0 = (15, ρ, [ta, ou, so, ad, na, va, lc, dm, tg, pe, ml, bg, co, sp, nb0, nb1, nb2, pl, se, ke, wi, hs, mo, po, nu, pr, sq, xa, sa, n64, m64, ex, wh, sd, tk, hd, ak, ho, ot, sx, s0, s1, s2, nf, bd, mm, fm, sn, hg, gc, gv, ze, 0]) ∧ WTm t9 gm L ∧ OKm cs t9 gm L F_49 ∧ FR t9 [ρ, ρ + 5, ρ + 32] F F_49 := ⟨_, rfl, rtf_self, hW9, hO, hR⟩
  generalize H1 = H at hP hS ⊢
  have hw : r_48 = nI zt := hw
  subst hw
  obtain ⟨hq_73, hq_74, hq_75, hq_76, hq_77, hgO, hgA, hgB, hq_78⟩ := hW.sc hL_h0 hT_h0
  obtain ⟨hi_80, ht_81⟩ := hW.f_ta hL_h0 hT_h0
  have hF_79 : F_49 ta = .inl (cs 17, 3000, .inl gt) := (hB1.2.2.2 ta (by rw [← hty, ht_81]; simp)).trans hFta
  have hRu : FR ty0 [ρ] F F_49 := by rw [hty0]; exact FR.unre hT00 rfl hB1.2.2.2
  refine lv_istore_n (lv' := [(2, .int (nI zt)), (0, .ref h0), (1, .int x1)]) hx hb dX15_sender_4 rfl hl (by decide) rfl (fun ls hl => ?_)
  refine lv_iconst (v := 0) hx hb dX15_sender_5 (by decide) ?_
  refine lv_istore_n (lv' := [(3, .int 0), (2, .int (nI zt)), (0, .ref h0), (1, .int x1)]) hx hb dX15_sender_6 rfl hl (by decide) rfl (fun ls hl => ?_)
  refine W.widen (k := 0) (n := 0) (by omega) (by omega) ?_
  have hF_83 : F ta = .inl (cs 17, 3000, .inl gt) := (hR ta (by rw [ht_81]; simp)).symm.trans hF_79
  refine pl_loopm (σ := Nat) A (dC, dI) cs ty gm L [ρ, ρ + 5, ρ + 32] F 7 6 (fun j => [(3, .int (nI j)), (2, .int (nI zt)), (0, .ref h0), (1, .int x1)]) (fun j => []) (fun j FF => (j ≤ zt ∧ ∀ i, i < j → ¬ gt i = 64) ∧ FR ty0 [ρ] F FF) (fun j => zt - j) ?_ 0 F_49 (⟨⟨by omega, fun i hi => absurd hi (Nat.not_lt_zero _)⟩, hRu⟩) hO hR _ _ hP hD hS ls (lv_sub hl [0, 1, 2, 3] rfl)
  rintro j F_82 hv_84 hO hR ih_85 H locs hP hD hS ls hl
  have hl : lv_has ls 6 [(3, .int (nI j)), (2, .int (nI zt)), (0, .ref h0), (1, .int x1)] := hl
  have hv_84 : (j ≤ zt ∧ ∀ i, i < j → ¬ gt i = 64) ∧ FR ty0 [ρ] F F_82 := hv_84
  refine W.eq (g2 := F0 m 7 ls []) rfl ?_
  have hF_86 : F_82 ta = .inl (cs 17, 3000, .inl gt) := (hR ta (by rw [ht_81]; simp)).trans hF_83
  obtain ⟨⟨hv1, hv2⟩, hRu⟩ := id hv_84
  refine lv_iload_n hx hb dX15_sender_7 rfl (lv_at hl 0 rfl) ?_
  refine lv_iload_n hx hb dX15_sender_8 rfl (lv_at hl 1 rfl) ?_
  refine lv_icmp_ge (tgt := 29) hx hb dX15_sender_9 (by decide) (fun c_87 => ?_) (fun c_87 => ?_)
  ·
    have hi_88 : zt ≤ j := leN (N := zt) c_87
    have hfs : FST gt 64 zt j := ⟨by omega, hv2, Or.inl (by omega)⟩
    refine lv_iload_n hx hb dX15_sender_29 rfl (lv_at hl 0 rfl) ?_
    refine lv_iload_n hx hb dX15_sender_30 rfl (lv_at hl 1 rfl) ?_
    refine lv_icmp_eq (tgt := 60) hx hb dX15_sender_31 (by decide) (fun c_89 => ?_) (fun c_89 => ?_)
    ·
      have hi_90 : j = zt := (nI_eq (a := j) (b := zt) (by omega) (by omega)).mp c_89
      refine lv_iconst (v := (-1)) hx hb dX15_sender_60 (by decide) ?_
      refine W.widen (k := 0) (n := 0) (by omega) (by omega) ?_
      exact W.iret (v := (-1)) hx hb hr (fun t ht hWm => ⟨⟨(-1), none, rfl, (Or.inr ⟨rfl, snd_n hfs (fun q => nm_no (by omega) q.2), rfl⟩), ⟨F_82, ty, hty, QTm.mk ht hP hD hO hR, hW, (Or.inl ⟨rfl, (by rw [← hty0]; exact hRu)⟩)⟩⟩, hS.F ht⟩) hS.2.2 dX15_sender_61
    ·
      have hi_91 : j ≠ zt := fun q => c_89 (by rw [q])
      refine lv_iload_n hx hb dX15_sender_34 rfl (lv_at hl 0 rfl) ?_
      refine lv_i2l (v := (nI j).toInt64) hx hb dX15_sender_35 rfl ?_
      refine lv_lconst (v := 1) hx hb dX15_sender_36 (by decide) ?_
      refine lv_ldc2 (v := 30) hx hb hown (hts _ kt_1186) dX15_sender_37 ?_
      have hFc := pg_free hD hS hA
      refine va_calli (va_runS (As := [.long ((nI j).toInt64), .long 1, .long 30]) (rest := []) ⟨hx, hb, hml, hown, hts⟩ (s_X15_in l dC dI cs ty gm L H.size F_82 ((nI j).toInt64) 1 30 hW ) ⟨callB_of 3 hts (gi kt_685) rfl rfl rfl (hts _ kt_669) (hts _ kt_705) (by decide +kernel) ⟨Nat.le_of_ble_eq_true rfl, Nat.le_of_ble_eq_true rfl⟩, (hts _ kt_686)⟩ ⟨fun a U g mk q => ⟨q.1, PTm.calling q.2⟩, fun U hU hWm => ⟨rfl, PTm.mk hU hWm hP hK hD hE hO⟩⟩ rfl rfl hl.1 rfl (lv_room (Nat.le_of_ble_eq_true rfl)) dX15_sender_40 ⟨by show _ + 0 ≤ 0; omega, by show _ + 0 ≤ 0; omega⟩) hS (fun q _ h => hFc q h) hFc (fun r_92 u t H1 locs ht hvm hw hB hz1 hk1 hS => ?_)
      obtain ⟨F_93, hB1⟩ := hB
      obtain rfl : F_82 = F_93 := (funext (fun a => hB1.2.2.2 a List.not_mem_nil)).symm
      obtain ⟨hP, hD, hO, hR⟩ := QTm.back hB1 ht hFc hR (fun q h => absurd h List.not_mem_nil)
      generalize H1 = H at hP hS ⊢
      have hw : r_92 = (if 1 ≤ (nI j).toInt64 ∧ (nI j).toInt64 ≤ 30 then 1 else 0) := hw
      have hw_94 := hw
      refine lv_if_eq (tgt := 60) hx hb dX15_sender_43 (by decide) (fun c_95 => ?_) (fun c_95 => ?_)
      ·
        have hin := in_nat0 (lo := 1) (hi := 30) hw_94 c_95 (by decide) (by decide) (by omega)
        refine lv_iconst (v := (-1)) hx hb dX15_sender_60 (by decide) ?_
        refine W.widen (k := 0) (n := 0) (by omega) (by omega) ?_
        exact W.iret (v := (-1)) hx hb hr (fun t ht hWm => ⟨⟨(-1), none, rfl, (Or.inr ⟨rfl, snd_n hfs (fun q => hin ⟨q.1.1, q.1.2.1⟩), rfl⟩), ⟨F_82, ty, hty, QTm.mk ht hP hD hO hR, hW, (Or.inl ⟨rfl, (by rw [← hty0]; exact hRu)⟩)⟩⟩, hS.F ht⟩) hS.2.2 dX15_sender_61
      ·
        have hin := in_nat (lo := 1) (hi := 30) hw_94 c_95 (by decide) (by decide) (by omega)
        refine lv_aload_n hx hb dX15_sender_46 rfl (lv_at hl 2 rfl) ?_
        obtain ⟨zo_96, v14_97, v15_98, v17_99, v18_100, v19_101, v20_102, v21_103, v22_104, v33_105, v52_106, v53_107, v54_108, hF_109, hq_110, hq_111, hq_112, hq_113, hq_114⟩ := hO.mod hL_h0 hT_h0
        refine pg_get (ci := 15) (v := .ref ta) (C := RX15) (T := TX15) (N := 59) hx hb hts it_15 hown hK hP hL_h0 hF_109 rfl 0 (by decide) (hts _ kt_1009) (fun _ h9 => h9) rfl dX15_sender_47 ?_
        refine lv_iload_n hx hb dX15_sender_50 rfl (lv_at hl 0 rfl) ?_
        refine lv_iconst (v := 1) hx hb dX15_sender_51 (by decide) ?_
        refine lv_iadd hx hb dX15_sender_52 ?_
        refine lv_topi (fun x_115 ex_115 => ?_)
        obtain rfl : x_115 = (nI (j + 1)) := ex_115.trans (nI_add j 1)
        refine lv_iload_n hx hb dX15_sender_53 rfl (lv_at hl 1 rfl) ?_
        obtain ⟨hq_116, hq_117⟩ := hW.octs hi_80 ht_81
        have hFc := pg_free hD hS hA
        refine va_calli (va_runS (As := [.ref ta, .int (nI (j + 1)), .int (nI zt)]) (rest := []) ⟨hx, hb, hml, hown, hts⟩ (s_X14_isName_e l dC dI cs ty gm L H.size F_82 ta (ρ + 1) 3000 (j + 1) zt gt hW hi_80 ht_81 hF_86 (by first | omega | assumption | exact Or.inl rfl) (by first | omega | assumption | exact Or.inl rfl)) ⟨callB_of 3 hts (gi kt_689) rfl rfl rfl (hts _ kt_676) (hts _ kt_848) (by decide +kernel) ⟨Nat.le_of_ble_eq_true rfl, Nat.le_of_ble_eq_true rfl⟩, (hts _ kt_691)⟩ ⟨fun a U g mk q => ⟨q.1, PTm.calling q.2⟩, fun U hU hWm => ⟨rfl, PTm.mk hU hWm hP hK hD hE hO⟩⟩ rfl rfl hl.1 rfl (lv_room (Nat.le_of_ble_eq_true rfl)) dX15_sender_54 ⟨by show _ + 0 ≤ 0; omega, by show _ + 0 ≤ 0; omega⟩) hS (fun q _ h => hFc q h) hFc (fun r_118 u t H1 locs ht hvm hw hB hz1 hk1 hS => ?_)
        obtain ⟨F_119, hB1⟩ := hB
        obtain rfl : F_82 = F_119 := (funext (fun a => hB1.2.2.2 a List.not_mem_nil)).symm
        obtain ⟨hP, hD, hO, hR⟩ := QTm.back hB1 ht hFc hR (fun q h => absurd h List.not_mem_nil)
        generalize H1 = H at hP hS ⊢
        have hw : r_118 = (if NM gt (j + 1) zt = true then 1 else 0) := hw
        have hw_120 := hw
        refine lv_if_ne (tgt := 62) hx hb dX15_sender_57 (by decide) (fun c_121 => ?_) (fun c_121 => ?_)
        ·
          have hnm := ifb1 hw_120 c_121
          have hn60 := nm_60 hnm
          refine lv_iconst (v := 0) hx hb dX15_sender_62 (by decide) ?_
          refine lv_istore (lv' := [(4, .int 0), (3, .int (nI j)), (2, .int (nI zt)), (0, .ref h0), (1, .int x1)]) hx hb dX15_sender_63 hl (by decide) rfl (fun ls hl => ?_)
          refine W.widen (k := 0) (n := 0) (by omega) (by omega) ?_
          have hF_123 : F ta = .inl (cs 17, 3000, .inl gt) := (hR ta (by rw [ht_81]; simp)).symm.trans hF_86
          refine pl_loopm (σ := Nat) A (dC, dI) cs ty gm L [ρ, ρ + 5, ρ + 32] F 65 6 (fun i => [(4, .int (nI i)), (3, .int (nI j)), (2, .int (nI zt)), (0, .ref h0), (1, .int x1)]) (fun i => []) (fun i FF => (i ≤ j ∧ ∀ q, q < i → LOC (gt q) = true) ∧ FR ty0 [ρ] F FF) (fun i => j - i) ?_ 0 F_82 (⟨⟨by omega, fun q hq => absurd hq (Nat.not_lt_zero _)⟩, hRu⟩) hO hR _ _ hP hD hS ls (lv_sub hl [0, 1, 2, 3, 4] rfl)
          rintro i F_122 hv_124 hO hR ih_125 H locs hP hD hS ls hl
          have hl : lv_has ls 6 [(4, .int (nI i)), (3, .int (nI j)), (2, .int (nI zt)), (0, .ref h0), (1, .int x1)] := hl
          have hv_124 : (i ≤ j ∧ ∀ q, q < i → LOC (gt q) = true) ∧ FR ty0 [ρ] F F_122 := hv_124
          refine W.eq (g2 := F0 m 65 ls []) rfl ?_
          have hF_126 : F_122 ta = .inl (cs 17, 3000, .inl gt) := (hR ta (by rw [ht_81]; simp)).trans hF_123
          obtain ⟨⟨hw1, hw2⟩, hRu⟩ := id hv_124
          refine lv_iload hx hb dX15_sender_65 (lv_at hl 0 rfl) ?_
          refine lv_iload_n hx hb dX15_sender_67 rfl (lv_at hl 1 rfl) ?_
          refine lv_icmp_ge (tgt := 132) hx hb dX15_sender_68 (by decide) (fun c_127 => ?_) (fun c_127 => ?_)
          ·
            have hi_128 : j ≤ i := leN (N := j) c_127
            have htyA := hty
            have hlcl : LCL gt j := ⟨hin.1, hin.2, fun q hq => hw2 q (by omega)⟩
            have hcd := snd_cd hfs hlcl hnm
            have hnl := NM_len hnm
            refine lv_aload_n hx hb dX15_sender_132 rfl (lv_at hl 3 rfl) ?_
            obtain ⟨zo_129, v14_130, v15_131, v17_132, v18_133, v19_134, v20_135, v21_136, v22_137, v33_138, v52_139, v53_140, v54_141, hF_142, hq_143, hq_144, hq_145, hq_146, hq_147⟩ := hO.mod hL_h0 hT_h0
            refine pg_get (ci := 15) (v := .ref lc) (C := RX15) (T := TX15) (N := 59) hx hb hts it_15 hown hK hP hL_h0 hF_142 rfl 9 (by decide) (hts _ kt_1129) (fun _ h9 => h9) rfl dX15_sender_133 ?_
            refine lv_aload_n hx hb dX15_sender_136 rfl (lv_at hl 3 rfl) ?_
            refine pg_get (ci := 15) (v := .ref ta) (C := RX15) (T := TX15) (N := 59) hx hb hts it_15 hown hK hP hL_h0 hF_142 rfl 0 (by decide) (hts _ kt_1009) (fun _ h9 => h9) rfl dX15_sender_137 ?_
            refine lv_iconst (v := 0) hx hb dX15_sender_140 (by decide) ?_
            refine lv_iload_n hx hb dX15_sender_141 rfl (lv_at hl 1 rfl) ?_
            refine W.eq (g2 := F0 m 142 ls [.int (nI j), .int (nI 0), .ref ta, .ref lc]) rfl ?_
            obtain ⟨hi_148, r_51, ht_149⟩ := hW.f_lc hL_h0 hT_h0
            obtain ⟨hi_150, ht_151, hq_152⟩ := hW.txt hi_148 ht_149
            have hFc := pg_free hD hS hA
            obtain ⟨z_153, hF_154, hq_155⟩ := hO.txt hi_148 ht_149
            refine va_callv (va_runV (As := [.ref ta, .int (nI 0), .int (nI j)]) (rest := []) ⟨hx, hb, hml, hown, hts⟩ (s_X14_set_e l dC dI cs ty gm L H.size F_122 lc (ρ + 5) r_51 30 ta (ρ + 1) 3000 0 j gt hW hi_148 ht_149 hi_80 ht_81 hF_126 (Nat.zero_le _) (by omega) (by omega)) ⟨callB_of 3 hts (gi kt_951) rfl rfl rfl (hts _ kt_676) (hts _ kt_952) (by decide +kernel) ⟨Nat.le_of_ble_eq_true rfl, Nat.le_of_ble_eq_true rfl⟩, (hts _ kt_953), (hts _ kt_954)⟩ ⟨fun a U g mk q => ⟨q.1, PTm.calling q.2⟩, pg_recv hK hP hi_148 hF_154 (q := (RX14, TX14, 2)) rfl, fun U hU hWm => ⟨rfl, PTm.mk hU hWm hP hK hD hE hO⟩⟩ rfl rfl hl.1 rfl (lv_room (Nat.le_of_ble_eq_true rfl)) dX15_sender_142 ⟨by show _ + 0 ≤ 0; omega, by show _ + 0 ≤ 0; omega⟩) hS (fun q _ h => hFc q h) hFc (fun u t H1 locs ht hvm hw hB hz1 hk1 hS => ?_)
            obtain ⟨F_157, fc_158, hB1, hq_159, hq_160, hq_161⟩ := hB
            obtain ⟨hP, hD, hO, hR⟩ := QTm.back hB1 ht hFc hR (fun q h => by simp only [List.mem_cons, List.not_mem_nil, or_false] at h ⊢; omega)
            have hF_162 : F_157 ta = .inl (cs 17, 3000, .inl gt) := (hB1.2.2.2 ta (by rw [ht_81]; simp)).trans hF_126
            have hF_163 : F_157 h0 = .inr (15, (.ref ta) :: (.int (nI 0)) :: (.int (nI zo_129)) :: (.int (nI ze)) :: (.ref ou) :: (.ref so) :: (.ref ad) :: (.ref na) :: (.ref va) :: (.ref lc) :: (.ref dm) :: (.int (nI fm)) :: (.int (nI sn)) :: (.ref tg) :: (.int v14_130) :: (.int v15_131) :: (.ref pe) :: (.int v17_132) :: (.int v18_133) :: (.int v19_134) :: (.int v20_135) :: (.int v21_136) :: (.int v22_137) :: (.ref ml) :: (.ref bg) :: (.ref co) :: (.ref sp) :: (.ref nb0) :: (.ref nb1) :: (.ref nb2) :: (.int (nI nf)) :: (.int (nI bd)) :: (.int (nI mm)) :: (.int v33_138) :: (.ref pl) :: (.ref se) :: (.ref ke) :: (.ref wi) :: (.ref hs) :: (.ref mo) :: (.ref po) :: (.ref nu) :: (.ref pr) :: (.ref sq) :: (.ref xa) :: (.ref sa) :: (.ref n64) :: (.ref m64) :: (.ref ex) :: (.ref wh) :: (.ref sd) :: (.ref tk) :: (.int v52_139) :: (.int v53_140) :: (.int v54_141) :: (.ref hd) :: (.ref ak) :: (.ref ho) :: (.ref ot) :: []) := (hB1.2.2.2 h0 (by rw [hT_h0]; simp)).trans hF_142
            generalize H1 = H at hP hS ⊢
            refine lv_aload_n hx hb dX15_sender_145 rfl (lv_at hl 3 rfl) ?_
            refine pg_get (ci := 15) (v := .ref dm) (C := RX15) (T := TX15) (N := 59) hx hb hts it_15 hown hK hP hL_h0 hF_163 rfl 10 (by decide) (hts _ kt_1130) (fun _ h9 => h9) rfl dX15_sender_146 ?_
            refine lv_aload_n hx hb dX15_sender_149 rfl (lv_at hl 3 rfl) ?_
            refine pg_get (ci := 15) (v := .ref ta) (C := RX15) (T := TX15) (N := 59) hx hb hts it_15 hown hK hP hL_h0 hF_163 rfl 0 (by decide) (hts _ kt_1009) (fun _ h9 => h9) rfl dX15_sender_150 ?_
            refine lv_iload_n hx hb dX15_sender_153 rfl (lv_at hl 1 rfl) ?_
            refine lv_iconst (v := 1) hx hb dX15_sender_154 (by decide) ?_
            refine lv_iadd hx hb dX15_sender_155 ?_
            refine lv_topi (fun x_164 ex_164 => ?_)
            obtain rfl : x_164 = (nI (j + 1)) := ex_164.trans (nI_add j 1)
            refine lv_iload_n hx hb dX15_sender_156 rfl (lv_at hl 2 rfl) ?_
            obtain ⟨hi_165, r_52, ht_166⟩ := hW.f_dm hL_h0 hT_h0
            obtain ⟨hi_167, ht_168, hq_169⟩ := hW.txt hi_165 ht_166
            have hFc := pg_free hD hS hA
            obtain ⟨z_170, hF_171, hq_172⟩ := hO.txt hi_165 ht_166
            refine va_callv (va_runV (As := [.ref ta, .int (nI (j + 1)), .int (nI zt)]) (rest := []) ⟨hx, hb, hml, hown, hts⟩ (s_X14_set_e l dC dI cs ty gm L H.size F_157 dm (ρ + 32) r_52 60 ta (ρ + 1) 3000 (j + 1) zt gt hW hi_165 ht_166 hi_80 ht_81 hF_162 (by omega) (by omega) (by omega)) ⟨callB_of 3 hts (gi kt_951) rfl rfl rfl (hts _ kt_676) (hts _ kt_952) (by decide +kernel) ⟨Nat.le_of_ble_eq_true rfl, Nat.le_of_ble_eq_true rfl⟩, (hts _ kt_953), (hts _ kt_954)⟩ ⟨fun a U g mk q => ⟨q.1, PTm.calling q.2⟩, pg_recv hK hP hi_165 hF_171 (q := (RX14, TX14, 2)) rfl, fun U hU hWm => ⟨rfl, PTm.mk hU hWm hP hK hD hE hO⟩⟩ rfl rfl hl.1 rfl (lv_room (Nat.le_of_ble_eq_true rfl)) dX15_sender_157 ⟨by show _ + 0 ≤ 0; omega, by show _ + 0 ≤ 0; omega⟩) hS (fun q _ h => hFc q h) hFc (fun u t H1 locs ht hvm hw hB hz1 hk1 hS => ?_)
            obtain ⟨F_174, fc_175, hB1, hq_176, hq_177, hq_178⟩ := hB
            obtain ⟨hP, hD, hO, hR⟩ := QTm.back hB1 ht hFc hR (fun q h => by simp only [List.mem_cons, List.not_mem_nil, or_false] at h ⊢; omega)
            have hF_179 : F_174 ta = .inl (cs 17, 3000, .inl gt) := (hB1.2.2.2 ta (by rw [ht_81]; simp)).trans hF_162
            have hF_180 : F_174 h0 = .inr (15, (.ref ta) :: (.int (nI 0)) :: (.int (nI zo_129)) :: (.int (nI ze)) :: (.ref ou) :: (.ref so) :: (.ref ad) :: (.ref na) :: (.ref va) :: (.ref lc) :: (.ref dm) :: (.int (nI fm)) :: (.int (nI sn)) :: (.ref tg) :: (.int v14_130) :: (.int v15_131) :: (.ref pe) :: (.int v17_132) :: (.int v18_133) :: (.int v19_134) :: (.int v20_135) :: (.int v21_136) :: (.int v22_137) :: (.ref ml) :: (.ref bg) :: (.ref co) :: (.ref sp) :: (.ref nb0) :: (.ref nb1) :: (.ref nb2) :: (.int (nI nf)) :: (.int (nI bd)) :: (.int (nI mm)) :: (.int v33_138) :: (.ref pl) :: (.ref se) :: (.ref ke) :: (.ref wi) :: (.ref hs) :: (.ref mo) :: (.ref po) :: (.ref nu) :: (.ref pr) :: (.ref sq) :: (.ref xa) :: (.ref sa) :: (.ref n64) :: (.ref m64) :: (.ref ex) :: (.ref wh) :: (.ref sd) :: (.ref tk) :: (.int v52_139) :: (.int v53_140) :: (.int v54_141) :: (.ref hd) :: (.ref ak) :: (.ref ho) :: (.ref ot) :: []) := (hB1.2.2.2 h0 (by rw [hT_h0]; simp)).trans hF_163
            have hF_181 : F_174 lc = .inr (14, [.ref r_51, .int (nI (j - 0))]) := (hB1.2.2.2 lc (by rw [ht_149]; simp)).trans hq_159
            have hF_182 : F_174 r_51 = .inl (cs 17, 30, .inl fc_158) := (hB1.2.2.2 r_51 (by rw [ht_151]; simp)).trans hq_160
            generalize H1 = H at hP hS ⊢
            refine lv_aload_n hx hb dX15_sender_160 rfl (lv_at hl 3 rfl) ?_
            refine lv_iload_n hx hb dX15_sender_161 rfl (lv_at hl 4 rfl) ?_
            refine lv_topi (fun x9 ex9 => ?_)
            obtain rfl : x9 = nI (xN x1) := ex9.trans (xN_e x1).symm
            refine pg_put (ci := 15) (v := .int (nI (xN x1))) (ty := .int) (C := RX15) (T := TX15) (N := 59) hx hb hts it_15 tyX15 tyX15_ok nmX15 hown hK hP hD hS hL_h0 hF_180 rfl 11 (by decide) (hts _ kt_729) (fun _ h9 => h9) rfl (by decide +kernel) (rfl) (rfl) (Nat.le_of_ble_eq_true rfl) dX15_sender_162 (fun H locs hP hD hS => ?_)
            obtain ⟨F_183, he_184, hP, hD, hR⟩ : ∃ G, G = va_up F_174 h0 (.inr (15, (.ref ta) :: (.int (nI 0)) :: (.int (nI zo_129)) :: (.int (nI ze)) :: (.ref ou) :: (.ref so) :: (.ref ad) :: (.ref na) :: (.ref va) :: (.ref lc) :: (.ref dm) :: (.int (nI (xN x1))) :: (.int (nI sn)) :: (.ref tg) :: (.int v14_130) :: (.int v15_131) :: (.ref pe) :: (.int v17_132) :: (.int v18_133) :: (.int v19_134) :: (.int v20_135) :: (.int v21_136) :: (.int v22_137) :: (.ref ml) :: (.ref bg) :: (.ref co) :: (.ref sp) :: (.ref nb0) :: (.ref nb1) :: (.ref nb2) :: (.int (nI nf)) :: (.int (nI bd)) :: (.int (nI mm)) :: (.int v33_138) :: (.ref pl) :: (.ref se) :: (.ref ke) :: (.ref wi) :: (.ref hs) :: (.ref mo) :: (.ref po) :: (.ref nu) :: (.ref pr) :: (.ref sq) :: (.ref xa) :: (.ref sa) :: (.ref n64) :: (.ref m64) :: (.ref ex) :: (.ref wh) :: (.ref sd) :: (.ref tk) :: (.int v52_139) :: (.int v53_140) :: (.int v54_141) :: (.ref hd) :: (.ref ak) :: (.ref ho) :: (.ref ot) :: [])) ∧ va_P (dC, dI) vwCl (va_pl L G) H ∧ va_D A (va_pl L G) ∧ FR ty [ρ, ρ + 5, ρ + 32] F G := ⟨_, rfl, hP, hD, hR.up hT_h0 (by simp)⟩
            have hF_185 : F_183 ta = .inl (cs 17, 3000, .inl gt) := by rw [he_184, up_ne (ne_ty ht_81 hT_h0 (by simp))]; exact hF_179
            have hF_186 : F_183 lc = .inr (14, [.ref r_51, .int (nI (j - 0))]) := by rw [he_184, up_ne (ne_ty ht_149 hT_h0 (by simp))]; exact hF_181
            have hF_187 : F_183 r_51 = .inl (cs 17, 30, .inl fc_158) := by rw [he_184, up_ne (ne_ty ht_151 hT_h0 (by simp))]; exact hF_182
            have hF_188 : F_183 dm = .inr (14, [.ref r_52, .int (nI (zt - (j + 1)))]) := by rw [he_184, up_ne (ne_ty ht_166 hT_h0 (by simp))]; exact hq_176
            have hF_189 : F_183 r_52 = .inl (cs 17, 60, .inl fc_175) := by rw [he_184, up_ne (ne_ty ht_168 hT_h0 (by simp))]; exact hq_177
            have hTo := hT_h0
            obtain ⟨ty, hty, hT_h0, hW, hO, hR⟩ : ∃ t9 : TyM, t9 = rtf ty h0 (15, ρ, [ta, ou, so, ad, na, va, lc, dm, tg, pe, ml, bg, co, sp, nb0, nb1, nb2, pl, se, ke, wi, hs, mo, po, nu, pr, sq, xa, sa, n64, m64, ex, wh, sd, tk, hd, ak, ho, ot, sx, s0, s1, s2, nf, bd, mm, (xN x1), sn, hg, gc, gv, ze, 0]) ∧ t9 h0 = (15, ρ, [ta, ou, so, ad, na, va, lc, dm, tg, pe, ml, bg, co, sp, nb0, nb1, nb2, pl, se, ke, wi, hs, mo, po, nu, pr, sq, xa, sa, n64, m64, ex, wh, sd, tk, hd, ak, ho, ot, sx, s0, s1, s2, nf, bd, mm, (xN x1), sn, hg, gc, gv, ze, 0]) ∧ WTm t9 gm L ∧ OKm cs t9 gm L F_183 ∧ FR t9 [ρ, ρ + 5, ρ + 32] F F_183 := ⟨_, rfl, rtf_self, hW.fm hL_h0 hT_h0, (by rw [he_184]; exact OKm.retype hO hT_h0 (shm.mod rtf_self ⟨zo_129, v14_130, v15_131, v17_132, v18_133, v19_134, v20_135, v21_136, v22_137, v33_138, v52_139, v53_140, v54_141, rfl, (by first | omega | assumption | exact Or.inl rfl | exact Or.inr rfl), (by first | omega | assumption | exact Or.inl rfl | exact Or.inr rfl), (by first | omega | assumption | exact Or.inl rfl | exact Or.inr rfl), (by first | omega | assumption | exact Or.inl rfl | exact Or.inr rfl), (by first | omega | assumption | exact Or.inl rfl | exact Or.inr rfl)⟩)), FR.retype hT_h0 hR⟩
            have hF_190 : F_183 h0 = .inr (15, (.ref ta) :: (.int (nI 0)) :: (.int (nI zo_129)) :: (.int (nI ze)) :: (.ref ou) :: (.ref so) :: (.ref ad) :: (.ref na) :: (.ref va) :: (.ref lc) :: (.ref dm) :: (.int (nI (xN x1))) :: (.int (nI sn)) :: (.ref tg) :: (.int v14_130) :: (.int v15_131) :: (.ref pe) :: (.int v17_132) :: (.int v18_133) :: (.int v19_134) :: (.int v20_135) :: (.int v21_136) :: (.int v22_137) :: (.ref ml) :: (.ref bg) :: (.ref co) :: (.ref sp) :: (.ref nb0) :: (.ref nb1) :: (.ref nb2) :: (.int (nI nf)) :: (.int (nI bd)) :: (.int (nI mm)) :: (.int v33_138) :: (.ref pl) :: (.ref se) :: (.ref ke) :: (.ref wi) :: (.ref hs) :: (.ref mo) :: (.ref po) :: (.ref nu) :: (.ref pr) :: (.ref sq) :: (.ref xa) :: (.ref sa) :: (.ref n64) :: (.ref m64) :: (.ref ex) :: (.ref wh) :: (.ref sd) :: (.ref tk) :: (.int v52_139) :: (.int v53_140) :: (.int v54_141) :: (.ref hd) :: (.ref ak) :: (.ref ho) :: (.ref ot) :: []) := by rw [he_184]; exact up_self
            obtain ⟨hq_213, hq_214, hq_215, hq_216, hq_217, hgO, hgA, hgB, hq_218⟩ := hW.sc hL_h0 hT_h0
            have hT2_lc : ty lc = (14, ρ + 5, [r_51, 30]) := by rw [hty]; exact rtf_tr hTo (by decide) ht_149
            have hT2_r_51 : ty r_51 = (17, ρ + 5, [30]) := by rw [hty]; exact rtf_tr hTo (by decide) ht_151
            have hT2_dm : ty dm = (14, ρ + 32, [r_52, 60]) := by rw [hty]; exact rtf_tr hTo (by decide) ht_166
            have hT2_r_52 : ty r_52 = (17, ρ + 32, [60]) := by rw [hty]; exact rtf_tr hTo (by decide) ht_168
            have htyB := hty
            refine lv_aload_n hx hb dX15_sender_165 rfl (lv_at hl 3 rfl) ?_
            refine lv_iconst (v := 1) hx hb dX15_sender_166 (by decide) ?_
            refine pg_put (ci := 15) (v := .int 1) (ty := .boolean) (C := RX15) (T := TX15) (N := 59) hx hb hts it_15 tyX15 tyX15_ok nmX15 hown hK hP hD hS hL_h0 hF_190 rfl 12 (by decide) (hts _ kt_1187) (fun _ h9 => h9) rfl (by decide +kernel) (rfl) (rfl) (Nat.le_of_ble_eq_true rfl) dX15_sender_167 (fun H locs hP hD hS => ?_)
            obtain ⟨F_219, he_220, hP, hD, hR⟩ : ∃ G, G = va_up F_183 h0 (.inr (15, (.ref ta) :: (.int (nI 0)) :: (.int (nI zo_129)) :: (.int (nI ze)) :: (.ref ou) :: (.ref so) :: (.ref ad) :: (.ref na) :: (.ref va) :: (.ref lc) :: (.ref dm) :: (.int (nI (xN x1))) :: (.int 1) :: (.ref tg) :: (.int v14_130) :: (.int v15_131) :: (.ref pe) :: (.int v17_132) :: (.int v18_133) :: (.int v19_134) :: (.int v20_135) :: (.int v21_136) :: (.int v22_137) :: (.ref ml) :: (.ref bg) :: (.ref co) :: (.ref sp) :: (.ref nb0) :: (.ref nb1) :: (.ref nb2) :: (.int (nI nf)) :: (.int (nI bd)) :: (.int (nI mm)) :: (.int v33_138) :: (.ref pl) :: (.ref se) :: (.ref ke) :: (.ref wi) :: (.ref hs) :: (.ref mo) :: (.ref po) :: (.ref nu) :: (.ref pr) :: (.ref sq) :: (.ref xa) :: (.ref sa) :: (.ref n64) :: (.ref m64) :: (.ref ex) :: (.ref wh) :: (.ref sd) :: (.ref tk) :: (.int v52_139) :: (.int v53_140) :: (.int v54_141) :: (.ref hd) :: (.ref ak) :: (.ref ho) :: (.ref ot) :: [])) ∧ va_P (dC, dI) vwCl (va_pl L G) H ∧ va_D A (va_pl L G) ∧ FR ty [ρ, ρ + 5, ρ + 32] F G := ⟨_, rfl, hP, hD, hR.up hT_h0 (by simp)⟩
            obtain ⟨hi_222, ht_223⟩ := hW.f_ta hL_h0 hT_h0
            have hF_221 : F_219 ta = .inl (cs 17, 3000, .inl gt) := by rw [he_220, up_ne (ne_ty ht_223 hT_h0 (by simp))]; exact hF_185
            have hF_224 : F_219 lc = .inr (14, [.ref r_51, .int (nI (j - 0))]) := by rw [he_220, up_ne (ne_ty hT2_lc hT_h0 (by simp))]; exact hF_186
            have hF_225 : F_219 r_51 = .inl (cs 17, 30, .inl fc_158) := by rw [he_220, up_ne (ne_ty hT2_r_51 hT_h0 (by simp))]; exact hF_187
            have hF_226 : F_219 dm = .inr (14, [.ref r_52, .int (nI (zt - (j + 1)))]) := by rw [he_220, up_ne (ne_ty hT2_dm hT_h0 (by simp))]; exact hF_188
            have hF_227 : F_219 r_52 = .inl (cs 17, 60, .inl fc_175) := by rw [he_220, up_ne (ne_ty hT2_r_52 hT_h0 (by simp))]; exact hF_189
            have hTo := hT_h0
            obtain ⟨ty, hty, hT_h0, hW, hO, hR⟩ : ∃ t9 : TyM, t9 = rtf ty h0 (15, ρ, [ta, ou, so, ad, na, va, lc, dm, tg, pe, ml, bg, co, sp, nb0, nb1, nb2, pl, se, ke, wi, hs, mo, po, nu, pr, sq, xa, sa, n64, m64, ex, wh, sd, tk, hd, ak, ho, ot, sx, s0, s1, s2, nf, bd, mm, (xN x1), 1, hg, gc, gv, ze, 0]) ∧ t9 h0 = (15, ρ, [ta, ou, so, ad, na, va, lc, dm, tg, pe, ml, bg, co, sp, nb0, nb1, nb2, pl, se, ke, wi, hs, mo, po, nu, pr, sq, xa, sa, n64, m64, ex, wh, sd, tk, hd, ak, ho, ot, sx, s0, s1, s2, nf, bd, mm, (xN x1), 1, hg, gc, gv, ze, 0]) ∧ WTm t9 gm L ∧ OKm cs t9 gm L F_219 ∧ FR t9 [ρ, ρ + 5, ρ + 32] F F_219 := ⟨_, rfl, rtf_self, hW.sn hL_h0 hT_h0 (by omega), (by rw [he_220]; exact OKm.retype hO hT_h0 (shm.mod rtf_self ⟨zo_129, v14_130, v15_131, v17_132, v18_133, v19_134, v20_135, v21_136, v22_137, v33_138, v52_139, v53_140, v54_141, rfl, (by first | omega | assumption | exact Or.inl rfl | exact Or.inr rfl), (by first | omega | assumption | exact Or.inl rfl | exact Or.inr rfl), (by first | omega | assumption | exact Or.inl rfl | exact Or.inr rfl), (by first | omega | assumption | exact Or.inl rfl | exact Or.inr rfl), (by first | omega | assumption | exact Or.inl rfl | exact Or.inr rfl)⟩)), FR.retype hT_h0 hR⟩
            have hF_228 : F_219 h0 = .inr (15, (.ref ta) :: (.int (nI 0)) :: (.int (nI zo_129)) :: (.int (nI ze)) :: (.ref ou) :: (.ref so) :: (.ref ad) :: (.ref na) :: (.ref va) :: (.ref lc) :: (.ref dm) :: (.int (nI (xN x1))) :: (.int 1) :: (.ref tg) :: (.int v14_130) :: (.int v15_131) :: (.ref pe) :: (.int v17_132) :: (.int v18_133) :: (.int v19_134) :: (.int v20_135) :: (.int v21_136) :: (.int v22_137) :: (.ref ml) :: (.ref bg) :: (.ref co) :: (.ref sp) :: (.ref nb0) :: (.ref nb1) :: (.ref nb2) :: (.int (nI nf)) :: (.int (nI bd)) :: (.int (nI mm)) :: (.int v33_138) :: (.ref pl) :: (.ref se) :: (.ref ke) :: (.ref wi) :: (.ref hs) :: (.ref mo) :: (.ref po) :: (.ref nu) :: (.ref pr) :: (.ref sq) :: (.ref xa) :: (.ref sa) :: (.ref n64) :: (.ref m64) :: (.ref ex) :: (.ref wh) :: (.ref sd) :: (.ref tk) :: (.int v52_139) :: (.int v53_140) :: (.int v54_141) :: (.ref hd) :: (.ref ak) :: (.ref ho) :: (.ref ot) :: []) := by rw [he_220]; exact up_self
            obtain ⟨hq_251, hq_252, hq_253, hq_254, hq_255, hgO, hgA, hgB, hq_256⟩ := hW.sc hL_h0 hT_h0
            have hT2_lc : ty lc = (14, ρ + 5, [r_51, 30]) := by rw [hty]; exact rtf_tr hTo (by decide) hT2_lc
            have hT2_r_51 : ty r_51 = (17, ρ + 5, [30]) := by rw [hty]; exact rtf_tr hTo (by decide) hT2_r_51
            have hT2_dm : ty dm = (14, ρ + 32, [r_52, 60]) := by rw [hty]; exact rtf_tr hTo (by decide) hT2_dm
            have hT2_r_52 : ty r_52 = (17, ρ + 32, [60]) := by rw [hty]; exact rtf_tr hTo (by decide) hT2_r_52
            refine lv_iconst (v := 0) hx hb dX15_sender_170 (by decide) ?_
            refine W.widen (k := 0) (n := 0) (by omega) (by omega) ?_
            exact W.iret (v := 0) hx hb hr (fun t ht hWm => ⟨⟨0, (some j), rfl, (Or.inl ⟨rfl, j, hfs, hlcl, hnm, rfl⟩), ⟨F_219, ty, (by rw [hty, htyB, htyA, rtf_rtf2, rtf_rtf2]; rfl), QTm.mk ht hP hD hO hR, hW, (Or.inr ⟨j, rfl, ⟨r_51, _, _, hF_224, hF_225, tp_src (a := 0) (k := j) (fun q hq => by rw [Nat.zero_add]; exact hcd q (by omega)) hq_161, by omega⟩, ⟨r_52, _, _, hF_226, hF_227, tp_src (a := j + 1) (k := zt - (j + 1)) (fun q hq => hcd _ (by omega)) hq_178, by omega⟩⟩)⟩⟩, hS.F ht⟩) hS.2.2 dX15_sender_171
          ·
            have hi_257 : i < j := ltN (N := j) c_127
            have hij : i < j := by omega
            refine lv_aload_n hx hb dX15_sender_71 rfl (lv_at hl 3 rfl) ?_
            obtain ⟨zo_258, v14_259, v15_260, v17_261, v18_262, v19_263, v20_264, v21_265, v22_266, v33_267, v52_268, v53_269, v54_270, hF_271, hq_272, hq_273, hq_274, hq_275, hq_276⟩ := hO.mod hL_h0 hT_h0
            refine pg_get (ci := 15) (v := .ref ta) (C := RX15) (T := TX15) (N := 59) hx hb hts it_15 hown hK hP hL_h0 hF_271 rfl 0 (by decide) (hts _ kt_1009) (fun _ h9 => h9) rfl dX15_sender_72 ?_
            refine lv_iload hx hb dX15_sender_75 (lv_at hl 0 rfl) ?_
            refine pg_bald hx hb hK hP hi_80 1 hF_126 rfl (vp_in_nI (by omega) (by omega)) dX15_sender_77 ?_
            refine lv_topi (fun x_277 ex_277 => ?_)
            obtain rfl : x_277 = gt i := ex_277.trans (congrArg gt (show ((nI i) : Int32).toNatClampNeg = i from nI_clamp (by omega)))
            refine lv_istore (lv' := [(5, .int (gt i)), (4, .int (nI i)), (3, .int (nI j)), (2, .int (nI zt)), (0, .ref h0), (1, .int x1)]) hx hb dX15_sender_78 hl (by decide) rfl (fun ls hl => ?_)
            have hF_280 : F ta = .inl (cs 17, 3000, .inl gt) := (hR ta (by rw [ht_81]; simp)).symm.trans hF_126
            refine W.widen (k := 0) (n := 0) (by omega) (by omega) ?_
            refine pl_cutm (σ := Unit) A (dC, dI) cs ty gm L [ρ, ρ + 5, ρ + 32] F 126 6 (fun u0 => [(4, .int (nI i)), (3, .int (nI j)), (2, .int (nI zt)), (0, .ref h0), (1, .int x1)]) (fun u0 => []) (fun u0 FF => (LOC (gt i) = true) ∧ FR ty0 [ρ] F FF) ?_ (fun jn_278 => ?_)
            ·
              rintro u0 F_279 hv_281 hO hR H locs hP hD hS ls hl
              have hl : lv_has ls 6 [(4, .int (nI i)), (3, .int (nI j)), (2, .int (nI zt)), (0, .ref h0), (1, .int x1)] := hl
              have hv_281 : (LOC (gt i) = true) ∧ FR ty0 [ρ] F F_279 := hv_281
              refine W.eq (g2 := F0 m 126 ls []) rfl ?_
              have hF_282 : F_279 ta = .inl (cs 17, 3000, .inl gt) := (hR ta (by rw [ht_81]; simp)).trans hF_280
              obtain ⟨hok, hRu⟩ := hv_281
              refine lv_iinc (v := (nI (i + 1))) (lv' := [(4, .int (nI (i + 1))), (3, .int (nI j)), (2, .int (nI zt)), (0, .ref h0), (1, .int x1)]) hx hb dX15_sender_126 hl (k := 0) rfl (nI_1 _) (by decide) rfl (fun ls hl => ?_)
              refine lv_goto (tgt := 65) hx hb dX15_sender_129 (by decide) ?_
              refine W.widen (k := 0) (n := 0) (by omega) (by omega) ?_
              exact ih_125 (i + 1) F_279 (⟨⟨by omega, fun q hq => by rcases Nat.lt_or_ge q i with w | w; exact hw2 q w; rw [show q = i by omega]; exact hok⟩, hRu⟩) (by show j - (i + 1) < j - i; omega) hO hR _ _ hP hD hS ls (lv_sub hl [0, 1, 2, 3, 4] rfl)
            ·
              refine lv_iload hx hb dX15_sender_80 (lv_at hl 0 rfl) ?_
              have hFc := pg_free hD hS hA
              refine va_calli (va_runS (As := [.int (gt i)]) (rest := []) ⟨hx, hb, hml, hown, hts⟩ (s_X15_isSmall_e l dC dI cs ty gm L H.size F_122 (gt i) hW ) ⟨callB_of 1 hts (gi kt_668) rfl rfl rfl (hts _ kt_669) (hts _ kt_670) (by decide +kernel) ⟨Nat.le_of_ble_eq_true rfl, Nat.le_of_ble_eq_true rfl⟩, (hts _ kt_671)⟩ ⟨fun a U g mk q => ⟨q.1, PTm.calling q.2⟩, fun U hU hWm => ⟨rfl, PTm.mk hU hWm hP hK hD hE hO⟩⟩ rfl rfl hl.1 rfl (lv_room (Nat.le_of_ble_eq_true rfl)) dX15_sender_82 ⟨by show _ + 0 ≤ 0; omega, by show _ + 0 ≤ 0; omega⟩) hS (fun q _ h => hFc q h) hFc (fun r_283 u t H1 locs ht hvm hw hB hz1 hk1 hS => ?_)
              obtain ⟨F_284, hB1⟩ := hB
              obtain rfl : F_122 = F_284 := (funext (fun a => hB1.2.2.2 a List.not_mem_nil)).symm
              obtain ⟨hP, hD, hO, hR⟩ := QTm.back hB1 ht hFc hR (fun q h => absurd h List.not_mem_nil)
              generalize H1 = H at hP hS ⊢
              have hw : r_283 = (if 97 ≤ (gt i) ∧ (gt i) ≤ 122 then 1 else 0) := hw
              have hw_285 := hw
              refine lv_if_ne (tgt := 126) hx hb dX15_sender_85 (by decide) (fun c_286 => ?_) (fun c_286 => ?_)
              ·
                refine W.widen (k := 0) (n := 0) (by omega) (by omega) ?_
                exact jn_278 () F_122 (⟨loc_s (ifb1 hw_285 c_286), hRu⟩) hO hR _ _ hP hD hS ls (lv_sub hl [1, 2, 3, 4, 5] rfl)
              ·
                refine lv_iload hx hb dX15_sender_88 (lv_at hl 0 rfl) ?_
                have hFc := pg_free hD hS hA
                refine va_calli (va_runS (As := [.int (gt i)]) (rest := []) ⟨hx, hb, hml, hown, hts⟩ (s_X15_isDigit_e l dC dI cs ty gm L H.size F_122 (gt i) hW ) ⟨callB_of 1 hts (gi kt_687) rfl rfl rfl (hts _ kt_669) (hts _ kt_707) (by decide +kernel) ⟨Nat.le_of_ble_eq_true rfl, Nat.le_of_ble_eq_true rfl⟩, (hts _ kt_688)⟩ ⟨fun a U g mk q => ⟨q.1, PTm.calling q.2⟩, fun U hU hWm => ⟨rfl, PTm.mk hU hWm hP hK hD hE hO⟩⟩ rfl rfl hl.1 rfl (lv_room (Nat.le_of_ble_eq_true rfl)) dX15_sender_90 ⟨by show _ + 0 ≤ 0; omega, by show _ + 0 ≤ 0; omega⟩) hS (fun q _ h => hFc q h) hFc (fun r_287 u t H1 locs ht hvm hw hB hz1 hk1 hS => ?_)
                obtain ⟨F_288, hB1⟩ := hB
                obtain rfl : F_122 = F_288 := (funext (fun a => hB1.2.2.2 a List.not_mem_nil)).symm
                obtain ⟨hP, hD, hO, hR⟩ := QTm.back hB1 ht hFc hR (fun q h => absurd h List.not_mem_nil)
                generalize H1 = H at hP hS ⊢
                have hw : r_287 = (if 48 ≤ (gt i) ∧ (gt i) ≤ 57 then 1 else 0) := hw
                have hw_289 := hw
                refine lv_if_ne (tgt := 126) hx hb dX15_sender_93 (by decide) (fun c_290 => ?_) (fun c_290 => ?_)
                ·
                  refine W.widen (k := 0) (n := 0) (by omega) (by omega) ?_
                  exact jn_278 () F_122 (⟨loc_d (ifb1 hw_289 c_290), hRu⟩) hO hR _ _ hP hD hS ls (lv_sub hl [1, 2, 3, 4, 5] rfl)
                ·
                  refine lv_iload hx hb dX15_sender_96 (lv_at hl 0 rfl) ?_
                  refine lv_bipush (v := 46) hx hb dX15_sender_98 (by decide) ?_
                  refine lv_icmp_eq (tgt := 126) hx hb dX15_sender_100 (by decide) (fun c_291 => ?_) (fun c_291 => ?_)
                  ·
                    refine W.widen (k := 0) (n := 0) (by omega) (by omega) ?_
                    exact jn_278 () F_122 (⟨loc_m (Or.inl c_291), hRu⟩) hO hR _ _ hP hD hS ls (lv_sub hl [1, 2, 3, 4, 5] rfl)
                  ·
                    refine lv_iload hx hb dX15_sender_103 (lv_at hl 0 rfl) ?_
                    refine lv_bipush (v := 45) hx hb dX15_sender_105 (by decide) ?_
                    refine lv_icmp_eq (tgt := 126) hx hb dX15_sender_107 (by decide) (fun c_292 => ?_) (fun c_292 => ?_)
                    ·
                      refine W.widen (k := 0) (n := 0) (by omega) (by omega) ?_
                      exact jn_278 () F_122 (⟨loc_m (Or.inr (Or.inl c_292)), hRu⟩) hO hR _ _ hP hD hS ls (lv_sub hl [1, 2, 3, 4, 5] rfl)
                    ·
                      refine lv_iload hx hb dX15_sender_110 (lv_at hl 0 rfl) ?_
                      refine lv_bipush (v := 95) hx hb dX15_sender_112 (by decide) ?_
                      refine lv_icmp_eq (tgt := 126) hx hb dX15_sender_114 (by decide) (fun c_293 => ?_) (fun c_293 => ?_)
                      ·
                        refine W.widen (k := 0) (n := 0) (by omega) (by omega) ?_
                        exact jn_278 () F_122 (⟨loc_m (Or.inr (Or.inr (Or.inl c_293))), hRu⟩) hO hR _ _ hP hD hS ls (lv_sub hl [1, 2, 3, 4, 5] rfl)
                      ·
                        refine lv_iload hx hb dX15_sender_117 (lv_at hl 0 rfl) ?_
                        refine lv_bipush (v := 43) hx hb dX15_sender_119 (by decide) ?_
                        refine lv_icmp_eq (tgt := 126) hx hb dX15_sender_121 (by decide) (fun c_294 => ?_) (fun c_294 => ?_)
                        ·
                          refine W.widen (k := 0) (n := 0) (by omega) (by omega) ?_
                          exact jn_278 () F_122 (⟨loc_m (Or.inr (Or.inr (Or.inr c_294))), hRu⟩) hO hR _ _ hP hD hS ls (lv_sub hl [1, 2, 3, 4, 5] rfl)
                        ·
                          refine lv_iconst (v := (-1)) hx hb dX15_sender_124 (by decide) ?_
                          refine W.widen (k := 0) (n := 0) (by omega) (by omega) ?_
                          exact W.iret (v := (-1)) hx hb hr (fun t ht hWm => ⟨⟨(-1), none, rfl, (Or.inr ⟨rfl, snd_n hfs (fun q => lcl_n hij (loc_n (fun w => w.elim c_291 (fun w => w.elim c_292 (fun w => w.elim c_293 c_294))) (ifb0 hw_285 c_286) (ifb0 hw_289 c_290)) q.1), rfl⟩), ⟨F_122, ty, hty, QTm.mk ht hP hD hO hR, hW, (Or.inl ⟨rfl, (by rw [← hty0]; exact hRu)⟩)⟩⟩, hS.F ht⟩) hS.2.2 dX15_sender_125
        ·
          refine lv_iconst (v := (-1)) hx hb dX15_sender_60 (by decide) ?_
          refine W.widen (k := 0) (n := 0) (by omega) (by omega) ?_
          exact W.iret (v := (-1)) hx hb hr (fun t ht hWm => ⟨⟨(-1), none, rfl, (Or.inr ⟨rfl, snd_n hfs (fun q => ifb0 hw_120 c_121 q.2), rfl⟩), ⟨F_82, ty, hty, QTm.mk ht hP hD hO hR, hW, (Or.inl ⟨rfl, (by rw [← hty0]; exact hRu)⟩)⟩⟩, hS.F ht⟩) hS.2.2 dX15_sender_61
  ·
    have hi_295 : j < zt := ltN (N := zt) c_87
    refine lv_aload_n hx hb dX15_sender_12 rfl (lv_at hl 2 rfl) ?_
    obtain ⟨zo_296, v14_297, v15_298, v17_299, v18_300, v19_301, v20_302, v21_303, v22_304, v33_305, v52_306, v53_307, v54_308, hF_309, hq_310, hq_311, hq_312, hq_313, hq_314⟩ := hO.mod hL_h0 hT_h0
    refine pg_get (ci := 15) (v := .ref ta) (C := RX15) (T := TX15) (N := 59) hx hb hts it_15 hown hK hP hL_h0 hF_309 rfl 0 (by decide) (hts _ kt_1009) (fun _ h9 => h9) rfl dX15_sender_13 ?_
    refine lv_iload_n hx hb dX15_sender_16 rfl (lv_at hl 0 rfl) ?_
    obtain ⟨hq_315, hq_316⟩ := hW.octs hi_80 ht_81
    refine pg_bald hx hb hK hP hi_80 1 hF_86 rfl (vp_in_nI (by omega) (by omega)) dX15_sender_17 ?_
    refine lv_topi (fun x_317 ex_317 => ?_)
    obtain rfl : x_317 = gt j := ex_317.trans (congrArg gt (show ((nI j) : Int32).toNatClampNeg = j from nI_clamp (by omega)))
    refine lv_bipush (v := 64) hx hb dX15_sender_18 (by decide) ?_
    refine lv_icmp_eq (tgt := 29) hx hb dX15_sender_20 (by decide) (fun c_318 => ?_) (fun c_318 => ?_)
    ·
      have hfs : FST gt 64 zt j := ⟨by omega, hv2, Or.inr c_318⟩
      refine lv_iload_n hx hb dX15_sender_29 rfl (lv_at hl 0 rfl) ?_
      refine lv_iload_n hx hb dX15_sender_30 rfl (lv_at hl 1 rfl) ?_
      refine lv_icmp_eq (tgt := 60) hx hb dX15_sender_31 (by decide) (fun c_319 => ?_) (fun c_319 => ?_)
      ·
        have hi_320 : j = zt := (nI_eq (a := j) (b := zt) (by omega) (by omega)).mp c_319
        refine lv_iconst (v := (-1)) hx hb dX15_sender_60 (by decide) ?_
        refine W.widen (k := 0) (n := 0) (by omega) (by omega) ?_
        exact W.iret (v := (-1)) hx hb hr (fun t ht hWm => ⟨⟨(-1), none, rfl, (Or.inr ⟨rfl, snd_n hfs (fun q => nm_no (by omega) q.2), rfl⟩), ⟨F_82, ty, hty, QTm.mk ht hP hD hO hR, hW, (Or.inl ⟨rfl, (by rw [← hty0]; exact hRu)⟩)⟩⟩, hS.F ht⟩) hS.2.2 dX15_sender_61
      ·
        have hi_321 : j ≠ zt := fun q => c_319 (by rw [q])
        refine lv_iload_n hx hb dX15_sender_34 rfl (lv_at hl 0 rfl) ?_
        refine lv_i2l (v := (nI j).toInt64) hx hb dX15_sender_35 rfl ?_
        refine lv_lconst (v := 1) hx hb dX15_sender_36 (by decide) ?_
        refine lv_ldc2 (v := 30) hx hb hown (hts _ kt_1186) dX15_sender_37 ?_
        have hFc := pg_free hD hS hA
        refine va_calli (va_runS (As := [.long ((nI j).toInt64), .long 1, .long 30]) (rest := []) ⟨hx, hb, hml, hown, hts⟩ (s_X15_in l dC dI cs ty gm L H.size F_82 ((nI j).toInt64) 1 30 hW ) ⟨callB_of 3 hts (gi kt_685) rfl rfl rfl (hts _ kt_669) (hts _ kt_705) (by decide +kernel) ⟨Nat.le_of_ble_eq_true rfl, Nat.le_of_ble_eq_true rfl⟩, (hts _ kt_686)⟩ ⟨fun a U g mk q => ⟨q.1, PTm.calling q.2⟩, fun U hU hWm => ⟨rfl, PTm.mk hU hWm hP hK hD hE hO⟩⟩ rfl rfl hl.1 rfl (lv_room (Nat.le_of_ble_eq_true rfl)) dX15_sender_40 ⟨by show _ + 0 ≤ 0; omega, by show _ + 0 ≤ 0; omega⟩) hS (fun q _ h => hFc q h) hFc (fun r_322 u t H1 locs ht hvm hw hB hz1 hk1 hS => ?_)
        obtain ⟨F_323, hB1⟩ := hB
        obtain rfl : F_82 = F_323 := (funext (fun a => hB1.2.2.2 a List.not_mem_nil)).symm
        obtain ⟨hP, hD, hO, hR⟩ := QTm.back hB1 ht hFc hR (fun q h => absurd h List.not_mem_nil)
        generalize H1 = H at hP hS ⊢
        have hw : r_322 = (if 1 ≤ (nI j).toInt64 ∧ (nI j).toInt64 ≤ 30 then 1 else 0) := hw
        have hw_324 := hw
        refine lv_if_eq (tgt := 60) hx hb dX15_sender_43 (by decide) (fun c_325 => ?_) (fun c_325 => ?_)
        ·
          have hin := in_nat0 (lo := 1) (hi := 30) hw_324 c_325 (by decide) (by decide) (by omega)
          refine lv_iconst (v := (-1)) hx hb dX15_sender_60 (by decide) ?_
          refine W.widen (k := 0) (n := 0) (by omega) (by omega) ?_
          exact W.iret (v := (-1)) hx hb hr (fun t ht hWm => ⟨⟨(-1), none, rfl, (Or.inr ⟨rfl, snd_n hfs (fun q => hin ⟨q.1.1, q.1.2.1⟩), rfl⟩), ⟨F_82, ty, hty, QTm.mk ht hP hD hO hR, hW, (Or.inl ⟨rfl, (by rw [← hty0]; exact hRu)⟩)⟩⟩, hS.F ht⟩) hS.2.2 dX15_sender_61
        ·
          have hin := in_nat (lo := 1) (hi := 30) hw_324 c_325 (by decide) (by decide) (by omega)
          refine lv_aload_n hx hb dX15_sender_46 rfl (lv_at hl 2 rfl) ?_
          refine pg_get (ci := 15) (v := .ref ta) (C := RX15) (T := TX15) (N := 59) hx hb hts it_15 hown hK hP hL_h0 hF_309 rfl 0 (by decide) (hts _ kt_1009) (fun _ h9 => h9) rfl dX15_sender_47 ?_
          refine lv_iload_n hx hb dX15_sender_50 rfl (lv_at hl 0 rfl) ?_
          refine lv_iconst (v := 1) hx hb dX15_sender_51 (by decide) ?_
          refine lv_iadd hx hb dX15_sender_52 ?_
          refine lv_topi (fun x_326 ex_326 => ?_)
          obtain rfl : x_326 = (nI (j + 1)) := ex_326.trans (nI_add j 1)
          refine lv_iload_n hx hb dX15_sender_53 rfl (lv_at hl 1 rfl) ?_
          have hFc := pg_free hD hS hA
          refine va_calli (va_runS (As := [.ref ta, .int (nI (j + 1)), .int (nI zt)]) (rest := []) ⟨hx, hb, hml, hown, hts⟩ (s_X14_isName_e l dC dI cs ty gm L H.size F_82 ta (ρ + 1) 3000 (j + 1) zt gt hW hi_80 ht_81 hF_86 (by first | omega | assumption | exact Or.inl rfl) (by first | omega | assumption | exact Or.inl rfl)) ⟨callB_of 3 hts (gi kt_689) rfl rfl rfl (hts _ kt_676) (hts _ kt_848) (by decide +kernel) ⟨Nat.le_of_ble_eq_true rfl, Nat.le_of_ble_eq_true rfl⟩, (hts _ kt_691)⟩ ⟨fun a U g mk q => ⟨q.1, PTm.calling q.2⟩, fun U hU hWm => ⟨rfl, PTm.mk hU hWm hP hK hD hE hO⟩⟩ rfl rfl hl.1 rfl (lv_room (Nat.le_of_ble_eq_true rfl)) dX15_sender_54 ⟨by show _ + 0 ≤ 0; omega, by show _ + 0 ≤ 0; omega⟩) hS (fun q _ h => hFc q h) hFc (fun r_327 u t H1 locs ht hvm hw hB hz1 hk1 hS => ?_)
          obtain ⟨F_328, hB1⟩ := hB
          obtain rfl : F_82 = F_328 := (funext (fun a => hB1.2.2.2 a List.not_mem_nil)).symm
          obtain ⟨hP, hD, hO, hR⟩ := QTm.back hB1 ht hFc hR (fun q h => absurd h List.not_mem_nil)
          generalize H1 = H at hP hS ⊢
          have hw : r_327 = (if NM gt (j + 1) zt = true then 1 else 0) := hw
          have hw_329 := hw
          refine lv_if_ne (tgt := 62) hx hb dX15_sender_57 (by decide) (fun c_330 => ?_) (fun c_330 => ?_)
          ·
            have hnm := ifb1 hw_329 c_330
            have hn60 := nm_60 hnm
            refine lv_iconst (v := 0) hx hb dX15_sender_62 (by decide) ?_
            refine lv_istore (lv' := [(4, .int 0), (3, .int (nI j)), (2, .int (nI zt)), (0, .ref h0), (1, .int x1)]) hx hb dX15_sender_63 hl (by decide) rfl (fun ls hl => ?_)
            refine W.widen (k := 0) (n := 0) (by omega) (by omega) ?_
            have hF_332 : F ta = .inl (cs 17, 3000, .inl gt) := (hR ta (by rw [ht_81]; simp)).symm.trans hF_86
            refine pl_loopm (σ := Nat) A (dC, dI) cs ty gm L [ρ, ρ + 5, ρ + 32] F 65 6 (fun i => [(4, .int (nI i)), (3, .int (nI j)), (2, .int (nI zt)), (0, .ref h0), (1, .int x1)]) (fun i => []) (fun i FF => (i ≤ j ∧ ∀ q, q < i → LOC (gt q) = true) ∧ FR ty0 [ρ] F FF) (fun i => j - i) ?_ 0 F_82 (⟨⟨by omega, fun q hq => absurd hq (Nat.not_lt_zero _)⟩, hRu⟩) hO hR _ _ hP hD hS ls (lv_sub hl [0, 1, 2, 3, 4] rfl)
            rintro i F_331 hv_333 hO hR ih_334 H locs hP hD hS ls hl
            have hl : lv_has ls 6 [(4, .int (nI i)), (3, .int (nI j)), (2, .int (nI zt)), (0, .ref h0), (1, .int x1)] := hl
            have hv_333 : (i ≤ j ∧ ∀ q, q < i → LOC (gt q) = true) ∧ FR ty0 [ρ] F F_331 := hv_333
            refine W.eq (g2 := F0 m 65 ls []) rfl ?_
            have hF_335 : F_331 ta = .inl (cs 17, 3000, .inl gt) := (hR ta (by rw [ht_81]; simp)).trans hF_332
            obtain ⟨⟨hw1, hw2⟩, hRu⟩ := id hv_333
            refine lv_iload hx hb dX15_sender_65 (lv_at hl 0 rfl) ?_
            refine lv_iload_n hx hb dX15_sender_67 rfl (lv_at hl 1 rfl) ?_
            refine lv_icmp_ge (tgt := 132) hx hb dX15_sender_68 (by decide) (fun c_336 => ?_) (fun c_336 => ?_)
            ·
              have hi_337 : j ≤ i := leN (N := j) c_336
              have htyA := hty
              have hlcl : LCL gt j := ⟨hin.1, hin.2, fun q hq => hw2 q (by omega)⟩
              have hcd := snd_cd hfs hlcl hnm
              have hnl := NM_len hnm
              refine lv_aload_n hx hb dX15_sender_132 rfl (lv_at hl 3 rfl) ?_
              obtain ⟨zo_338, v14_339, v15_340, v17_341, v18_342, v19_343, v20_344, v21_345, v22_346, v33_347, v52_348, v53_349, v54_350, hF_351, hq_352, hq_353, hq_354, hq_355, hq_356⟩ := hO.mod hL_h0 hT_h0
              refine pg_get (ci := 15) (v := .ref lc) (C := RX15) (T := TX15) (N := 59) hx hb hts it_15 hown hK hP hL_h0 hF_351 rfl 9 (by decide) (hts _ kt_1129) (fun _ h9 => h9) rfl dX15_sender_133 ?_
              refine lv_aload_n hx hb dX15_sender_136 rfl (lv_at hl 3 rfl) ?_
              refine pg_get (ci := 15) (v := .ref ta) (C := RX15) (T := TX15) (N := 59) hx hb hts it_15 hown hK hP hL_h0 hF_351 rfl 0 (by decide) (hts _ kt_1009) (fun _ h9 => h9) rfl dX15_sender_137 ?_
              refine lv_iconst (v := 0) hx hb dX15_sender_140 (by decide) ?_
              refine lv_iload_n hx hb dX15_sender_141 rfl (lv_at hl 1 rfl) ?_
              refine W.eq (g2 := F0 m 142 ls [.int (nI j), .int (nI 0), .ref ta, .ref lc]) rfl ?_
              obtain ⟨hi_357, r_51, ht_358⟩ := hW.f_lc hL_h0 hT_h0
              obtain ⟨hi_359, ht_360, hq_361⟩ := hW.txt hi_357 ht_358
              have hFc := pg_free hD hS hA
              obtain ⟨z_362, hF_363, hq_364⟩ := hO.txt hi_357 ht_358
              refine va_callv (va_runV (As := [.ref ta, .int (nI 0), .int (nI j)]) (rest := []) ⟨hx, hb, hml, hown, hts⟩ (s_X14_set_e l dC dI cs ty gm L H.size F_331 lc (ρ + 5) r_51 30 ta (ρ + 1) 3000 0 j gt hW hi_357 ht_358 hi_80 ht_81 hF_335 (Nat.zero_le _) (by omega) (by omega)) ⟨callB_of 3 hts (gi kt_951) rfl rfl rfl (hts _ kt_676) (hts _ kt_952) (by decide +kernel) ⟨Nat.le_of_ble_eq_true rfl, Nat.le_of_ble_eq_true rfl⟩, (hts _ kt_953), (hts _ kt_954)⟩ ⟨fun a U g mk q => ⟨q.1, PTm.calling q.2⟩, pg_recv hK hP hi_357 hF_363 (q := (RX14, TX14, 2)) rfl, fun U hU hWm => ⟨rfl, PTm.mk hU hWm hP hK hD hE hO⟩⟩ rfl rfl hl.1 rfl (lv_room (Nat.le_of_ble_eq_true rfl)) dX15_sender_142 ⟨by show _ + 0 ≤ 0; omega, by show _ + 0 ≤ 0; omega⟩) hS (fun q _ h => hFc q h) hFc (fun u t H1 locs ht hvm hw hB hz1 hk1 hS => ?_)
              obtain ⟨F_366, fc_367, hB1, hq_368, hq_369, hq_370⟩ := hB
              obtain ⟨hP, hD, hO, hR⟩ := QTm.back hB1 ht hFc hR (fun q h => by simp only [List.mem_cons, List.not_mem_nil, or_false] at h ⊢; omega)
              have hF_371 : F_366 ta = .inl (cs 17, 3000, .inl gt) := (hB1.2.2.2 ta (by rw [ht_81]; simp)).trans hF_335
              have hF_372 : F_366 h0 = .inr (15, (.ref ta) :: (.int (nI 0)) :: (.int (nI zo_338)) :: (.int (nI ze)) :: (.ref ou) :: (.ref so) :: (.ref ad) :: (.ref na) :: (.ref va) :: (.ref lc) :: (.ref dm) :: (.int (nI fm)) :: (.int (nI sn)) :: (.ref tg) :: (.int v14_339) :: (.int v15_340) :: (.ref pe) :: (.int v17_341) :: (.int v18_342) :: (.int v19_343) :: (.int v20_344) :: (.int v21_345) :: (.int v22_346) :: (.ref ml) :: (.ref bg) :: (.ref co) :: (.ref sp) :: (.ref nb0) :: (.ref nb1) :: (.ref nb2) :: (.int (nI nf)) :: (.int (nI bd)) :: (.int (nI mm)) :: (.int v33_347) :: (.ref pl) :: (.ref se) :: (.ref ke) :: (.ref wi) :: (.ref hs) :: (.ref mo) :: (.ref po) :: (.ref nu) :: (.ref pr) :: (.ref sq) :: (.ref xa) :: (.ref sa) :: (.ref n64) :: (.ref m64) :: (.ref ex) :: (.ref wh) :: (.ref sd) :: (.ref tk) :: (.int v52_348) :: (.int v53_349) :: (.int v54_350) :: (.ref hd) :: (.ref ak) :: (.ref ho) :: (.ref ot) :: []) := (hB1.2.2.2 h0 (by rw [hT_h0]; simp)).trans hF_351
              generalize H1 = H at hP hS ⊢
              refine lv_aload_n hx hb dX15_sender_145 rfl (lv_at hl 3 rfl) ?_
              refine pg_get (ci := 15) (v := .ref dm) (C := RX15) (T := TX15) (N := 59) hx hb hts it_15 hown hK hP hL_h0 hF_372 rfl 10 (by decide) (hts _ kt_1130) (fun _ h9 => h9) rfl dX15_sender_146 ?_
              refine lv_aload_n hx hb dX15_sender_149 rfl (lv_at hl 3 rfl) ?_
              refine pg_get (ci := 15) (v := .ref ta) (C := RX15) (T := TX15) (N := 59) hx hb hts it_15 hown hK hP hL_h0 hF_372 rfl 0 (by decide) (hts _ kt_1009) (fun _ h9 => h9) rfl dX15_sender_150 ?_
              refine lv_iload_n hx hb dX15_sender_153 rfl (lv_at hl 1 rfl) ?_
              refine lv_iconst (v := 1) hx hb dX15_sender_154 (by decide) ?_
              refine lv_iadd hx hb dX15_sender_155 ?_
              refine lv_topi (fun x_373 ex_373 => ?_)
              obtain rfl : x_373 = (nI (j + 1)) := ex_373.trans (nI_add j 1)
              refine lv_iload_n hx hb dX15_sender_156 rfl (lv_at hl 2 rfl) ?_
              obtain ⟨hi_374, r_52, ht_375⟩ := hW.f_dm hL_h0 hT_h0
              obtain ⟨hi_376, ht_377, hq_378⟩ := hW.txt hi_374 ht_375
              have hFc := pg_free hD hS hA
              obtain ⟨z_379, hF_380, hq_381⟩ := hO.txt hi_374 ht_375
              refine va_callv (va_runV (As := [.ref ta, .int (nI (j + 1)), .int (nI zt)]) (rest := []) ⟨hx, hb, hml, hown, hts⟩ (s_X14_set_e l dC dI cs ty gm L H.size F_366 dm (ρ + 32) r_52 60 ta (ρ + 1) 3000 (j + 1) zt gt hW hi_374 ht_375 hi_80 ht_81 hF_371 (by omega) (by omega) (by omega)) ⟨callB_of 3 hts (gi kt_951) rfl rfl rfl (hts _ kt_676) (hts _ kt_952) (by decide +kernel) ⟨Nat.le_of_ble_eq_true rfl, Nat.le_of_ble_eq_true rfl⟩, (hts _ kt_953), (hts _ kt_954)⟩ ⟨fun a U g mk q => ⟨q.1, PTm.calling q.2⟩, pg_recv hK hP hi_374 hF_380 (q := (RX14, TX14, 2)) rfl, fun U hU hWm => ⟨rfl, PTm.mk hU hWm hP hK hD hE hO⟩⟩ rfl rfl hl.1 rfl (lv_room (Nat.le_of_ble_eq_true rfl)) dX15_sender_157 ⟨by show _ + 0 ≤ 0; omega, by show _ + 0 ≤ 0; omega⟩) hS (fun q _ h => hFc q h) hFc (fun u t H1 locs ht hvm hw hB hz1 hk1 hS => ?_)
              obtain ⟨F_383, fc_384, hB1, hq_385, hq_386, hq_387⟩ := hB
              obtain ⟨hP, hD, hO, hR⟩ := QTm.back hB1 ht hFc hR (fun q h => by simp only [List.mem_cons, List.not_mem_nil, or_false] at h ⊢; omega)
              have hF_388 : F_383 ta = .inl (cs 17, 3000, .inl gt) := (hB1.2.2.2 ta (by rw [ht_81]; simp)).trans hF_371
              have hF_389 : F_383 h0 = .inr (15, (.ref ta) :: (.int (nI 0)) :: (.int (nI zo_338)) :: (.int (nI ze)) :: (.ref ou) :: (.ref so) :: (.ref ad) :: (.ref na) :: (.ref va) :: (.ref lc) :: (.ref dm) :: (.int (nI fm)) :: (.int (nI sn)) :: (.ref tg) :: (.int v14_339) :: (.int v15_340) :: (.ref pe) :: (.int v17_341) :: (.int v18_342) :: (.int v19_343) :: (.int v20_344) :: (.int v21_345) :: (.int v22_346) :: (.ref ml) :: (.ref bg) :: (.ref co) :: (.ref sp) :: (.ref nb0) :: (.ref nb1) :: (.ref nb2) :: (.int (nI nf)) :: (.int (nI bd)) :: (.int (nI mm)) :: (.int v33_347) :: (.ref pl) :: (.ref se) :: (.ref ke) :: (.ref wi) :: (.ref hs) :: (.ref mo) :: (.ref po) :: (.ref nu) :: (.ref pr) :: (.ref sq) :: (.ref xa) :: (.ref sa) :: (.ref n64) :: (.ref m64) :: (.ref ex) :: (.ref wh) :: (.ref sd) :: (.ref tk) :: (.int v52_348) :: (.int v53_349) :: (.int v54_350) :: (.ref hd) :: (.ref ak) :: (.ref ho) :: (.ref ot) :: []) := (hB1.2.2.2 h0 (by rw [hT_h0]; simp)).trans hF_372
              have hF_390 : F_383 lc = .inr (14, [.ref r_51, .int (nI (j - 0))]) := (hB1.2.2.2 lc (by rw [ht_358]; simp)).trans hq_368
              have hF_391 : F_383 r_51 = .inl (cs 17, 30, .inl fc_367) := (hB1.2.2.2 r_51 (by rw [ht_360]; simp)).trans hq_369
              generalize H1 = H at hP hS ⊢
              refine lv_aload_n hx hb dX15_sender_160 rfl (lv_at hl 3 rfl) ?_
              refine lv_iload_n hx hb dX15_sender_161 rfl (lv_at hl 4 rfl) ?_
              refine lv_topi (fun x9 ex9 => ?_)
              obtain rfl : x9 = nI (xN x1) := ex9.trans (xN_e x1).symm
              refine pg_put (ci := 15) (v := .int (nI (xN x1))) (ty := .int) (C := RX15) (T := TX15) (N := 59) hx hb hts it_15 tyX15 tyX15_ok nmX15 hown hK hP hD hS hL_h0 hF_389 rfl 11 (by decide) (hts _ kt_729) (fun _ h9 => h9) rfl (by decide +kernel) (rfl) (rfl) (Nat.le_of_ble_eq_true rfl) dX15_sender_162 (fun H locs hP hD hS => ?_)
              obtain ⟨F_392, he_393, hP, hD, hR⟩ : ∃ G, G = va_up F_383 h0 (.inr (15, (.ref ta) :: (.int (nI 0)) :: (.int (nI zo_338)) :: (.int (nI ze)) :: (.ref ou) :: (.ref so) :: (.ref ad) :: (.ref na) :: (.ref va) :: (.ref lc) :: (.ref dm) :: (.int (nI (xN x1))) :: (.int (nI sn)) :: (.ref tg) :: (.int v14_339) :: (.int v15_340) :: (.ref pe) :: (.int v17_341) :: (.int v18_342) :: (.int v19_343) :: (.int v20_344) :: (.int v21_345) :: (.int v22_346) :: (.ref ml) :: (.ref bg) :: (.ref co) :: (.ref sp) :: (.ref nb0) :: (.ref nb1) :: (.ref nb2) :: (.int (nI nf)) :: (.int (nI bd)) :: (.int (nI mm)) :: (.int v33_347) :: (.ref pl) :: (.ref se) :: (.ref ke) :: (.ref wi) :: (.ref hs) :: (.ref mo) :: (.ref po) :: (.ref nu) :: (.ref pr) :: (.ref sq) :: (.ref xa) :: (.ref sa) :: (.ref n64) :: (.ref m64) :: (.ref ex) :: (.ref wh) :: (.ref sd) :: (.ref tk) :: (.int v52_348) :: (.int v53_349) :: (.int v54_350) :: (.ref hd) :: (.ref ak) :: (.ref ho) :: (.ref ot) :: [])) ∧ va_P (dC, dI) vwCl (va_pl L G) H ∧ va_D A (va_pl L G) ∧ FR ty [ρ, ρ + 5, ρ + 32] F G := ⟨_, rfl, hP, hD, hR.up hT_h0 (by simp)⟩
              have hF_394 : F_392 ta = .inl (cs 17, 3000, .inl gt) := by rw [he_393, up_ne (ne_ty ht_81 hT_h0 (by simp))]; exact hF_388
              have hF_395 : F_392 lc = .inr (14, [.ref r_51, .int (nI (j - 0))]) := by rw [he_393, up_ne (ne_ty ht_358 hT_h0 (by simp))]; exact hF_390
              have hF_396 : F_392 r_51 = .inl (cs 17, 30, .inl fc_367) := by rw [he_393, up_ne (ne_ty ht_360 hT_h0 (by simp))]; exact hF_391
              have hF_397 : F_392 dm = .inr (14, [.ref r_52, .int (nI (zt - (j + 1)))]) := by rw [he_393, up_ne (ne_ty ht_375 hT_h0 (by simp))]; exact hq_385
              have hF_398 : F_392 r_52 = .inl (cs 17, 60, .inl fc_384) := by rw [he_393, up_ne (ne_ty ht_377 hT_h0 (by simp))]; exact hq_386
              have hTo := hT_h0
              obtain ⟨ty, hty, hT_h0, hW, hO, hR⟩ : ∃ t9 : TyM, t9 = rtf ty h0 (15, ρ, [ta, ou, so, ad, na, va, lc, dm, tg, pe, ml, bg, co, sp, nb0, nb1, nb2, pl, se, ke, wi, hs, mo, po, nu, pr, sq, xa, sa, n64, m64, ex, wh, sd, tk, hd, ak, ho, ot, sx, s0, s1, s2, nf, bd, mm, (xN x1), sn, hg, gc, gv, ze, 0]) ∧ t9 h0 = (15, ρ, [ta, ou, so, ad, na, va, lc, dm, tg, pe, ml, bg, co, sp, nb0, nb1, nb2, pl, se, ke, wi, hs, mo, po, nu, pr, sq, xa, sa, n64, m64, ex, wh, sd, tk, hd, ak, ho, ot, sx, s0, s1, s2, nf, bd, mm, (xN x1), sn, hg, gc, gv, ze, 0]) ∧ WTm t9 gm L ∧ OKm cs t9 gm L F_392 ∧ FR t9 [ρ, ρ + 5, ρ + 32] F F_392 := ⟨_, rfl, rtf_self, hW.fm hL_h0 hT_h0, (by rw [he_393]; exact OKm.retype hO hT_h0 (shm.mod rtf_self ⟨zo_338, v14_339, v15_340, v17_341, v18_342, v19_343, v20_344, v21_345, v22_346, v33_347, v52_348, v53_349, v54_350, rfl, (by first | omega | assumption | exact Or.inl rfl | exact Or.inr rfl), (by first | omega | assumption | exact Or.inl rfl | exact Or.inr rfl), (by first | omega | assumption | exact Or.inl rfl | exact Or.inr rfl), (by first | omega | assumption | exact Or.inl rfl | exact Or.inr rfl), (by first | omega | assumption | exact Or.inl rfl | exact Or.inr rfl)⟩)), FR.retype hT_h0 hR⟩
              have hF_399 : F_392 h0 = .inr (15, (.ref ta) :: (.int (nI 0)) :: (.int (nI zo_338)) :: (.int (nI ze)) :: (.ref ou) :: (.ref so) :: (.ref ad) :: (.ref na) :: (.ref va) :: (.ref lc) :: (.ref dm) :: (.int (nI (xN x1))) :: (.int (nI sn)) :: (.ref tg) :: (.int v14_339) :: (.int v15_340) :: (.ref pe) :: (.int v17_341) :: (.int v18_342) :: (.int v19_343) :: (.int v20_344) :: (.int v21_345) :: (.int v22_346) :: (.ref ml) :: (.ref bg) :: (.ref co) :: (.ref sp) :: (.ref nb0) :: (.ref nb1) :: (.ref nb2) :: (.int (nI nf)) :: (.int (nI bd)) :: (.int (nI mm)) :: (.int v33_347) :: (.ref pl) :: (.ref se) :: (.ref ke) :: (.ref wi) :: (.ref hs) :: (.ref mo) :: (.ref po) :: (.ref nu) :: (.ref pr) :: (.ref sq) :: (.ref xa) :: (.ref sa) :: (.ref n64) :: (.ref m64) :: (.ref ex) :: (.ref wh) :: (.ref sd) :: (.ref tk) :: (.int v52_348) :: (.int v53_349) :: (.int v54_350) :: (.ref hd) :: (.ref ak) :: (.ref ho) :: (.ref ot) :: []) := by rw [he_393]; exact up_self
              obtain ⟨hq_422, hq_423, hq_424, hq_425, hq_426, hgO, hgA, hgB, hq_427⟩ := hW.sc hL_h0 hT_h0
              have hT2_lc : ty lc = (14, ρ + 5, [r_51, 30]) := by rw [hty]; exact rtf_tr hTo (by decide) ht_358
              have hT2_r_51 : ty r_51 = (17, ρ + 5, [30]) := by rw [hty]; exact rtf_tr hTo (by decide) ht_360
              have hT2_dm : ty dm = (14, ρ + 32, [r_52, 60]) := by rw [hty]; exact rtf_tr hTo (by decide) ht_375
              have hT2_r_52 : ty r_52 = (17, ρ + 32, [60]) := by rw [hty]; exact rtf_tr hTo (by decide) ht_377
              have htyB := hty
              refine lv_aload_n hx hb dX15_sender_165 rfl (lv_at hl 3 rfl) ?_
              refine lv_iconst (v := 1) hx hb dX15_sender_166 (by decide) ?_
              refine pg_put (ci := 15) (v := .int 1) (ty := .boolean) (C := RX15) (T := TX15) (N := 59) hx hb hts it_15 tyX15 tyX15_ok nmX15 hown hK hP hD hS hL_h0 hF_399 rfl 12 (by decide) (hts _ kt_1187) (fun _ h9 => h9) rfl (by decide +kernel) (rfl) (rfl) (Nat.le_of_ble_eq_true rfl) dX15_sender_167 (fun H locs hP hD hS => ?_)
              obtain ⟨F_428, he_429, hP, hD, hR⟩ : ∃ G, G = va_up F_392 h0 (.inr (15, (.ref ta) :: (.int (nI 0)) :: (.int (nI zo_338)) :: (.int (nI ze)) :: (.ref ou) :: (.ref so) :: (.ref ad) :: (.ref na) :: (.ref va) :: (.ref lc) :: (.ref dm) :: (.int (nI (xN x1))) :: (.int 1) :: (.ref tg) :: (.int v14_339) :: (.int v15_340) :: (.ref pe) :: (.int v17_341) :: (.int v18_342) :: (.int v19_343) :: (.int v20_344) :: (.int v21_345) :: (.int v22_346) :: (.ref ml) :: (.ref bg) :: (.ref co) :: (.ref sp) :: (.ref nb0) :: (.ref nb1) :: (.ref nb2) :: (.int (nI nf)) :: (.int (nI bd)) :: (.int (nI mm)) :: (.int v33_347) :: (.ref pl) :: (.ref se) :: (.ref ke) :: (.ref wi) :: (.ref hs) :: (.ref mo) :: (.ref po) :: (.ref nu) :: (.ref pr) :: (.ref sq) :: (.ref xa) :: (.ref sa) :: (.ref n64) :: (.ref m64) :: (.ref ex) :: (.ref wh) :: (.ref sd) :: (.ref tk) :: (.int v52_348) :: (.int v53_349) :: (.int v54_350) :: (.ref hd) :: (.ref ak) :: (.ref ho) :: (.ref ot) :: [])) ∧ va_P (dC, dI) vwCl (va_pl L G) H ∧ va_D A (va_pl L G) ∧ FR ty [ρ, ρ + 5, ρ + 32] F G := ⟨_, rfl, hP, hD, hR.up hT_h0 (by simp)⟩
              obtain ⟨hi_431, ht_432⟩ := hW.f_ta hL_h0 hT_h0
              have hF_430 : F_428 ta = .inl (cs 17, 3000, .inl gt) := by rw [he_429, up_ne (ne_ty ht_432 hT_h0 (by simp))]; exact hF_394
              have hF_433 : F_428 lc = .inr (14, [.ref r_51, .int (nI (j - 0))]) := by rw [he_429, up_ne (ne_ty hT2_lc hT_h0 (by simp))]; exact hF_395
              have hF_434 : F_428 r_51 = .inl (cs 17, 30, .inl fc_367) := by rw [he_429, up_ne (ne_ty hT2_r_51 hT_h0 (by simp))]; exact hF_396
              have hF_435 : F_428 dm = .inr (14, [.ref r_52, .int (nI (zt - (j + 1)))]) := by rw [he_429, up_ne (ne_ty hT2_dm hT_h0 (by simp))]; exact hF_397
              have hF_436 : F_428 r_52 = .inl (cs 17, 60, .inl fc_384) := by rw [he_429, up_ne (ne_ty hT2_r_52 hT_h0 (by simp))]; exact hF_398
              have hTo := hT_h0
              obtain ⟨ty, hty, hT_h0, hW, hO, hR⟩ : ∃ t9 : TyM, t9 = rtf ty h0 (15, ρ, [ta, ou, so, ad, na, va, lc, dm, tg, pe, ml, bg, co, sp, nb0, nb1, nb2, pl, se, ke, wi, hs, mo, po, nu, pr, sq, xa, sa, n64, m64, ex, wh, sd, tk, hd, ak, ho, ot, sx, s0, s1, s2, nf, bd, mm, (xN x1), 1, hg, gc, gv, ze, 0]) ∧ t9 h0 = (15, ρ, [ta, ou, so, ad, na, va, lc, dm, tg, pe, ml, bg, co, sp, nb0, nb1, nb2, pl, se, ke, wi, hs, mo, po, nu, pr, sq, xa, sa, n64, m64, ex, wh, sd, tk, hd, ak, ho, ot, sx, s0, s1, s2, nf, bd, mm, (xN x1), 1, hg, gc, gv, ze, 0]) ∧ WTm t9 gm L ∧ OKm cs t9 gm L F_428 ∧ FR t9 [ρ, ρ + 5, ρ + 32] F F_428 := ⟨_, rfl, rtf_self, hW.sn hL_h0 hT_h0 (by omega), (by rw [he_429]; exact OKm.retype hO hT_h0 (shm.mod rtf_self ⟨zo_338, v14_339, v15_340, v17_341, v18_342, v19_343, v20_344, v21_345, v22_346, v33_347, v52_348, v53_349, v54_350, rfl, (by first | omega | assumption | exact Or.inl rfl | exact Or.inr rfl), (by first | omega | assumption | exact Or.inl rfl | exact Or.inr rfl), (by first | omega | assumption | exact Or.inl rfl | exact Or.inr rfl), (by first | omega | assumption | exact Or.inl rfl | exact Or.inr rfl), (by first | omega | assumption | exact Or.inl rfl | exact Or.inr rfl)⟩)), FR.retype hT_h0 hR⟩
              have hF_437 : F_428 h0 = .inr (15, (.ref ta) :: (.int (nI 0)) :: (.int (nI zo_338)) :: (.int (nI ze)) :: (.ref ou) :: (.ref so) :: (.ref ad) :: (.ref na) :: (.ref va) :: (.ref lc) :: (.ref dm) :: (.int (nI (xN x1))) :: (.int 1) :: (.ref tg) :: (.int v14_339) :: (.int v15_340) :: (.ref pe) :: (.int v17_341) :: (.int v18_342) :: (.int v19_343) :: (.int v20_344) :: (.int v21_345) :: (.int v22_346) :: (.ref ml) :: (.ref bg) :: (.ref co) :: (.ref sp) :: (.ref nb0) :: (.ref nb1) :: (.ref nb2) :: (.int (nI nf)) :: (.int (nI bd)) :: (.int (nI mm)) :: (.int v33_347) :: (.ref pl) :: (.ref se) :: (.ref ke) :: (.ref wi) :: (.ref hs) :: (.ref mo) :: (.ref po) :: (.ref nu) :: (.ref pr) :: (.ref sq) :: (.ref xa) :: (.ref sa) :: (.ref n64) :: (.ref m64) :: (.ref ex) :: (.ref wh) :: (.ref sd) :: (.ref tk) :: (.int v52_348) :: (.int v53_349) :: (.int v54_350) :: (.ref hd) :: (.ref ak) :: (.ref ho) :: (.ref ot) :: []) := by rw [he_429]; exact up_self
              obtain ⟨hq_460, hq_461, hq_462, hq_463, hq_464, hgO, hgA, hgB, hq_465⟩ := hW.sc hL_h0 hT_h0
              have hT2_lc : ty lc = (14, ρ + 5, [r_51, 30]) := by rw [hty]; exact rtf_tr hTo (by decide) hT2_lc
              have hT2_r_51 : ty r_51 = (17, ρ + 5, [30]) := by rw [hty]; exact rtf_tr hTo (by decide) hT2_r_51
              have hT2_dm : ty dm = (14, ρ + 32, [r_52, 60]) := by rw [hty]; exact rtf_tr hTo (by decide) hT2_dm
              have hT2_r_52 : ty r_52 = (17, ρ + 32, [60]) := by rw [hty]; exact rtf_tr hTo (by decide) hT2_r_52
              refine lv_iconst (v := 0) hx hb dX15_sender_170 (by decide) ?_
              refine W.widen (k := 0) (n := 0) (by omega) (by omega) ?_
              exact W.iret (v := 0) hx hb hr (fun t ht hWm => ⟨⟨0, (some j), rfl, (Or.inl ⟨rfl, j, hfs, hlcl, hnm, rfl⟩), ⟨F_428, ty, (by rw [hty, htyB, htyA, rtf_rtf2, rtf_rtf2]; rfl), QTm.mk ht hP hD hO hR, hW, (Or.inr ⟨j, rfl, ⟨r_51, _, _, hF_433, hF_434, tp_src (a := 0) (k := j) (fun q hq => by rw [Nat.zero_add]; exact hcd q (by omega)) hq_370, by omega⟩, ⟨r_52, _, _, hF_435, hF_436, tp_src (a := j + 1) (k := zt - (j + 1)) (fun q hq => hcd _ (by omega)) hq_387, by omega⟩⟩)⟩⟩, hS.F ht⟩) hS.2.2 dX15_sender_171
            ·
              have hi_466 : i < j := ltN (N := j) c_336
              have hij : i < j := by omega
              refine lv_aload_n hx hb dX15_sender_71 rfl (lv_at hl 3 rfl) ?_
              obtain ⟨zo_467, v14_468, v15_469, v17_470, v18_471, v19_472, v20_473, v21_474, v22_475, v33_476, v52_477, v53_478, v54_479, hF_480, hq_481, hq_482, hq_483, hq_484, hq_485⟩ := hO.mod hL_h0 hT_h0
              refine pg_get (ci := 15) (v := .ref ta) (C := RX15) (T := TX15) (N := 59) hx hb hts it_15 hown hK hP hL_h0 hF_480 rfl 0 (by decide) (hts _ kt_1009) (fun _ h9 => h9) rfl dX15_sender_72 ?_
              refine lv_iload hx hb dX15_sender_75 (lv_at hl 0 rfl) ?_
              refine pg_bald hx hb hK hP hi_80 1 hF_335 rfl (vp_in_nI (by omega) (by omega)) dX15_sender_77 ?_
              refine lv_topi (fun x_486 ex_486 => ?_)
              obtain rfl : x_486 = gt i := ex_486.trans (congrArg gt (show ((nI i) : Int32).toNatClampNeg = i from nI_clamp (by omega)))
              refine lv_istore (lv' := [(5, .int (gt i)), (4, .int (nI i)), (3, .int (nI j)), (2, .int (nI zt)), (0, .ref h0), (1, .int x1)]) hx hb dX15_sender_78 hl (by decide) rfl (fun ls hl => ?_)
              have hF_489 : F ta = .inl (cs 17, 3000, .inl gt) := (hR ta (by rw [ht_81]; simp)).symm.trans hF_335
              refine W.widen (k := 0) (n := 0) (by omega) (by omega) ?_
              refine pl_cutm (σ := Unit) A (dC, dI) cs ty gm L [ρ, ρ + 5, ρ + 32] F 126 6 (fun u0 => [(4, .int (nI i)), (3, .int (nI j)), (2, .int (nI zt)), (0, .ref h0), (1, .int x1)]) (fun u0 => []) (fun u0 FF => (LOC (gt i) = true) ∧ FR ty0 [ρ] F FF) ?_ (fun jn_487 => ?_)
              ·
                rintro u0 F_488 hv_490 hO hR H locs hP hD hS ls hl
                have hl : lv_has ls 6 [(4, .int (nI i)), (3, .int (nI j)), (2, .int (nI zt)), (0, .ref h0), (1, .int x1)] := hl
                have hv_490 : (LOC (gt i) = true) ∧ FR ty0 [ρ] F F_488 := hv_490
                refine W.eq (g2 := F0 m 126 ls []) rfl ?_
                have hF_491 : F_488 ta = .inl (cs 17, 3000, .inl gt) := (hR ta (by rw [ht_81]; simp)).trans hF_489
                obtain ⟨hok, hRu⟩ := hv_490
                refine lv_iinc (v := (nI (i + 1))) (lv' := [(4, .int (nI (i + 1))), (3, .int (nI j)), (2, .int (nI zt)), (0, .ref h0), (1, .int x1)]) hx hb dX15_sender_126 hl (k := 0) rfl (nI_1 _) (by decide) rfl (fun ls hl => ?_)
                refine lv_goto (tgt := 65) hx hb dX15_sender_129 (by decide) ?_
                refine W.widen (k := 0) (n := 0) (by omega) (by omega) ?_
                exact ih_334 (i + 1) F_488 (⟨⟨by omega, fun q hq => by rcases Nat.lt_or_ge q i with w | w; exact hw2 q w; rw [show q = i by omega]; exact hok⟩, hRu⟩) (by show j - (i + 1) < j - i; omega) hO hR _ _ hP hD hS ls (lv_sub hl [0, 1, 2, 3, 4] rfl)
              ·
                refine lv_iload hx hb dX15_sender_80 (lv_at hl 0 rfl) ?_
                have hFc := pg_free hD hS hA
                refine va_calli (va_runS (As := [.int (gt i)]) (rest := []) ⟨hx, hb, hml, hown, hts⟩ (s_X15_isSmall_e l dC dI cs ty gm L H.size F_331 (gt i) hW ) ⟨callB_of 1 hts (gi kt_668) rfl rfl rfl (hts _ kt_669) (hts _ kt_670) (by decide +kernel) ⟨Nat.le_of_ble_eq_true rfl, Nat.le_of_ble_eq_true rfl⟩, (hts _ kt_671)⟩ ⟨fun a U g mk q => ⟨q.1, PTm.calling q.2⟩, fun U hU hWm => ⟨rfl, PTm.mk hU hWm hP hK hD hE hO⟩⟩ rfl rfl hl.1 rfl (lv_room (Nat.le_of_ble_eq_true rfl)) dX15_sender_82 ⟨by show _ + 0 ≤ 0; omega, by show _ + 0 ≤ 0; omega⟩) hS (fun q _ h => hFc q h) hFc (fun r_492 u t H1 locs ht hvm hw hB hz1 hk1 hS => ?_)
                obtain ⟨F_493, hB1⟩ := hB
                obtain rfl : F_331 = F_493 := (funext (fun a => hB1.2.2.2 a List.not_mem_nil)).symm
                obtain ⟨hP, hD, hO, hR⟩ := QTm.back hB1 ht hFc hR (fun q h => absurd h List.not_mem_nil)
                generalize H1 = H at hP hS ⊢
                have hw : r_492 = (if 97 ≤ (gt i) ∧ (gt i) ≤ 122 then 1 else 0) := hw
                have hw_494 := hw
                refine lv_if_ne (tgt := 126) hx hb dX15_sender_85 (by decide) (fun c_495 => ?_) (fun c_495 => ?_)
                ·
                  refine W.widen (k := 0) (n := 0) (by omega) (by omega) ?_
                  exact jn_487 () F_331 (⟨loc_s (ifb1 hw_494 c_495), hRu⟩) hO hR _ _ hP hD hS ls (lv_sub hl [1, 2, 3, 4, 5] rfl)
                ·
                  refine lv_iload hx hb dX15_sender_88 (lv_at hl 0 rfl) ?_
                  have hFc := pg_free hD hS hA
                  refine va_calli (va_runS (As := [.int (gt i)]) (rest := []) ⟨hx, hb, hml, hown, hts⟩ (s_X15_isDigit_e l dC dI cs ty gm L H.size F_331 (gt i) hW ) ⟨callB_of 1 hts (gi kt_687) rfl rfl rfl (hts _ kt_669) (hts _ kt_707) (by decide +kernel) ⟨Nat.le_of_ble_eq_true rfl, Nat.le_of_ble_eq_true rfl⟩, (hts _ kt_688)⟩ ⟨fun a U g mk q => ⟨q.1, PTm.calling q.2⟩, fun U hU hWm => ⟨rfl, PTm.mk hU hWm hP hK hD hE hO⟩⟩ rfl rfl hl.1 rfl (lv_room (Nat.le_of_ble_eq_true rfl)) dX15_sender_90 ⟨by show _ + 0 ≤ 0; omega, by show _ + 0 ≤ 0; omega⟩) hS (fun q _ h => hFc q h) hFc (fun r_496 u t H1 locs ht hvm hw hB hz1 hk1 hS => ?_)
                  obtain ⟨F_497, hB1⟩ := hB
                  obtain rfl : F_331 = F_497 := (funext (fun a => hB1.2.2.2 a List.not_mem_nil)).symm
                  obtain ⟨hP, hD, hO, hR⟩ := QTm.back hB1 ht hFc hR (fun q h => absurd h List.not_mem_nil)
                  generalize H1 = H at hP hS ⊢
                  have hw : r_496 = (if 48 ≤ (gt i) ∧ (gt i) ≤ 57 then 1 else 0) := hw
                  have hw_498 := hw
                  refine lv_if_ne (tgt := 126) hx hb dX15_sender_93 (by decide) (fun c_499 => ?_) (fun c_499 => ?_)
                  ·
                    refine W.widen (k := 0) (n := 0) (by omega) (by omega) ?_
                    exact jn_487 () F_331 (⟨loc_d (ifb1 hw_498 c_499), hRu⟩) hO hR _ _ hP hD hS ls (lv_sub hl [1, 2, 3, 4, 5] rfl)
                  ·
                    refine lv_iload hx hb dX15_sender_96 (lv_at hl 0 rfl) ?_
                    refine lv_bipush (v := 46) hx hb dX15_sender_98 (by decide) ?_
                    refine lv_icmp_eq (tgt := 126) hx hb dX15_sender_100 (by decide) (fun c_500 => ?_) (fun c_500 => ?_)
                    ·
                      refine W.widen (k := 0) (n := 0) (by omega) (by omega) ?_
                      exact jn_487 () F_331 (⟨loc_m (Or.inl c_500), hRu⟩) hO hR _ _ hP hD hS ls (lv_sub hl [1, 2, 3, 4, 5] rfl)
                    ·
                      refine lv_iload hx hb dX15_sender_103 (lv_at hl 0 rfl) ?_
                      refine lv_bipush (v := 45) hx hb dX15_sender_105 (by decide) ?_
                      refine lv_icmp_eq (tgt := 126) hx hb dX15_sender_107 (by decide) (fun c_501 => ?_) (fun c_501 => ?_)
                      ·
                        refine W.widen (k := 0) (n := 0) (by omega) (by omega) ?_
                        exact jn_487 () F_331 (⟨loc_m (Or.inr (Or.inl c_501)), hRu⟩) hO hR _ _ hP hD hS ls (lv_sub hl [1, 2, 3, 4, 5] rfl)
                      ·
                        refine lv_iload hx hb dX15_sender_110 (lv_at hl 0 rfl) ?_
                        refine lv_bipush (v := 95) hx hb dX15_sender_112 (by decide) ?_
                        refine lv_icmp_eq (tgt := 126) hx hb dX15_sender_114 (by decide) (fun c_502 => ?_) (fun c_502 => ?_)
                        ·
                          refine W.widen (k := 0) (n := 0) (by omega) (by omega) ?_
                          exact jn_487 () F_331 (⟨loc_m (Or.inr (Or.inr (Or.inl c_502))), hRu⟩) hO hR _ _ hP hD hS ls (lv_sub hl [1, 2, 3, 4, 5] rfl)
                        ·
                          refine lv_iload hx hb dX15_sender_117 (lv_at hl 0 rfl) ?_
                          refine lv_bipush (v := 43) hx hb dX15_sender_119 (by decide) ?_
                          refine lv_icmp_eq (tgt := 126) hx hb dX15_sender_121 (by decide) (fun c_503 => ?_) (fun c_503 => ?_)
                          ·
                            refine W.widen (k := 0) (n := 0) (by omega) (by omega) ?_
                            exact jn_487 () F_331 (⟨loc_m (Or.inr (Or.inr (Or.inr c_503))), hRu⟩) hO hR _ _ hP hD hS ls (lv_sub hl [1, 2, 3, 4, 5] rfl)
                          ·
                            refine lv_iconst (v := (-1)) hx hb dX15_sender_124 (by decide) ?_
                            refine W.widen (k := 0) (n := 0) (by omega) (by omega) ?_
                            exact W.iret (v := (-1)) hx hb hr (fun t ht hWm => ⟨⟨(-1), none, rfl, (Or.inr ⟨rfl, snd_n hfs (fun q => lcl_n hij (loc_n (fun w => w.elim c_500 (fun w => w.elim c_501 (fun w => w.elim c_502 c_503))) (ifb0 hw_494 c_495) (ifb0 hw_498 c_499)) q.1), rfl⟩), ⟨F_331, ty, hty, QTm.mk ht hP hD hO hR, hW, (Or.inl ⟨rfl, (by rw [← hty0]; exact hRu)⟩)⟩⟩, hS.F ht⟩) hS.2.2 dX15_sender_125
          ·
            refine lv_iconst (v := (-1)) hx hb dX15_sender_60 (by decide) ?_
            refine W.widen (k := 0) (n := 0) (by omega) (by omega) ?_
            exact W.iret (v := (-1)) hx hb hr (fun t ht hWm => ⟨⟨(-1), none, rfl, (Or.inr ⟨rfl, snd_n hfs (fun q => ifb0 hw_329 c_330 q.2), rfl⟩), ⟨F_82, ty, hty, QTm.mk ht hP hD hO hR, hW, (Or.inl ⟨rfl, (by rw [← hty0]; exact hRu)⟩)⟩⟩, hS.F ht⟩) hS.2.2 dX15_sender_61
    ·
      refine lv_iinc (v := (nI (j + 1))) (lv' := [(3, .int (nI (j + 1))), (2, .int (nI zt)), (0, .ref h0), (1, .int x1)]) hx hb dX15_sender_23 hl (k := 0) rfl (nI_1 _) (by decide) rfl (fun ls hl => ?_)
      refine lv_goto (tgt := 7) hx hb dX15_sender_26 (by decide) ?_
      refine W.widen (k := 0) (n := 0) (by omega) (by omega) ?_
      exact ih_85 (j + 1) F_82 (⟨⟨by omega, fun i hi => by rcases Nat.lt_or_ge i j with q | q; exact hv2 i q; rw [show i = j by omega]; exact c_318⟩, hRu⟩) (by show zt - (j + 1) < zt - j; omega) hO hR _ _ hP hD hS ls (lv_sub hl [0, 1, 2, 3] rfl)
