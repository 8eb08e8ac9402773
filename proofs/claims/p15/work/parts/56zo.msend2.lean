theorem dX15_sender_0 : decode cX15_sender 0 = .ok (.aload_n 0, 1) := by decide +kernel
theorem dX15_sender_1 : decode cX15_sender 1 = .ok (.invokevirtual 174, 3) := by decide +kernel
theorem dX15_sender_4 : decode cX15_sender 4 = .ok (.istore_n 2, 1) := by decide +kernel
theorem dX15_sender_5 : decode cX15_sender 5 = .ok (.iconst 0, 1) := by decide +kernel
theorem dX15_sender_6 : decode cX15_sender 6 = .ok (.istore_n 3, 1) := by decide +kernel
theorem dX15_sender_7 : decode cX15_sender 7 = .ok (.iload_n 3, 1) := by decide +kernel
theorem dX15_sender_8 : decode cX15_sender 8 = .ok (.iload_n 2, 1) := by decide +kernel
theorem dX15_sender_9 : decode cX15_sender 9 = .ok (.if_icmp .ge 20, 3) := by decide +kernel
theorem dX15_sender_12 : decode cX15_sender 12 = .ok (.aload_n 0, 1) := by decide +kernel
theorem dX15_sender_13 : decode cX15_sender 13 = .ok (.getfield 31, 3) := by decide +kernel
theorem dX15_sender_16 : decode cX15_sender 16 = .ok (.iload_n 3, 1) := by decide +kernel
theorem dX15_sender_17 : decode cX15_sender 17 = .ok (.baload, 1) := by decide +kernel
theorem dX15_sender_18 : decode cX15_sender 18 = .ok (.bipush 64, 2) := by decide +kernel
theorem dX15_sender_20 : decode cX15_sender 20 = .ok (.if_icmp .eq 9, 3) := by decide +kernel
theorem dX15_sender_23 : decode cX15_sender 23 = .ok (.iinc 3 1, 3) := by decide +kernel
theorem dX15_sender_26 : decode cX15_sender 26 = .ok (.goto (-19), 3) := by decide +kernel
theorem dX15_sender_29 : decode cX15_sender 29 = .ok (.iload_n 3, 1) := by decide +kernel
theorem dX15_sender_30 : decode cX15_sender 30 = .ok (.iload_n 2, 1) := by decide +kernel
theorem dX15_sender_31 : decode cX15_sender 31 = .ok (.if_icmp .eq 29, 3) := by decide +kernel
theorem dX15_sender_34 : decode cX15_sender 34 = .ok (.iload_n 3, 1) := by decide +kernel
theorem dX15_sender_35 : decode cX15_sender 35 = .ok (.i2l, 1) := by decide +kernel
theorem dX15_sender_36 : decode cX15_sender 36 = .ok (.lconst 1, 1) := by decide +kernel
theorem dX15_sender_37 : decode cX15_sender 37 = .ok (.ldc2_w 200, 3) := by decide +kernel
theorem dX15_sender_40 : decode cX15_sender 40 = .ok (.invokestatic 170, 3) := by decide +kernel
theorem dX15_sender_43 : decode cX15_sender 43 = .ok (.ifCond .eq 17, 3) := by decide +kernel
theorem dX15_sender_46 : decode cX15_sender 46 = .ok (.aload_n 0, 1) := by decide +kernel
theorem dX15_sender_47 : decode cX15_sender 47 = .ok (.getfield 31, 3) := by decide +kernel
theorem dX15_sender_50 : decode cX15_sender 50 = .ok (.iload_n 3, 1) := by decide +kernel
theorem dX15_sender_51 : decode cX15_sender 51 = .ok (.iconst 1, 1) := by decide +kernel
theorem dX15_sender_52 : decode cX15_sender 52 = .ok (.iadd, 1) := by decide +kernel
theorem dX15_sender_53 : decode cX15_sender 53 = .ok (.iload_n 2, 1) := by decide +kernel
theorem dX15_sender_54 : decode cX15_sender 54 = .ok (.invokestatic 182, 3) := by decide +kernel
theorem dX15_sender_57 : decode cX15_sender 57 = .ok (.ifCond .ne 5, 3) := by decide +kernel
theorem dX15_sender_60 : decode cX15_sender 60 = .ok (.iconst (-1), 1) := by decide +kernel
theorem dX15_sender_61 : decode cX15_sender 61 = .ok (.ireturn, 1) := by decide +kernel
theorem dX15_sender_62 : decode cX15_sender 62 = .ok (.iconst 0, 1) := by decide +kernel
theorem dX15_sender_63 : decode cX15_sender 63 = .ok (.istore 4, 2) := by decide +kernel
theorem dX15_sender_65 : decode cX15_sender 65 = .ok (.iload 4, 2) := by decide +kernel
theorem dX15_sender_67 : decode cX15_sender 67 = .ok (.iload_n 3, 1) := by decide +kernel
theorem dX15_sender_68 : decode cX15_sender 68 = .ok (.if_icmp .ge 64, 3) := by decide +kernel
theorem dX15_sender_71 : decode cX15_sender 71 = .ok (.aload_n 0, 1) := by decide +kernel
theorem dX15_sender_72 : decode cX15_sender 72 = .ok (.getfield 31, 3) := by decide +kernel
theorem dX15_sender_75 : decode cX15_sender 75 = .ok (.iload 4, 2) := by decide +kernel
theorem dX15_sender_77 : decode cX15_sender 77 = .ok (.baload, 1) := by decide +kernel
theorem dX15_sender_78 : decode cX15_sender 78 = .ok (.istore 5, 2) := by decide +kernel
theorem dX15_sender_80 : decode cX15_sender 80 = .ok (.iload 5, 2) := by decide +kernel
theorem dX15_sender_82 : decode cX15_sender 82 = .ok (.invokestatic 3, 3) := by decide +kernel
theorem dX15_sender_85 : decode cX15_sender 85 = .ok (.ifCond .ne 41, 3) := by decide +kernel
theorem dX15_sender_88 : decode cX15_sender 88 = .ok (.iload 5, 2) := by decide +kernel
theorem dX15_sender_90 : decode cX15_sender 90 = .ok (.invokestatic 202, 3) := by decide +kernel
theorem dX15_sender_93 : decode cX15_sender 93 = .ok (.ifCond .ne 33, 3) := by decide +kernel
theorem dX15_sender_96 : decode cX15_sender 96 = .ok (.iload 5, 2) := by decide +kernel
theorem dX15_sender_98 : decode cX15_sender 98 = .ok (.bipush 46, 2) := by decide +kernel
theorem dX15_sender_100 : decode cX15_sender 100 = .ok (.if_icmp .eq 26, 3) := by decide +kernel
theorem dX15_sender_103 : decode cX15_sender 103 = .ok (.iload 5, 2) := by decide +kernel
theorem dX15_sender_105 : decode cX15_sender 105 = .ok (.bipush 45, 2) := by decide +kernel
theorem dX15_sender_107 : decode cX15_sender 107 = .ok (.if_icmp .eq 19, 3) := by decide +kernel
theorem dX15_sender_110 : decode cX15_sender 110 = .ok (.iload 5, 2) := by decide +kernel
theorem dX15_sender_112 : decode cX15_sender 112 = .ok (.bipush 95, 2) := by decide +kernel
theorem dX15_sender_114 : decode cX15_sender 114 = .ok (.if_icmp .eq 12, 3) := by decide +kernel
theorem dX15_sender_117 : decode cX15_sender 117 = .ok (.iload 5, 2) := by decide +kernel
theorem dX15_sender_119 : decode cX15_sender 119 = .ok (.bipush 43, 2) := by decide +kernel
theorem dX15_sender_121 : decode cX15_sender 121 = .ok (.if_icmp .eq 5, 3) := by decide +kernel
theorem dX15_sender_124 : decode cX15_sender 124 = .ok (.iconst (-1), 1) := by decide +kernel
theorem dX15_sender_125 : decode cX15_sender 125 = .ok (.ireturn, 1) := by decide +kernel
theorem dX15_sender_126 : decode cX15_sender 126 = .ok (.iinc 4 1, 3) := by decide +kernel
theorem dX15_sender_129 : decode cX15_sender 129 = .ok (.goto (-64), 3) := by decide +kernel
theorem dX15_sender_132 : decode cX15_sender 132 = .ok (.aload_n 0, 1) := by decide +kernel
theorem dX15_sender_133 : decode cX15_sender 133 = .ok (.getfield 57, 3) := by decide +kernel
theorem dX15_sender_136 : decode cX15_sender 136 = .ok (.aload_n 0, 1) := by decide +kernel
theorem dX15_sender_137 : decode cX15_sender 137 = .ok (.getfield 31, 3) := by decide +kernel
theorem dX15_sender_140 : decode cX15_sender 140 = .ok (.iconst 0, 1) := by decide +kernel
theorem dX15_sender_141 : decode cX15_sender 141 = .ok (.iload_n 3, 1) := by decide +kernel
theorem dX15_sender_142 : decode cX15_sender 142 = .ok (.invokevirtual 186, 3) := by decide +kernel
theorem dX15_sender_145 : decode cX15_sender 145 = .ok (.aload_n 0, 1) := by decide +kernel
theorem dX15_sender_146 : decode cX15_sender 146 = .ok (.getfield 61, 3) := by decide +kernel
theorem dX15_sender_149 : decode cX15_sender 149 = .ok (.aload_n 0, 1) := by decide +kernel
theorem dX15_sender_150 : decode cX15_sender 150 = .ok (.getfield 31, 3) := by decide +kernel
theorem dX15_sender_153 : decode cX15_sender 153 = .ok (.iload_n 3, 1) := by decide +kernel
theorem dX15_sender_154 : decode cX15_sender 154 = .ok (.iconst 1, 1) := by decide +kernel
theorem dX15_sender_155 : decode cX15_sender 155 = .ok (.iadd, 1) := by decide +kernel
theorem dX15_sender_156 : decode cX15_sender 156 = .ok (.iload_n 2, 1) := by decide +kernel
theorem dX15_sender_157 : decode cX15_sender 157 = .ok (.invokevirtual 186, 3) := by decide +kernel
theorem dX15_sender_160 : decode cX15_sender 160 = .ok (.aload_n 0, 1) := by decide +kernel
theorem dX15_sender_161 : decode cX15_sender 161 = .ok (.iload_n 1, 1) := by decide +kernel
theorem dX15_sender_162 : decode cX15_sender 162 = .ok (.putfield 205, 3) := by decide +kernel
theorem dX15_sender_165 : decode cX15_sender 165 = .ok (.aload_n 0, 1) := by decide +kernel
theorem dX15_sender_166 : decode cX15_sender 166 = .ok (.iconst 1, 1) := by decide +kernel
theorem dX15_sender_167 : decode cX15_sender 167 = .ok (.putfield 208, 3) := by decide +kernel
theorem dX15_sender_170 : decode cX15_sender 170 = .ok (.iconst 0, 1) := by decide +kernel
theorem dX15_sender_171 : decode cX15_sender 171 = .ok (.ireturn, 1) := by decide +kernel
theorem kt_1186 : Cond.constantLong RX15 200 30 ∈ tb := tb_at (i := 1515) (by decide +kernel) (by decide +kernel)
theorem kt_1187 : Cond.fieldLink RX15 208 "PostGateModel" "sent" "Z" ∈ tb := tb_at (i := 1301) (by decide +kernel) (by decide +kernel)
def xN (x : Int32) : Nat := x.toBitVec.toNat
theorem xN_e (x : Int32) : nI (xN x) = x := Int32.toBitVec_inj.mp (by
  show (nI x.toBitVec.toNat).toBitVec = x.toBitVec
  unfold nI
  simp)
def fmq (gs : Option Nat) (fm : Nat) (x : Int32) : Nat := match gs with
  | none => fm
  | some _ => xN x
def snq (gs : Option Nat) (sn : Nat) : Nat := match gs with
  | none => sn
  | some _ => 1
set_option maxHeartbeats 4000000 in
set_option maxRecDepth 100000 in
theorem s_X15_sender_x (l : Launch) (dC : Nat → ClassId) (dI : Nat → Nat → Nat) (cs : Nat → ClassId) (ty : TyM) (gm : Nat → Nat → Nat) (L : List Nat) (sz : Nat) (F : Nat → va_E) (h0 : Nat) (ρ : Nat) (ta : Nat) (ou : Nat) (so : Nat) (ad : Nat) (na : Nat) (va : Nat) (lc : Nat) (dm : Nat) (tg : Nat) (pe : Nat) (ml : Nat) (bg : Nat) (co : Nat) (sp : Nat) (nb0 : Nat) (nb1 : Nat) (nb2 : Nat) (pl : Nat) (se : Nat) (ke : Nat) (wi : Nat) (hs : Nat) (mo : Nat) (po : Nat) (nu : Nat) (pr : Nat) (sq : Nat) (xa : Nat) (sa : Nat) (n64 : Nat) (m64 : Nat) (ex : Nat) (wh : Nat) (sd : Nat) (tk : Nat) (hd : Nat) (ak : Nat) (ho : Nat) (ot : Nat) (sx : Nat) (s0 : Nat) (s1 : Nat) (s2 : Nat) (nf : Nat) (bd : Nat) (mm : Nat) (zo : Nat) (fm : Nat) (sn : Nat) (hg : Nat) (gc : Nat) (gv : Nat) (ze : Nat) (zt : Nat) (x1 : Int32) (gt : Nat → Int32) (hW : WTm ty gm L) (hL_h0 : h0 ∈ L) (hT_h0 : ty h0 = (15, ρ, [ta, ou, so, ad, na, va, lc, dm, tg, pe, ml, bg, co, sp, nb0, nb1, nb2, pl, se, ke, wi, hs, mo, po, nu, pr, sq, xa, sa, n64, m64, ex, wh, sd, tk, hd, ak, ho, ot, sx, s0, s1, s2, nf, bd, mm, zo, fm, sn, hg, gc, gv, ze, zt])) (hFta : F ta = .inl (cs 17, 3000, .inl gt)) : Met l yX15_sender (.code yX15_sender cX15_sender 6 (some .int) :: tb) ({ frames := 3, cells := 0, slots := 0, locals := 94 }) (va_Pc [.ref h0, .int x1] (PTm (dC, dI) cs ty gm L F sz)) (va_Qi (fun (r : Int32) (gs : Option Nat) => ((r = 0 ∧ ∃ k, FST gt 64 zt k ∧ LCL gt k ∧ NM gt (k + 1) zt = true ∧ gs = some k) ∨ (r = (-1) ∧ ¬ SND gt zt ∧ gs = none))) (fun (gs : Option Nat) T9 => ∃ F2 : Nat → va_E, ∃ ty2 : TyM, ty2 = rtf ty h0 (15, ρ, [ta, ou, so, ad, na, va, lc, dm, tg, pe, ml, bg, co, sp, nb0, nb1, nb2, pl, se, ke, wi, hs, mo, po, nu, pr, sq, xa, sa, n64, m64, ex, wh, sd, tk, hd, ak, ho, ot, sx, s0, s1, s2, nf, bd, mm, zo, (fmq gs fm x1), (snq gs sn), hg, gc, gv, ze, 0]) ∧ QTm (dC, dI) cs ty2 gm L [ρ, ρ + 5, ρ + 32] F F2 (va_A (va_pl L F) sz) T9 ∧ WTm ty2 gm L ∧ ((gs = none ∧ FR ty [ρ] F F2) ∨ (∃ k, gs = some k ∧ TXM cs F2 lc 30 (tpL gt 0 k) ∧ TXM cs F2 dm 60 (tpL gt (k + 1) (zt - (k + 1)))))) (va_A (va_pl L F) sz)) 0 0 (va_A (va_pl L F) sz) := by
  refine Met.ofW (cc := cX15_sender) (maxL := 6) (ret := (some .int)) (by decide) rfl ?_
  intro p e s m args below meth c s₁ B hml hv
  obtain ⟨rfl, hsz, hP, hK, hD0, hE, hO⟩ := hv
  have hx := B.exec
  have hb := B.bytes
  have hr := B.returns
  have hts : ∀ w ∈ tb, w.before _ s = true := fun w h => atoms_spec (ws := .code yX15_sender cX15_sender 6 (some .int) :: tb) B.pre w (List.mem_cons_of_mem _ h)
  have hown : s.vm.findClass RX15 = some m.cls := findClass_of_methodNamed B.named
  have hlocks := B.notSynchronized
  subst hsz
  have hD := hD0.self (sz := s.heap.size)
  generalize hAe : va_A (va_pl L F) s.heap.size = A at hD ⊢
  have hA : ∀ q : Nat, s.heap.size ≤ q → A q := fun q h => by rw [← hAe]; exact Or.inr h
  have hS : va_S A s.heap s.heap [] := va_S.rf
  have hR : FR ty [ρ, ρ + 5, ρ + 32] F F := FR.refl
  have hl := lv_entry ([.ref h0, .int x1]) (n := 6) (Nat.le_of_ble_eq_true rfl)
  rw [lg_entry_eq]
  generalize (lg_sl ([.ref h0, .int x1]) ++ List.replicate (6 - (lg_sl ([.ref h0, .int x1])).length) Slot.unset).toArray = ls at hl ⊢
  have hl : lv_has ls 6 [(0, .ref h0), (1, .int x1)] := hl
  obtain ⟨ty0, hty0⟩ : ∃ t9 : TyM, t9 = ty := ⟨_, rfl⟩
  have hT00 := hT_h0
  obtain ⟨hq_23, hq_24, hq_25, hq_26, hq_27, hgO, hgA, hgB, hq_28⟩ := hW.sc hL_h0 hT_h0
  refine lv_aload_n hx hb dX15_sender_0 rfl (lv_at hl 0 rfl) ?_
  obtain ⟨v14_29, v15_30, v17_31, v18_32, v19_33, v20_34, v21_35, v22_36, v33_37, v52_38, v53_39, v54_40, hF_41, hq_42, hq_43, hq_44, hq_45, hq_46⟩ := hO.mod hL_h0 hT_h0
  have hFc := pg_free hD hS hA
  refine va_calli (va_runV (As := []) (rest := []) ⟨hx, hb, hml, hown, hts⟩ (s_X15_used l dC dI cs ty gm L s.heap.size F h0 ρ ta ou so ad na va lc dm tg pe ml bg co sp nb0 nb1 nb2 pl se ke wi hs mo po nu pr sq xa sa n64 m64 ex wh sd tk hd ak ho ot sx s0 s1 s2 nf bd mm zo fm sn hg gc gv ze zt v14_29 v15_30 v17_31 v18_32 v19_33 v20_34 v21_35 v22_36 v33_37 v52_38 v53_39 v54_40 hW hL_h0 hT_h0 hF_41 (by first | omega | assumption | exact Or.inl rfl) (by first | omega | assumption | exact Or.inl rfl) (by first | omega | assumption | exact Or.inl rfl) (by first | omega | assumption | exact Or.inl rfl) (by first | omega | assumption | exact Or.inl rfl)) ⟨callB_of 0 hts (gi kt_999) rfl rfl rfl (hts _ kt_669) (hts _ kt_1000) (by decide +kernel) ⟨Nat.le_of_ble_eq_true rfl, Nat.le_of_ble_eq_true rfl⟩, (hts _ kt_1001), (hts _ kt_1002)⟩ ⟨fun a U g mk q => ⟨q.1, PTm.calling q.2⟩, pg_recv hK hP hL_h0 hF_41 (q := (RX15, TX15, 59)) rfl, fun U hU hWm => ⟨rfl, PTm.mk hU hWm hP hK hD hE hO⟩⟩ rfl rfl hl.1 rfl (lv_room (Nat.le_of_ble_eq_true rfl)) dX15_sender_1 ⟨by show _ + 0 ≤ 0; omega, by show _ + 0 ≤ 0; omega⟩) hS (fun q _ h => hFc q h) hFc (fun r_47 u t H1 locs ht hvm hw hB hz1 hk1 hS => ?_)
  obtain ⟨F_48, ty9, hty9, hB1, hW9, hq_49⟩ := hB
  subst hty9
  have hR9 := FR.retype (im2 := [ta, ou, so, ad, na, va, lc, dm, tg, pe, ml, bg, co, sp, nb0, nb1, nb2, pl, se, ke, wi, hs, mo, po, nu, pr, sq, xa, sa, n64, m64, ex, wh, sd, tk, hd, ak, ho, ot, sx, s0, s1, s2, nf, bd, mm, zo, fm, sn, hg, gc, gv, ze, 0]) hT_h0 hR
  obtain ⟨hP, hD, hO, hR⟩ := QTm.back hB1 ht hFc hR9 (fun q h => by simp only [List.mem_cons, List.not_mem_nil, or_false] at h ⊢; omega)
  obtain ⟨ty, hty, hT_h0, hW, hO, hR⟩ : ∃ t9 : TyM, t9 = rtf ty h0 (15, ρ, [ta, ou, so, ad, na, va, lc, dm, tg, pe, ml, bg, co, sp, nb0, nb1, nb2, pl, se, ke, wi, hs, mo, po, nu, pr, sq, xa, sa, n64, m64, ex, wh, sd, tk, hd, ak, ho, ot, sx, s0, s1, s2, nf, bd, mm, zo, fm, sn, hg, gc, gv, ze, 0]) ∧ t9 h0 = (15, ρ, [ta, ou, so, ad, na, va, lc, dm, tg, pe, ml, bg, co, sp, nb0, nb1, nb2, pl, se, ke, wi, hs, mo, po, nu, pr, sq, xa, sa, n64, m64, ex, wh, sd, tk, hd, ak, ho, ot, sx, s0, s1, s2, nf, bd, mm, zo, fm, sn, hg, gc, gv, ze, 0]) ∧ WTm t9 gm L ∧ OKm cs t9 gm L F_48 ∧ FR t9 [ρ, ρ + 5, ρ + 32] F F_48 := ⟨_, rfl, rtf_self, hW9, hO, hR⟩
  generalize H1 = H at hP hS ⊢
  have hw : r_47 = nI zt := hw
  subst hw
  obtain ⟨hq_72, hq_73, hq_74, hq_75, hq_76, hgO, hgA, hgB, hq_77⟩ := hW.sc hL_h0 hT_h0
  obtain ⟨hi_79, ht_80⟩ := hW.f_ta hL_h0 hT_h0
  have hF_78 : F_48 ta = .inl (cs 17, 3000, .inl gt) := (hB1.2.2.2 ta (by rw [← hty, ht_80]; simp)).trans hFta
  have hRu : FR ty0 [ρ] F F_48 := by rw [hty0]; exact FR.unre hT00 rfl hB1.2.2.2
  refine lv_istore_n (lv' := [(2, .int (nI zt)), (0, .ref h0), (1, .int x1)]) hx hb dX15_sender_4 rfl hl (by decide) rfl (fun ls hl => ?_)
  refine lv_iconst (v := 0) hx hb dX15_sender_5 (by decide) ?_
  refine lv_istore_n (lv' := [(3, .int 0), (2, .int (nI zt)), (0, .ref h0), (1, .int x1)]) hx hb dX15_sender_6 rfl hl (by decide) rfl (fun ls hl => ?_)
  refine W.widen (k := 0) (n := 0) (by omega) (by omega) ?_
  have hF_82 : F ta = .inl (cs 17, 3000, .inl gt) := (hR ta (by rw [ht_80]; simp)).symm.trans hF_78
  refine pl_loopm (σ := Nat) A (dC, dI) cs ty gm L [ρ, ρ + 5, ρ + 32] F 7 6 (fun j => [(3, .int (nI j)), (2, .int (nI zt)), (0, .ref h0), (1, .int x1)]) (fun j => []) (fun j FF => (j ≤ zt ∧ ∀ i, i < j → ¬ gt i = 64) ∧ FR ty0 [ρ] F FF) (fun j => zt - j) ?_ 0 F_48 (⟨⟨by omega, fun i hi => absurd hi (Nat.not_lt_zero _)⟩, hRu⟩) hO hR _ _ hP hD hS ls (lv_sub hl [0, 1, 2, 3] rfl)
  rintro j F_81 hv_83 hO hR ih_84 H locs hP hD hS ls hl
  have hl : lv_has ls 6 [(3, .int (nI j)), (2, .int (nI zt)), (0, .ref h0), (1, .int x1)] := hl
  have hv_83 : (j ≤ zt ∧ ∀ i, i < j → ¬ gt i = 64) ∧ FR ty0 [ρ] F F_81 := hv_83
  refine W.eq (g2 := F0 m 7 ls []) rfl ?_
  have hF_85 : F_81 ta = .inl (cs 17, 3000, .inl gt) := (hR ta (by rw [ht_80]; simp)).trans hF_82
  obtain ⟨⟨hv1, hv2⟩, hRu⟩ := id hv_83
  refine lv_iload_n hx hb dX15_sender_7 rfl (lv_at hl 0 rfl) ?_
  refine lv_iload_n hx hb dX15_sender_8 rfl (lv_at hl 1 rfl) ?_
  refine lv_icmp_ge (tgt := 29) hx hb dX15_sender_9 (by decide) (fun c_86 => ?_) (fun c_86 => ?_)
  ·
    have hi_87 : zt ≤ j := leN (N := zt) c_86
    have hfs : FST gt 64 zt j := ⟨by omega, hv2, Or.inl (by omega)⟩
    refine lv_iload_n hx hb dX15_sender_29 rfl (lv_at hl 0 rfl) ?_
    refine lv_iload_n hx hb dX15_sender_30 rfl (lv_at hl 1 rfl) ?_
    refine lv_icmp_eq (tgt := 60) hx hb dX15_sender_31 (by decide) (fun c_88 => ?_) (fun c_88 => ?_)
    ·
      have hi_89 : j = zt := (nI_eq (a := j) (b := zt) (by omega) (by omega)).mp c_88
      refine lv_iconst (v := (-1)) hx hb dX15_sender_60 (by decide) ?_
      refine W.widen (k := 0) (n := 0) (by omega) (by omega) ?_
      exact W.iret (v := (-1)) hx hb hr (fun t ht hWm => ⟨⟨(-1), none, rfl, (Or.inr ⟨rfl, snd_n hfs (fun q => nm_no (by omega) q.2), rfl⟩), ⟨F_81, ty, hty, QTm.mk ht hP hD hO hR, hW, (Or.inl ⟨rfl, (by rw [← hty0]; exact hRu)⟩)⟩⟩, hS.F ht⟩) hS.2.2 dX15_sender_61
    ·
      have hi_90 : j ≠ zt := fun q => c_88 (by rw [q])
      refine lv_iload_n hx hb dX15_sender_34 rfl (lv_at hl 0 rfl) ?_
      refine lv_i2l (v := (nI j).toInt64) hx hb dX15_sender_35 rfl ?_
      refine lv_lconst (v := 1) hx hb dX15_sender_36 (by decide) ?_
      refine lv_ldc2 (v := 30) hx hb hown (hts _ kt_1186) dX15_sender_37 ?_
      have hFc := pg_free hD hS hA
      refine va_calli (va_runS (As := [.long ((nI j).toInt64), .long 1, .long 30]) (rest := []) ⟨hx, hb, hml, hown, hts⟩ (s_X15_in l dC dI cs ty gm L H.size F_81 ((nI j).toInt64) 1 30 hW ) ⟨callB_of 3 hts (gi kt_685) rfl rfl rfl (hts _ kt_669) (hts _ kt_705) (by decide +kernel) ⟨Nat.le_of_ble_eq_true rfl, Nat.le_of_ble_eq_true rfl⟩, (hts _ kt_686)⟩ ⟨fun a U g mk q => ⟨q.1, PTm.calling q.2⟩, fun U hU hWm => ⟨rfl, PTm.mk hU hWm hP hK hD hE hO⟩⟩ rfl rfl hl.1 rfl (lv_room (Nat.le_of_ble_eq_true rfl)) dX15_sender_40 ⟨by show _ + 0 ≤ 0; omega, by show _ + 0 ≤ 0; omega⟩) hS (fun q _ h => hFc q h) hFc (fun r_91 u t H1 locs ht hvm hw hB hz1 hk1 hS => ?_)
      obtain ⟨F_92, hB1⟩ := hB
      obtain rfl : F_81 = F_92 := (funext (fun a => hB1.2.2.2 a List.not_mem_nil)).symm
      obtain ⟨hP, hD, hO, hR⟩ := QTm.back hB1 ht hFc hR (fun q h => absurd h List.not_mem_nil)
      generalize H1 = H at hP hS ⊢
      have hw : r_91 = (if 1 ≤ (nI j).toInt64 ∧ (nI j).toInt64 ≤ 30 then 1 else 0) := hw
      have hw_93 := hw
      refine lv_if_eq (tgt := 60) hx hb dX15_sender_43 (by decide) (fun c_94 => ?_) (fun c_94 => ?_)
      ·
        have hin := in_nat0 (lo := 1) (hi := 30) hw_93 c_94 (by decide) (by decide) (by omega)
        refine lv_iconst (v := (-1)) hx hb dX15_sender_60 (by decide) ?_
        refine W.widen (k := 0) (n := 0) (by omega) (by omega) ?_
        exact W.iret (v := (-1)) hx hb hr (fun t ht hWm => ⟨⟨(-1), none, rfl, (Or.inr ⟨rfl, snd_n hfs (fun q => hin ⟨q.1.1, q.1.2.1⟩), rfl⟩), ⟨F_81, ty, hty, QTm.mk ht hP hD hO hR, hW, (Or.inl ⟨rfl, (by rw [← hty0]; exact hRu)⟩)⟩⟩, hS.F ht⟩) hS.2.2 dX15_sender_61
      ·
        have hin := in_nat (lo := 1) (hi := 30) hw_93 c_94 (by decide) (by decide) (by omega)
        refine lv_aload_n hx hb dX15_sender_46 rfl (lv_at hl 2 rfl) ?_
        obtain ⟨v14_95, v15_96, v17_97, v18_98, v19_99, v20_100, v21_101, v22_102, v33_103, v52_104, v53_105, v54_106, hF_107, hq_108, hq_109, hq_110, hq_111, hq_112⟩ := hO.mod hL_h0 hT_h0
        refine pg_get (ci := 15) (v := .ref ta) (C := RX15) (T := TX15) (N := 59) hx hb hts it_15 hown hK hP hL_h0 hF_107 rfl 0 (by decide) (hts _ kt_1006) (fun _ h9 => h9) rfl dX15_sender_47 ?_
        refine lv_iload_n hx hb dX15_sender_50 rfl (lv_at hl 0 rfl) ?_
        refine lv_iconst (v := 1) hx hb dX15_sender_51 (by decide) ?_
        refine lv_iadd hx hb dX15_sender_52 ?_
        refine lv_topi (fun x_113 ex_113 => ?_)
        obtain rfl : x_113 = (nI (j + 1)) := ex_113.trans (nI_add j 1)
        refine lv_iload_n hx hb dX15_sender_53 rfl (lv_at hl 1 rfl) ?_
        obtain ⟨hq_114, hq_115⟩ := hW.octs hi_79 ht_80
        have hFc := pg_free hD hS hA
        refine va_calli (va_runS (As := [.ref ta, .int (nI (j + 1)), .int (nI zt)]) (rest := []) ⟨hx, hb, hml, hown, hts⟩ (s_X14_isName_e l dC dI cs ty gm L H.size F_81 ta (ρ + 1) 3000 (j + 1) zt gt hW hi_79 ht_80 hF_85 (by first | omega | assumption | exact Or.inl rfl) (by first | omega | assumption | exact Or.inl rfl)) ⟨callB_of 3 hts (gi kt_689) rfl rfl rfl (hts _ kt_676) (hts _ kt_848) (by decide +kernel) ⟨Nat.le_of_ble_eq_true rfl, Nat.le_of_ble_eq_true rfl⟩, (hts _ kt_691)⟩ ⟨fun a U g mk q => ⟨q.1, PTm.calling q.2⟩, fun U hU hWm => ⟨rfl, PTm.mk hU hWm hP hK hD hE hO⟩⟩ rfl rfl hl.1 rfl (lv_room (Nat.le_of_ble_eq_true rfl)) dX15_sender_54 ⟨by show _ + 0 ≤ 0; omega, by show _ + 0 ≤ 0; omega⟩) hS (fun q _ h => hFc q h) hFc (fun r_116 u t H1 locs ht hvm hw hB hz1 hk1 hS => ?_)
        obtain ⟨F_117, hB1⟩ := hB
        obtain rfl : F_81 = F_117 := (funext (fun a => hB1.2.2.2 a List.not_mem_nil)).symm
        obtain ⟨hP, hD, hO, hR⟩ := QTm.back hB1 ht hFc hR (fun q h => absurd h List.not_mem_nil)
        generalize H1 = H at hP hS ⊢
        have hw : r_116 = (if NM gt (j + 1) zt = true then 1 else 0) := hw
        have hw_118 := hw
        refine lv_if_ne (tgt := 62) hx hb dX15_sender_57 (by decide) (fun c_119 => ?_) (fun c_119 => ?_)
        ·
          have hnm := ifb1 hw_118 c_119
          have hn60 := nm_60 hnm
          refine lv_iconst (v := 0) hx hb dX15_sender_62 (by decide) ?_
          refine lv_istore (lv' := [(4, .int 0), (3, .int (nI j)), (2, .int (nI zt)), (0, .ref h0), (1, .int x1)]) hx hb dX15_sender_63 hl (by decide) rfl (fun ls hl => ?_)
          refine W.widen (k := 0) (n := 0) (by omega) (by omega) ?_
          have hF_121 : F ta = .inl (cs 17, 3000, .inl gt) := (hR ta (by rw [ht_80]; simp)).symm.trans hF_85
          refine pl_loopm (σ := Nat) A (dC, dI) cs ty gm L [ρ, ρ + 5, ρ + 32] F 65 6 (fun i => [(4, .int (nI i)), (3, .int (nI j)), (2, .int (nI zt)), (0, .ref h0), (1, .int x1)]) (fun i => []) (fun i FF => (i ≤ j ∧ ∀ q, q < i → LOC (gt q) = true) ∧ FR ty0 [ρ] F FF) (fun i => j - i) ?_ 0 F_81 (⟨⟨by omega, fun q hq => absurd hq (Nat.not_lt_zero _)⟩, hRu⟩) hO hR _ _ hP hD hS ls (lv_sub hl [0, 1, 2, 3, 4] rfl)
          rintro i F_120 hv_122 hO hR ih_123 H locs hP hD hS ls hl
          have hl : lv_has ls 6 [(4, .int (nI i)), (3, .int (nI j)), (2, .int (nI zt)), (0, .ref h0), (1, .int x1)] := hl
          have hv_122 : (i ≤ j ∧ ∀ q, q < i → LOC (gt q) = true) ∧ FR ty0 [ρ] F F_120 := hv_122
          refine W.eq (g2 := F0 m 65 ls []) rfl ?_
          have hF_124 : F_120 ta = .inl (cs 17, 3000, .inl gt) := (hR ta (by rw [ht_80]; simp)).trans hF_121
          obtain ⟨⟨hw1, hw2⟩, hRu⟩ := id hv_122
          refine lv_iload hx hb dX15_sender_65 (lv_at hl 0 rfl) ?_
          refine lv_iload_n hx hb dX15_sender_67 rfl (lv_at hl 1 rfl) ?_
          refine lv_icmp_ge (tgt := 132) hx hb dX15_sender_68 (by decide) (fun c_125 => ?_) (fun c_125 => ?_)
          ·
            have hi_126 : j ≤ i := leN (N := j) c_125
            have htyA := hty
            have hlcl : LCL gt j := ⟨hin.1, hin.2, fun q hq => hw2 q (by omega)⟩
            have hcd := snd_cd hfs hlcl hnm
            have hnl := NM_len hnm
            refine lv_aload_n hx hb dX15_sender_132 rfl (lv_at hl 3 rfl) ?_
            obtain ⟨v14_127, v15_128, v17_129, v18_130, v19_131, v20_132, v21_133, v22_134, v33_135, v52_136, v53_137, v54_138, hF_139, hq_140, hq_141, hq_142, hq_143, hq_144⟩ := hO.mod hL_h0 hT_h0
            refine pg_get (ci := 15) (v := .ref lc) (C := RX15) (T := TX15) (N := 59) hx hb hts it_15 hown hK hP hL_h0 hF_139 rfl 9 (by decide) (hts _ kt_1123) (fun _ h9 => h9) rfl dX15_sender_133 ?_
            refine lv_aload_n hx hb dX15_sender_136 rfl (lv_at hl 3 rfl) ?_
            refine pg_get (ci := 15) (v := .ref ta) (C := RX15) (T := TX15) (N := 59) hx hb hts it_15 hown hK hP hL_h0 hF_139 rfl 0 (by decide) (hts _ kt_1006) (fun _ h9 => h9) rfl dX15_sender_137 ?_
            refine lv_iconst (v := 0) hx hb dX15_sender_140 (by decide) ?_
            refine lv_iload_n hx hb dX15_sender_141 rfl (lv_at hl 1 rfl) ?_
            refine W.eq (g2 := F0 m 142 ls [.int (nI j), .int (nI 0), .ref ta, .ref lc]) rfl ?_
            obtain ⟨hi_145, r_50, ht_146⟩ := hW.f_lc hL_h0 hT_h0
            obtain ⟨hi_147, ht_148, hq_149⟩ := hW.txt hi_145 ht_146
            have hFc := pg_free hD hS hA
            obtain ⟨z_150, hF_151, hq_152⟩ := hO.txt hi_145 ht_146
            refine va_callv (va_runV (As := [.ref ta, .int (nI 0), .int (nI j)]) (rest := []) ⟨hx, hb, hml, hown, hts⟩ (s_X14_set_e l dC dI cs ty gm L H.size F_120 lc (ρ + 5) r_50 30 ta (ρ + 1) 3000 0 j gt hW hi_145 ht_146 hi_79 ht_80 hF_124 (Nat.zero_le _) (by omega) (by omega)) ⟨callB_of 3 hts (gi kt_941) rfl rfl rfl (hts _ kt_676) (hts _ kt_942) (by decide +kernel) ⟨Nat.le_of_ble_eq_true rfl, Nat.le_of_ble_eq_true rfl⟩, (hts _ kt_943), (hts _ kt_944)⟩ ⟨fun a U g mk q => ⟨q.1, PTm.calling q.2⟩, pg_recv hK hP hi_145 hF_151 (q := (RX14, TX14, 2)) rfl, fun U hU hWm => ⟨rfl, PTm.mk hU hWm hP hK hD hE hO⟩⟩ rfl rfl hl.1 rfl (lv_room (Nat.le_of_ble_eq_true rfl)) dX15_sender_142 ⟨by show _ + 0 ≤ 0; omega, by show _ + 0 ≤ 0; omega⟩) hS (fun q _ h => hFc q h) hFc (fun u t H1 locs ht hvm hw hB hz1 hk1 hS => ?_)
            obtain ⟨F_154, fc_155, hB1, hq_156, hq_157, hq_158⟩ := hB
            obtain ⟨hP, hD, hO, hR⟩ := QTm.back hB1 ht hFc hR (fun q h => by simp only [List.mem_cons, List.not_mem_nil, or_false] at h ⊢; omega)
            have hF_159 : F_154 ta = .inl (cs 17, 3000, .inl gt) := (hB1.2.2.2 ta (by rw [ht_80]; simp)).trans hF_124
            have hF_160 : F_154 h0 = .inr (15, (.ref ta) :: (.int (nI 0)) :: (.int (nI zo)) :: (.int (nI ze)) :: (.ref ou) :: (.ref so) :: (.ref ad) :: (.ref na) :: (.ref va) :: (.ref lc) :: (.ref dm) :: (.int (nI fm)) :: (.int (nI sn)) :: (.ref tg) :: (.int v14_127) :: (.int v15_128) :: (.ref pe) :: (.int v17_129) :: (.int v18_130) :: (.int v19_131) :: (.int v20_132) :: (.int v21_133) :: (.int v22_134) :: (.ref ml) :: (.ref bg) :: (.ref co) :: (.ref sp) :: (.ref nb0) :: (.ref nb1) :: (.ref nb2) :: (.int (nI nf)) :: (.int (nI bd)) :: (.int (nI mm)) :: (.int v33_135) :: (.ref pl) :: (.ref se) :: (.ref ke) :: (.ref wi) :: (.ref hs) :: (.ref mo) :: (.ref po) :: (.ref nu) :: (.ref pr) :: (.ref sq) :: (.ref xa) :: (.ref sa) :: (.ref n64) :: (.ref m64) :: (.ref ex) :: (.ref wh) :: (.ref sd) :: (.ref tk) :: (.int v52_136) :: (.int v53_137) :: (.int v54_138) :: (.ref hd) :: (.ref ak) :: (.ref ho) :: (.ref ot) :: []) := (hB1.2.2.2 h0 (by rw [hT_h0]; simp)).trans hF_139
            generalize H1 = H at hP hS ⊢
            refine lv_aload_n hx hb dX15_sender_145 rfl (lv_at hl 3 rfl) ?_
            refine pg_get (ci := 15) (v := .ref dm) (C := RX15) (T := TX15) (N := 59) hx hb hts it_15 hown hK hP hL_h0 hF_160 rfl 10 (by decide) (hts _ kt_1124) (fun _ h9 => h9) rfl dX15_sender_146 ?_
            refine lv_aload_n hx hb dX15_sender_149 rfl (lv_at hl 3 rfl) ?_
            refine pg_get (ci := 15) (v := .ref ta) (C := RX15) (T := TX15) (N := 59) hx hb hts it_15 hown hK hP hL_h0 hF_160 rfl 0 (by decide) (hts _ kt_1006) (fun _ h9 => h9) rfl dX15_sender_150 ?_
            refine lv_iload_n hx hb dX15_sender_153 rfl (lv_at hl 1 rfl) ?_
            refine lv_iconst (v := 1) hx hb dX15_sender_154 (by decide) ?_
            refine lv_iadd hx hb dX15_sender_155 ?_
            refine lv_topi (fun x_161 ex_161 => ?_)
            obtain rfl : x_161 = (nI (j + 1)) := ex_161.trans (nI_add j 1)
            refine lv_iload_n hx hb dX15_sender_156 rfl (lv_at hl 2 rfl) ?_
            obtain ⟨hi_162, r_51, ht_163⟩ := hW.f_dm hL_h0 hT_h0
            obtain ⟨hi_164, ht_165, hq_166⟩ := hW.txt hi_162 ht_163
            have hFc := pg_free hD hS hA
            obtain ⟨z_167, hF_168, hq_169⟩ := hO.txt hi_162 ht_163
            refine va_callv (va_runV (As := [.ref ta, .int (nI (j + 1)), .int (nI zt)]) (rest := []) ⟨hx, hb, hml, hown, hts⟩ (s_X14_set_e l dC dI cs ty gm L H.size F_154 dm (ρ + 32) r_51 60 ta (ρ + 1) 3000 (j + 1) zt gt hW hi_162 ht_163 hi_79 ht_80 hF_159 (by omega) (by omega) (by omega)) ⟨callB_of 3 hts (gi kt_941) rfl rfl rfl (hts _ kt_676) (hts _ kt_942) (by decide +kernel) ⟨Nat.le_of_ble_eq_true rfl, Nat.le_of_ble_eq_true rfl⟩, (hts _ kt_943), (hts _ kt_944)⟩ ⟨fun a U g mk q => ⟨q.1, PTm.calling q.2⟩, pg_recv hK hP hi_162 hF_168 (q := (RX14, TX14, 2)) rfl, fun U hU hWm => ⟨rfl, PTm.mk hU hWm hP hK hD hE hO⟩⟩ rfl rfl hl.1 rfl (lv_room (Nat.le_of_ble_eq_true rfl)) dX15_sender_157 ⟨by show _ + 0 ≤ 0; omega, by show _ + 0 ≤ 0; omega⟩) hS (fun q _ h => hFc q h) hFc (fun u t H1 locs ht hvm hw hB hz1 hk1 hS => ?_)
            obtain ⟨F_171, fc_172, hB1, hq_173, hq_174, hq_175⟩ := hB
            obtain ⟨hP, hD, hO, hR⟩ := QTm.back hB1 ht hFc hR (fun q h => by simp only [List.mem_cons, List.not_mem_nil, or_false] at h ⊢; omega)
            have hF_176 : F_171 ta = .inl (cs 17, 3000, .inl gt) := (hB1.2.2.2 ta (by rw [ht_80]; simp)).trans hF_159
            have hF_177 : F_171 h0 = .inr (15, (.ref ta) :: (.int (nI 0)) :: (.int (nI zo)) :: (.int (nI ze)) :: (.ref ou) :: (.ref so) :: (.ref ad) :: (.ref na) :: (.ref va) :: (.ref lc) :: (.ref dm) :: (.int (nI fm)) :: (.int (nI sn)) :: (.ref tg) :: (.int v14_127) :: (.int v15_128) :: (.ref pe) :: (.int v17_129) :: (.int v18_130) :: (.int v19_131) :: (.int v20_132) :: (.int v21_133) :: (.int v22_134) :: (.ref ml) :: (.ref bg) :: (.ref co) :: (.ref sp) :: (.ref nb0) :: (.ref nb1) :: (.ref nb2) :: (.int (nI nf)) :: (.int (nI bd)) :: (.int (nI mm)) :: (.int v33_135) :: (.ref pl) :: (.ref se) :: (.ref ke) :: (.ref wi) :: (.ref hs) :: (.ref mo) :: (.ref po) :: (.ref nu) :: (.ref pr) :: (.ref sq) :: (.ref xa) :: (.ref sa) :: (.ref n64) :: (.ref m64) :: (.ref ex) :: (.ref wh) :: (.ref sd) :: (.ref tk) :: (.int v52_136) :: (.int v53_137) :: (.int v54_138) :: (.ref hd) :: (.ref ak) :: (.ref ho) :: (.ref ot) :: []) := (hB1.2.2.2 h0 (by rw [hT_h0]; simp)).trans hF_160
            have hF_178 : F_171 lc = .inr (14, [.ref r_50, .int (nI (j - 0))]) := (hB1.2.2.2 lc (by rw [ht_146]; simp)).trans hq_156
            have hF_179 : F_171 r_50 = .inl (cs 17, 30, .inl fc_155) := (hB1.2.2.2 r_50 (by rw [ht_148]; simp)).trans hq_157
            generalize H1 = H at hP hS ⊢
            refine lv_aload_n hx hb dX15_sender_160 rfl (lv_at hl 3 rfl) ?_
            refine lv_iload_n hx hb dX15_sender_161 rfl (lv_at hl 4 rfl) ?_
            refine lv_topi (fun x9 ex9 => ?_)
            obtain rfl : x9 = nI (xN x1) := ex9.trans (xN_e x1).symm
            refine pg_put (ci := 15) (v := .int (nI (xN x1))) (ty := .int) (C := RX15) (T := TX15) (N := 59) hx hb hts it_15 tyX15 tyX15_ok nmX15 hown hK hP hD hS hL_h0 hF_177 rfl 11 (by decide) (hts _ kt_729) (fun _ h9 => h9) rfl (by decide +kernel) (rfl) (rfl) (Nat.le_of_ble_eq_true rfl) dX15_sender_162 (fun H locs hP hD hS => ?_)
            obtain ⟨F_180, he_181, hP, hD, hR⟩ : ∃ G, G = va_up F_171 h0 (.inr (15, (.ref ta) :: (.int (nI 0)) :: (.int (nI zo)) :: (.int (nI ze)) :: (.ref ou) :: (.ref so) :: (.ref ad) :: (.ref na) :: (.ref va) :: (.ref lc) :: (.ref dm) :: (.int (nI (xN x1))) :: (.int (nI sn)) :: (.ref tg) :: (.int v14_127) :: (.int v15_128) :: (.ref pe) :: (.int v17_129) :: (.int v18_130) :: (.int v19_131) :: (.int v20_132) :: (.int v21_133) :: (.int v22_134) :: (.ref ml) :: (.ref bg) :: (.ref co) :: (.ref sp) :: (.ref nb0) :: (.ref nb1) :: (.ref nb2) :: (.int (nI nf)) :: (.int (nI bd)) :: (.int (nI mm)) :: (.int v33_135) :: (.ref pl) :: (.ref se) :: (.ref ke) :: (.ref wi) :: (.ref hs) :: (.ref mo) :: (.ref po) :: (.ref nu) :: (.ref pr) :: (.ref sq) :: (.ref xa) :: (.ref sa) :: (.ref n64) :: (.ref m64) :: (.ref ex) :: (.ref wh) :: (.ref sd) :: (.ref tk) :: (.int v52_136) :: (.int v53_137) :: (.int v54_138) :: (.ref hd) :: (.ref ak) :: (.ref ho) :: (.ref ot) :: [])) ∧ va_P (dC, dI) vwCl (va_pl L G) H ∧ va_D A (va_pl L G) ∧ FR ty [ρ, ρ + 5, ρ + 32] F G := ⟨_, rfl, hP, hD, hR.up hT_h0 (by simp)⟩
            have hF_182 : F_180 ta = .inl (cs 17, 3000, .inl gt) := by rw [he_181, up_ne (ne_ty ht_80 hT_h0 (by simp))]; exact hF_176
            have hF_183 : F_180 lc = .inr (14, [.ref r_50, .int (nI (j - 0))]) := by rw [he_181, up_ne (ne_ty ht_146 hT_h0 (by simp))]; exact hF_178
            have hF_184 : F_180 r_50 = .inl (cs 17, 30, .inl fc_155) := by rw [he_181, up_ne (ne_ty ht_148 hT_h0 (by simp))]; exact hF_179
            have hF_185 : F_180 dm = .inr (14, [.ref r_51, .int (nI (zt - (j + 1)))]) := by rw [he_181, up_ne (ne_ty ht_163 hT_h0 (by simp))]; exact hq_173
            have hF_186 : F_180 r_51 = .inl (cs 17, 60, .inl fc_172) := by rw [he_181, up_ne (ne_ty ht_165 hT_h0 (by simp))]; exact hq_174
            have hTo := hT_h0
            obtain ⟨ty, hty, hT_h0, hW, hO, hR⟩ : ∃ t9 : TyM, t9 = rtf ty h0 (15, ρ, [ta, ou, so, ad, na, va, lc, dm, tg, pe, ml, bg, co, sp, nb0, nb1, nb2, pl, se, ke, wi, hs, mo, po, nu, pr, sq, xa, sa, n64, m64, ex, wh, sd, tk, hd, ak, ho, ot, sx, s0, s1, s2, nf, bd, mm, zo, (xN x1), sn, hg, gc, gv, ze, 0]) ∧ t9 h0 = (15, ρ, [ta, ou, so, ad, na, va, lc, dm, tg, pe, ml, bg, co, sp, nb0, nb1, nb2, pl, se, ke, wi, hs, mo, po, nu, pr, sq, xa, sa, n64, m64, ex, wh, sd, tk, hd, ak, ho, ot, sx, s0, s1, s2, nf, bd, mm, zo, (xN x1), sn, hg, gc, gv, ze, 0]) ∧ WTm t9 gm L ∧ OKm cs t9 gm L F_180 ∧ FR t9 [ρ, ρ + 5, ρ + 32] F F_180 := ⟨_, rfl, rtf_self, hW.fm hL_h0 hT_h0, (by rw [he_181]; exact OKm.retype hO hT_h0 (shm.mod rtf_self ⟨v14_127, v15_128, v17_129, v18_130, v19_131, v20_132, v21_133, v22_134, v33_135, v52_136, v53_137, v54_138, rfl, (by first | omega | assumption | exact Or.inl rfl | exact Or.inr rfl), (by first | omega | assumption | exact Or.inl rfl | exact Or.inr rfl), (by first | omega | assumption | exact Or.inl rfl | exact Or.inr rfl), (by first | omega | assumption | exact Or.inl rfl | exact Or.inr rfl), (by first | omega | assumption | exact Or.inl rfl | exact Or.inr rfl)⟩)), FR.retype hT_h0 hR⟩
            have hF_187 : F_180 h0 = .inr (15, (.ref ta) :: (.int (nI 0)) :: (.int (nI zo)) :: (.int (nI ze)) :: (.ref ou) :: (.ref so) :: (.ref ad) :: (.ref na) :: (.ref va) :: (.ref lc) :: (.ref dm) :: (.int (nI (xN x1))) :: (.int (nI sn)) :: (.ref tg) :: (.int v14_127) :: (.int v15_128) :: (.ref pe) :: (.int v17_129) :: (.int v18_130) :: (.int v19_131) :: (.int v20_132) :: (.int v21_133) :: (.int v22_134) :: (.ref ml) :: (.ref bg) :: (.ref co) :: (.ref sp) :: (.ref nb0) :: (.ref nb1) :: (.ref nb2) :: (.int (nI nf)) :: (.int (nI bd)) :: (.int (nI mm)) :: (.int v33_135) :: (.ref pl) :: (.ref se) :: (.ref ke) :: (.ref wi) :: (.ref hs) :: (.ref mo) :: (.ref po) :: (.ref nu) :: (.ref pr) :: (.ref sq) :: (.ref xa) :: (.ref sa) :: (.ref n64) :: (.ref m64) :: (.ref ex) :: (.ref wh) :: (.ref sd) :: (.ref tk) :: (.int v52_136) :: (.int v53_137) :: (.int v54_138) :: (.ref hd) :: (.ref ak) :: (.ref ho) :: (.ref ot) :: []) := by rw [he_181]; exact up_self
            obtain ⟨hq_210, hq_211, hq_212, hq_213, hq_214, hgO, hgA, hgB, hq_215⟩ := hW.sc hL_h0 hT_h0
            have hT2_lc : ty lc = (14, ρ + 5, [r_50, 30]) := by rw [hty]; exact rtf_tr hTo (by decide) ht_146
            have hT2_r_50 : ty r_50 = (17, ρ + 5, [30]) := by rw [hty]; exact rtf_tr hTo (by decide) ht_148
            have hT2_dm : ty dm = (14, ρ + 32, [r_51, 60]) := by rw [hty]; exact rtf_tr hTo (by decide) ht_163
            have hT2_r_51 : ty r_51 = (17, ρ + 32, [60]) := by rw [hty]; exact rtf_tr hTo (by decide) ht_165
            have htyB := hty
            refine lv_aload_n hx hb dX15_sender_165 rfl (lv_at hl 3 rfl) ?_
            refine lv_iconst (v := 1) hx hb dX15_sender_166 (by decide) ?_
            refine pg_put (ci := 15) (v := .int 1) (ty := .boolean) (C := RX15) (T := TX15) (N := 59) hx hb hts it_15 tyX15 tyX15_ok nmX15 hown hK hP hD hS hL_h0 hF_187 rfl 12 (by decide) (hts _ kt_1187) (fun _ h9 => h9) rfl (by decide +kernel) (rfl) (rfl) (Nat.le_of_ble_eq_true rfl) dX15_sender_167 (fun H locs hP hD hS => ?_)
            obtain ⟨F_216, he_217, hP, hD, hR⟩ : ∃ G, G = va_up F_180 h0 (.inr (15, (.ref ta) :: (.int (nI 0)) :: (.int (nI zo)) :: (.int (nI ze)) :: (.ref ou) :: (.ref so) :: (.ref ad) :: (.ref na) :: (.ref va) :: (.ref lc) :: (.ref dm) :: (.int (nI (xN x1))) :: (.int 1) :: (.ref tg) :: (.int v14_127) :: (.int v15_128) :: (.ref pe) :: (.int v17_129) :: (.int v18_130) :: (.int v19_131) :: (.int v20_132) :: (.int v21_133) :: (.int v22_134) :: (.ref ml) :: (.ref bg) :: (.ref co) :: (.ref sp) :: (.ref nb0) :: (.ref nb1) :: (.ref nb2) :: (.int (nI nf)) :: (.int (nI bd)) :: (.int (nI mm)) :: (.int v33_135) :: (.ref pl) :: (.ref se) :: (.ref ke) :: (.ref wi) :: (.ref hs) :: (.ref mo) :: (.ref po) :: (.ref nu) :: (.ref pr) :: (.ref sq) :: (.ref xa) :: (.ref sa) :: (.ref n64) :: (.ref m64) :: (.ref ex) :: (.ref wh) :: (.ref sd) :: (.ref tk) :: (.int v52_136) :: (.int v53_137) :: (.int v54_138) :: (.ref hd) :: (.ref ak) :: (.ref ho) :: (.ref ot) :: [])) ∧ va_P (dC, dI) vwCl (va_pl L G) H ∧ va_D A (va_pl L G) ∧ FR ty [ρ, ρ + 5, ρ + 32] F G := ⟨_, rfl, hP, hD, hR.up hT_h0 (by simp)⟩
            obtain ⟨hi_219, ht_220⟩ := hW.f_ta hL_h0 hT_h0
            have hF_218 : F_216 ta = .inl (cs 17, 3000, .inl gt) := by rw [he_217, up_ne (ne_ty ht_220 hT_h0 (by simp))]; exact hF_182
            have hF_221 : F_216 lc = .inr (14, [.ref r_50, .int (nI (j - 0))]) := by rw [he_217, up_ne (ne_ty hT2_lc hT_h0 (by simp))]; exact hF_183
            have hF_222 : F_216 r_50 = .inl (cs 17, 30, .inl fc_155) := by rw [he_217, up_ne (ne_ty hT2_r_50 hT_h0 (by simp))]; exact hF_184
            have hF_223 : F_216 dm = .inr (14, [.ref r_51, .int (nI (zt - (j + 1)))]) := by rw [he_217, up_ne (ne_ty hT2_dm hT_h0 (by simp))]; exact hF_185
            have hF_224 : F_216 r_51 = .inl (cs 17, 60, .inl fc_172) := by rw [he_217, up_ne (ne_ty hT2_r_51 hT_h0 (by simp))]; exact hF_186
            have hTo := hT_h0
            obtain ⟨ty, hty, hT_h0, hW, hO, hR⟩ : ∃ t9 : TyM, t9 = rtf ty h0 (15, ρ, [ta, ou, so, ad, na, va, lc, dm, tg, pe, ml, bg, co, sp, nb0, nb1, nb2, pl, se, ke, wi, hs, mo, po, nu, pr, sq, xa, sa, n64, m64, ex, wh, sd, tk, hd, ak, ho, ot, sx, s0, s1, s2, nf, bd, mm, zo, (xN x1), 1, hg, gc, gv, ze, 0]) ∧ t9 h0 = (15, ρ, [ta, ou, so, ad, na, va, lc, dm, tg, pe, ml, bg, co, sp, nb0, nb1, nb2, pl, se, ke, wi, hs, mo, po, nu, pr, sq, xa, sa, n64, m64, ex, wh, sd, tk, hd, ak, ho, ot, sx, s0, s1, s2, nf, bd, mm, zo, (xN x1), 1, hg, gc, gv, ze, 0]) ∧ WTm t9 gm L ∧ OKm cs t9 gm L F_216 ∧ FR t9 [ρ, ρ + 5, ρ + 32] F F_216 := ⟨_, rfl, rtf_self, hW.sn hL_h0 hT_h0 (by omega), (by rw [he_217]; exact OKm.retype hO hT_h0 (shm.mod rtf_self ⟨v14_127, v15_128, v17_129, v18_130, v19_131, v20_132, v21_133, v22_134, v33_135, v52_136, v53_137, v54_138, rfl, (by first | omega | assumption | exact Or.inl rfl | exact Or.inr rfl), (by first | omega | assumption | exact Or.inl rfl | exact Or.inr rfl), (by first | omega | assumption | exact Or.inl rfl | exact Or.inr rfl), (by first | omega | assumption | exact Or.inl rfl | exact Or.inr rfl), (by first | omega | assumption | exact Or.inl rfl | exact Or.inr rfl)⟩)), FR.retype hT_h0 hR⟩
            have hF_225 : F_216 h0 = .inr (15, (.ref ta) :: (.int (nI 0)) :: (.int (nI zo)) :: (.int (nI ze)) :: (.ref ou) :: (.ref so) :: (.ref ad) :: (.ref na) :: (.ref va) :: (.ref lc) :: (.ref dm) :: (.int (nI (xN x1))) :: (.int 1) :: (.ref tg) :: (.int v14_127) :: (.int v15_128) :: (.ref pe) :: (.int v17_129) :: (.int v18_130) :: (.int v19_131) :: (.int v20_132) :: (.int v21_133) :: (.int v22_134) :: (.ref ml) :: (.ref bg) :: (.ref co) :: (.ref sp) :: (.ref nb0) :: (.ref nb1) :: (.ref nb2) :: (.int (nI nf)) :: (.int (nI bd)) :: (.int (nI mm)) :: (.int v33_135) :: (.ref pl) :: (.ref se) :: (.ref ke) :: (.ref wi) :: (.ref hs) :: (.ref mo) :: (.ref po) :: (.ref nu) :: (.ref pr) :: (.ref sq) :: (.ref xa) :: (.ref sa) :: (.ref n64) :: (.ref m64) :: (.ref ex) :: (.ref wh) :: (.ref sd) :: (.ref tk) :: (.int v52_136) :: (.int v53_137) :: (.int v54_138) :: (.ref hd) :: (.ref ak) :: (.ref ho) :: (.ref ot) :: []) := by rw [he_217]; exact up_self
            obtain ⟨hq_248, hq_249, hq_250, hq_251, hq_252, hgO, hgA, hgB, hq_253⟩ := hW.sc hL_h0 hT_h0
            have hT2_lc : ty lc = (14, ρ + 5, [r_50, 30]) := by rw [hty]; exact rtf_tr hTo (by decide) hT2_lc
            have hT2_r_50 : ty r_50 = (17, ρ + 5, [30]) := by rw [hty]; exact rtf_tr hTo (by decide) hT2_r_50
            have hT2_dm : ty dm = (14, ρ + 32, [r_51, 60]) := by rw [hty]; exact rtf_tr hTo (by decide) hT2_dm
            have hT2_r_51 : ty r_51 = (17, ρ + 32, [60]) := by rw [hty]; exact rtf_tr hTo (by decide) hT2_r_51
            refine lv_iconst (v := 0) hx hb dX15_sender_170 (by decide) ?_
            refine W.widen (k := 0) (n := 0) (by omega) (by omega) ?_
            exact W.iret (v := 0) hx hb hr (fun t ht hWm => ⟨⟨0, (some j), rfl, (Or.inl ⟨rfl, j, hfs, hlcl, hnm, rfl⟩), ⟨F_216, ty, (by rw [hty, htyB, htyA, rtf_rtf2, rtf_rtf2]; rfl), QTm.mk ht hP hD hO hR, hW, (Or.inr ⟨j, rfl, ⟨r_50, _, _, hF_221, hF_222, tp_src (a := 0) (k := j) (fun q hq => by rw [Nat.zero_add]; exact hcd q (by omega)) hq_158, by omega⟩, ⟨r_51, _, _, hF_223, hF_224, tp_src (a := j + 1) (k := zt - (j + 1)) (fun q hq => hcd _ (by omega)) hq_175, by omega⟩⟩)⟩⟩, hS.F ht⟩) hS.2.2 dX15_sender_171
          ·
            have hi_254 : i < j := ltN (N := j) c_125
            have hij : i < j := by omega
            refine lv_aload_n hx hb dX15_sender_71 rfl (lv_at hl 3 rfl) ?_
            obtain ⟨v14_255, v15_256, v17_257, v18_258, v19_259, v20_260, v21_261, v22_262, v33_263, v52_264, v53_265, v54_266, hF_267, hq_268, hq_269, hq_270, hq_271, hq_272⟩ := hO.mod hL_h0 hT_h0
            refine pg_get (ci := 15) (v := .ref ta) (C := RX15) (T := TX15) (N := 59) hx hb hts it_15 hown hK hP hL_h0 hF_267 rfl 0 (by decide) (hts _ kt_1006) (fun _ h9 => h9) rfl dX15_sender_72 ?_
            refine lv_iload hx hb dX15_sender_75 (lv_at hl 0 rfl) ?_
            refine pg_bald hx hb hK hP hi_79 1 hF_124 rfl (vp_in_nI (by omega) (by omega)) dX15_sender_77 ?_
            refine lv_topi (fun x_273 ex_273 => ?_)
            obtain rfl : x_273 = gt i := ex_273.trans (congrArg gt (show ((nI i) : Int32).toNatClampNeg = i from nI_clamp (by omega)))
            refine lv_istore (lv' := [(5, .int (gt i)), (4, .int (nI i)), (3, .int (nI j)), (2, .int (nI zt)), (0, .ref h0), (1, .int x1)]) hx hb dX15_sender_78 hl (by decide) rfl (fun ls hl => ?_)
            have hF_276 : F ta = .inl (cs 17, 3000, .inl gt) := (hR ta (by rw [ht_80]; simp)).symm.trans hF_124
            refine W.widen (k := 0) (n := 0) (by omega) (by omega) ?_
            refine pl_cutm (σ := Unit) A (dC, dI) cs ty gm L [ρ, ρ + 5, ρ + 32] F 126 6 (fun u0 => [(4, .int (nI i)), (3, .int (nI j)), (2, .int (nI zt)), (0, .ref h0), (1, .int x1)]) (fun u0 => []) (fun u0 FF => (LOC (gt i) = true) ∧ FR ty0 [ρ] F FF) ?_ (fun jn_274 => ?_)
            ·
              rintro u0 F_275 hv_277 hO hR H locs hP hD hS ls hl
              have hl : lv_has ls 6 [(4, .int (nI i)), (3, .int (nI j)), (2, .int (nI zt)), (0, .ref h0), (1, .int x1)] := hl
              have hv_277 : (LOC (gt i) = true) ∧ FR ty0 [ρ] F F_275 := hv_277
              refine W.eq (g2 := F0 m 126 ls []) rfl ?_
              have hF_278 : F_275 ta = .inl (cs 17, 3000, .inl gt) := (hR ta (by rw [ht_80]; simp)).trans hF_276
              obtain ⟨hok, hRu⟩ := hv_277
              refine lv_iinc (v := (nI (i + 1))) (lv' := [(4, .int (nI (i + 1))), (3, .int (nI j)), (2, .int (nI zt)), (0, .ref h0), (1, .int x1)]) hx hb dX15_sender_126 hl (k := 0) rfl (nI_1 _) (by decide) rfl (fun ls hl => ?_)
              refine lv_goto (tgt := 65) hx hb dX15_sender_129 (by decide) ?_
              refine W.widen (k := 0) (n := 0) (by omega) (by omega) ?_
              exact ih_123 (i + 1) F_275 (⟨⟨by omega, fun q hq => by rcases Nat.lt_or_ge q i with w | w; exact hw2 q w; rw [show q = i by omega]; exact hok⟩, hRu⟩) (by show j - (i + 1) < j - i; omega) hO hR _ _ hP hD hS ls (lv_sub hl [0, 1, 2, 3, 4] rfl)
            ·
              refine lv_iload hx hb dX15_sender_80 (lv_at hl 0 rfl) ?_
              have hFc := pg_free hD hS hA
              refine va_calli (va_runS (As := [.int (gt i)]) (rest := []) ⟨hx, hb, hml, hown, hts⟩ (s_X15_isSmall_e l dC dI cs ty gm L H.size F_120 (gt i) hW ) ⟨callB_of 1 hts (gi kt_668) rfl rfl rfl (hts _ kt_669) (hts _ kt_670) (by decide +kernel) ⟨Nat.le_of_ble_eq_true rfl, Nat.le_of_ble_eq_true rfl⟩, (hts _ kt_671)⟩ ⟨fun a U g mk q => ⟨q.1, PTm.calling q.2⟩, fun U hU hWm => ⟨rfl, PTm.mk hU hWm hP hK hD hE hO⟩⟩ rfl rfl hl.1 rfl (lv_room (Nat.le_of_ble_eq_true rfl)) dX15_sender_82 ⟨by show _ + 0 ≤ 0; omega, by show _ + 0 ≤ 0; omega⟩) hS (fun q _ h => hFc q h) hFc (fun r_279 u t H1 locs ht hvm hw hB hz1 hk1 hS => ?_)
              obtain ⟨F_280, hB1⟩ := hB
              obtain rfl : F_120 = F_280 := (funext (fun a => hB1.2.2.2 a List.not_mem_nil)).symm
              obtain ⟨hP, hD, hO, hR⟩ := QTm.back hB1 ht hFc hR (fun q h => absurd h List.not_mem_nil)
              generalize H1 = H at hP hS ⊢
              have hw : r_279 = (if 97 ≤ (gt i) ∧ (gt i) ≤ 122 then 1 else 0) := hw
              have hw_281 := hw
              refine lv_if_ne (tgt := 126) hx hb dX15_sender_85 (by decide) (fun c_282 => ?_) (fun c_282 => ?_)
              ·
                refine W.widen (k := 0) (n := 0) (by omega) (by omega) ?_
                exact jn_274 () F_120 (⟨loc_s (ifb1 hw_281 c_282), hRu⟩) hO hR _ _ hP hD hS ls (lv_sub hl [1, 2, 3, 4, 5] rfl)
              ·
                refine lv_iload hx hb dX15_sender_88 (lv_at hl 0 rfl) ?_
                have hFc := pg_free hD hS hA
                refine va_calli (va_runS (As := [.int (gt i)]) (rest := []) ⟨hx, hb, hml, hown, hts⟩ (s_X15_isDigit_e l dC dI cs ty gm L H.size F_120 (gt i) hW ) ⟨callB_of 1 hts (gi kt_687) rfl rfl rfl (hts _ kt_669) (hts _ kt_707) (by decide +kernel) ⟨Nat.le_of_ble_eq_true rfl, Nat.le_of_ble_eq_true rfl⟩, (hts _ kt_688)⟩ ⟨fun a U g mk q => ⟨q.1, PTm.calling q.2⟩, fun U hU hWm => ⟨rfl, PTm.mk hU hWm hP hK hD hE hO⟩⟩ rfl rfl hl.1 rfl (lv_room (Nat.le_of_ble_eq_true rfl)) dX15_sender_90 ⟨by show _ + 0 ≤ 0; omega, by show _ + 0 ≤ 0; omega⟩) hS (fun q _ h => hFc q h) hFc (fun r_283 u t H1 locs ht hvm hw hB hz1 hk1 hS => ?_)
                obtain ⟨F_284, hB1⟩ := hB
                obtain rfl : F_120 = F_284 := (funext (fun a => hB1.2.2.2 a List.not_mem_nil)).symm
                obtain ⟨hP, hD, hO, hR⟩ := QTm.back hB1 ht hFc hR (fun q h => absurd h List.not_mem_nil)
                generalize H1 = H at hP hS ⊢
                have hw : r_283 = (if 48 ≤ (gt i) ∧ (gt i) ≤ 57 then 1 else 0) := hw
                have hw_285 := hw
                refine lv_if_ne (tgt := 126) hx hb dX15_sender_93 (by decide) (fun c_286 => ?_) (fun c_286 => ?_)
                ·
                  refine W.widen (k := 0) (n := 0) (by omega) (by omega) ?_
                  exact jn_274 () F_120 (⟨loc_d (ifb1 hw_285 c_286), hRu⟩) hO hR _ _ hP hD hS ls (lv_sub hl [1, 2, 3, 4, 5] rfl)
                ·
                  refine lv_iload hx hb dX15_sender_96 (lv_at hl 0 rfl) ?_
                  refine lv_bipush (v := 46) hx hb dX15_sender_98 (by decide) ?_
                  refine lv_icmp_eq (tgt := 126) hx hb dX15_sender_100 (by decide) (fun c_287 => ?_) (fun c_287 => ?_)
                  ·
                    refine W.widen (k := 0) (n := 0) (by omega) (by omega) ?_
                    exact jn_274 () F_120 (⟨loc_m (Or.inl c_287), hRu⟩) hO hR _ _ hP hD hS ls (lv_sub hl [1, 2, 3, 4, 5] rfl)
                  ·
                    refine lv_iload hx hb dX15_sender_103 (lv_at hl 0 rfl) ?_
                    refine lv_bipush (v := 45) hx hb dX15_sender_105 (by decide) ?_
                    refine lv_icmp_eq (tgt := 126) hx hb dX15_sender_107 (by decide) (fun c_288 => ?_) (fun c_288 => ?_)
                    ·
                      refine W.widen (k := 0) (n := 0) (by omega) (by omega) ?_
                      exact jn_274 () F_120 (⟨loc_m (Or.inr (Or.inl c_288)), hRu⟩) hO hR _ _ hP hD hS ls (lv_sub hl [1, 2, 3, 4, 5] rfl)
                    ·
                      refine lv_iload hx hb dX15_sender_110 (lv_at hl 0 rfl) ?_
                      refine lv_bipush (v := 95) hx hb dX15_sender_112 (by decide) ?_
                      refine lv_icmp_eq (tgt := 126) hx hb dX15_sender_114 (by decide) (fun c_289 => ?_) (fun c_289 => ?_)
                      ·
                        refine W.widen (k := 0) (n := 0) (by omega) (by omega) ?_
                        exact jn_274 () F_120 (⟨loc_m (Or.inr (Or.inr (Or.inl c_289))), hRu⟩) hO hR _ _ hP hD hS ls (lv_sub hl [1, 2, 3, 4, 5] rfl)
                      ·
                        refine lv_iload hx hb dX15_sender_117 (lv_at hl 0 rfl) ?_
                        refine lv_bipush (v := 43) hx hb dX15_sender_119 (by decide) ?_
                        refine lv_icmp_eq (tgt := 126) hx hb dX15_sender_121 (by decide) (fun c_290 => ?_) (fun c_290 => ?_)
                        ·
                          refine W.widen (k := 0) (n := 0) (by omega) (by omega) ?_
                          exact jn_274 () F_120 (⟨loc_m (Or.inr (Or.inr (Or.inr c_290))), hRu⟩) hO hR _ _ hP hD hS ls (lv_sub hl [1, 2, 3, 4, 5] rfl)
                        ·
                          refine lv_iconst (v := (-1)) hx hb dX15_sender_124 (by decide) ?_
                          refine W.widen (k := 0) (n := 0) (by omega) (by omega) ?_
                          exact W.iret (v := (-1)) hx hb hr (fun t ht hWm => ⟨⟨(-1), none, rfl, (Or.inr ⟨rfl, snd_n hfs (fun q => lcl_n hij (loc_n (fun w => w.elim c_287 (fun w => w.elim c_288 (fun w => w.elim c_289 c_290))) (ifb0 hw_281 c_282) (ifb0 hw_285 c_286)) q.1), rfl⟩), ⟨F_120, ty, hty, QTm.mk ht hP hD hO hR, hW, (Or.inl ⟨rfl, (by rw [← hty0]; exact hRu)⟩)⟩⟩, hS.F ht⟩) hS.2.2 dX15_sender_125
        ·
          refine lv_iconst (v := (-1)) hx hb dX15_sender_60 (by decide) ?_
          refine W.widen (k := 0) (n := 0) (by omega) (by omega) ?_
          exact W.iret (v := (-1)) hx hb hr (fun t ht hWm => ⟨⟨(-1), none, rfl, (Or.inr ⟨rfl, snd_n hfs (fun q => ifb0 hw_118 c_119 q.2), rfl⟩), ⟨F_81, ty, hty, QTm.mk ht hP hD hO hR, hW, (Or.inl ⟨rfl, (by rw [← hty0]; exact hRu)⟩)⟩⟩, hS.F ht⟩) hS.2.2 dX15_sender_61
  ·
    have hi_291 : j < zt := ltN (N := zt) c_86
    refine lv_aload_n hx hb dX15_sender_12 rfl (lv_at hl 2 rfl) ?_
    obtain ⟨v14_292, v15_293, v17_294, v18_295, v19_296, v20_297, v21_298, v22_299, v33_300, v52_301, v53_302, v54_303, hF_304, hq_305, hq_306, hq_307, hq_308, hq_309⟩ := hO.mod hL_h0 hT_h0
    refine pg_get (ci := 15) (v := .ref ta) (C := RX15) (T := TX15) (N := 59) hx hb hts it_15 hown hK hP hL_h0 hF_304 rfl 0 (by decide) (hts _ kt_1006) (fun _ h9 => h9) rfl dX15_sender_13 ?_
    refine lv_iload_n hx hb dX15_sender_16 rfl (lv_at hl 0 rfl) ?_
    obtain ⟨hq_310, hq_311⟩ := hW.octs hi_79 ht_80
    refine pg_bald hx hb hK hP hi_79 1 hF_85 rfl (vp_in_nI (by omega) (by omega)) dX15_sender_17 ?_
    refine lv_topi (fun x_312 ex_312 => ?_)
    obtain rfl : x_312 = gt j := ex_312.trans (congrArg gt (show ((nI j) : Int32).toNatClampNeg = j from nI_clamp (by omega)))
    refine lv_bipush (v := 64) hx hb dX15_sender_18 (by decide) ?_
    refine lv_icmp_eq (tgt := 29) hx hb dX15_sender_20 (by decide) (fun c_313 => ?_) (fun c_313 => ?_)
    ·
      have hfs : FST gt 64 zt j := ⟨by omega, hv2, Or.inr c_313⟩
      refine lv_iload_n hx hb dX15_sender_29 rfl (lv_at hl 0 rfl) ?_
      refine lv_iload_n hx hb dX15_sender_30 rfl (lv_at hl 1 rfl) ?_
      refine lv_icmp_eq (tgt := 60) hx hb dX15_sender_31 (by decide) (fun c_314 => ?_) (fun c_314 => ?_)
      ·
        have hi_315 : j = zt := (nI_eq (a := j) (b := zt) (by omega) (by omega)).mp c_314
        refine lv_iconst (v := (-1)) hx hb dX15_sender_60 (by decide) ?_
        refine W.widen (k := 0) (n := 0) (by omega) (by omega) ?_
        exact W.iret (v := (-1)) hx hb hr (fun t ht hWm => ⟨⟨(-1), none, rfl, (Or.inr ⟨rfl, snd_n hfs (fun q => nm_no (by omega) q.2), rfl⟩), ⟨F_81, ty, hty, QTm.mk ht hP hD hO hR, hW, (Or.inl ⟨rfl, (by rw [← hty0]; exact hRu)⟩)⟩⟩, hS.F ht⟩) hS.2.2 dX15_sender_61
      ·
        have hi_316 : j ≠ zt := fun q => c_314 (by rw [q])
        refine lv_iload_n hx hb dX15_sender_34 rfl (lv_at hl 0 rfl) ?_
        refine lv_i2l (v := (nI j).toInt64) hx hb dX15_sender_35 rfl ?_
        refine lv_lconst (v := 1) hx hb dX15_sender_36 (by decide) ?_
        refine lv_ldc2 (v := 30) hx hb hown (hts _ kt_1186) dX15_sender_37 ?_
        have hFc := pg_free hD hS hA
        refine va_calli (va_runS (As := [.long ((nI j).toInt64), .long 1, .long 30]) (rest := []) ⟨hx, hb, hml, hown, hts⟩ (s_X15_in l dC dI cs ty gm L H.size F_81 ((nI j).toInt64) 1 30 hW ) ⟨callB_of 3 hts (gi kt_685) rfl rfl rfl (hts _ kt_669) (hts _ kt_705) (by decide +kernel) ⟨Nat.le_of_ble_eq_true rfl, Nat.le_of_ble_eq_true rfl⟩, (hts _ kt_686)⟩ ⟨fun a U g mk q => ⟨q.1, PTm.calling q.2⟩, fun U hU hWm => ⟨rfl, PTm.mk hU hWm hP hK hD hE hO⟩⟩ rfl rfl hl.1 rfl (lv_room (Nat.le_of_ble_eq_true rfl)) dX15_sender_40 ⟨by show _ + 0 ≤ 0; omega, by show _ + 0 ≤ 0; omega⟩) hS (fun q _ h => hFc q h) hFc (fun r_317 u t H1 locs ht hvm hw hB hz1 hk1 hS => ?_)
        obtain ⟨F_318, hB1⟩ := hB
        obtain rfl : F_81 = F_318 := (funext (fun a => hB1.2.2.2 a List.not_mem_nil)).symm
        obtain ⟨hP, hD, hO, hR⟩ := QTm.back hB1 ht hFc hR (fun q h => absurd h List.not_mem_nil)
        generalize H1 = H at hP hS ⊢
        have hw : r_317 = (if 1 ≤ (nI j).toInt64 ∧ (nI j).toInt64 ≤ 30 then 1 else 0) := hw
        have hw_319 := hw
        refine lv_if_eq (tgt := 60) hx hb dX15_sender_43 (by decide) (fun c_320 => ?_) (fun c_320 => ?_)
        ·
          have hin := in_nat0 (lo := 1) (hi := 30) hw_319 c_320 (by decide) (by decide) (by omega)
          refine lv_iconst (v := (-1)) hx hb dX15_sender_60 (by decide) ?_
          refine W.widen (k := 0) (n := 0) (by omega) (by omega) ?_
          exact W.iret (v := (-1)) hx hb hr (fun t ht hWm => ⟨⟨(-1), none, rfl, (Or.inr ⟨rfl, snd_n hfs (fun q => hin ⟨q.1.1, q.1.2.1⟩), rfl⟩), ⟨F_81, ty, hty, QTm.mk ht hP hD hO hR, hW, (Or.inl ⟨rfl, (by rw [← hty0]; exact hRu)⟩)⟩⟩, hS.F ht⟩) hS.2.2 dX15_sender_61
        ·
          have hin := in_nat (lo := 1) (hi := 30) hw_319 c_320 (by decide) (by decide) (by omega)
          refine lv_aload_n hx hb dX15_sender_46 rfl (lv_at hl 2 rfl) ?_
          refine pg_get (ci := 15) (v := .ref ta) (C := RX15) (T := TX15) (N := 59) hx hb hts it_15 hown hK hP hL_h0 hF_304 rfl 0 (by decide) (hts _ kt_1006) (fun _ h9 => h9) rfl dX15_sender_47 ?_
          refine lv_iload_n hx hb dX15_sender_50 rfl (lv_at hl 0 rfl) ?_
          refine lv_iconst (v := 1) hx hb dX15_sender_51 (by decide) ?_
          refine lv_iadd hx hb dX15_sender_52 ?_
          refine lv_topi (fun x_321 ex_321 => ?_)
          obtain rfl : x_321 = (nI (j + 1)) := ex_321.trans (nI_add j 1)
          refine lv_iload_n hx hb dX15_sender_53 rfl (lv_at hl 1 rfl) ?_
          have hFc := pg_free hD hS hA
          refine va_calli (va_runS (As := [.ref ta, .int (nI (j + 1)), .int (nI zt)]) (rest := []) ⟨hx, hb, hml, hown, hts⟩ (s_X14_isName_e l dC dI cs ty gm L H.size F_81 ta (ρ + 1) 3000 (j + 1) zt gt hW hi_79 ht_80 hF_85 (by first | omega | assumption | exact Or.inl rfl) (by first | omega | assumption | exact Or.inl rfl)) ⟨callB_of 3 hts (gi kt_689) rfl rfl rfl (hts _ kt_676) (hts _ kt_848) (by decide +kernel) ⟨Nat.le_of_ble_eq_true rfl, Nat.le_of_ble_eq_true rfl⟩, (hts _ kt_691)⟩ ⟨fun a U g mk q => ⟨q.1, PTm.calling q.2⟩, fun U hU hWm => ⟨rfl, PTm.mk hU hWm hP hK hD hE hO⟩⟩ rfl rfl hl.1 rfl (lv_room (Nat.le_of_ble_eq_true rfl)) dX15_sender_54 ⟨by show _ + 0 ≤ 0; omega, by show _ + 0 ≤ 0; omega⟩) hS (fun q _ h => hFc q h) hFc (fun r_322 u t H1 locs ht hvm hw hB hz1 hk1 hS => ?_)
          obtain ⟨F_323, hB1⟩ := hB
          obtain rfl : F_81 = F_323 := (funext (fun a => hB1.2.2.2 a List.not_mem_nil)).symm
          obtain ⟨hP, hD, hO, hR⟩ := QTm.back hB1 ht hFc hR (fun q h => absurd h List.not_mem_nil)
          generalize H1 = H at hP hS ⊢
          have hw : r_322 = (if NM gt (j + 1) zt = true then 1 else 0) := hw
          have hw_324 := hw
          refine lv_if_ne (tgt := 62) hx hb dX15_sender_57 (by decide) (fun c_325 => ?_) (fun c_325 => ?_)
          ·
            have hnm := ifb1 hw_324 c_325
            have hn60 := nm_60 hnm
            refine lv_iconst (v := 0) hx hb dX15_sender_62 (by decide) ?_
            refine lv_istore (lv' := [(4, .int 0), (3, .int (nI j)), (2, .int (nI zt)), (0, .ref h0), (1, .int x1)]) hx hb dX15_sender_63 hl (by decide) rfl (fun ls hl => ?_)
            refine W.widen (k := 0) (n := 0) (by omega) (by omega) ?_
            have hF_327 : F ta = .inl (cs 17, 3000, .inl gt) := (hR ta (by rw [ht_80]; simp)).symm.trans hF_85
            refine pl_loopm (σ := Nat) A (dC, dI) cs ty gm L [ρ, ρ + 5, ρ + 32] F 65 6 (fun i => [(4, .int (nI i)), (3, .int (nI j)), (2, .int (nI zt)), (0, .ref h0), (1, .int x1)]) (fun i => []) (fun i FF => (i ≤ j ∧ ∀ q, q < i → LOC (gt q) = true) ∧ FR ty0 [ρ] F FF) (fun i => j - i) ?_ 0 F_81 (⟨⟨by omega, fun q hq => absurd hq (Nat.not_lt_zero _)⟩, hRu⟩) hO hR _ _ hP hD hS ls (lv_sub hl [0, 1, 2, 3, 4] rfl)
            rintro i F_326 hv_328 hO hR ih_329 H locs hP hD hS ls hl
            have hl : lv_has ls 6 [(4, .int (nI i)), (3, .int (nI j)), (2, .int (nI zt)), (0, .ref h0), (1, .int x1)] := hl
            have hv_328 : (i ≤ j ∧ ∀ q, q < i → LOC (gt q) = true) ∧ FR ty0 [ρ] F F_326 := hv_328
            refine W.eq (g2 := F0 m 65 ls []) rfl ?_
            have hF_330 : F_326 ta = .inl (cs 17, 3000, .inl gt) := (hR ta (by rw [ht_80]; simp)).trans hF_327
            obtain ⟨⟨hw1, hw2⟩, hRu⟩ := id hv_328
            refine lv_iload hx hb dX15_sender_65 (lv_at hl 0 rfl) ?_
            refine lv_iload_n hx hb dX15_sender_67 rfl (lv_at hl 1 rfl) ?_
            refine lv_icmp_ge (tgt := 132) hx hb dX15_sender_68 (by decide) (fun c_331 => ?_) (fun c_331 => ?_)
            ·
              have hi_332 : j ≤ i := leN (N := j) c_331
              have htyA := hty
              have hlcl : LCL gt j := ⟨hin.1, hin.2, fun q hq => hw2 q (by omega)⟩
              have hcd := snd_cd hfs hlcl hnm
              have hnl := NM_len hnm
              refine lv_aload_n hx hb dX15_sender_132 rfl (lv_at hl 3 rfl) ?_
              obtain ⟨v14_333, v15_334, v17_335, v18_336, v19_337, v20_338, v21_339, v22_340, v33_341, v52_342, v53_343, v54_344, hF_345, hq_346, hq_347, hq_348, hq_349, hq_350⟩ := hO.mod hL_h0 hT_h0
              refine pg_get (ci := 15) (v := .ref lc) (C := RX15) (T := TX15) (N := 59) hx hb hts it_15 hown hK hP hL_h0 hF_345 rfl 9 (by decide) (hts _ kt_1123) (fun _ h9 => h9) rfl dX15_sender_133 ?_
              refine lv_aload_n hx hb dX15_sender_136 rfl (lv_at hl 3 rfl) ?_
              refine pg_get (ci := 15) (v := .ref ta) (C := RX15) (T := TX15) (N := 59) hx hb hts it_15 hown hK hP hL_h0 hF_345 rfl 0 (by decide) (hts _ kt_1006) (fun _ h9 => h9) rfl dX15_sender_137 ?_
              refine lv_iconst (v := 0) hx hb dX15_sender_140 (by decide) ?_
              refine lv_iload_n hx hb dX15_sender_141 rfl (lv_at hl 1 rfl) ?_
              refine W.eq (g2 := F0 m 142 ls [.int (nI j), .int (nI 0), .ref ta, .ref lc]) rfl ?_
              obtain ⟨hi_351, r_50, ht_352⟩ := hW.f_lc hL_h0 hT_h0
              obtain ⟨hi_353, ht_354, hq_355⟩ := hW.txt hi_351 ht_352
              have hFc := pg_free hD hS hA
              obtain ⟨z_356, hF_357, hq_358⟩ := hO.txt hi_351 ht_352
              refine va_callv (va_runV (As := [.ref ta, .int (nI 0), .int (nI j)]) (rest := []) ⟨hx, hb, hml, hown, hts⟩ (s_X14_set_e l dC dI cs ty gm L H.size F_326 lc (ρ + 5) r_50 30 ta (ρ + 1) 3000 0 j gt hW hi_351 ht_352 hi_79 ht_80 hF_330 (Nat.zero_le _) (by omega) (by omega)) ⟨callB_of 3 hts (gi kt_941) rfl rfl rfl (hts _ kt_676) (hts _ kt_942) (by decide +kernel) ⟨Nat.le_of_ble_eq_true rfl, Nat.le_of_ble_eq_true rfl⟩, (hts _ kt_943), (hts _ kt_944)⟩ ⟨fun a U g mk q => ⟨q.1, PTm.calling q.2⟩, pg_recv hK hP hi_351 hF_357 (q := (RX14, TX14, 2)) rfl, fun U hU hWm => ⟨rfl, PTm.mk hU hWm hP hK hD hE hO⟩⟩ rfl rfl hl.1 rfl (lv_room (Nat.le_of_ble_eq_true rfl)) dX15_sender_142 ⟨by show _ + 0 ≤ 0; omega, by show _ + 0 ≤ 0; omega⟩) hS (fun q _ h => hFc q h) hFc (fun u t H1 locs ht hvm hw hB hz1 hk1 hS => ?_)
              obtain ⟨F_360, fc_361, hB1, hq_362, hq_363, hq_364⟩ := hB
              obtain ⟨hP, hD, hO, hR⟩ := QTm.back hB1 ht hFc hR (fun q h => by simp only [List.mem_cons, List.not_mem_nil, or_false] at h ⊢; omega)
              have hF_365 : F_360 ta = .inl (cs 17, 3000, .inl gt) := (hB1.2.2.2 ta (by rw [ht_80]; simp)).trans hF_330
              have hF_366 : F_360 h0 = .inr (15, (.ref ta) :: (.int (nI 0)) :: (.int (nI zo)) :: (.int (nI ze)) :: (.ref ou) :: (.ref so) :: (.ref ad) :: (.ref na) :: (.ref va) :: (.ref lc) :: (.ref dm) :: (.int (nI fm)) :: (.int (nI sn)) :: (.ref tg) :: (.int v14_333) :: (.int v15_334) :: (.ref pe) :: (.int v17_335) :: (.int v18_336) :: (.int v19_337) :: (.int v20_338) :: (.int v21_339) :: (.int v22_340) :: (.ref ml) :: (.ref bg) :: (.ref co) :: (.ref sp) :: (.ref nb0) :: (.ref nb1) :: (.ref nb2) :: (.int (nI nf)) :: (.int (nI bd)) :: (.int (nI mm)) :: (.int v33_341) :: (.ref pl) :: (.ref se) :: (.ref ke) :: (.ref wi) :: (.ref hs) :: (.ref mo) :: (.ref po) :: (.ref nu) :: (.ref pr) :: (.ref sq) :: (.ref xa) :: (.ref sa) :: (.ref n64) :: (.ref m64) :: (.ref ex) :: (.ref wh) :: (.ref sd) :: (.ref tk) :: (.int v52_342) :: (.int v53_343) :: (.int v54_344) :: (.ref hd) :: (.ref ak) :: (.ref ho) :: (.ref ot) :: []) := (hB1.2.2.2 h0 (by rw [hT_h0]; simp)).trans hF_345
              generalize H1 = H at hP hS ⊢
              refine lv_aload_n hx hb dX15_sender_145 rfl (lv_at hl 3 rfl) ?_
              refine pg_get (ci := 15) (v := .ref dm) (C := RX15) (T := TX15) (N := 59) hx hb hts it_15 hown hK hP hL_h0 hF_366 rfl 10 (by decide) (hts _ kt_1124) (fun _ h9 => h9) rfl dX15_sender_146 ?_
              refine lv_aload_n hx hb dX15_sender_149 rfl (lv_at hl 3 rfl) ?_
              refine pg_get (ci := 15) (v := .ref ta) (C := RX15) (T := TX15) (N := 59) hx hb hts it_15 hown hK hP hL_h0 hF_366 rfl 0 (by decide) (hts _ kt_1006) (fun _ h9 => h9) rfl dX15_sender_150 ?_
              refine lv_iload_n hx hb dX15_sender_153 rfl (lv_at hl 1 rfl) ?_
              refine lv_iconst (v := 1) hx hb dX15_sender_154 (by decide) ?_
              refine lv_iadd hx hb dX15_sender_155 ?_
              refine lv_topi (fun x_367 ex_367 => ?_)
              obtain rfl : x_367 = (nI (j + 1)) := ex_367.trans (nI_add j 1)
              refine lv_iload_n hx hb dX15_sender_156 rfl (lv_at hl 2 rfl) ?_
              obtain ⟨hi_368, r_51, ht_369⟩ := hW.f_dm hL_h0 hT_h0
              obtain ⟨hi_370, ht_371, hq_372⟩ := hW.txt hi_368 ht_369
              have hFc := pg_free hD hS hA
              obtain ⟨z_373, hF_374, hq_375⟩ := hO.txt hi_368 ht_369
              refine va_callv (va_runV (As := [.ref ta, .int (nI (j + 1)), .int (nI zt)]) (rest := []) ⟨hx, hb, hml, hown, hts⟩ (s_X14_set_e l dC dI cs ty gm L H.size F_360 dm (ρ + 32) r_51 60 ta (ρ + 1) 3000 (j + 1) zt gt hW hi_368 ht_369 hi_79 ht_80 hF_365 (by omega) (by omega) (by omega)) ⟨callB_of 3 hts (gi kt_941) rfl rfl rfl (hts _ kt_676) (hts _ kt_942) (by decide +kernel) ⟨Nat.le_of_ble_eq_true rfl, Nat.le_of_ble_eq_true rfl⟩, (hts _ kt_943), (hts _ kt_944)⟩ ⟨fun a U g mk q => ⟨q.1, PTm.calling q.2⟩, pg_recv hK hP hi_368 hF_374 (q := (RX14, TX14, 2)) rfl, fun U hU hWm => ⟨rfl, PTm.mk hU hWm hP hK hD hE hO⟩⟩ rfl rfl hl.1 rfl (lv_room (Nat.le_of_ble_eq_true rfl)) dX15_sender_157 ⟨by show _ + 0 ≤ 0; omega, by show _ + 0 ≤ 0; omega⟩) hS (fun q _ h => hFc q h) hFc (fun u t H1 locs ht hvm hw hB hz1 hk1 hS => ?_)
              obtain ⟨F_377, fc_378, hB1, hq_379, hq_380, hq_381⟩ := hB
              obtain ⟨hP, hD, hO, hR⟩ := QTm.back hB1 ht hFc hR (fun q h => by simp only [List.mem_cons, List.not_mem_nil, or_false] at h ⊢; omega)
              have hF_382 : F_377 ta = .inl (cs 17, 3000, .inl gt) := (hB1.2.2.2 ta (by rw [ht_80]; simp)).trans hF_365
              have hF_383 : F_377 h0 = .inr (15, (.ref ta) :: (.int (nI 0)) :: (.int (nI zo)) :: (.int (nI ze)) :: (.ref ou) :: (.ref so) :: (.ref ad) :: (.ref na) :: (.ref va) :: (.ref lc) :: (.ref dm) :: (.int (nI fm)) :: (.int (nI sn)) :: (.ref tg) :: (.int v14_333) :: (.int v15_334) :: (.ref pe) :: (.int v17_335) :: (.int v18_336) :: (.int v19_337) :: (.int v20_338) :: (.int v21_339) :: (.int v22_340) :: (.ref ml) :: (.ref bg) :: (.ref co) :: (.ref sp) :: (.ref nb0) :: (.ref nb1) :: (.ref nb2) :: (.int (nI nf)) :: (.int (nI bd)) :: (.int (nI mm)) :: (.int v33_341) :: (.ref pl) :: (.ref se) :: (.ref ke) :: (.ref wi) :: (.ref hs) :: (.ref mo) :: (.ref po) :: (.ref nu) :: (.ref pr) :: (.ref sq) :: (.ref xa) :: (.ref sa) :: (.ref n64) :: (.ref m64) :: (.ref ex) :: (.ref wh) :: (.ref sd) :: (.ref tk) :: (.int v52_342) :: (.int v53_343) :: (.int v54_344) :: (.ref hd) :: (.ref ak) :: (.ref ho) :: (.ref ot) :: []) := (hB1.2.2.2 h0 (by rw [hT_h0]; simp)).trans hF_366
              have hF_384 : F_377 lc = .inr (14, [.ref r_50, .int (nI (j - 0))]) := (hB1.2.2.2 lc (by rw [ht_352]; simp)).trans hq_362
              have hF_385 : F_377 r_50 = .inl (cs 17, 30, .inl fc_361) := (hB1.2.2.2 r_50 (by rw [ht_354]; simp)).trans hq_363
              generalize H1 = H at hP hS ⊢
              refine lv_aload_n hx hb dX15_sender_160 rfl (lv_at hl 3 rfl) ?_
              refine lv_iload_n hx hb dX15_sender_161 rfl (lv_at hl 4 rfl) ?_
              refine lv_topi (fun x9 ex9 => ?_)
              obtain rfl : x9 = nI (xN x1) := ex9.trans (xN_e x1).symm
              refine pg_put (ci := 15) (v := .int (nI (xN x1))) (ty := .int) (C := RX15) (T := TX15) (N := 59) hx hb hts it_15 tyX15 tyX15_ok nmX15 hown hK hP hD hS hL_h0 hF_383 rfl 11 (by decide) (hts _ kt_729) (fun _ h9 => h9) rfl (by decide +kernel) (rfl) (rfl) (Nat.le_of_ble_eq_true rfl) dX15_sender_162 (fun H locs hP hD hS => ?_)
              obtain ⟨F_386, he_387, hP, hD, hR⟩ : ∃ G, G = va_up F_377 h0 (.inr (15, (.ref ta) :: (.int (nI 0)) :: (.int (nI zo)) :: (.int (nI ze)) :: (.ref ou) :: (.ref so) :: (.ref ad) :: (.ref na) :: (.ref va) :: (.ref lc) :: (.ref dm) :: (.int (nI (xN x1))) :: (.int (nI sn)) :: (.ref tg) :: (.int v14_333) :: (.int v15_334) :: (.ref pe) :: (.int v17_335) :: (.int v18_336) :: (.int v19_337) :: (.int v20_338) :: (.int v21_339) :: (.int v22_340) :: (.ref ml) :: (.ref bg) :: (.ref co) :: (.ref sp) :: (.ref nb0) :: (.ref nb1) :: (.ref nb2) :: (.int (nI nf)) :: (.int (nI bd)) :: (.int (nI mm)) :: (.int v33_341) :: (.ref pl) :: (.ref se) :: (.ref ke) :: (.ref wi) :: (.ref hs) :: (.ref mo) :: (.ref po) :: (.ref nu) :: (.ref pr) :: (.ref sq) :: (.ref xa) :: (.ref sa) :: (.ref n64) :: (.ref m64) :: (.ref ex) :: (.ref wh) :: (.ref sd) :: (.ref tk) :: (.int v52_342) :: (.int v53_343) :: (.int v54_344) :: (.ref hd) :: (.ref ak) :: (.ref ho) :: (.ref ot) :: [])) ∧ va_P (dC, dI) vwCl (va_pl L G) H ∧ va_D A (va_pl L G) ∧ FR ty [ρ, ρ + 5, ρ + 32] F G := ⟨_, rfl, hP, hD, hR.up hT_h0 (by simp)⟩
              have hF_388 : F_386 ta = .inl (cs 17, 3000, .inl gt) := by rw [he_387, up_ne (ne_ty ht_80 hT_h0 (by simp))]; exact hF_382
              have hF_389 : F_386 lc = .inr (14, [.ref r_50, .int (nI (j - 0))]) := by rw [he_387, up_ne (ne_ty ht_352 hT_h0 (by simp))]; exact hF_384
              have hF_390 : F_386 r_50 = .inl (cs 17, 30, .inl fc_361) := by rw [he_387, up_ne (ne_ty ht_354 hT_h0 (by simp))]; exact hF_385
              have hF_391 : F_386 dm = .inr (14, [.ref r_51, .int (nI (zt - (j + 1)))]) := by rw [he_387, up_ne (ne_ty ht_369 hT_h0 (by simp))]; exact hq_379
              have hF_392 : F_386 r_51 = .inl (cs 17, 60, .inl fc_378) := by rw [he_387, up_ne (ne_ty ht_371 hT_h0 (by simp))]; exact hq_380
              have hTo := hT_h0
              obtain ⟨ty, hty, hT_h0, hW, hO, hR⟩ : ∃ t9 : TyM, t9 = rtf ty h0 (15, ρ, [ta, ou, so, ad, na, va, lc, dm, tg, pe, ml, bg, co, sp, nb0, nb1, nb2, pl, se, ke, wi, hs, mo, po, nu, pr, sq, xa, sa, n64, m64, ex, wh, sd, tk, hd, ak, ho, ot, sx, s0, s1, s2, nf, bd, mm, zo, (xN x1), sn, hg, gc, gv, ze, 0]) ∧ t9 h0 = (15, ρ, [ta, ou, so, ad, na, va, lc, dm, tg, pe, ml, bg, co, sp, nb0, nb1, nb2, pl, se, ke, wi, hs, mo, po, nu, pr, sq, xa, sa, n64, m64, ex, wh, sd, tk, hd, ak, ho, ot, sx, s0, s1, s2, nf, bd, mm, zo, (xN x1), sn, hg, gc, gv, ze, 0]) ∧ WTm t9 gm L ∧ OKm cs t9 gm L F_386 ∧ FR t9 [ρ, ρ + 5, ρ + 32] F F_386 := ⟨_, rfl, rtf_self, hW.fm hL_h0 hT_h0, (by rw [he_387]; exact OKm.retype hO hT_h0 (shm.mod rtf_self ⟨v14_333, v15_334, v17_335, v18_336, v19_337, v20_338, v21_339, v22_340, v33_341, v52_342, v53_343, v54_344, rfl, (by first | omega | assumption | exact Or.inl rfl | exact Or.inr rfl), (by first | omega | assumption | exact Or.inl rfl | exact Or.inr rfl), (by first | omega | assumption | exact Or.inl rfl | exact Or.inr rfl), (by first | omega | assumption | exact Or.inl rfl | exact Or.inr rfl), (by first | omega | assumption | exact Or.inl rfl | exact Or.inr rfl)⟩)), FR.retype hT_h0 hR⟩
              have hF_393 : F_386 h0 = .inr (15, (.ref ta) :: (.int (nI 0)) :: (.int (nI zo)) :: (.int (nI ze)) :: (.ref ou) :: (.ref so) :: (.ref ad) :: (.ref na) :: (.ref va) :: (.ref lc) :: (.ref dm) :: (.int (nI (xN x1))) :: (.int (nI sn)) :: (.ref tg) :: (.int v14_333) :: (.int v15_334) :: (.ref pe) :: (.int v17_335) :: (.int v18_336) :: (.int v19_337) :: (.int v20_338) :: (.int v21_339) :: (.int v22_340) :: (.ref ml) :: (.ref bg) :: (.ref co) :: (.ref sp) :: (.ref nb0) :: (.ref nb1) :: (.ref nb2) :: (.int (nI nf)) :: (.int (nI bd)) :: (.int (nI mm)) :: (.int v33_341) :: (.ref pl) :: (.ref se) :: (.ref ke) :: (.ref wi) :: (.ref hs) :: (.ref mo) :: (.ref po) :: (.ref nu) :: (.ref pr) :: (.ref sq) :: (.ref xa) :: (.ref sa) :: (.ref n64) :: (.ref m64) :: (.ref ex) :: (.ref wh) :: (.ref sd) :: (.ref tk) :: (.int v52_342) :: (.int v53_343) :: (.int v54_344) :: (.ref hd) :: (.ref ak) :: (.ref ho) :: (.ref ot) :: []) := by rw [he_387]; exact up_self
              obtain ⟨hq_416, hq_417, hq_418, hq_419, hq_420, hgO, hgA, hgB, hq_421⟩ := hW.sc hL_h0 hT_h0
              have hT2_lc : ty lc = (14, ρ + 5, [r_50, 30]) := by rw [hty]; exact rtf_tr hTo (by decide) ht_352
              have hT2_r_50 : ty r_50 = (17, ρ + 5, [30]) := by rw [hty]; exact rtf_tr hTo (by decide) ht_354
              have hT2_dm : ty dm = (14, ρ + 32, [r_51, 60]) := by rw [hty]; exact rtf_tr hTo (by decide) ht_369
              have hT2_r_51 : ty r_51 = (17, ρ + 32, [60]) := by rw [hty]; exact rtf_tr hTo (by decide) ht_371
              have htyB := hty
              refine lv_aload_n hx hb dX15_sender_165 rfl (lv_at hl 3 rfl) ?_
              refine lv_iconst (v := 1) hx hb dX15_sender_166 (by decide) ?_
              refine pg_put (ci := 15) (v := .int 1) (ty := .boolean) (C := RX15) (T := TX15) (N := 59) hx hb hts it_15 tyX15 tyX15_ok nmX15 hown hK hP hD hS hL_h0 hF_393 rfl 12 (by decide) (hts _ kt_1187) (fun _ h9 => h9) rfl (by decide +kernel) (rfl) (rfl) (Nat.le_of_ble_eq_true rfl) dX15_sender_167 (fun H locs hP hD hS => ?_)
              obtain ⟨F_422, he_423, hP, hD, hR⟩ : ∃ G, G = va_up F_386 h0 (.inr (15, (.ref ta) :: (.int (nI 0)) :: (.int (nI zo)) :: (.int (nI ze)) :: (.ref ou) :: (.ref so) :: (.ref ad) :: (.ref na) :: (.ref va) :: (.ref lc) :: (.ref dm) :: (.int (nI (xN x1))) :: (.int 1) :: (.ref tg) :: (.int v14_333) :: (.int v15_334) :: (.ref pe) :: (.int v17_335) :: (.int v18_336) :: (.int v19_337) :: (.int v20_338) :: (.int v21_339) :: (.int v22_340) :: (.ref ml) :: (.ref bg) :: (.ref co) :: (.ref sp) :: (.ref nb0) :: (.ref nb1) :: (.ref nb2) :: (.int (nI nf)) :: (.int (nI bd)) :: (.int (nI mm)) :: (.int v33_341) :: (.ref pl) :: (.ref se) :: (.ref ke) :: (.ref wi) :: (.ref hs) :: (.ref mo) :: (.ref po) :: (.ref nu) :: (.ref pr) :: (.ref sq) :: (.ref xa) :: (.ref sa) :: (.ref n64) :: (.ref m64) :: (.ref ex) :: (.ref wh) :: (.ref sd) :: (.ref tk) :: (.int v52_342) :: (.int v53_343) :: (.int v54_344) :: (.ref hd) :: (.ref ak) :: (.ref ho) :: (.ref ot) :: [])) ∧ va_P (dC, dI) vwCl (va_pl L G) H ∧ va_D A (va_pl L G) ∧ FR ty [ρ, ρ + 5, ρ + 32] F G := ⟨_, rfl, hP, hD, hR.up hT_h0 (by simp)⟩
              obtain ⟨hi_425, ht_426⟩ := hW.f_ta hL_h0 hT_h0
              have hF_424 : F_422 ta = .inl (cs 17, 3000, .inl gt) := by rw [he_423, up_ne (ne_ty ht_426 hT_h0 (by simp))]; exact hF_388
              have hF_427 : F_422 lc = .inr (14, [.ref r_50, .int (nI (j - 0))]) := by rw [he_423, up_ne (ne_ty hT2_lc hT_h0 (by simp))]; exact hF_389
              have hF_428 : F_422 r_50 = .inl (cs 17, 30, .inl fc_361) := by rw [he_423, up_ne (ne_ty hT2_r_50 hT_h0 (by simp))]; exact hF_390
              have hF_429 : F_422 dm = .inr (14, [.ref r_51, .int (nI (zt - (j + 1)))]) := by rw [he_423, up_ne (ne_ty hT2_dm hT_h0 (by simp))]; exact hF_391
              have hF_430 : F_422 r_51 = .inl (cs 17, 60, .inl fc_378) := by rw [he_423, up_ne (ne_ty hT2_r_51 hT_h0 (by simp))]; exact hF_392
              have hTo := hT_h0
              obtain ⟨ty, hty, hT_h0, hW, hO, hR⟩ : ∃ t9 : TyM, t9 = rtf ty h0 (15, ρ, [ta, ou, so, ad, na, va, lc, dm, tg, pe, ml, bg, co, sp, nb0, nb1, nb2, pl, se, ke, wi, hs, mo, po, nu, pr, sq, xa, sa, n64, m64, ex, wh, sd, tk, hd, ak, ho, ot, sx, s0, s1, s2, nf, bd, mm, zo, (xN x1), 1, hg, gc, gv, ze, 0]) ∧ t9 h0 = (15, ρ, [ta, ou, so, ad, na, va, lc, dm, tg, pe, ml, bg, co, sp, nb0, nb1, nb2, pl, se, ke, wi, hs, mo, po, nu, pr, sq, xa, sa, n64, m64, ex, wh, sd, tk, hd, ak, ho, ot, sx, s0, s1, s2, nf, bd, mm, zo, (xN x1), 1, hg, gc, gv, ze, 0]) ∧ WTm t9 gm L ∧ OKm cs t9 gm L F_422 ∧ FR t9 [ρ, ρ + 5, ρ + 32] F F_422 := ⟨_, rfl, rtf_self, hW.sn hL_h0 hT_h0 (by omega), (by rw [he_423]; exact OKm.retype hO hT_h0 (shm.mod rtf_self ⟨v14_333, v15_334, v17_335, v18_336, v19_337, v20_338, v21_339, v22_340, v33_341, v52_342, v53_343, v54_344, rfl, (by first | omega | assumption | exact Or.inl rfl | exact Or.inr rfl), (by first | omega | assumption | exact Or.inl rfl | exact Or.inr rfl), (by first | omega | assumption | exact Or.inl rfl | exact Or.inr rfl), (by first | omega | assumption | exact Or.inl rfl | exact Or.inr rfl), (by first | omega | assumption | exact Or.inl rfl | exact Or.inr rfl)⟩)), FR.retype hT_h0 hR⟩
              have hF_431 : F_422 h0 = .inr (15, (.ref ta) :: (.int (nI 0)) :: (.int (nI zo)) :: (.int (nI ze)) :: (.ref ou) :: (.ref so) :: (.ref ad) :: (.ref na) :: (.ref va) :: (.ref lc) :: (.ref dm) :: (.int (nI (xN x1))) :: (.int 1) :: (.ref tg) :: (.int v14_333) :: (.int v15_334) :: (.ref pe) :: (.int v17_335) :: (.int v18_336) :: (.int v19_337) :: (.int v20_338) :: (.int v21_339) :: (.int v22_340) :: (.ref ml) :: (.ref bg) :: (.ref co) :: (.ref sp) :: (.ref nb0) :: (.ref nb1) :: (.ref nb2) :: (.int (nI nf)) :: (.int (nI bd)) :: (.int (nI mm)) :: (.int v33_341) :: (.ref pl) :: (.ref se) :: (.ref ke) :: (.ref wi) :: (.ref hs) :: (.ref mo) :: (.ref po) :: (.ref nu) :: (.ref pr) :: (.ref sq) :: (.ref xa) :: (.ref sa) :: (.ref n64) :: (.ref m64) :: (.ref ex) :: (.ref wh) :: (.ref sd) :: (.ref tk) :: (.int v52_342) :: (.int v53_343) :: (.int v54_344) :: (.ref hd) :: (.ref ak) :: (.ref ho) :: (.ref ot) :: []) := by rw [he_423]; exact up_self
              obtain ⟨hq_454, hq_455, hq_456, hq_457, hq_458, hgO, hgA, hgB, hq_459⟩ := hW.sc hL_h0 hT_h0
              have hT2_lc : ty lc = (14, ρ + 5, [r_50, 30]) := by rw [hty]; exact rtf_tr hTo (by decide) hT2_lc
              have hT2_r_50 : ty r_50 = (17, ρ + 5, [30]) := by rw [hty]; exact rtf_tr hTo (by decide) hT2_r_50
              have hT2_dm : ty dm = (14, ρ + 32, [r_51, 60]) := by rw [hty]; exact rtf_tr hTo (by decide) hT2_dm
              have hT2_r_51 : ty r_51 = (17, ρ + 32, [60]) := by rw [hty]; exact rtf_tr hTo (by decide) hT2_r_51
              refine lv_iconst (v := 0) hx hb dX15_sender_170 (by decide) ?_
              refine W.widen (k := 0) (n := 0) (by omega) (by omega) ?_
              exact W.iret (v := 0) hx hb hr (fun t ht hWm => ⟨⟨0, (some j), rfl, (Or.inl ⟨rfl, j, hfs, hlcl, hnm, rfl⟩), ⟨F_422, ty, (by rw [hty, htyB, htyA, rtf_rtf2, rtf_rtf2]; rfl), QTm.mk ht hP hD hO hR, hW, (Or.inr ⟨j, rfl, ⟨r_50, _, _, hF_427, hF_428, tp_src (a := 0) (k := j) (fun q hq => by rw [Nat.zero_add]; exact hcd q (by omega)) hq_364, by omega⟩, ⟨r_51, _, _, hF_429, hF_430, tp_src (a := j + 1) (k := zt - (j + 1)) (fun q hq => hcd _ (by omega)) hq_381, by omega⟩⟩)⟩⟩, hS.F ht⟩) hS.2.2 dX15_sender_171
            ·
              have hi_460 : i < j := ltN (N := j) c_331
              have hij : i < j := by omega
              refine lv_aload_n hx hb dX15_sender_71 rfl (lv_at hl 3 rfl) ?_
              obtain ⟨v14_461, v15_462, v17_463, v18_464, v19_465, v20_466, v21_467, v22_468, v33_469, v52_470, v53_471, v54_472, hF_473, hq_474, hq_475, hq_476, hq_477, hq_478⟩ := hO.mod hL_h0 hT_h0
              refine pg_get (ci := 15) (v := .ref ta) (C := RX15) (T := TX15) (N := 59) hx hb hts it_15 hown hK hP hL_h0 hF_473 rfl 0 (by decide) (hts _ kt_1006) (fun _ h9 => h9) rfl dX15_sender_72 ?_
              refine lv_iload hx hb dX15_sender_75 (lv_at hl 0 rfl) ?_
              refine pg_bald hx hb hK hP hi_79 1 hF_330 rfl (vp_in_nI (by omega) (by omega)) dX15_sender_77 ?_
              refine lv_topi (fun x_479 ex_479 => ?_)
              obtain rfl : x_479 = gt i := ex_479.trans (congrArg gt (show ((nI i) : Int32).toNatClampNeg = i from nI_clamp (by omega)))
              refine lv_istore (lv' := [(5, .int (gt i)), (4, .int (nI i)), (3, .int (nI j)), (2, .int (nI zt)), (0, .ref h0), (1, .int x1)]) hx hb dX15_sender_78 hl (by decide) rfl (fun ls hl => ?_)
              have hF_482 : F ta = .inl (cs 17, 3000, .inl gt) := (hR ta (by rw [ht_80]; simp)).symm.trans hF_330
              refine W.widen (k := 0) (n := 0) (by omega) (by omega) ?_
              refine pl_cutm (σ := Unit) A (dC, dI) cs ty gm L [ρ, ρ + 5, ρ + 32] F 126 6 (fun u0 => [(4, .int (nI i)), (3, .int (nI j)), (2, .int (nI zt)), (0, .ref h0), (1, .int x1)]) (fun u0 => []) (fun u0 FF => (LOC (gt i) = true) ∧ FR ty0 [ρ] F FF) ?_ (fun jn_480 => ?_)
              ·
                rintro u0 F_481 hv_483 hO hR H locs hP hD hS ls hl
                have hl : lv_has ls 6 [(4, .int (nI i)), (3, .int (nI j)), (2, .int (nI zt)), (0, .ref h0), (1, .int x1)] := hl
                have hv_483 : (LOC (gt i) = true) ∧ FR ty0 [ρ] F F_481 := hv_483
                refine W.eq (g2 := F0 m 126 ls []) rfl ?_
                have hF_484 : F_481 ta = .inl (cs 17, 3000, .inl gt) := (hR ta (by rw [ht_80]; simp)).trans hF_482
                obtain ⟨hok, hRu⟩ := hv_483
                refine lv_iinc (v := (nI (i + 1))) (lv' := [(4, .int (nI (i + 1))), (3, .int (nI j)), (2, .int (nI zt)), (0, .ref h0), (1, .int x1)]) hx hb dX15_sender_126 hl (k := 0) rfl (nI_1 _) (by decide) rfl (fun ls hl => ?_)
                refine lv_goto (tgt := 65) hx hb dX15_sender_129 (by decide) ?_
                refine W.widen (k := 0) (n := 0) (by omega) (by omega) ?_
                exact ih_329 (i + 1) F_481 (⟨⟨by omega, fun q hq => by rcases Nat.lt_or_ge q i with w | w; exact hw2 q w; rw [show q = i by omega]; exact hok⟩, hRu⟩) (by show j - (i + 1) < j - i; omega) hO hR _ _ hP hD hS ls (lv_sub hl [0, 1, 2, 3, 4] rfl)
              ·
                refine lv_iload hx hb dX15_sender_80 (lv_at hl 0 rfl) ?_
                have hFc := pg_free hD hS hA
                refine va_calli (va_runS (As := [.int (gt i)]) (rest := []) ⟨hx, hb, hml, hown, hts⟩ (s_X15_isSmall_e l dC dI cs ty gm L H.size F_326 (gt i) hW ) ⟨callB_of 1 hts (gi kt_668) rfl rfl rfl (hts _ kt_669) (hts _ kt_670) (by decide +kernel) ⟨Nat.le_of_ble_eq_true rfl, Nat.le_of_ble_eq_true rfl⟩, (hts _ kt_671)⟩ ⟨fun a U g mk q => ⟨q.1, PTm.calling q.2⟩, fun U hU hWm => ⟨rfl, PTm.mk hU hWm hP hK hD hE hO⟩⟩ rfl rfl hl.1 rfl (lv_room (Nat.le_of_ble_eq_true rfl)) dX15_sender_82 ⟨by show _ + 0 ≤ 0; omega, by show _ + 0 ≤ 0; omega⟩) hS (fun q _ h => hFc q h) hFc (fun r_485 u t H1 locs ht hvm hw hB hz1 hk1 hS => ?_)
                obtain ⟨F_486, hB1⟩ := hB
                obtain rfl : F_326 = F_486 := (funext (fun a => hB1.2.2.2 a List.not_mem_nil)).symm
                obtain ⟨hP, hD, hO, hR⟩ := QTm.back hB1 ht hFc hR (fun q h => absurd h List.not_mem_nil)
                generalize H1 = H at hP hS ⊢
                have hw : r_485 = (if 97 ≤ (gt i) ∧ (gt i) ≤ 122 then 1 else 0) := hw
                have hw_487 := hw
                refine lv_if_ne (tgt := 126) hx hb dX15_sender_85 (by decide) (fun c_488 => ?_) (fun c_488 => ?_)
                ·
                  refine W.widen (k := 0) (n := 0) (by omega) (by omega) ?_
                  exact jn_480 () F_326 (⟨loc_s (ifb1 hw_487 c_488), hRu⟩) hO hR _ _ hP hD hS ls (lv_sub hl [1, 2, 3, 4, 5] rfl)
                ·
                  refine lv_iload hx hb dX15_sender_88 (lv_at hl 0 rfl) ?_
                  have hFc := pg_free hD hS hA
                  refine va_calli (va_runS (As := [.int (gt i)]) (rest := []) ⟨hx, hb, hml, hown, hts⟩ (s_X15_isDigit_e l dC dI cs ty gm L H.size F_326 (gt i) hW ) ⟨callB_of 1 hts (gi kt_687) rfl rfl rfl (hts _ kt_669) (hts _ kt_707) (by decide +kernel) ⟨Nat.le_of_ble_eq_true rfl, Nat.le_of_ble_eq_true rfl⟩, (hts _ kt_688)⟩ ⟨fun a U g mk q => ⟨q.1, PTm.calling q.2⟩, fun U hU hWm => ⟨rfl, PTm.mk hU hWm hP hK hD hE hO⟩⟩ rfl rfl hl.1 rfl (lv_room (Nat.le_of_ble_eq_true rfl)) dX15_sender_90 ⟨by show _ + 0 ≤ 0; omega, by show _ + 0 ≤ 0; omega⟩) hS (fun q _ h => hFc q h) hFc (fun r_489 u t H1 locs ht hvm hw hB hz1 hk1 hS => ?_)
                  obtain ⟨F_490, hB1⟩ := hB
                  obtain rfl : F_326 = F_490 := (funext (fun a => hB1.2.2.2 a List.not_mem_nil)).symm
                  obtain ⟨hP, hD, hO, hR⟩ := QTm.back hB1 ht hFc hR (fun q h => absurd h List.not_mem_nil)
                  generalize H1 = H at hP hS ⊢
                  have hw : r_489 = (if 48 ≤ (gt i) ∧ (gt i) ≤ 57 then 1 else 0) := hw
                  have hw_491 := hw
                  refine lv_if_ne (tgt := 126) hx hb dX15_sender_93 (by decide) (fun c_492 => ?_) (fun c_492 => ?_)
                  ·
                    refine W.widen (k := 0) (n := 0) (by omega) (by omega) ?_
                    exact jn_480 () F_326 (⟨loc_d (ifb1 hw_491 c_492), hRu⟩) hO hR _ _ hP hD hS ls (lv_sub hl [1, 2, 3, 4, 5] rfl)
                  ·
                    refine lv_iload hx hb dX15_sender_96 (lv_at hl 0 rfl) ?_
                    refine lv_bipush (v := 46) hx hb dX15_sender_98 (by decide) ?_
                    refine lv_icmp_eq (tgt := 126) hx hb dX15_sender_100 (by decide) (fun c_493 => ?_) (fun c_493 => ?_)
                    ·
                      refine W.widen (k := 0) (n := 0) (by omega) (by omega) ?_
                      exact jn_480 () F_326 (⟨loc_m (Or.inl c_493), hRu⟩) hO hR _ _ hP hD hS ls (lv_sub hl [1, 2, 3, 4, 5] rfl)
                    ·
                      refine lv_iload hx hb dX15_sender_103 (lv_at hl 0 rfl) ?_
                      refine lv_bipush (v := 45) hx hb dX15_sender_105 (by decide) ?_
                      refine lv_icmp_eq (tgt := 126) hx hb dX15_sender_107 (by decide) (fun c_494 => ?_) (fun c_494 => ?_)
                      ·
                        refine W.widen (k := 0) (n := 0) (by omega) (by omega) ?_
                        exact jn_480 () F_326 (⟨loc_m (Or.inr (Or.inl c_494)), hRu⟩) hO hR _ _ hP hD hS ls (lv_sub hl [1, 2, 3, 4, 5] rfl)
                      ·
                        refine lv_iload hx hb dX15_sender_110 (lv_at hl 0 rfl) ?_
                        refine lv_bipush (v := 95) hx hb dX15_sender_112 (by decide) ?_
                        refine lv_icmp_eq (tgt := 126) hx hb dX15_sender_114 (by decide) (fun c_495 => ?_) (fun c_495 => ?_)
                        ·
                          refine W.widen (k := 0) (n := 0) (by omega) (by omega) ?_
                          exact jn_480 () F_326 (⟨loc_m (Or.inr (Or.inr (Or.inl c_495))), hRu⟩) hO hR _ _ hP hD hS ls (lv_sub hl [1, 2, 3, 4, 5] rfl)
                        ·
                          refine lv_iload hx hb dX15_sender_117 (lv_at hl 0 rfl) ?_
                          refine lv_bipush (v := 43) hx hb dX15_sender_119 (by decide) ?_
                          refine lv_icmp_eq (tgt := 126) hx hb dX15_sender_121 (by decide) (fun c_496 => ?_) (fun c_496 => ?_)
                          ·
                            refine W.widen (k := 0) (n := 0) (by omega) (by omega) ?_
                            exact jn_480 () F_326 (⟨loc_m (Or.inr (Or.inr (Or.inr c_496))), hRu⟩) hO hR _ _ hP hD hS ls (lv_sub hl [1, 2, 3, 4, 5] rfl)
                          ·
                            refine lv_iconst (v := (-1)) hx hb dX15_sender_124 (by decide) ?_
                            refine W.widen (k := 0) (n := 0) (by omega) (by omega) ?_
                            exact W.iret (v := (-1)) hx hb hr (fun t ht hWm => ⟨⟨(-1), none, rfl, (Or.inr ⟨rfl, snd_n hfs (fun q => lcl_n hij (loc_n (fun w => w.elim c_493 (fun w => w.elim c_494 (fun w => w.elim c_495 c_496))) (ifb0 hw_487 c_488) (ifb0 hw_491 c_492)) q.1), rfl⟩), ⟨F_326, ty, hty, QTm.mk ht hP hD hO hR, hW, (Or.inl ⟨rfl, (by rw [← hty0]; exact hRu)⟩)⟩⟩, hS.F ht⟩) hS.2.2 dX15_sender_125
          ·
            refine lv_iconst (v := (-1)) hx hb dX15_sender_60 (by decide) ?_
            refine W.widen (k := 0) (n := 0) (by omega) (by omega) ?_
            exact W.iret (v := (-1)) hx hb hr (fun t ht hWm => ⟨⟨(-1), none, rfl, (Or.inr ⟨rfl, snd_n hfs (fun q => ifb0 hw_324 c_325 q.2), rfl⟩), ⟨F_81, ty, hty, QTm.mk ht hP hD hO hR, hW, (Or.inl ⟨rfl, (by rw [← hty0]; exact hRu)⟩)⟩⟩, hS.F ht⟩) hS.2.2 dX15_sender_61
    ·
      refine lv_iinc (v := (nI (j + 1))) (lv' := [(3, .int (nI (j + 1))), (2, .int (nI zt)), (0, .ref h0), (1, .int x1)]) hx hb dX15_sender_23 hl (k := 0) rfl (nI_1 _) (by decide) rfl (fun ls hl => ?_)
      refine lv_goto (tgt := 7) hx hb dX15_sender_26 (by decide) ?_
      refine W.widen (k := 0) (n := 0) (by omega) (by omega) ?_
      exact ih_84 (j + 1) F_81 (⟨⟨by omega, fun i hi => by rcases Nat.lt_or_ge i j with q | q; exact hv2 i q; rw [show i = j by omega]; exact c_313⟩, hRu⟩) (by show zt - (j + 1) < zt - j; omega) hO hR _ _ hP hD hS ls (lv_sub hl [0, 1, 2, 3] rfl)
