theorem dX15_expand_0 : decode cX15_expand 0 = .ok (.aload 5, 2) := by decide +kernel
theorem dX15_expand_2 : decode cX15_expand 2 = .ok (.iconst 0, 1) := by decide +kernel
theorem dX15_expand_3 : decode cX15_expand 3 = .ok (.putfield 190, 3) := by decide +kernel
theorem dX15_expand_6 : decode cX15_expand 6 = .ok (.iload_n 2, 1) := by decide +kernel
theorem dX15_expand_7 : decode cX15_expand 7 = .ok (.istore 6, 2) := by decide +kernel
theorem dX15_expand_9 : decode cX15_expand 9 = .ok (.iload 6, 2) := by decide +kernel
theorem dX15_expand_11 : decode cX15_expand 11 = .ok (.iload_n 3, 1) := by decide +kernel
theorem dX15_expand_12 : decode cX15_expand 12 = .ok (.if_icmp .ge 156, 3) := by decide +kernel
theorem dX15_expand_15 : decode cX15_expand 15 = .ok (.aload_n 1, 1) := by decide +kernel
theorem dX15_expand_16 : decode cX15_expand 16 = .ok (.iload 6, 2) := by decide +kernel
theorem dX15_expand_18 : decode cX15_expand 18 = .ok (.baload, 1) := by decide +kernel
theorem dX15_expand_19 : decode cX15_expand 19 = .ok (.bipush 37, 2) := by decide +kernel
theorem dX15_expand_21 : decode cX15_expand 21 = .ok (.if_icmp .eq 15, 3) := by decide +kernel
theorem dX15_expand_24 : decode cX15_expand 24 = .ok (.aload 5, 2) := by decide +kernel
theorem dX15_expand_26 : decode cX15_expand 26 = .ok (.aload_n 1, 1) := by decide +kernel
theorem dX15_expand_27 : decode cX15_expand 27 = .ok (.iload 6, 2) := by decide +kernel
theorem dX15_expand_29 : decode cX15_expand 29 = .ok (.baload, 1) := by decide +kernel
theorem dX15_expand_30 : decode cX15_expand 30 = .ok (.invokestatic 284, 3) := by decide +kernel
theorem dX15_expand_33 : decode cX15_expand 33 = .ok (.goto 129, 3) := by decide +kernel
theorem dX15_expand_36 : decode cX15_expand 36 = .ok (.aload_n 1, 1) := by decide +kernel
theorem dX15_expand_37 : decode cX15_expand 37 = .ok (.iload 6, 2) := by decide +kernel
theorem dX15_expand_39 : decode cX15_expand 39 = .ok (.iload_n 3, 1) := by decide +kernel
theorem dX15_expand_40 : decode cX15_expand 40 = .ok (.invokestatic 226, 3) := by decide +kernel
theorem dX15_expand_43 : decode cX15_expand 43 = .ok (.istore 7, 2) := by decide +kernel
theorem dX15_expand_45 : decode cX15_expand 45 = .ok (.aload_n 1, 1) := by decide +kernel
theorem dX15_expand_46 : decode cX15_expand 46 = .ok (.iload 6, 2) := by decide +kernel
theorem dX15_expand_48 : decode cX15_expand 48 = .ok (.iconst 1, 1) := by decide +kernel
theorem dX15_expand_49 : decode cX15_expand 49 = .ok (.iadd, 1) := by decide +kernel
theorem dX15_expand_50 : decode cX15_expand 50 = .ok (.baload, 1) := by decide +kernel
theorem dX15_expand_51 : decode cX15_expand 51 = .ok (.bipush 37, 2) := by decide +kernel
theorem dX15_expand_53 : decode cX15_expand 53 = .ok (.if_icmp .ne 13, 3) := by decide +kernel
theorem dX15_expand_56 : decode cX15_expand 56 = .ok (.aload 5, 2) := by decide +kernel
theorem dX15_expand_58 : decode cX15_expand 58 = .ok (.bipush 37, 2) := by decide +kernel
theorem dX15_expand_60 : decode cX15_expand 60 = .ok (.invokestatic 284, 3) := by decide +kernel
theorem dX15_expand_63 : decode cX15_expand 63 = .ok (.goto 65, 3) := by decide +kernel
theorem dX15_expand_66 : decode cX15_expand 66 = .ok (.aload_n 1, 1) := by decide +kernel
theorem dX15_expand_67 : decode cX15_expand 67 = .ok (.iload 6, 2) := by decide +kernel
theorem dX15_expand_69 : decode cX15_expand 69 = .ok (.iconst 1, 1) := by decide +kernel
theorem dX15_expand_70 : decode cX15_expand 70 = .ok (.iadd, 1) := by decide +kernel
theorem dX15_expand_71 : decode cX15_expand 71 = .ok (.baload, 1) := by decide +kernel
theorem dX15_expand_72 : decode cX15_expand 72 = .ok (.bipush 95, 2) := by decide +kernel
theorem dX15_expand_74 : decode cX15_expand 74 = .ok (.if_icmp .ne 13, 3) := by decide +kernel
theorem dX15_expand_77 : decode cX15_expand 77 = .ok (.aload 5, 2) := by decide +kernel
theorem dX15_expand_79 : decode cX15_expand 79 = .ok (.bipush 32, 2) := by decide +kernel
theorem dX15_expand_81 : decode cX15_expand 81 = .ok (.invokestatic 284, 3) := by decide +kernel
theorem dX15_expand_84 : decode cX15_expand 84 = .ok (.goto 44, 3) := by decide +kernel
theorem dX15_expand_87 : decode cX15_expand 87 = .ok (.aload_n 1, 1) := by decide +kernel
theorem dX15_expand_88 : decode cX15_expand 88 = .ok (.iload 6, 2) := by decide +kernel
theorem dX15_expand_90 : decode cX15_expand 90 = .ok (.iconst 1, 1) := by decide +kernel
theorem dX15_expand_91 : decode cX15_expand 91 = .ok (.iadd, 1) := by decide +kernel
theorem dX15_expand_92 : decode cX15_expand 92 = .ok (.baload, 1) := by decide +kernel
theorem dX15_expand_93 : decode cX15_expand 93 = .ok (.bipush 45, 2) := by decide +kernel
theorem dX15_expand_95 : decode cX15_expand 95 = .ok (.if_icmp .ne 13, 3) := by decide +kernel
theorem dX15_expand_98 : decode cX15_expand 98 = .ok (.aload 5, 2) := by decide +kernel
theorem dX15_expand_100 : decode cX15_expand 100 = .ok (.bipush 37, 2) := by decide +kernel
theorem dX15_expand_102 : decode cX15_expand 102 = .ok (.invokestatic 284, 3) := by decide +kernel
theorem dX15_expand_105 : decode cX15_expand 105 = .ok (.goto 23, 3) := by decide +kernel
theorem dX15_expand_108 : decode cX15_expand 108 = .ok (.aload_n 0, 1) := by decide +kernel
theorem dX15_expand_109 : decode cX15_expand 109 = .ok (.aload_n 1, 1) := by decide +kernel
theorem dX15_expand_110 : decode cX15_expand 110 = .ok (.iload 6, 2) := by decide +kernel
theorem dX15_expand_112 : decode cX15_expand 112 = .ok (.iconst 2, 1) := by decide +kernel
theorem dX15_expand_113 : decode cX15_expand 113 = .ok (.iadd, 1) := by decide +kernel
theorem dX15_expand_114 : decode cX15_expand 114 = .ok (.iload 6, 2) := by decide +kernel
theorem dX15_expand_116 : decode cX15_expand 116 = .ok (.iload 7, 2) := by decide +kernel
theorem dX15_expand_118 : decode cX15_expand 118 = .ok (.iadd, 1) := by decide +kernel
theorem dX15_expand_119 : decode cX15_expand 119 = .ok (.iconst 1, 1) := by decide +kernel
theorem dX15_expand_120 : decode cX15_expand 120 = .ok (.isub, 1) := by decide +kernel
theorem dX15_expand_121 : decode cX15_expand 121 = .ok (.aload 4, 2) := by decide +kernel
theorem dX15_expand_123 : decode cX15_expand 123 = .ok (.aload 5, 2) := by decide +kernel
theorem dX15_expand_125 : decode cX15_expand 125 = .ok (.invokevirtual 288, 3) := by decide +kernel
theorem dX15_expand_128 : decode cX15_expand 128 = .ok (.aload_n 1, 1) := by decide +kernel
theorem dX15_expand_129 : decode cX15_expand 129 = .ok (.iload 6, 2) := by decide +kernel
theorem dX15_expand_131 : decode cX15_expand 131 = .ok (.iconst 1, 1) := by decide +kernel
theorem dX15_expand_132 : decode cX15_expand 132 = .ok (.iadd, 1) := by decide +kernel
theorem dX15_expand_133 : decode cX15_expand 133 = .ok (.baload, 1) := by decide +kernel
theorem dX15_expand_134 : decode cX15_expand 134 = .ok (.bipush 45, 2) := by decide +kernel
theorem dX15_expand_136 : decode cX15_expand 136 = .ok (.if_icmp .ne 17, 3) := by decide +kernel
theorem dX15_expand_139 : decode cX15_expand 139 = .ok (.aload 5, 2) := by decide +kernel
theorem dX15_expand_141 : decode cX15_expand 141 = .ok (.bipush 50, 2) := by decide +kernel
theorem dX15_expand_143 : decode cX15_expand 143 = .ok (.invokestatic 284, 3) := by decide +kernel
theorem dX15_expand_146 : decode cX15_expand 146 = .ok (.aload 5, 2) := by decide +kernel
theorem dX15_expand_148 : decode cX15_expand 148 = .ok (.bipush 48, 2) := by decide +kernel
theorem dX15_expand_150 : decode cX15_expand 150 = .ok (.invokestatic 284, 3) := by decide +kernel
theorem dX15_expand_153 : decode cX15_expand 153 = .ok (.iload 6, 2) := by decide +kernel
theorem dX15_expand_155 : decode cX15_expand 155 = .ok (.iload 7, 2) := by decide +kernel
theorem dX15_expand_157 : decode cX15_expand 157 = .ok (.iconst 1, 1) := by decide +kernel
theorem dX15_expand_158 : decode cX15_expand 158 = .ok (.isub, 1) := by decide +kernel
theorem dX15_expand_159 : decode cX15_expand 159 = .ok (.iadd, 1) := by decide +kernel
theorem dX15_expand_160 : decode cX15_expand 160 = .ok (.istore 6, 2) := by decide +kernel
theorem dX15_expand_162 : decode cX15_expand 162 = .ok (.iinc 6 1, 3) := by decide +kernel
theorem dX15_expand_165 : decode cX15_expand 165 = .ok (.goto (-156), 3) := by decide +kernel
theorem dX15_expand_168 : decode cX15_expand 168 = .ok (.return_, 1) := by decide +kernel
theorem kt_1152 : Cond.code yX15_macroValue cX15_macroValue 12 none ∈ tb := tb_at (i := 1618) (by decide +kernel) (by decide +kernel)
theorem kt_1153 : Cond.methodLink RX15 288 yX15_macroValue ∈ tb := tb_at (i := 1615) (by decide +kernel) (by decide +kernel)
theorem kt_1154 : Cond.instanceMethod yX15_macroValue ∈ tb := tb_at (i := 1617) (by decide +kernel) (by decide +kernel)
theorem kt_1155 : Cond.selects RX15 yX15_macroValue yX15_macroValue ∈ tb := tb_at (i := 53) (by decide +kernel) (by decide +kernel)
theorem mcT_to {T : Nat → Nat} {a q : Nat} (h : mcT T a q ≠ 0) (h1 : ¬ (T (a + 1) = 37 ∨ T (a + 1) = 95 ∨ T (a + 1) = 45)) : a + mcT T a q - 1 = mcR T (mcD T (a + 3)) ∧ mcR T (mcD T (a + 3)) < q := by
  have g1 := mcD_le T (a + 3)
  have g2 := mcR_le T (mcD T (a + 3))
  unfold mcT at h ⊢
  by_cases c1 : T a = 37 ∧ a + 1 < q
  · rw [if_pos c1, if_neg h1] at h ⊢
    by_cases c3 : T (a + 1) = 123 ∧ mcL (T (a + 2))
    · rw [if_pos c3] at h ⊢
      unfold mcE at h ⊢
      by_cases c4 : mcR T (mcD T (a + 3)) < q ∧ T (mcR T (mcD T (a + 3))) = 125
      · rw [if_pos c4]
        omega
      · rw [if_neg c4] at h
        exact absurd rfl h
    · rw [if_neg c3] at h
      exact absurd rfl h
  · rw [if_neg c1] at h
    exact absurd rfl h
theorem mcT_in {T : Nat → Nat} {a q : Nat} (h : mcT T a q ≠ 0) : T a = 37 ∧ a + 1 < q ∧ 2 ≤ mcT T a q ∧ a + mcT T a q ≤ q := by
  have c1 : T a = 37 ∧ a + 1 < q := Classical.byContradiction (fun c => h (by unfold mcT; rw [if_neg c]))
  by_cases h1 : T (a + 1) = 37 ∨ T (a + 1) = 95 ∨ T (a + 1) = 45
  · have e : mcT T a q = 2 := by
      unfold mcT
      rw [if_pos c1, if_pos h1]
    omega
  · have h2 := mcT_let h h1
    have h3 := mcT_to h h1
    omega
set_option maxHeartbeats 4000000 in
set_option maxRecDepth 100000 in
theorem s_X15_expand_x (l : Launch) (dC : Nat → ClassId) (dI : Nat → Nat → Nat) (cs : Nat → ClassId) (ty : TyM) (gm : Nat → Nat → Nat) (L : List Nat) (sz : Nat) (F : Nat → va_E) (h0 : Nat) (ρ : Nat) (ta : Nat) (ou : Nat) (so : Nat) (ad : Nat) (na : Nat) (va : Nat) (lc : Nat) (dm : Nat) (tg : Nat) (pe : Nat) (ml : Nat) (bg : Nat) (co : Nat) (sp : Nat) (nb0 : Nat) (nb1 : Nat) (nb2 : Nat) (pl : Nat) (se : Nat) (ke : Nat) (wi : Nat) (hs : Nat) (mo : Nat) (po : Nat) (nu : Nat) (pr : Nat) (sq : Nat) (xa : Nat) (sa : Nat) (n64 : Nat) (m64 : Nat) (ex : Nat) (wh : Nat) (sd : Nat) (tk : Nat) (hd : Nat) (ak : Nat) (ho : Nat) (ot : Nat) (sx : Nat) (s0 : Nat) (s1 : Nat) (s2 : Nat) (nf : Nat) (bd : Nat) (mm : Nat) (zo : Nat) (fm : Nat) (sn : Nat) (hg : Nat) (gc : Nat) (gv : Nat) (ze : Nat) (zt : Nat) (rp : Nat) (g2 : Nat) (κ : Nat) (r2 : Nat) (g1 : Nat) (μ : Nat) (fv : Nat → Int32) (dd : Nat) (τ : Nat) (rd : Nat) (nd : Nat) (z : Nat) (a : Nat) (tt : Nat) (LC : List Nat) (DM : List Nat) (dn : List Nat) (hW : WTm ty gm L) (hL_h0 : h0 ∈ L) (hT_h0 : ty h0 = (15, ρ, [ta, ou, so, ad, na, va, lc, dm, tg, pe, ml, bg, co, sp, nb0, nb1, nb2, pl, se, ke, wi, hs, mo, po, nu, pr, sq, xa, sa, n64, m64, ex, wh, sd, tk, hd, ak, ho, ot, sx, s0, s1, s2, nf, bd, mm, zo, fm, sn, hg, gc, gv, ze, zt])) (hL_pe : pe ∈ L) (hT_pe : ty pe = (14, ρ + 7, [rp, 100])) (hL_g2 : g2 ∈ L) (hT_g2 : ty g2 = (14, κ, [r2, 61])) (hL_g1 : g1 ∈ L) (hT_g1 : ty g1 = (17, μ, [700])) (hL_dd : dd ∈ L) (hT_dd : ty dd = (14, τ, [rd, nd])) (hFg : F g1 = .inl (cs 17, 700, .inl fv)) (hmu : ρ + 100 ≤ μ) (hmu2 : μ < ρ + 300) (hkr : ρ + 300 ≤ κ) (htk : τ ≠ κ) (htp : τ ≠ ρ + 7) (hzn : z ≤ 700) (htz : tt ≤ z) (hnd : nd ≤ 61) (hH : HSW (TC fv z) a tt) (hLC : TXM cs F lc 30 LC) (hDM : TXM cs F dm 60 DM) (hDN : TXM cs F dd nd dn) : Met l yX15_expand (.code yX15_expand cX15_expand 8 none :: tb) ({ frames := 4, cells := 0, slots := 0, locals := 102 }) (va_Pc [.ref h0, .ref g1, .int (nI a), .int (nI tt), .ref dd, .ref g2] (PTm (dC, dI) cs ty gm L F sz)) (va_Qv (fun _ : Unit => True) (fun _ T9 => ∃ F2 : Nat → va_E, ∃ y2 : Nat, ∃ f2 : Nat → Int32, QTm (dC, dI) cs ty gm L [κ, ρ + 7] F F2 (va_A (va_pl L F) sz) T9 ∧ F2 g2 = .inr (14, [.ref r2, .int (nI y2)]) ∧ F2 r2 = .inl (cs 17, 61, .inl f2) ∧ TGM (exw (TC fv z) tt (sdM LC DM (nI fm)) dn (tt - a) a) y2 f2) (va_A (va_pl L F) sz)) 0 0 (va_A (va_pl L F) sz) := by
  refine Met.ofW (cc := cX15_expand) (maxL := 8) (ret := none) (by decide) rfl ?_
  intro p e s m args below meth c s₁ B hml hv
  obtain ⟨rfl, hsz, hP, hK, hD0, hE, hO⟩ := hv
  have hx := B.exec
  have hb := B.bytes
  have hr := B.returns
  have hts : ∀ w ∈ tb, w.before _ s = true := fun w h => atoms_spec (ws := .code yX15_expand cX15_expand 8 none :: tb) B.pre w (List.mem_cons_of_mem _ h)
  have hown : s.vm.findClass RX15 = some m.cls := findClass_of_methodNamed B.named
  have hlocks := B.notSynchronized
  subst hsz
  have hD := hD0.self (sz := s.heap.size)
  generalize hAe : va_A (va_pl L F) s.heap.size = A at hD ⊢
  have hA : ∀ q : Nat, s.heap.size ≤ q → A q := fun q h => by rw [← hAe]; exact Or.inr h
  have hS : va_S A s.heap s.heap [] := va_S.rf
  have hR : FR ty [κ, ρ + 7] F F := FR.refl
  have hl := lv_entry ([.ref h0, .ref g1, .int (nI a), .int (nI tt), .ref dd, .ref g2]) (n := 8) (Nat.le_of_ble_eq_true rfl)
  rw [lg_entry_eq]
  generalize (lg_sl ([.ref h0, .ref g1, .int (nI a), .int (nI tt), .ref dd, .ref g2]) ++ List.replicate (8 - (lg_sl ([.ref h0, .ref g1, .int (nI a), .int (nI tt), .ref dd, .ref g2])).length) Slot.unset).toArray = ls at hl ⊢
  have hl : lv_has ls 8 [(0, .ref h0), (1, .ref g1), (2, .int (nI a)), (3, .int (nI tt)), (4, .ref dd), (5, .ref g2)] := hl
  obtain ⟨hq_22, hq_23, hq_24, hq_25, hq_26, hgO, hgA, hgB, hq_27⟩ := hW.sc hL_h0 hT_h0
  obtain ⟨v14_28, v15_29, v17_30, v18_31, v19_32, v20_33, v21_34, v22_35, v33_36, v52_37, v53_38, v54_39, hF_40, hq_41, hq_42, hq_43, hq_44, hq_45⟩ := hO.mod hL_h0 hT_h0
  obtain ⟨hi_46, ht_47, hq_48⟩ := hW.txt hL_pe hT_pe
  obtain ⟨hi_49, ht_50, hq_51⟩ := hW.txt hL_g2 hT_g2
  obtain ⟨hq_52, hq_53⟩ := hW.octs hL_g1 hT_g1
  obtain ⟨hi_54, ht_55, hq_56⟩ := hW.txt hL_dd hT_dd
  obtain ⟨z_57, hF_58, hq_59⟩ := hO.txt hL_g2 hT_g2
  obtain ⟨hq_60, hq_61⟩ := hW.octs hi_49 ht_50
  obtain ⟨f_62, hF_63, hq_64⟩ := hO.octs hi_49 ht_50
  have hO0 := hO
  refine lv_aload hx hb dX15_expand_0 (lv_at hl 5 rfl) ?_
  refine lv_iconst (v := 0) hx hb dX15_expand_2 (by decide) ?_
  refine pg_put (ci := 14) (v := .int 0) (ty := .int) (C := RX14) (T := TX14) (N := 2) hx hb hts it_14 tyX14 tyX14_ok nmX14 hown hK hP hD hS hL_g2 hF_58 rfl 1 (by decide) (hts _ kt_709) (fun _ h9 => h9) rfl (by decide +kernel) (rfl) (rfl) (Nat.le_of_ble_eq_true rfl) dX15_expand_3 (fun H locs hP hD hS => ?_)
  obtain ⟨F_65, he_66, hP, hD, hO, hR⟩ : ∃ G, G = va_up F g2 (.inr (14, [.ref r2, .int 0])) ∧ va_P (dC, dI) vwCl (va_pl L G) H ∧ va_D A (va_pl L G) ∧ OKm cs ty gm L G ∧ FR ty [κ, ρ + 7] F G := ⟨_, rfl, hP, hD, hO.up (shm.txt hT_g2 ⟨0, rfl, (by first | omega | assumption | exact Or.inl rfl | exact Or.inr rfl)⟩), hR.up hT_g2 (by simp)⟩
  have hF_67 : F_65 g2 = .inr (14, [.ref r2, .int 0]) := by rw [he_66]; exact up_self
  have hF_68 : F_65 g1 = .inl (cs 17, 700, .inl fv) := by rw [he_66, up_ne (ne_ty hT_g1 hT_g2 (by simp))]; exact hFg
  have hF_69 : F_65 h0 = .inr (15, (.ref ta) :: (.int (nI zt)) :: (.int (nI zo)) :: (.int (nI ze)) :: (.ref ou) :: (.ref so) :: (.ref ad) :: (.ref na) :: (.ref va) :: (.ref lc) :: (.ref dm) :: (.int (nI fm)) :: (.int (nI sn)) :: (.ref tg) :: (.int v14_28) :: (.int v15_29) :: (.ref pe) :: (.int v17_30) :: (.int v18_31) :: (.int v19_32) :: (.int v20_33) :: (.int v21_34) :: (.int v22_35) :: (.ref ml) :: (.ref bg) :: (.ref co) :: (.ref sp) :: (.ref nb0) :: (.ref nb1) :: (.ref nb2) :: (.int (nI nf)) :: (.int (nI bd)) :: (.int (nI mm)) :: (.int v33_36) :: (.ref pl) :: (.ref se) :: (.ref ke) :: (.ref wi) :: (.ref hs) :: (.ref mo) :: (.ref po) :: (.ref nu) :: (.ref pr) :: (.ref sq) :: (.ref xa) :: (.ref sa) :: (.ref n64) :: (.ref m64) :: (.ref ex) :: (.ref wh) :: (.ref sd) :: (.ref tk) :: (.int v52_37) :: (.int v53_38) :: (.int v54_39) :: (.ref hd) :: (.ref ak) :: (.ref ho) :: (.ref ot) :: []) := by rw [he_66, up_ne (ne_ty hT_h0 hT_g2 (by simp))]; exact hF_40
  have hF_70 : F_65 r2 = .inl (cs 17, 61, .inl f_62) := by rw [he_66, up_ne (ne_ty ht_50 hT_g2 (by simp))]; exact hF_63
  refine lv_iload_n hx hb dX15_expand_6 rfl (lv_at hl 2 rfl) ?_
  refine lv_istore (lv' := [(6, .int (nI a)), (0, .ref h0), (1, .ref g1), (2, .int (nI a)), (3, .int (nI tt)), (4, .ref dd), (5, .ref g2)]) hx hb dX15_expand_7 hl (by decide) rfl (fun ls hl => ?_)
  refine W.widen (k := 0) (n := 0) (by omega) (by omega) ?_
  have hF_72 : F g1 = .inl (cs 17, 700, .inl fv) := (hR g1 (by rw [hT_g1]; simp only [List.mem_cons, List.not_mem_nil, or_false]; omega)).symm.trans hF_68
  have hF_73 : F h0 = .inr (15, (.ref ta) :: (.int (nI zt)) :: (.int (nI zo)) :: (.int (nI ze)) :: (.ref ou) :: (.ref so) :: (.ref ad) :: (.ref na) :: (.ref va) :: (.ref lc) :: (.ref dm) :: (.int (nI fm)) :: (.int (nI sn)) :: (.ref tg) :: (.int v14_28) :: (.int v15_29) :: (.ref pe) :: (.int v17_30) :: (.int v18_31) :: (.int v19_32) :: (.int v20_33) :: (.int v21_34) :: (.int v22_35) :: (.ref ml) :: (.ref bg) :: (.ref co) :: (.ref sp) :: (.ref nb0) :: (.ref nb1) :: (.ref nb2) :: (.int (nI nf)) :: (.int (nI bd)) :: (.int (nI mm)) :: (.int v33_36) :: (.ref pl) :: (.ref se) :: (.ref ke) :: (.ref wi) :: (.ref hs) :: (.ref mo) :: (.ref po) :: (.ref nu) :: (.ref pr) :: (.ref sq) :: (.ref xa) :: (.ref sa) :: (.ref n64) :: (.ref m64) :: (.ref ex) :: (.ref wh) :: (.ref sd) :: (.ref tk) :: (.int v52_37) :: (.int v53_38) :: (.int v54_39) :: (.ref hd) :: (.ref ak) :: (.ref ho) :: (.ref ot) :: []) := (hR h0 (by rw [hT_h0]; simp only [List.mem_cons, List.not_mem_nil, or_false]; omega)).symm.trans hF_69
  refine pl_loopm (σ := Nat × Nat × (Nat → Int32) × (List Nat)) A (dC, dI) cs ty gm L [κ, ρ + 7] F 9 8 (fun (j, yy, fq, UU) => [(6, .int (nI j)), (0, .ref h0), (1, .ref g1), (2, .int (nI a)), (3, .int (nI tt)), (4, .ref dd), (5, .ref g2)]) (fun (j, yy, fq, UU) => []) (fun (j, yy, fq, UU) FF => a ≤ j ∧ j ≤ 1000 ∧ ishw (TC fv z) tt (tt - j) j = true ∧ FF g2 = .inr (14, [.ref r2, .int (nI yy)]) ∧ FF r2 = .inl (cs 17, 61, .inl fq) ∧ TGM UU yy fq ∧ UU ++ (exw (TC fv z) tt (sdM LC DM (nI fm)) dn (tt - j) j) = (exw (TC fv z) tt (sdM LC DM (nI fm)) dn (tt - a) a)) (fun (j, yy, fq, UU) => tt - j) ?_ (a, 0, f_62, []) F_65 (⟨Nat.le_refl _, by have h9 := hH.1; omega, hH.2, hF_67, hF_70, tgm_nil, rfl⟩) hO hR _ _ hP hD hS ls (lv_sub hl [0, 1, 2, 3, 4, 5, 6] rfl)
  rintro ⟨j, yy, fq, UU⟩ F_71 hv_74 hO hR ih_75 H locs hP hD hS ls hl
  have hl : lv_has ls 8 [(6, .int (nI j)), (0, .ref h0), (1, .ref g1), (2, .int (nI a)), (3, .int (nI tt)), (4, .ref dd), (5, .ref g2)] := hl
  have hv_74 : a ≤ j ∧ j ≤ 1000 ∧ ishw (TC fv z) tt (tt - j) j = true ∧ F_71 g2 = .inr (14, [.ref r2, .int (nI yy)]) ∧ F_71 r2 = .inl (cs 17, 61, .inl fq) ∧ TGM UU yy fq ∧ UU ++ (exw (TC fv z) tt (sdM LC DM (nI fm)) dn (tt - j) j) = (exw (TC fv z) tt (sdM LC DM (nI fm)) dn (tt - a) a) := hv_74
  refine W.eq (g2 := F0 m 9 ls []) rfl ?_
  have hF_76 : F_71 g1 = .inl (cs 17, 700, .inl fv) := (hR g1 (by rw [hT_g1]; simp only [List.mem_cons, List.not_mem_nil, or_false]; omega)).trans hF_72
  have hF_77 : F_71 h0 = .inr (15, (.ref ta) :: (.int (nI zt)) :: (.int (nI zo)) :: (.int (nI ze)) :: (.ref ou) :: (.ref so) :: (.ref ad) :: (.ref na) :: (.ref va) :: (.ref lc) :: (.ref dm) :: (.int (nI fm)) :: (.int (nI sn)) :: (.ref tg) :: (.int v14_28) :: (.int v15_29) :: (.ref pe) :: (.int v17_30) :: (.int v18_31) :: (.int v19_32) :: (.int v20_33) :: (.int v21_34) :: (.int v22_35) :: (.ref ml) :: (.ref bg) :: (.ref co) :: (.ref sp) :: (.ref nb0) :: (.ref nb1) :: (.ref nb2) :: (.int (nI nf)) :: (.int (nI bd)) :: (.int (nI mm)) :: (.int v33_36) :: (.ref pl) :: (.ref se) :: (.ref ke) :: (.ref wi) :: (.ref hs) :: (.ref mo) :: (.ref po) :: (.ref nu) :: (.ref pr) :: (.ref sq) :: (.ref xa) :: (.ref sa) :: (.ref n64) :: (.ref m64) :: (.ref ex) :: (.ref wh) :: (.ref sd) :: (.ref tk) :: (.int v52_37) :: (.int v53_38) :: (.int v54_39) :: (.ref hd) :: (.ref ak) :: (.ref ho) :: (.ref ot) :: []) := (hR h0 (by rw [hT_h0]; simp only [List.mem_cons, List.not_mem_nil, or_false]; omega)).trans hF_73
  obtain ⟨hv1, hv2, hv3, hv4, hv5, hv6, hv7⟩ := hv_74
  have hmi := mcT_le (T := (TC fv z)) (a := j) (tt := tt)
  obtain ⟨hi_78, r_1, ht_79⟩ := hW.f_lc hL_h0 hT_h0
  have hLC2 := hLC.fr hO0 hW hi_78 ht_79 hR (by simp only [List.mem_cons, List.not_mem_nil, or_false]; omega)
  obtain ⟨hi_80, r_2, ht_81⟩ := hW.f_dm hL_h0 hT_h0
  have hDM2 := hDM.fr hO0 hW hi_80 ht_81 hR (by simp only [List.mem_cons, List.not_mem_nil, or_false]; omega)
  have hDN2 := hDN.fr hO0 hW hL_dd hT_dd hR (by simp only [List.mem_cons, List.not_mem_nil, or_false]; omega)
  refine lv_iload hx hb dX15_expand_9 (lv_at hl 0 rfl) ?_
  refine lv_iload_n hx hb dX15_expand_11 rfl (lv_at hl 4 rfl) ?_
  refine lv_icmp_ge (tgt := 168) hx hb dX15_expand_12 (by decide) (fun c_82 => ?_) (fun c_82 => ?_)
  ·
    have hi_83 : tt ≤ j := leN (N := tt) c_82
    refine W.widen (k := 0) (n := 0) (by omega) (by omega) ?_
    exact W.vret hx hb hr (fun t ht hWm => ⟨⟨(), rfl, trivial, ⟨F_71, yy, fq, QTm.mk ht hP hD hO hR, hv4, hv5, (by have h9 := hv7; rw [exw_d (tt - j) j (by omega), List.append_nil] at h9; rw [← h9]; exact hv6)⟩⟩, hS.F ht⟩) hS.2.2 dX15_expand_168
  ·
    have hi_84 : j < tt := ltN (N := tt) c_82
    have hok := ishw_ok hv3 (show j < tt by omega)
    refine lv_aload_n hx hb dX15_expand_15 rfl (lv_at hl 2 rfl) ?_
    refine lv_iload hx hb dX15_expand_16 (lv_at hl 0 rfl) ?_
    refine pg_bald hx hb hK hP hL_g1 1 hF_76 rfl (vp_in_nI (by omega) (by omega)) dX15_expand_18 ?_
    refine lv_topi (fun x_85 ex_85 => ?_)
    obtain rfl : x_85 = fv j := ex_85.trans (congrArg fv (show ((nI j) : Int32).toNatClampNeg = j from nI_clamp (by omega)))
    refine lv_bipush (v := 37) hx hb dX15_expand_19 (by decide) ?_
    refine lv_icmp_eq (tgt := 36) hx hb dX15_expand_21 (by decide) (fun c_86 => ?_) (fun c_86 => ?_)
    ·
      have h37 : (TC fv z) j = 37 := (tc_eq (by omega) (by first | decide | omega)).mpr c_86
      have hmc := mac_mcT (f := fv) htz h37
      have hm0 : ¬ (mcT (TC fv z) j tt) = 0 := fun q => hok.2 ⟨h37, q⟩
      obtain ⟨-, hm1, hm2, hm3⟩ := mcT_in hm0
      refine lv_aload_n hx hb dX15_expand_36 rfl (lv_at hl 2 rfl) ?_
      refine lv_iload hx hb dX15_expand_37 (lv_at hl 0 rfl) ?_
      refine lv_iload_n hx hb dX15_expand_39 rfl (lv_at hl 4 rfl) ?_
      have hFc := pg_free hD hS hA
      refine va_calli (va_runS (As := [.ref g1, .int (nI j), .int (nI tt)]) (rest := []) ⟨hx, hb, hml, hown, hts⟩ (s_X15_macro l dC dI cs ty gm L H.size F_71 g1 μ 700 j tt hW hL_g1 hT_g1 (by first | omega | assumption | exact Or.inl rfl) (by first | omega | assumption | exact Or.inl rfl)) ⟨callB_of 3 hts (gi kt_700) rfl rfl rfl (hts _ kt_669) (hts _ kt_701) (by decide +kernel) ⟨Nat.le_of_ble_eq_true rfl, Nat.le_of_ble_eq_true rfl⟩, (hts _ kt_702)⟩ ⟨fun a U g mk q => ⟨q.1, PTm.calling q.2⟩, fun U hU hWm => ⟨rfl, PTm.mk hU hWm hP hK hD hE hO⟩⟩ rfl rfl hl.1 rfl (lv_room (Nat.le_of_ble_eq_true rfl)) dX15_expand_40 ⟨by show _ + 0 ≤ 0; omega, by show _ + 0 ≤ 0; omega⟩) hS (fun q _ h => hFc q h) hFc (fun r_87 u t H1 locs ht hvm hw hB hz1 hk1 hS => ?_)
      obtain ⟨F_88, hB1⟩ := hB
      obtain rfl : F_71 = F_88 := (funext (fun a => hB1.2.2.2 a List.not_mem_nil)).symm
      obtain ⟨hP, hD, hO, hR⟩ := QTm.back hB1 ht hFc hR (fun q h => absurd h List.not_mem_nil)
      generalize H1 = H at hP hS ⊢
      have hw : r_87 = nI (mac (gA (F_71 g1)) j tt) := hw
      subst hw
      refine lv_topi (fun x9 ex9 => ?_)
      obtain rfl : x9 = nI (mcT (TC fv z) j tt) := ex9.trans (by rw [gA_fun hF_76, hmc])
      refine lv_istore (lv' := [(7, .int (nI (mcT (TC fv z) j tt))), (6, .int (nI j)), (0, .ref h0), (1, .ref g1), (2, .int (nI a)), (3, .int (nI tt)), (4, .ref dd), (5, .ref g2)]) hx hb dX15_expand_43 hl (by decide) rfl (fun ls hl => ?_)
      have hF_91 : F g1 = .inl (cs 17, 700, .inl fv) := (hR g1 (by rw [hT_g1]; simp only [List.mem_cons, List.not_mem_nil, or_false]; omega)).symm.trans hF_76
      have hF_92 : F h0 = .inr (15, (.ref ta) :: (.int (nI zt)) :: (.int (nI zo)) :: (.int (nI ze)) :: (.ref ou) :: (.ref so) :: (.ref ad) :: (.ref na) :: (.ref va) :: (.ref lc) :: (.ref dm) :: (.int (nI fm)) :: (.int (nI sn)) :: (.ref tg) :: (.int v14_28) :: (.int v15_29) :: (.ref pe) :: (.int v17_30) :: (.int v18_31) :: (.int v19_32) :: (.int v20_33) :: (.int v21_34) :: (.int v22_35) :: (.ref ml) :: (.ref bg) :: (.ref co) :: (.ref sp) :: (.ref nb0) :: (.ref nb1) :: (.ref nb2) :: (.int (nI nf)) :: (.int (nI bd)) :: (.int (nI mm)) :: (.int v33_36) :: (.ref pl) :: (.ref se) :: (.ref ke) :: (.ref wi) :: (.ref hs) :: (.ref mo) :: (.ref po) :: (.ref nu) :: (.ref pr) :: (.ref sq) :: (.ref xa) :: (.ref sa) :: (.ref n64) :: (.ref m64) :: (.ref ex) :: (.ref wh) :: (.ref sd) :: (.ref tk) :: (.int v52_37) :: (.int v53_38) :: (.int v54_39) :: (.ref hd) :: (.ref ak) :: (.ref ho) :: (.ref ot) :: []) := (hR h0 (by rw [hT_h0]; simp only [List.mem_cons, List.not_mem_nil, or_false]; omega)).symm.trans hF_77
      refine W.widen (k := 0) (n := 0) (by omega) (by omega) ?_
      refine pl_cutm (σ := Nat × (Nat → Int32) × (List Nat)) A (dC, dI) cs ty gm L [κ, ρ + 7] F 128 8 (fun (y5, f5, U5) => [(7, .int (nI (mcT (TC fv z) j tt))), (6, .int (nI j)), (0, .ref h0), (1, .ref g1), (2, .int (nI a)), (3, .int (nI tt)), (4, .ref dd), (5, .ref g2)]) (fun (y5, f5, U5) => []) (fun (y5, f5, U5) FF => FF g2 = .inr (14, [.ref r2, .int (nI y5)]) ∧ FF r2 = .inl (cs 17, 61, .inl f5) ∧ TGM U5 y5 f5 ∧ (((TC fv z) (j + 1) = 45 ∧ U5 = UU ++ [37]) ∨ (¬ (TC fv z) (j + 1) = 45 ∧ U5 = UU ++ (mcV (TC fv z) j (mcT (TC fv z) j tt) (sdM LC DM (nI fm)) dn)))) ?_ (fun jn_89 => ?_)
      ·
        rintro ⟨y5, f5, U5⟩ F_90 hv_93 hO hR H locs hP hD hS ls hl
        have hl : lv_has ls 8 [(7, .int (nI (mcT (TC fv z) j tt))), (6, .int (nI j)), (0, .ref h0), (1, .ref g1), (2, .int (nI a)), (3, .int (nI tt)), (4, .ref dd), (5, .ref g2)] := hl
        have hv_93 : F_90 g2 = .inr (14, [.ref r2, .int (nI y5)]) ∧ F_90 r2 = .inl (cs 17, 61, .inl f5) ∧ TGM U5 y5 f5 ∧ (((TC fv z) (j + 1) = 45 ∧ U5 = UU ++ [37]) ∨ (¬ (TC fv z) (j + 1) = 45 ∧ U5 = UU ++ (mcV (TC fv z) j (mcT (TC fv z) j tt) (sdM LC DM (nI fm)) dn))) := hv_93
        refine W.eq (g2 := F0 m 128 ls []) rfl ?_
        have hF_94 : F_90 g1 = .inl (cs 17, 700, .inl fv) := (hR g1 (by rw [hT_g1]; simp only [List.mem_cons, List.not_mem_nil, or_false]; omega)).trans hF_91
        have hF_95 : F_90 h0 = .inr (15, (.ref ta) :: (.int (nI zt)) :: (.int (nI zo)) :: (.int (nI ze)) :: (.ref ou) :: (.ref so) :: (.ref ad) :: (.ref na) :: (.ref va) :: (.ref lc) :: (.ref dm) :: (.int (nI fm)) :: (.int (nI sn)) :: (.ref tg) :: (.int v14_28) :: (.int v15_29) :: (.ref pe) :: (.int v17_30) :: (.int v18_31) :: (.int v19_32) :: (.int v20_33) :: (.int v21_34) :: (.int v22_35) :: (.ref ml) :: (.ref bg) :: (.ref co) :: (.ref sp) :: (.ref nb0) :: (.ref nb1) :: (.ref nb2) :: (.int (nI nf)) :: (.int (nI bd)) :: (.int (nI mm)) :: (.int v33_36) :: (.ref pl) :: (.ref se) :: (.ref ke) :: (.ref wi) :: (.ref hs) :: (.ref mo) :: (.ref po) :: (.ref nu) :: (.ref pr) :: (.ref sq) :: (.ref xa) :: (.ref sa) :: (.ref n64) :: (.ref m64) :: (.ref ex) :: (.ref wh) :: (.ref sd) :: (.ref tk) :: (.int v52_37) :: (.int v53_38) :: (.int v54_39) :: (.ref hd) :: (.ref ak) :: (.ref ho) :: (.ref ot) :: []) := (hR h0 (by rw [hT_h0]; simp only [List.mem_cons, List.not_mem_nil, or_false]; omega)).trans hF_92
        obtain ⟨hp1, hp2, hp3, hp4⟩ := hv_93
        have hF_98 : F g1 = .inl (cs 17, 700, .inl fv) := (hR g1 (by rw [hT_g1]; simp only [List.mem_cons, List.not_mem_nil, or_false]; omega)).symm.trans hF_94
        have hF_99 : F h0 = .inr (15, (.ref ta) :: (.int (nI zt)) :: (.int (nI zo)) :: (.int (nI ze)) :: (.ref ou) :: (.ref so) :: (.ref ad) :: (.ref na) :: (.ref va) :: (.ref lc) :: (.ref dm) :: (.int (nI fm)) :: (.int (nI sn)) :: (.ref tg) :: (.int v14_28) :: (.int v15_29) :: (.ref pe) :: (.int v17_30) :: (.int v18_31) :: (.int v19_32) :: (.int v20_33) :: (.int v21_34) :: (.int v22_35) :: (.ref ml) :: (.ref bg) :: (.ref co) :: (.ref sp) :: (.ref nb0) :: (.ref nb1) :: (.ref nb2) :: (.int (nI nf)) :: (.int (nI bd)) :: (.int (nI mm)) :: (.int v33_36) :: (.ref pl) :: (.ref se) :: (.ref ke) :: (.ref wi) :: (.ref hs) :: (.ref mo) :: (.ref po) :: (.ref nu) :: (.ref pr) :: (.ref sq) :: (.ref xa) :: (.ref sa) :: (.ref n64) :: (.ref m64) :: (.ref ex) :: (.ref wh) :: (.ref sd) :: (.ref tk) :: (.int v52_37) :: (.int v53_38) :: (.int v54_39) :: (.ref hd) :: (.ref ak) :: (.ref ho) :: (.ref ot) :: []) := (hR h0 (by rw [hT_h0]; simp only [List.mem_cons, List.not_mem_nil, or_false]; omega)).symm.trans hF_95
        refine W.widen (k := 0) (n := 0) (by omega) (by omega) ?_
        refine pl_cutm (σ := Nat × (Nat → Int32) × (List Nat)) A (dC, dI) cs ty gm L [κ, ρ + 7] F 153 8 (fun (y6, f6, U6) => [(7, .int (nI (mcT (TC fv z) j tt))), (6, .int (nI j)), (0, .ref h0), (1, .ref g1), (2, .int (nI a)), (3, .int (nI tt)), (4, .ref dd), (5, .ref g2)]) (fun (y6, f6, U6) => []) (fun (y6, f6, U6) FF => FF g2 = .inr (14, [.ref r2, .int (nI y6)]) ∧ FF r2 = .inl (cs 17, 61, .inl f6) ∧ TGM U6 y6 f6 ∧ U6 = UU ++ (mcV (TC fv z) j (mcT (TC fv z) j tt) (sdM LC DM (nI fm)) dn)) ?_ (fun jn_96 => ?_)
        ·
          rintro ⟨y6, f6, U6⟩ F_97 hv_100 hO hR H locs hP hD hS ls hl
          have hl : lv_has ls 8 [(7, .int (nI (mcT (TC fv z) j tt))), (6, .int (nI j)), (0, .ref h0), (1, .ref g1), (2, .int (nI a)), (3, .int (nI tt)), (4, .ref dd), (5, .ref g2)] := hl
          have hv_100 : F_97 g2 = .inr (14, [.ref r2, .int (nI y6)]) ∧ F_97 r2 = .inl (cs 17, 61, .inl f6) ∧ TGM U6 y6 f6 ∧ U6 = UU ++ (mcV (TC fv z) j (mcT (TC fv z) j tt) (sdM LC DM (nI fm)) dn) := hv_100
          refine W.eq (g2 := F0 m 153 ls []) rfl ?_
          have hF_101 : F_97 g1 = .inl (cs 17, 700, .inl fv) := (hR g1 (by rw [hT_g1]; simp only [List.mem_cons, List.not_mem_nil, or_false]; omega)).trans hF_98
          have hF_102 : F_97 h0 = .inr (15, (.ref ta) :: (.int (nI zt)) :: (.int (nI zo)) :: (.int (nI ze)) :: (.ref ou) :: (.ref so) :: (.ref ad) :: (.ref na) :: (.ref va) :: (.ref lc) :: (.ref dm) :: (.int (nI fm)) :: (.int (nI sn)) :: (.ref tg) :: (.int v14_28) :: (.int v15_29) :: (.ref pe) :: (.int v17_30) :: (.int v18_31) :: (.int v19_32) :: (.int v20_33) :: (.int v21_34) :: (.int v22_35) :: (.ref ml) :: (.ref bg) :: (.ref co) :: (.ref sp) :: (.ref nb0) :: (.ref nb1) :: (.ref nb2) :: (.int (nI nf)) :: (.int (nI bd)) :: (.int (nI mm)) :: (.int v33_36) :: (.ref pl) :: (.ref se) :: (.ref ke) :: (.ref wi) :: (.ref hs) :: (.ref mo) :: (.ref po) :: (.ref nu) :: (.ref pr) :: (.ref sq) :: (.ref xa) :: (.ref sa) :: (.ref n64) :: (.ref m64) :: (.ref ex) :: (.ref wh) :: (.ref sd) :: (.ref tk) :: (.int v52_37) :: (.int v53_38) :: (.int v54_39) :: (.ref hd) :: (.ref ak) :: (.ref ho) :: (.ref ot) :: []) := (hR h0 (by rw [hT_h0]; simp only [List.mem_cons, List.not_mem_nil, or_false]; omega)).trans hF_99
          obtain ⟨hp5, hp6, hp7, hp9⟩ := hv_100
          have hp8 : TGM (UU ++ (mcV (TC fv z) j (mcT (TC fv z) j tt) (sdM LC DM (nI fm)) dn)) y6 f6 := by rw [← hp9]; exact hp7
          refine lv_iload hx hb dX15_expand_153 (lv_at hl 1 rfl) ?_
          refine lv_iload hx hb dX15_expand_155 (lv_at hl 0 rfl) ?_
          refine lv_iconst (v := 1) hx hb dX15_expand_157 (by decide) ?_
          refine lv_isub hx hb dX15_expand_158 ?_
          refine lv_topi (fun x_103 ex_103 => ?_)
          obtain rfl : x_103 = (nI ((mcT (TC fv z) j tt) - 1)) := ex_103.trans (pk_sub (a := (mcT (TC fv z) j tt)) (b := 1) (by omega))
          refine lv_iadd hx hb dX15_expand_159 ?_
          refine lv_topi (fun x_104 ex_104 => ?_)
          obtain rfl : x_104 = (nI (j + ((mcT (TC fv z) j tt) - 1))) := ex_104.trans (nI_add j ((mcT (TC fv z) j tt) - 1))
          refine lv_istore (lv' := [(6, .int (nI (j + ((mcT (TC fv z) j tt) - 1)))), (7, .int (nI (mcT (TC fv z) j tt))), (0, .ref h0), (1, .ref g1), (2, .int (nI a)), (3, .int (nI tt)), (4, .ref dd), (5, .ref g2)]) hx hb dX15_expand_160 hl (by decide) rfl (fun ls hl => ?_)
          refine lv_iinc (v := (nI ((j + ((mcT (TC fv z) j tt) - 1)) + 1))) (lv' := [(6, .int (nI ((j + ((mcT (TC fv z) j tt) - 1)) + 1))), (7, .int (nI (mcT (TC fv z) j tt))), (0, .ref h0), (1, .ref g1), (2, .int (nI a)), (3, .int (nI tt)), (4, .ref dd), (5, .ref g2)]) hx hb dX15_expand_162 hl (k := 0) rfl (nI_1 _) (by decide) rfl (fun ls hl => ?_)
          refine lv_goto (tgt := 9) hx hb dX15_expand_165 (by decide) ?_
          refine W.widen (k := 0) (n := 0) (by omega) (by omega) ?_
          exact ih_75 (((j + ((mcT (TC fv z) j tt) - 1)) + 1), y6, f6, (UU ++ (mcV (TC fv z) j (mcT (TC fv z) j tt) (sdM LC DM (nI fm)) dn))) F_97 (⟨by omega, by omega, by have h9 := ishw_y hv3 (by omega) hok; rw [show j + max 1 (mcT (TC fv z) j tt) = j + ((mcT (TC fv z) j tt) - 1) + 1 by omega] at h9; exact h9, hp5, hp6, hp8, by have h9 := exw_n hv7 (show j < tt by omega); rw [if_neg hm0, show j + max 1 (mcT (TC fv z) j tt) = j + ((mcT (TC fv z) j tt) - 1) + 1 by omega] at h9; exact h9⟩) (by show tt - ((j + ((mcT (TC fv z) j tt) - 1)) + 1) < tt - j; omega) hO hR _ _ hP hD hS ls (lv_sub hl [0, 2, 3, 4, 5, 6, 7] rfl)
        ·
          refine lv_aload_n hx hb dX15_expand_128 rfl (lv_at hl 3 rfl) ?_
          refine lv_iload hx hb dX15_expand_129 (lv_at hl 1 rfl) ?_
          refine lv_iconst (v := 1) hx hb dX15_expand_131 (by decide) ?_
          refine lv_iadd hx hb dX15_expand_132 ?_
          refine lv_topi (fun x_105 ex_105 => ?_)
          obtain rfl : x_105 = (nI (j + 1)) := ex_105.trans (nI_add j 1)
          refine pg_bald hx hb hK hP hL_g1 1 hF_94 rfl (vp_in_nI (by omega) (by omega)) dX15_expand_133 ?_
          refine lv_topi (fun x_106 ex_106 => ?_)
          obtain rfl : x_106 = fv (j + 1) := ex_106.trans (congrArg fv (show ((nI (j + 1)) : Int32).toNatClampNeg = (j + 1) from nI_clamp (by omega)))
          refine lv_bipush (v := 45) hx hb dX15_expand_134 (by decide) ?_
          refine lv_icmp_ne (tgt := 153) hx hb dX15_expand_136 (by decide) (fun c_107 => ?_) (fun c_107 => ?_)
          ·
            refine W.widen (k := 0) (n := 0) (by omega) (by omega) ?_
            exact jn_96 (y5, f5, U5) F_90 (⟨hp1, hp2, hp3, (hp4.resolve_left (fun q => (fun q => c_107 ((tc_eq (z := z) (by omega) (by first | decide | omega)).mp q)) q.1)).2⟩) hO hR _ _ hP hD hS ls (lv_sub hl [0, 1, 2, 3, 4, 5, 6, 7] rfl)
          ·
            refine lv_aload hx hb dX15_expand_139 (lv_at hl 7 rfl) ?_
            refine lv_bipush (v := 50) hx hb dX15_expand_141 (by decide) ?_
            refine W.eq (g2 := F0 m 143 ls [.int (nI 50), .ref g2]) rfl ?_
            have hFc := pg_free hD hS hA
            refine va_callv (va_runS (As := [.ref g2, .int (nI 50)]) (rest := []) ⟨hx, hb, hml, hown, hts⟩ (s_X15_put_x l dC dI cs ty gm L H.size F_90 g2 κ r2 61 y5 50 f5 U5 hW hL_g2 hT_g2 hp1 hp2 (hp3) (by omega) (by omega)) ⟨callB_of 2 hts (gi kt_1145) rfl rfl rfl (hts _ kt_669) (hts _ kt_1146) (by decide +kernel) ⟨Nat.le_of_ble_eq_true rfl, Nat.le_of_ble_eq_true rfl⟩, (hts _ kt_1147)⟩ ⟨fun a U g mk q => ⟨q.1, PTm.calling q.2⟩, fun U hU hWm => ⟨rfl, PTm.mk hU hWm hP hK hD hE hO⟩⟩ rfl rfl hl.1 rfl (lv_room (Nat.le_of_ble_eq_true rfl)) dX15_expand_143 ⟨by show _ + 0 ≤ 0; omega, by show _ + 0 ≤ 0; omega⟩) hS (fun q _ h => hFc q h) hFc (fun u t H1 locs ht hvm hw hB hz1 hk1 hS => ?_)
            obtain ⟨F_109, y2_110, f2_111, hB1, hq_112, hq_113, hq_114⟩ := hB
            obtain ⟨hP, hD, hO, hR⟩ := QTm.back hB1 ht hFc hR (fun q h => by simp only [List.mem_cons, List.not_mem_nil, or_false] at h ⊢; omega)
            have hF_115 : F_109 g1 = .inl (cs 17, 700, .inl fv) := (hB1.2.2.2 g1 (by rw [hT_g1]; simp only [List.mem_cons, List.not_mem_nil, or_false]; omega)).trans hF_94
            have hF_116 : F_109 h0 = .inr (15, (.ref ta) :: (.int (nI zt)) :: (.int (nI zo)) :: (.int (nI ze)) :: (.ref ou) :: (.ref so) :: (.ref ad) :: (.ref na) :: (.ref va) :: (.ref lc) :: (.ref dm) :: (.int (nI fm)) :: (.int (nI sn)) :: (.ref tg) :: (.int v14_28) :: (.int v15_29) :: (.ref pe) :: (.int v17_30) :: (.int v18_31) :: (.int v19_32) :: (.int v20_33) :: (.int v21_34) :: (.int v22_35) :: (.ref ml) :: (.ref bg) :: (.ref co) :: (.ref sp) :: (.ref nb0) :: (.ref nb1) :: (.ref nb2) :: (.int (nI nf)) :: (.int (nI bd)) :: (.int (nI mm)) :: (.int v33_36) :: (.ref pl) :: (.ref se) :: (.ref ke) :: (.ref wi) :: (.ref hs) :: (.ref mo) :: (.ref po) :: (.ref nu) :: (.ref pr) :: (.ref sq) :: (.ref xa) :: (.ref sa) :: (.ref n64) :: (.ref m64) :: (.ref ex) :: (.ref wh) :: (.ref sd) :: (.ref tk) :: (.int v52_37) :: (.int v53_38) :: (.int v54_39) :: (.ref hd) :: (.ref ak) :: (.ref ho) :: (.ref ot) :: []) := (hB1.2.2.2 h0 (by rw [hT_h0]; simp only [List.mem_cons, List.not_mem_nil, or_false]; omega)).trans hF_95
            generalize H1 = H at hP hS ⊢
            refine lv_aload hx hb dX15_expand_146 (lv_at hl 7 rfl) ?_
            refine lv_bipush (v := 48) hx hb dX15_expand_148 (by decide) ?_
            refine W.eq (g2 := F0 m 150 ls [.int (nI 48), .ref g2]) rfl ?_
            have hFc := pg_free hD hS hA
            refine va_callv (va_runS (As := [.ref g2, .int (nI 48)]) (rest := []) ⟨hx, hb, hml, hown, hts⟩ (s_X15_put_x l dC dI cs ty gm L H.size F_109 g2 κ r2 61 y2_110 48 f2_111 (U5 ++ [50]) hW hL_g2 hT_g2 hq_112 hq_113 (hq_114) (by omega) (by omega)) ⟨callB_of 2 hts (gi kt_1145) rfl rfl rfl (hts _ kt_669) (hts _ kt_1146) (by decide +kernel) ⟨Nat.le_of_ble_eq_true rfl, Nat.le_of_ble_eq_true rfl⟩, (hts _ kt_1147)⟩ ⟨fun a U g mk q => ⟨q.1, PTm.calling q.2⟩, fun U hU hWm => ⟨rfl, PTm.mk hU hWm hP hK hD hE hO⟩⟩ rfl rfl hl.1 rfl (lv_room (Nat.le_of_ble_eq_true rfl)) dX15_expand_150 ⟨by show _ + 0 ≤ 0; omega, by show _ + 0 ≤ 0; omega⟩) hS (fun q _ h => hFc q h) hFc (fun u t H1 locs ht hvm hw hB hz1 hk1 hS => ?_)
            obtain ⟨F_118, y2_119, f2_120, hB1, hq_121, hq_122, hq_123⟩ := hB
            obtain ⟨hP, hD, hO, hR⟩ := QTm.back hB1 ht hFc hR (fun q h => by simp only [List.mem_cons, List.not_mem_nil, or_false] at h ⊢; omega)
            have hF_124 : F_118 g1 = .inl (cs 17, 700, .inl fv) := (hB1.2.2.2 g1 (by rw [hT_g1]; simp only [List.mem_cons, List.not_mem_nil, or_false]; omega)).trans hF_115
            have hF_125 : F_118 h0 = .inr (15, (.ref ta) :: (.int (nI zt)) :: (.int (nI zo)) :: (.int (nI ze)) :: (.ref ou) :: (.ref so) :: (.ref ad) :: (.ref na) :: (.ref va) :: (.ref lc) :: (.ref dm) :: (.int (nI fm)) :: (.int (nI sn)) :: (.ref tg) :: (.int v14_28) :: (.int v15_29) :: (.ref pe) :: (.int v17_30) :: (.int v18_31) :: (.int v19_32) :: (.int v20_33) :: (.int v21_34) :: (.int v22_35) :: (.ref ml) :: (.ref bg) :: (.ref co) :: (.ref sp) :: (.ref nb0) :: (.ref nb1) :: (.ref nb2) :: (.int (nI nf)) :: (.int (nI bd)) :: (.int (nI mm)) :: (.int v33_36) :: (.ref pl) :: (.ref se) :: (.ref ke) :: (.ref wi) :: (.ref hs) :: (.ref mo) :: (.ref po) :: (.ref nu) :: (.ref pr) :: (.ref sq) :: (.ref xa) :: (.ref sa) :: (.ref n64) :: (.ref m64) :: (.ref ex) :: (.ref wh) :: (.ref sd) :: (.ref tk) :: (.int v52_37) :: (.int v53_38) :: (.int v54_39) :: (.ref hd) :: (.ref ak) :: (.ref ho) :: (.ref ot) :: []) := (hB1.2.2.2 h0 (by rw [hT_h0]; simp only [List.mem_cons, List.not_mem_nil, or_false]; omega)).trans hF_116
            generalize H1 = H at hP hS ⊢
            refine W.widen (k := 0) (n := 0) (by omega) (by omega) ?_
            exact jn_96 (y2_119, f2_120, ((U5 ++ [50]) ++ [48])) F_118 (⟨hq_121, hq_122, hq_123, by have h9 := (hp4.resolve_right (fun q => q.1 ((tc_eq (z := z) (by omega) (by first | decide | omega)).mpr c_107))).2; rw [h9]; unfold mcV; rw [if_neg (fun q => absurd (q.symm.trans ((tc_eq (z := z) (by omega) (by first | decide | omega)).mpr c_107)) (by decide)), if_neg (fun q => absurd (q.symm.trans ((tc_eq (z := z) (by omega) (by first | decide | omega)).mpr c_107)) (by decide)), if_pos ((tc_eq (z := z) (by omega) (by first | decide | omega)).mpr c_107)]; simp only [List.append_assoc]; rfl⟩) hO hR _ _ hP hD hS ls (lv_sub hl [0, 1, 2, 3, 4, 5, 6, 7] rfl)
      ·
        refine lv_aload_n hx hb dX15_expand_45 rfl (lv_at hl 3 rfl) ?_
        refine lv_iload hx hb dX15_expand_46 (lv_at hl 1 rfl) ?_
        refine lv_iconst (v := 1) hx hb dX15_expand_48 (by decide) ?_
        refine lv_iadd hx hb dX15_expand_49 ?_
        refine lv_topi (fun x_126 ex_126 => ?_)
        obtain rfl : x_126 = (nI (j + 1)) := ex_126.trans (nI_add j 1)
        refine pg_bald hx hb hK hP hL_g1 1 hF_76 rfl (vp_in_nI (by omega) (by omega)) dX15_expand_50 ?_
        refine lv_topi (fun x_127 ex_127 => ?_)
        obtain rfl : x_127 = fv (j + 1) := ex_127.trans (congrArg fv (show ((nI (j + 1)) : Int32).toNatClampNeg = (j + 1) from nI_clamp (by omega)))
        refine lv_bipush (v := 37) hx hb dX15_expand_51 (by decide) ?_
        refine lv_icmp_ne (tgt := 66) hx hb dX15_expand_53 (by decide) (fun c_128 => ?_) (fun c_128 => ?_)
        ·
          refine lv_aload_n hx hb dX15_expand_66 rfl (lv_at hl 3 rfl) ?_
          refine lv_iload hx hb dX15_expand_67 (lv_at hl 1 rfl) ?_
          refine lv_iconst (v := 1) hx hb dX15_expand_69 (by decide) ?_
          refine lv_iadd hx hb dX15_expand_70 ?_
          refine lv_topi (fun x_129 ex_129 => ?_)
          obtain rfl : x_129 = (nI (j + 1)) := ex_129.trans (nI_add j 1)
          refine pg_bald hx hb hK hP hL_g1 1 hF_76 rfl (vp_in_nI (by omega) (by omega)) dX15_expand_71 ?_
          refine lv_topi (fun x_130 ex_130 => ?_)
          obtain rfl : x_130 = fv (j + 1) := ex_130.trans (congrArg fv (show ((nI (j + 1)) : Int32).toNatClampNeg = (j + 1) from nI_clamp (by omega)))
          refine lv_bipush (v := 95) hx hb dX15_expand_72 (by decide) ?_
          refine lv_icmp_ne (tgt := 87) hx hb dX15_expand_74 (by decide) (fun c_131 => ?_) (fun c_131 => ?_)
          ·
            refine lv_aload_n hx hb dX15_expand_87 rfl (lv_at hl 3 rfl) ?_
            refine lv_iload hx hb dX15_expand_88 (lv_at hl 1 rfl) ?_
            refine lv_iconst (v := 1) hx hb dX15_expand_90 (by decide) ?_
            refine lv_iadd hx hb dX15_expand_91 ?_
            refine lv_topi (fun x_132 ex_132 => ?_)
            obtain rfl : x_132 = (nI (j + 1)) := ex_132.trans (nI_add j 1)
            refine pg_bald hx hb hK hP hL_g1 1 hF_76 rfl (vp_in_nI (by omega) (by omega)) dX15_expand_92 ?_
            refine lv_topi (fun x_133 ex_133 => ?_)
            obtain rfl : x_133 = fv (j + 1) := ex_133.trans (congrArg fv (show ((nI (j + 1)) : Int32).toNatClampNeg = (j + 1) from nI_clamp (by omega)))
            refine lv_bipush (v := 45) hx hb dX15_expand_93 (by decide) ?_
            refine lv_icmp_ne (tgt := 108) hx hb dX15_expand_95 (by decide) (fun c_134 => ?_) (fun c_134 => ?_)
            ·
              have hn3 : ¬ ((TC fv z) (j + 1) = 37 ∨ (TC fv z) (j + 1) = 95 ∨ (TC fv z) (j + 1) = 45) := fun q => q.elim (fun q => c_128 ((tc_eq (z := z) (by omega) (by first | decide | omega)).mp q)) (fun q2 => q2.elim (fun q => c_131 ((tc_eq (z := z) (by omega) (by first | decide | omega)).mp q)) (fun q => c_134 ((tc_eq (z := z) (by omega) (by first | decide | omega)).mp q)))
              obtain ⟨hle, hm4⟩ := mcT_let hm0 hn3
              obtain ⟨hto, htq⟩ := mcT_to hm0 hn3
              refine lv_aload_n hx hb dX15_expand_108 rfl (lv_at hl 2 rfl) ?_
              refine lv_aload_n hx hb dX15_expand_109 rfl (lv_at hl 3 rfl) ?_
              refine lv_iload hx hb dX15_expand_110 (lv_at hl 1 rfl) ?_
              refine lv_iconst (v := 2) hx hb dX15_expand_112 (by decide) ?_
              refine lv_iadd hx hb dX15_expand_113 ?_
              refine lv_topi (fun x_135 ex_135 => ?_)
              obtain rfl : x_135 = (nI (j + 2)) := ex_135.trans (nI_add j 2)
              refine lv_iload hx hb dX15_expand_114 (lv_at hl 1 rfl) ?_
              refine lv_iload hx hb dX15_expand_116 (lv_at hl 0 rfl) ?_
              refine lv_iadd hx hb dX15_expand_118 ?_
              refine lv_topi (fun x_136 ex_136 => ?_)
              obtain rfl : x_136 = (nI (j + (mcT (TC fv z) j tt))) := ex_136.trans (nI_add j (mcT (TC fv z) j tt))
              refine lv_iconst (v := 1) hx hb dX15_expand_119 (by decide) ?_
              refine lv_isub hx hb dX15_expand_120 ?_
              refine lv_topi (fun x_137 ex_137 => ?_)
              obtain rfl : x_137 = (nI ((j + (mcT (TC fv z) j tt)) - 1)) := ex_137.trans (pk_sub (a := (j + (mcT (TC fv z) j tt))) (b := 1) (by omega))
              refine lv_aload hx hb dX15_expand_121 (lv_at hl 6 rfl) ?_
              refine lv_aload hx hb dX15_expand_123 (lv_at hl 7 rfl) ?_
              have hFc := pg_free hD hS hA
              refine va_callv (va_runV (As := [.ref g1, .int (nI (j + 2)), .int (nI ((j + (mcT (TC fv z) j tt)) - 1)), .ref dd, .ref g2]) (rest := []) ⟨hx, hb, hml, hown, hts⟩ (s_X15_macroValue_x l dC dI cs ty gm L H.size F_71 h0 ρ ta ou so ad na va lc dm tg pe ml bg co sp nb0 nb1 nb2 pl se ke wi hs mo po nu pr sq xa sa n64 m64 ex wh sd tk hd ak ho ot sx s0 s1 s2 nf bd mm zo fm sn hg gc gv ze zt rp g2 κ r2 g1 μ fv dd τ rd nd z (j + 2) ((j + (mcT (TC fv z) j tt)) - 1) yy fq LC DM dn UU hW hL_h0 hT_h0 hL_pe hT_pe hL_g2 hT_g2 hL_g1 hT_g1 hL_dd hT_dd hF_76 (by first | omega | assumption | exact Or.inl rfl) (hmu2) (hkr) (htk) (htp) hv4 hv5 (hv6) (hzn) (by omega) (hnd) (hle) (hto) (hLC2) (hDM2) (hDN2)) ⟨callB_of 5 hts (gi kt_1152) rfl rfl rfl (hts _ kt_669) (hts _ kt_1153) (by decide +kernel) ⟨Nat.le_of_ble_eq_true rfl, Nat.le_of_ble_eq_true rfl⟩, (hts _ kt_1154), (hts _ kt_1155)⟩ ⟨fun a U g mk q => ⟨q.1, PTm.calling q.2⟩, pg_recv hK hP hL_h0 hF_77 (q := (RX15, TX15, 59)) rfl, fun U hU hWm => ⟨rfl, PTm.mk hU hWm hP hK hD hE hO⟩⟩ rfl rfl hl.1 rfl (lv_room (Nat.le_of_ble_eq_true rfl)) dX15_expand_125 ⟨by show _ + 0 ≤ 0; omega, by show _ + 0 ≤ 0; omega⟩) hS (fun q _ h => hFc q h) hFc (fun u t H1 locs ht hvm hw hB hz1 hk1 hS => ?_)
              obtain ⟨F_139, y2_140, f2_141, hB1, hq_142, hq_143, hq_144⟩ := hB
              obtain ⟨hP, hD, hO, hR⟩ := QTm.back hB1 ht hFc hR (fun q h => by simp only [List.mem_cons, List.not_mem_nil, or_false] at h ⊢; omega)
              have hF_145 : F_139 g1 = .inl (cs 17, 700, .inl fv) := (hB1.2.2.2 g1 (by rw [hT_g1]; simp only [List.mem_cons, List.not_mem_nil, or_false]; omega)).trans hF_76
              have hF_146 : F_139 h0 = .inr (15, (.ref ta) :: (.int (nI zt)) :: (.int (nI zo)) :: (.int (nI ze)) :: (.ref ou) :: (.ref so) :: (.ref ad) :: (.ref na) :: (.ref va) :: (.ref lc) :: (.ref dm) :: (.int (nI fm)) :: (.int (nI sn)) :: (.ref tg) :: (.int v14_28) :: (.int v15_29) :: (.ref pe) :: (.int v17_30) :: (.int v18_31) :: (.int v19_32) :: (.int v20_33) :: (.int v21_34) :: (.int v22_35) :: (.ref ml) :: (.ref bg) :: (.ref co) :: (.ref sp) :: (.ref nb0) :: (.ref nb1) :: (.ref nb2) :: (.int (nI nf)) :: (.int (nI bd)) :: (.int (nI mm)) :: (.int v33_36) :: (.ref pl) :: (.ref se) :: (.ref ke) :: (.ref wi) :: (.ref hs) :: (.ref mo) :: (.ref po) :: (.ref nu) :: (.ref pr) :: (.ref sq) :: (.ref xa) :: (.ref sa) :: (.ref n64) :: (.ref m64) :: (.ref ex) :: (.ref wh) :: (.ref sd) :: (.ref tk) :: (.int v52_37) :: (.int v53_38) :: (.int v54_39) :: (.ref hd) :: (.ref ak) :: (.ref ho) :: (.ref ot) :: []) := (hB1.2.2.2 h0 (by rw [hT_h0]; simp only [List.mem_cons, List.not_mem_nil, or_false]; omega)).trans hF_77
              generalize H1 = H at hP hS ⊢
              refine W.widen (k := 0) (n := 0) (by omega) (by omega) ?_
              exact jn_89 (y2_140, f2_141, (UU ++ prL (pcW (sdM LC DM (nI fm)) dn ((TC fv z) (j + 2))) (dgW ((TC fv z) (j + 2 + 1))) (trW ((TC fv z) (j + (mcT (TC fv z) j tt) - 1 - 1))))) F_139 (⟨hq_142, hq_143, hq_144, Or.inr ⟨(fun q => c_134 ((tc_eq (z := z) (by omega) (by first | decide | omega)).mp q)), by unfold mcV; rw [if_neg (fun q => c_128 ((tc_eq (z := z) (by omega) (by first | decide | omega)).mp q)), if_neg (fun q => c_131 ((tc_eq (z := z) (by omega) (by first | decide | omega)).mp q)), if_neg (fun q => c_134 ((tc_eq (z := z) (by omega) (by first | decide | omega)).mp q)), show j + 3 = j + 2 + 1 by omega, show j + (mcT (TC fv z) j tt) - 2 = j + (mcT (TC fv z) j tt) - 1 - 1 by omega]⟩⟩) hO hR _ _ hP hD hS ls (lv_sub hl [0, 1, 2, 3, 4, 5, 6, 7] rfl)
            ·
              refine lv_aload hx hb dX15_expand_98 (lv_at hl 7 rfl) ?_
              refine lv_bipush (v := 37) hx hb dX15_expand_100 (by decide) ?_
              refine W.eq (g2 := F0 m 102 ls [.int (nI 37), .ref g2]) rfl ?_
              have hFc := pg_free hD hS hA
              refine va_callv (va_runS (As := [.ref g2, .int (nI 37)]) (rest := []) ⟨hx, hb, hml, hown, hts⟩ (s_X15_put_x l dC dI cs ty gm L H.size F_71 g2 κ r2 61 yy 37 fq UU hW hL_g2 hT_g2 hv4 hv5 (hv6) (by omega) (by omega)) ⟨callB_of 2 hts (gi kt_1145) rfl rfl rfl (hts _ kt_669) (hts _ kt_1146) (by decide +kernel) ⟨Nat.le_of_ble_eq_true rfl, Nat.le_of_ble_eq_true rfl⟩, (hts _ kt_1147)⟩ ⟨fun a U g mk q => ⟨q.1, PTm.calling q.2⟩, fun U hU hWm => ⟨rfl, PTm.mk hU hWm hP hK hD hE hO⟩⟩ rfl rfl hl.1 rfl (lv_room (Nat.le_of_ble_eq_true rfl)) dX15_expand_102 ⟨by show _ + 0 ≤ 0; omega, by show _ + 0 ≤ 0; omega⟩) hS (fun q _ h => hFc q h) hFc (fun u t H1 locs ht hvm hw hB hz1 hk1 hS => ?_)
              obtain ⟨F_148, y2_149, f2_150, hB1, hq_151, hq_152, hq_153⟩ := hB
              obtain ⟨hP, hD, hO, hR⟩ := QTm.back hB1 ht hFc hR (fun q h => by simp only [List.mem_cons, List.not_mem_nil, or_false] at h ⊢; omega)
              have hF_154 : F_148 g1 = .inl (cs 17, 700, .inl fv) := (hB1.2.2.2 g1 (by rw [hT_g1]; simp only [List.mem_cons, List.not_mem_nil, or_false]; omega)).trans hF_76
              have hF_155 : F_148 h0 = .inr (15, (.ref ta) :: (.int (nI zt)) :: (.int (nI zo)) :: (.int (nI ze)) :: (.ref ou) :: (.ref so) :: (.ref ad) :: (.ref na) :: (.ref va) :: (.ref lc) :: (.ref dm) :: (.int (nI fm)) :: (.int (nI sn)) :: (.ref tg) :: (.int v14_28) :: (.int v15_29) :: (.ref pe) :: (.int v17_30) :: (.int v18_31) :: (.int v19_32) :: (.int v20_33) :: (.int v21_34) :: (.int v22_35) :: (.ref ml) :: (.ref bg) :: (.ref co) :: (.ref sp) :: (.ref nb0) :: (.ref nb1) :: (.ref nb2) :: (.int (nI nf)) :: (.int (nI bd)) :: (.int (nI mm)) :: (.int v33_36) :: (.ref pl) :: (.ref se) :: (.ref ke) :: (.ref wi) :: (.ref hs) :: (.ref mo) :: (.ref po) :: (.ref nu) :: (.ref pr) :: (.ref sq) :: (.ref xa) :: (.ref sa) :: (.ref n64) :: (.ref m64) :: (.ref ex) :: (.ref wh) :: (.ref sd) :: (.ref tk) :: (.int v52_37) :: (.int v53_38) :: (.int v54_39) :: (.ref hd) :: (.ref ak) :: (.ref ho) :: (.ref ot) :: []) := (hB1.2.2.2 h0 (by rw [hT_h0]; simp only [List.mem_cons, List.not_mem_nil, or_false]; omega)).trans hF_77
              generalize H1 = H at hP hS ⊢
              refine lv_goto (tgt := 128) hx hb dX15_expand_105 (by decide) ?_
              refine W.widen (k := 0) (n := 0) (by omega) (by omega) ?_
              exact jn_89 (y2_149, f2_150, (UU ++ [37])) F_148 (⟨hq_151, hq_152, hq_153, Or.inl ⟨((tc_eq (z := z) (by omega) (by first | decide | omega)).mpr c_134), rfl⟩⟩) hO hR _ _ hP hD hS ls (lv_sub hl [0, 1, 2, 3, 4, 5, 6, 7] rfl)
          ·
            refine lv_aload hx hb dX15_expand_77 (lv_at hl 7 rfl) ?_
            refine lv_bipush (v := 32) hx hb dX15_expand_79 (by decide) ?_
            refine W.eq (g2 := F0 m 81 ls [.int (nI 32), .ref g2]) rfl ?_
            have hFc := pg_free hD hS hA
            refine va_callv (va_runS (As := [.ref g2, .int (nI 32)]) (rest := []) ⟨hx, hb, hml, hown, hts⟩ (s_X15_put_x l dC dI cs ty gm L H.size F_71 g2 κ r2 61 yy 32 fq UU hW hL_g2 hT_g2 hv4 hv5 (hv6) (by omega) (by omega)) ⟨callB_of 2 hts (gi kt_1145) rfl rfl rfl (hts _ kt_669) (hts _ kt_1146) (by decide +kernel) ⟨Nat.le_of_ble_eq_true rfl, Nat.le_of_ble_eq_true rfl⟩, (hts _ kt_1147)⟩ ⟨fun a U g mk q => ⟨q.1, PTm.calling q.2⟩, fun U hU hWm => ⟨rfl, PTm.mk hU hWm hP hK hD hE hO⟩⟩ rfl rfl hl.1 rfl (lv_room (Nat.le_of_ble_eq_true rfl)) dX15_expand_81 ⟨by show _ + 0 ≤ 0; omega, by show _ + 0 ≤ 0; omega⟩) hS (fun q _ h => hFc q h) hFc (fun u t H1 locs ht hvm hw hB hz1 hk1 hS => ?_)
            obtain ⟨F_157, y2_158, f2_159, hB1, hq_160, hq_161, hq_162⟩ := hB
            obtain ⟨hP, hD, hO, hR⟩ := QTm.back hB1 ht hFc hR (fun q h => by simp only [List.mem_cons, List.not_mem_nil, or_false] at h ⊢; omega)
            have hF_163 : F_157 g1 = .inl (cs 17, 700, .inl fv) := (hB1.2.2.2 g1 (by rw [hT_g1]; simp only [List.mem_cons, List.not_mem_nil, or_false]; omega)).trans hF_76
            have hF_164 : F_157 h0 = .inr (15, (.ref ta) :: (.int (nI zt)) :: (.int (nI zo)) :: (.int (nI ze)) :: (.ref ou) :: (.ref so) :: (.ref ad) :: (.ref na) :: (.ref va) :: (.ref lc) :: (.ref dm) :: (.int (nI fm)) :: (.int (nI sn)) :: (.ref tg) :: (.int v14_28) :: (.int v15_29) :: (.ref pe) :: (.int v17_30) :: (.int v18_31) :: (.int v19_32) :: (.int v20_33) :: (.int v21_34) :: (.int v22_35) :: (.ref ml) :: (.ref bg) :: (.ref co) :: (.ref sp) :: (.ref nb0) :: (.ref nb1) :: (.ref nb2) :: (.int (nI nf)) :: (.int (nI bd)) :: (.int (nI mm)) :: (.int v33_36) :: (.ref pl) :: (.ref se) :: (.ref ke) :: (.ref wi) :: (.ref hs) :: (.ref mo) :: (.ref po) :: (.ref nu) :: (.ref pr) :: (.ref sq) :: (.ref xa) :: (.ref sa) :: (.ref n64) :: (.ref m64) :: (.ref ex) :: (.ref wh) :: (.ref sd) :: (.ref tk) :: (.int v52_37) :: (.int v53_38) :: (.int v54_39) :: (.ref hd) :: (.ref ak) :: (.ref ho) :: (.ref ot) :: []) := (hB1.2.2.2 h0 (by rw [hT_h0]; simp only [List.mem_cons, List.not_mem_nil, or_false]; omega)).trans hF_77
            generalize H1 = H at hP hS ⊢
            refine lv_goto (tgt := 128) hx hb dX15_expand_84 (by decide) ?_
            refine W.widen (k := 0) (n := 0) (by omega) (by omega) ?_
            exact jn_89 (y2_158, f2_159, (UU ++ [32])) F_157 (⟨hq_160, hq_161, hq_162, Or.inr ⟨fun q => absurd (q.symm.trans ((tc_eq (z := z) (by omega) (by first | decide | omega)).mpr c_131)) (by decide), by unfold mcV; rw [if_neg (fun q => c_128 ((tc_eq (z := z) (by omega) (by first | decide | omega)).mp q)), if_pos ((tc_eq (z := z) (by omega) (by first | decide | omega)).mpr c_131)]⟩⟩) hO hR _ _ hP hD hS ls (lv_sub hl [0, 1, 2, 3, 4, 5, 6, 7] rfl)
        ·
          refine lv_aload hx hb dX15_expand_56 (lv_at hl 7 rfl) ?_
          refine lv_bipush (v := 37) hx hb dX15_expand_58 (by decide) ?_
          refine W.eq (g2 := F0 m 60 ls [.int (nI 37), .ref g2]) rfl ?_
          have hFc := pg_free hD hS hA
          refine va_callv (va_runS (As := [.ref g2, .int (nI 37)]) (rest := []) ⟨hx, hb, hml, hown, hts⟩ (s_X15_put_x l dC dI cs ty gm L H.size F_71 g2 κ r2 61 yy 37 fq UU hW hL_g2 hT_g2 hv4 hv5 (hv6) (by omega) (by omega)) ⟨callB_of 2 hts (gi kt_1145) rfl rfl rfl (hts _ kt_669) (hts _ kt_1146) (by decide +kernel) ⟨Nat.le_of_ble_eq_true rfl, Nat.le_of_ble_eq_true rfl⟩, (hts _ kt_1147)⟩ ⟨fun a U g mk q => ⟨q.1, PTm.calling q.2⟩, fun U hU hWm => ⟨rfl, PTm.mk hU hWm hP hK hD hE hO⟩⟩ rfl rfl hl.1 rfl (lv_room (Nat.le_of_ble_eq_true rfl)) dX15_expand_60 ⟨by show _ + 0 ≤ 0; omega, by show _ + 0 ≤ 0; omega⟩) hS (fun q _ h => hFc q h) hFc (fun u t H1 locs ht hvm hw hB hz1 hk1 hS => ?_)
          obtain ⟨F_166, y2_167, f2_168, hB1, hq_169, hq_170, hq_171⟩ := hB
          obtain ⟨hP, hD, hO, hR⟩ := QTm.back hB1 ht hFc hR (fun q h => by simp only [List.mem_cons, List.not_mem_nil, or_false] at h ⊢; omega)
          have hF_172 : F_166 g1 = .inl (cs 17, 700, .inl fv) := (hB1.2.2.2 g1 (by rw [hT_g1]; simp only [List.mem_cons, List.not_mem_nil, or_false]; omega)).trans hF_76
          have hF_173 : F_166 h0 = .inr (15, (.ref ta) :: (.int (nI zt)) :: (.int (nI zo)) :: (.int (nI ze)) :: (.ref ou) :: (.ref so) :: (.ref ad) :: (.ref na) :: (.ref va) :: (.ref lc) :: (.ref dm) :: (.int (nI fm)) :: (.int (nI sn)) :: (.ref tg) :: (.int v14_28) :: (.int v15_29) :: (.ref pe) :: (.int v17_30) :: (.int v18_31) :: (.int v19_32) :: (.int v20_33) :: (.int v21_34) :: (.int v22_35) :: (.ref ml) :: (.ref bg) :: (.ref co) :: (.ref sp) :: (.ref nb0) :: (.ref nb1) :: (.ref nb2) :: (.int (nI nf)) :: (.int (nI bd)) :: (.int (nI mm)) :: (.int v33_36) :: (.ref pl) :: (.ref se) :: (.ref ke) :: (.ref wi) :: (.ref hs) :: (.ref mo) :: (.ref po) :: (.ref nu) :: (.ref pr) :: (.ref sq) :: (.ref xa) :: (.ref sa) :: (.ref n64) :: (.ref m64) :: (.ref ex) :: (.ref wh) :: (.ref sd) :: (.ref tk) :: (.int v52_37) :: (.int v53_38) :: (.int v54_39) :: (.ref hd) :: (.ref ak) :: (.ref ho) :: (.ref ot) :: []) := (hB1.2.2.2 h0 (by rw [hT_h0]; simp only [List.mem_cons, List.not_mem_nil, or_false]; omega)).trans hF_77
          generalize H1 = H at hP hS ⊢
          refine lv_goto (tgt := 128) hx hb dX15_expand_63 (by decide) ?_
          refine W.widen (k := 0) (n := 0) (by omega) (by omega) ?_
          exact jn_89 (y2_167, f2_168, (UU ++ [37])) F_166 (⟨hq_169, hq_170, hq_171, Or.inr ⟨fun q => absurd (q.symm.trans ((tc_eq (z := z) (by omega) (by first | decide | omega)).mpr c_128)) (by decide), by unfold mcV; rw [if_pos ((tc_eq (z := z) (by omega) (by first | decide | omega)).mpr c_128)]⟩⟩) hO hR _ _ hP hD hS ls (lv_sub hl [0, 1, 2, 3, 4, 5, 6, 7] rfl)
    ·
      have h37 : ¬ (TC fv z) j = 37 := fun q => c_86 ((tc_eq (by omega) (by first | decide | omega)).mp q)
      refine lv_aload hx hb dX15_expand_24 (lv_at hl 6 rfl) ?_
      refine lv_aload_n hx hb dX15_expand_26 rfl (lv_at hl 2 rfl) ?_
      refine lv_iload hx hb dX15_expand_27 (lv_at hl 0 rfl) ?_
      refine pg_bald hx hb hK hP hL_g1 1 hF_76 rfl (vp_in_nI (by omega) (by omega)) dX15_expand_29 ?_
      refine lv_topi (fun x_174 ex_174 => ?_)
      obtain rfl : x_174 = (nI ((TC fv z) j)) := ex_174.trans ((congrArg fv (nI_clamp (by omega))).trans (tc_in (by omega) (by omega)))
      have hFc := pg_free hD hS hA
      refine va_callv (va_runS (As := [.ref g2, .int (nI ((TC fv z) j))]) (rest := []) ⟨hx, hb, hml, hown, hts⟩ (s_X15_put_x l dC dI cs ty gm L H.size F_71 g2 κ r2 61 yy ((TC fv z) j) fq UU hW hL_g2 hT_g2 hv4 hv5 (hv6) (by omega) (by omega)) ⟨callB_of 2 hts (gi kt_1145) rfl rfl rfl (hts _ kt_669) (hts _ kt_1146) (by decide +kernel) ⟨Nat.le_of_ble_eq_true rfl, Nat.le_of_ble_eq_true rfl⟩, (hts _ kt_1147)⟩ ⟨fun a U g mk q => ⟨q.1, PTm.calling q.2⟩, fun U hU hWm => ⟨rfl, PTm.mk hU hWm hP hK hD hE hO⟩⟩ rfl rfl hl.1 rfl (lv_room (Nat.le_of_ble_eq_true rfl)) dX15_expand_30 ⟨by show _ + 0 ≤ 0; omega, by show _ + 0 ≤ 0; omega⟩) hS (fun q _ h => hFc q h) hFc (fun u t H1 locs ht hvm hw hB hz1 hk1 hS => ?_)
      obtain ⟨F_176, y2_177, f2_178, hB1, hq_179, hq_180, hq_181⟩ := hB
      obtain ⟨hP, hD, hO, hR⟩ := QTm.back hB1 ht hFc hR (fun q h => by simp only [List.mem_cons, List.not_mem_nil, or_false] at h ⊢; omega)
      have hF_182 : F_176 g1 = .inl (cs 17, 700, .inl fv) := (hB1.2.2.2 g1 (by rw [hT_g1]; simp only [List.mem_cons, List.not_mem_nil, or_false]; omega)).trans hF_76
      have hF_183 : F_176 h0 = .inr (15, (.ref ta) :: (.int (nI zt)) :: (.int (nI zo)) :: (.int (nI ze)) :: (.ref ou) :: (.ref so) :: (.ref ad) :: (.ref na) :: (.ref va) :: (.ref lc) :: (.ref dm) :: (.int (nI fm)) :: (.int (nI sn)) :: (.ref tg) :: (.int v14_28) :: (.int v15_29) :: (.ref pe) :: (.int v17_30) :: (.int v18_31) :: (.int v19_32) :: (.int v20_33) :: (.int v21_34) :: (.int v22_35) :: (.ref ml) :: (.ref bg) :: (.ref co) :: (.ref sp) :: (.ref nb0) :: (.ref nb1) :: (.ref nb2) :: (.int (nI nf)) :: (.int (nI bd)) :: (.int (nI mm)) :: (.int v33_36) :: (.ref pl) :: (.ref se) :: (.ref ke) :: (.ref wi) :: (.ref hs) :: (.ref mo) :: (.ref po) :: (.ref nu) :: (.ref pr) :: (.ref sq) :: (.ref xa) :: (.ref sa) :: (.ref n64) :: (.ref m64) :: (.ref ex) :: (.ref wh) :: (.ref sd) :: (.ref tk) :: (.int v52_37) :: (.int v53_38) :: (.int v54_39) :: (.ref hd) :: (.ref ak) :: (.ref ho) :: (.ref ot) :: []) := (hB1.2.2.2 h0 (by rw [hT_h0]; simp only [List.mem_cons, List.not_mem_nil, or_false]; omega)).trans hF_77
      generalize H1 = H at hP hS ⊢
      refine lv_goto (tgt := 162) hx hb dX15_expand_33 (by decide) ?_
      refine lv_iinc (v := (nI (j + 1))) (lv' := [(6, .int (nI (j + 1))), (0, .ref h0), (1, .ref g1), (2, .int (nI a)), (3, .int (nI tt)), (4, .ref dd), (5, .ref g2)]) hx hb dX15_expand_162 hl (k := 0) rfl (nI_1 _) (by decide) rfl (fun ls hl => ?_)
      refine lv_goto (tgt := 9) hx hb dX15_expand_165 (by decide) ?_
      refine W.widen (k := 0) (n := 0) (by omega) (by omega) ?_
      exact ih_75 ((j + 1), y2_177, f2_178, (UU ++ [(TC fv z) j])) F_176 (⟨by omega, by omega, by have h9 := ishw_y hv3 (by omega) hok; rw [mcT_nz h37, show max 1 0 = 1 from rfl] at h9; exact h9, hq_179, hq_180, hq_181, by have h9 := exw_n hv7 (show j < tt by omega); rw [mcT_nz h37, if_pos rfl, show max 1 0 = 1 from rfl] at h9; exact h9⟩) (by show tt - (j + 1) < tt - j; omega) hO hR _ _ hP hD hS ls (lv_sub hl [0, 1, 2, 3, 4, 5, 6] rfl)
