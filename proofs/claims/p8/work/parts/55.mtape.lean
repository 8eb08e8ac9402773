theorem dX15_digest__0 : decode cX15_digest_ 0 = .ok (.aload_n 0, 1) := by decide +kernel
theorem dX15_digest__1 : decode cX15_digest_ 1 = .ok (.invokevirtual 174, 3) := by decide +kernel
theorem dX15_digest__4 : decode cX15_digest_ 4 = .ok (.istore_n 1, 1) := by decide +kernel
theorem dX15_digest__5 : decode cX15_digest_ 5 = .ok (.aload_n 0, 1) := by decide +kernel
theorem dX15_digest__6 : decode cX15_digest_ 6 = .ok (.aload_n 0, 1) := by decide +kernel
theorem dX15_digest__7 : decode cX15_digest_ 7 = .ok (.getfield 31, 3) := by decide +kernel
theorem dX15_digest__10 : decode cX15_digest_ 10 = .ok (.iload_n 1, 1) := by decide +kernel
theorem dX15_digest__11 : decode cX15_digest_ 11 = .ok (.aload_n 0, 1) := by decide +kernel
theorem dX15_digest__12 : decode cX15_digest_ 12 = .ok (.getfield 129, 3) := by decide +kernel
theorem dX15_digest__15 : decode cX15_digest_ 15 = .ok (.invokevirtual 519, 3) := by decide +kernel
theorem dX15_digest__18 : decode cX15_digest_ 18 = .ok (.aload_n 0, 1) := by decide +kernel
theorem dX15_digest__19 : decode cX15_digest_ 19 = .ok (.getfield 129, 3) := by decide +kernel
theorem dX15_digest__22 : decode cX15_digest_ 22 = .ok (.iconst 0, 1) := by decide +kernel
theorem dX15_digest__23 : decode cX15_digest_ 23 = .ok (.aload_n 0, 1) := by decide +kernel
theorem dX15_digest__24 : decode cX15_digest_ 24 = .ok (.getfield 35, 3) := by decide +kernel
theorem dX15_digest__27 : decode cX15_digest_ 27 = .ok (.iconst 0, 1) := by decide +kernel
theorem dX15_digest__28 : decode cX15_digest_ 28 = .ok (.bipush 32, 2) := by decide +kernel
theorem dX15_digest__30 : decode cX15_digest_ 30 = .ok (.invokestatic 358, 3) := by decide +kernel
theorem dX15_digest__33 : decode cX15_digest_ 33 = .ok (.aload_n 0, 1) := by decide +kernel
theorem dX15_digest__34 : decode cX15_digest_ 34 = .ok (.bipush 32, 2) := by decide +kernel
theorem dX15_digest__36 : decode cX15_digest_ 36 = .ok (.putfield 385, 3) := by decide +kernel
theorem dX15_digest__39 : decode cX15_digest_ 39 = .ok (.bipush 32, 2) := by decide +kernel
theorem dX15_digest__41 : decode cX15_digest_ 41 = .ok (.ireturn, 1) := by decide +kernel
theorem dX15_end_0 : decode cX15_end 0 = .ok (.iload_n 1, 1) := by decide +kernel
theorem dX15_end_1 : decode cX15_end 1 = .ok (.i2l, 1) := by decide +kernel
theorem dX15_end_2 : decode cX15_end 2 = .ok (.lconst 0, 1) := by decide +kernel
theorem dX15_end_3 : decode cX15_end 3 = .ok (.aload_n 0, 1) := by decide +kernel
theorem dX15_end_4 : decode cX15_end 4 = .ok (.getfield 166, 3) := by decide +kernel
theorem dX15_end_7 : decode cX15_end 7 = .ok (.i2l, 1) := by decide +kernel
theorem dX15_end_8 : decode cX15_end 8 = .ok (.invokestatic 170, 3) := by decide +kernel
theorem dX15_end_11 : decode cX15_end 11 = .ok (.ifCond .ne 5, 3) := by decide +kernel
theorem dX15_end_14 : decode cX15_end 14 = .ok (.iconst (-1), 1) := by decide +kernel
theorem dX15_end_15 : decode cX15_end 15 = .ok (.ireturn, 1) := by decide +kernel
theorem dX15_end_16 : decode cX15_end 16 = .ok (.aload_n 0, 1) := by decide +kernel
theorem dX15_end_17 : decode cX15_end 17 = .ok (.iload_n 1, 1) := by decide +kernel
theorem dX15_end_18 : decode cX15_end 18 = .ok (.putfield 166, 3) := by decide +kernel
theorem dX15_end_21 : decode cX15_end 21 = .ok (.iload_n 1, 1) := by decide +kernel
theorem dX15_end_22 : decode cX15_end 22 = .ok (.ireturn, 1) := by decide +kernel
theorem dX15_forget_0 : decode cX15_forget 0 = .ok (.aload_n 0, 1) := by decide +kernel
theorem dX15_forget_1 : decode cX15_forget 1 = .ok (.getfield 177, 3) := by decide +kernel
theorem dX15_forget_4 : decode cX15_forget 4 = .ok (.istore_n 1, 1) := by decide +kernel
theorem dX15_forget_5 : decode cX15_forget 5 = .ok (.aload_n 0, 1) := by decide +kernel
theorem dX15_forget_6 : decode cX15_forget 6 = .ok (.iconst 0, 1) := by decide +kernel
theorem dX15_forget_7 : decode cX15_forget 7 = .ok (.putfield 177, 3) := by decide +kernel
theorem dX15_forget_10 : decode cX15_forget 10 = .ok (.iload_n 1, 1) := by decide +kernel
theorem dX15_forget_11 : decode cX15_forget 11 = .ok (.ireturn, 1) := by decide +kernel
theorem dX15_house_0 : decode cX15_house 0 = .ok (.aload_n 0, 1) := by decide +kernel
theorem dX15_house_1 : decode cX15_house 1 = .ok (.invokevirtual 174, 3) := by decide +kernel
theorem dX15_house_4 : decode cX15_house 4 = .ok (.istore_n 1, 1) := by decide +kernel
theorem dX15_house_5 : decode cX15_house 5 = .ok (.aload_n 0, 1) := by decide +kernel
theorem dX15_house_6 : decode cX15_house 6 = .ok (.getfield 31, 3) := by decide +kernel
theorem dX15_house_9 : decode cX15_house 9 = .ok (.iconst 0, 1) := by decide +kernel
theorem dX15_house_10 : decode cX15_house 10 = .ok (.iload_n 1, 1) := by decide +kernel
theorem dX15_house_11 : decode cX15_house 11 = .ok (.invokestatic 182, 3) := by decide +kernel
theorem dX15_house_14 : decode cX15_house 14 = .ok (.ifCond .ne 5, 3) := by decide +kernel
theorem dX15_house_17 : decode cX15_house 17 = .ok (.iconst (-1), 1) := by decide +kernel
theorem dX15_house_18 : decode cX15_house 18 = .ok (.ireturn, 1) := by decide +kernel
theorem dX15_house_19 : decode cX15_house 19 = .ok (.aload_n 0, 1) := by decide +kernel
theorem dX15_house_20 : decode cX15_house 20 = .ok (.getfield 157, 3) := by decide +kernel
theorem dX15_house_23 : decode cX15_house 23 = .ok (.aload_n 0, 1) := by decide +kernel
theorem dX15_house_24 : decode cX15_house 24 = .ok (.getfield 31, 3) := by decide +kernel
theorem dX15_house_27 : decode cX15_house 27 = .ok (.iconst 0, 1) := by decide +kernel
theorem dX15_house_28 : decode cX15_house 28 = .ok (.iload_n 1, 1) := by decide +kernel
theorem dX15_house_29 : decode cX15_house 29 = .ok (.invokevirtual 186, 3) := by decide +kernel
theorem dX15_house_32 : decode cX15_house 32 = .ok (.aload_n 0, 1) := by decide +kernel
theorem dX15_house_33 : decode cX15_house 33 = .ok (.aload_n 0, 1) := by decide +kernel
theorem dX15_house_34 : decode cX15_house 34 = .ok (.getfield 157, 3) := by decide +kernel
theorem dX15_house_37 : decode cX15_house 37 = .ok (.aload_n 0, 1) := by decide +kernel
theorem dX15_house_38 : decode cX15_house 38 = .ok (.getfield 160, 3) := by decide +kernel
theorem dX15_house_41 : decode cX15_house 41 = .ok (.invokevirtual 565, 3) := by decide +kernel
theorem dX15_house_44 : decode cX15_house 44 = .ok (.aload_n 0, 1) := by decide +kernel
theorem dX15_house_45 : decode cX15_house 45 = .ok (.aload_n 0, 1) := by decide +kernel
theorem dX15_house_46 : decode cX15_house 46 = .ok (.getfield 160, 3) := by decide +kernel
theorem dX15_house_49 : decode cX15_house 49 = .ok (.invokevirtual 392, 3) := by decide +kernel
theorem dX15_house_52 : decode cX15_house 52 = .ok (.ireturn, 1) := by decide +kernel
theorem dX15_octet_0 : decode cX15_octet 0 = .ok (.iload_n 1, 1) := by decide +kernel
theorem dX15_octet_1 : decode cX15_octet 1 = .ok (.i2l, 1) := by decide +kernel
theorem dX15_octet_2 : decode cX15_octet 2 = .ok (.ldc2_w 603, 3) := by decide +kernel
theorem dX15_octet_5 : decode cX15_octet 5 = .ok (.aload_n 0, 1) := by decide +kernel
theorem dX15_octet_6 : decode cX15_octet 6 = .ok (.getfield 385, 3) := by decide +kernel
theorem dX15_octet_9 : decode cX15_octet 9 = .ok (.iconst 1, 1) := by decide +kernel
theorem dX15_octet_10 : decode cX15_octet 10 = .ok (.isub, 1) := by decide +kernel
theorem dX15_octet_11 : decode cX15_octet 11 = .ok (.i2l, 1) := by decide +kernel
theorem dX15_octet_12 : decode cX15_octet 12 = .ok (.invokestatic 170, 3) := by decide +kernel
theorem dX15_octet_15 : decode cX15_octet 15 = .ok (.ifCond .ne 6, 3) := by decide +kernel
theorem dX15_octet_18 : decode cX15_octet 18 = .ok (.bipush (-2), 2) := by decide +kernel
theorem dX15_octet_20 : decode cX15_octet 20 = .ok (.ireturn, 1) := by decide +kernel
theorem dX15_octet_21 : decode cX15_octet 21 = .ok (.iload_n 1, 1) := by decide +kernel
theorem dX15_octet_22 : decode cX15_octet 22 = .ok (.ifCond .ge 10, 3) := by decide +kernel
theorem dX15_octet_25 : decode cX15_octet 25 = .ok (.aload_n 0, 1) := by decide +kernel
theorem dX15_octet_26 : decode cX15_octet 26 = .ok (.getfield 385, 3) := by decide +kernel
theorem dX15_octet_29 : decode cX15_octet 29 = .ok (.goto 13, 3) := by decide +kernel
theorem dX15_octet_32 : decode cX15_octet 32 = .ok (.aload_n 0, 1) := by decide +kernel
theorem dX15_octet_33 : decode cX15_octet 33 = .ok (.getfield 35, 3) := by decide +kernel
theorem dX15_octet_36 : decode cX15_octet 36 = .ok (.iload_n 1, 1) := by decide +kernel
theorem dX15_octet_37 : decode cX15_octet 37 = .ok (.baload, 1) := by decide +kernel
theorem dX15_octet_38 : decode cX15_octet 38 = .ok (.sipush 255, 3) := by decide +kernel
theorem dX15_octet_41 : decode cX15_octet 41 = .ok (.iand, 1) := by decide +kernel
theorem dX15_octet_42 : decode cX15_octet 42 = .ok (.ireturn, 1) := by decide +kernel
theorem dX15_used_0 : decode cX15_used 0 = .ok (.aload_n 0, 1) := by decide +kernel
theorem dX15_used_1 : decode cX15_used 1 = .ok (.getfield 166, 3) := by decide +kernel
theorem dX15_used_4 : decode cX15_used 4 = .ok (.istore_n 1, 1) := by decide +kernel
theorem dX15_used_5 : decode cX15_used 5 = .ok (.aload_n 0, 1) := by decide +kernel
theorem dX15_used_6 : decode cX15_used 6 = .ok (.iconst 0, 1) := by decide +kernel
theorem dX15_used_7 : decode cX15_used 7 = .ok (.putfield 166, 3) := by decide +kernel
theorem dX15_used_10 : decode cX15_used 10 = .ok (.iload_n 1, 1) := by decide +kernel
theorem dX15_used_11 : decode cX15_used 11 = .ok (.ireturn, 1) := by decide +kernel
theorem kt_1004 : Cond.fieldLink RX15 166 "PostGateModel" "tapeMany" "I" ∈ tb := tb_at (i := 1290) (by decide +kernel) (by decide +kernel)
theorem kt_1005 : Cond.code yX15_used cX15_used 2 (some .int) ∈ tb := tb_at (i := 1485) (by decide +kernel) (by decide +kernel)
theorem kt_1006 : Cond.methodLink RX15 174 yX15_used ∈ tb := tb_at (i := 1482) (by decide +kernel) (by decide +kernel)
theorem kt_1007 : Cond.instanceMethod yX15_used ∈ tb := tb_at (i := 1484) (by decide +kernel) (by decide +kernel)
theorem kt_1008 : Cond.selects RX15 yX15_used yX15_used ∈ tb := tb_at (i := 42) (by decide +kernel) (by decide +kernel)
theorem kt_1009 : Cond.fieldLink RX15 31 "PostGateModel" "tape" "[B" ∈ tb := tb_at (i := 1289) (by decide +kernel) (by decide +kernel)
theorem kt_1010 : Cond.constantLong RX15 603 (-1) ∈ tb := tb_at (i := 1898) (by decide +kernel) (by decide +kernel)
theorem rtf_id {ty : TyM} {h : Nat} {e : TyE} (hT : ty h = e) : rtf ty h e = ty := by
  funext a
  by_cases c : a = h
  · subst c
    rw [rtf_self, hT]
  · exact rtf_ne c
theorem in_0z {x : Int32} {zt : Nat} {r : Int32} (hr : r = (if (0 : Int64) ≤ x.toInt64 ∧ x.toInt64 ≤ (nI zt).toInt64 then 1 else 0)) (hz : zt ≤ 10000) : (r = 0 ∧ ¬ (¬ x < 0 ∧ ¬ nI zt < x)) ∨ (r = 1 ∧ (¬ x < 0 ∧ ¬ nI zt < x)) := by
  have e1 : ((0 : Int64) ≤ x.toInt64 ∧ x.toInt64 ≤ (nI zt).toInt64) ↔ (¬ x < 0 ∧ ¬ nI zt < x) := by
    rw [show (0 : Int64) = (0 : Int32).toInt64 from by decide, l64, l64, Int32.not_lt, Int32.not_lt]
  by_cases c : (¬ x < 0 ∧ ¬ nI zt < x)
  · rw [if_pos (e1.mpr c)] at hr
    exact Or.inr ⟨hr, c⟩
  · rw [if_neg (fun h => c (e1.mp h))] at hr
    exact Or.inl ⟨hr, c⟩
set_option maxHeartbeats 4000000 in
set_option maxRecDepth 100000 in
theorem s_X15_used (l : Launch) (dC : Nat → ClassId) (dI : Nat → Nat → Nat) (cs : Nat → ClassId) (ty : TyM) (gm : Nat → Nat → Nat) (L : List Nat) (sz : Nat) (F : Nat → va_E) (h0 : Nat) (ρ : Nat) (ta : Nat) (ou : Nat) (so : Nat) (ad : Nat) (na : Nat) (va : Nat) (lc : Nat) (dm : Nat) (tg : Nat) (pe : Nat) (ml : Nat) (bg : Nat) (co : Nat) (sp : Nat) (nb0 : Nat) (nb1 : Nat) (nb2 : Nat) (pl : Nat) (se : Nat) (ke : Nat) (wi : Nat) (hs : Nat) (mo : Nat) (po : Nat) (nu : Nat) (pr : Nat) (sq : Nat) (xa : Nat) (sa : Nat) (n64 : Nat) (m64 : Nat) (ex : Nat) (wh : Nat) (sd : Nat) (tk : Nat) (hd : Nat) (ak : Nat) (ho : Nat) (ot : Nat) (sx : Nat) (s0 : Nat) (s1 : Nat) (s2 : Nat) (nf : Nat) (bd : Nat) (mm : Nat) (fm : Nat) (sn : Nat) (hg : Nat) (gc : Nat) (gv : Nat) (ze : Nat) (zt : Nat) (zo : Nat) (v14 : Int32) (v15 : Int32) (v17 : Int32) (v18 : Int32) (v19 : Int32) (v20 : Int32) (v21 : Int32) (v22 : Int32) (v33 : Int32) (v52 : Int32) (v53 : Int32) (v54 : Int32) (hW : WTm ty gm L) (hL_h0 : h0 ∈ L) (hT_h0 : ty h0 = (15, ρ, [ta, ou, so, ad, na, va, lc, dm, tg, pe, ml, bg, co, sp, nb0, nb1, nb2, pl, se, ke, wi, hs, mo, po, nu, pr, sq, xa, sa, n64, m64, ex, wh, sd, tk, hd, ak, ho, ot, sx, s0, s1, s2, nf, bd, mm, fm, sn, hg, gc, gv, ze, zt])) (hF0 : F h0 = .inr (15, (.ref ta) :: (.int (nI zt)) :: (.int (nI zo)) :: (.int (nI ze)) :: (.ref ou) :: (.ref so) :: (.ref ad) :: (.ref na) :: (.ref va) :: (.ref lc) :: (.ref dm) :: (.int (nI fm)) :: (.int (nI sn)) :: (.ref tg) :: (.int v14) :: (.int v15) :: (.ref pe) :: (.int v17) :: (.int v18) :: (.int v19) :: (.int v20) :: (.int v21) :: (.int v22) :: (.ref ml) :: (.ref bg) :: (.ref co) :: (.ref sp) :: (.ref nb0) :: (.ref nb1) :: (.ref nb2) :: (.int (nI nf)) :: (.int (nI bd)) :: (.int (nI mm)) :: (.int v33) :: (.ref pl) :: (.ref se) :: (.ref ke) :: (.ref wi) :: (.ref hs) :: (.ref mo) :: (.ref po) :: (.ref nu) :: (.ref pr) :: (.ref sq) :: (.ref xa) :: (.ref sa) :: (.ref n64) :: (.ref m64) :: (.ref ex) :: (.ref wh) :: (.ref sd) :: (.ref tk) :: (.int v52) :: (.int v53) :: (.int v54) :: (.ref hd) :: (.ref ak) :: (.ref ho) :: (.ref ot) :: [])) (hzo : zo ≤ 6000) (hze : ze ≤ 40) (h33 : ((v33 = 0 ∧ nf = 0) ∨ (v33 = 1 ∧ 1 ≤ nf))) (h54 : (v54 = 0 ∨ v54 = 1)) (hgf : (hg = 0 ∨ (v14 = nI gc ∧ v15 = nI gv))) : Met l yX15_used (.code yX15_used cX15_used 2 (some .int) :: tb) ({ frames := 0, cells := 0, slots := 0, locals := 0 }) (va_Pc [.ref h0] (PTm (dC, dI) cs ty gm L F sz)) (va_Qi (fun (r : Int32) (_ : Unit) => r = nI zt) (fun _ T9 => ∃ F2 : Nat → va_E, ∃ ty2 : TyM, ty2 = rtf ty h0 (15, ρ, [ta, ou, so, ad, na, va, lc, dm, tg, pe, ml, bg, co, sp, nb0, nb1, nb2, pl, se, ke, wi, hs, mo, po, nu, pr, sq, xa, sa, n64, m64, ex, wh, sd, tk, hd, ak, ho, ot, sx, s0, s1, s2, nf, bd, mm, fm, sn, hg, gc, gv, ze, 0]) ∧ QTm (dC, dI) cs ty2 gm L [ρ] F F2 (va_A (va_pl L F) sz) T9 ∧ WTm ty2 gm L ∧ F2 h0 = .inr (15, (.ref ta) :: (.int 0) :: (.int (nI zo)) :: (.int (nI ze)) :: (.ref ou) :: (.ref so) :: (.ref ad) :: (.ref na) :: (.ref va) :: (.ref lc) :: (.ref dm) :: (.int (nI fm)) :: (.int (nI sn)) :: (.ref tg) :: (.int v14) :: (.int v15) :: (.ref pe) :: (.int v17) :: (.int v18) :: (.int v19) :: (.int v20) :: (.int v21) :: (.int v22) :: (.ref ml) :: (.ref bg) :: (.ref co) :: (.ref sp) :: (.ref nb0) :: (.ref nb1) :: (.ref nb2) :: (.int (nI nf)) :: (.int (nI bd)) :: (.int (nI mm)) :: (.int v33) :: (.ref pl) :: (.ref se) :: (.ref ke) :: (.ref wi) :: (.ref hs) :: (.ref mo) :: (.ref po) :: (.ref nu) :: (.ref pr) :: (.ref sq) :: (.ref xa) :: (.ref sa) :: (.ref n64) :: (.ref m64) :: (.ref ex) :: (.ref wh) :: (.ref sd) :: (.ref tk) :: (.int v52) :: (.int v53) :: (.int v54) :: (.ref hd) :: (.ref ak) :: (.ref ho) :: (.ref ot) :: [])) (va_A (va_pl L F) sz)) 0 0 (va_A (va_pl L F) sz) := by
  refine Met.ofW (cc := cX15_used) (maxL := 2) (ret := (some .int)) (by decide) rfl ?_
  intro p e s m args below meth c s₁ B hml hv
  obtain ⟨rfl, hsz, hP, hK, hD0, hE, hO⟩ := hv
  have hx := B.exec
  have hb := B.bytes
  have hr := B.returns
  have hts : ∀ w ∈ tb, w.before _ s = true := fun w h => atoms_spec (ws := .code yX15_used cX15_used 2 (some .int) :: tb) B.pre w (List.mem_cons_of_mem _ h)
  have hown : s.vm.findClass RX15 = some m.cls := findClass_of_methodNamed B.named
  have hlocks := B.notSynchronized
  subst hsz
  have hD := hD0.self (sz := s.heap.size)
  generalize hAe : va_A (va_pl L F) s.heap.size = A at hD ⊢
  have hA : ∀ q : Nat, s.heap.size ≤ q → A q := fun q h => by rw [← hAe]; exact Or.inr h
  have hS : va_S A s.heap s.heap [] := va_S.rf
  have hR : FR ty [ρ] F F := FR.refl
  have hl := lv_entry ([.ref h0]) (n := 2) (Nat.le_of_ble_eq_true rfl)
  rw [lg_entry_eq]
  generalize (lg_sl ([.ref h0]) ++ List.replicate (2 - (lg_sl ([.ref h0])).length) Slot.unset).toArray = ls at hl ⊢
  have hl : lv_has ls 2 [(0, .ref h0)] := hl
  obtain ⟨hq_23, hq_24, hq_25, hq_26, hq_27, hgO, hgA, hgB, hq_28⟩ := hW.sc hL_h0 hT_h0
  refine lv_aload_n hx hb dX15_used_0 rfl (lv_at hl 0 rfl) ?_
  refine pg_get (ci := 15) (v := .int (nI zt)) (C := RX15) (T := TX15) (N := 59) hx hb hts it_15 hown hK hP hL_h0 hF0 rfl 1 (by decide) (hts _ kt_1004) (fun _ h9 => h9) rfl dX15_used_1 ?_
  refine lv_istore_n (lv' := [(1, .int (nI zt)), (0, .ref h0)]) hx hb dX15_used_4 rfl hl (by decide) rfl (fun ls hl => ?_)
  refine lv_aload_n hx hb dX15_used_5 rfl (lv_at hl 1 rfl) ?_
  refine lv_iconst (v := 0) hx hb dX15_used_6 (by decide) ?_
  refine pg_put (ci := 15) (v := .int 0) (ty := .int) (C := RX15) (T := TX15) (N := 59) hx hb hts it_15 tyX15 tyX15_ok nmX15 hown hK hP hD hS hL_h0 hF0 rfl 1 (by decide) (hts _ kt_1004) (fun _ h9 => h9) rfl (by decide +kernel) (rfl) (rfl) (Nat.le_of_ble_eq_true rfl) dX15_used_7 (fun H locs hP hD hS => ?_)
  obtain ⟨F_29, he_30, hP, hD, hR⟩ : ∃ G, G = va_up F h0 (.inr (15, (.ref ta) :: (.int 0) :: (.int (nI zo)) :: (.int (nI ze)) :: (.ref ou) :: (.ref so) :: (.ref ad) :: (.ref na) :: (.ref va) :: (.ref lc) :: (.ref dm) :: (.int (nI fm)) :: (.int (nI sn)) :: (.ref tg) :: (.int v14) :: (.int v15) :: (.ref pe) :: (.int v17) :: (.int v18) :: (.int v19) :: (.int v20) :: (.int v21) :: (.int v22) :: (.ref ml) :: (.ref bg) :: (.ref co) :: (.ref sp) :: (.ref nb0) :: (.ref nb1) :: (.ref nb2) :: (.int (nI nf)) :: (.int (nI bd)) :: (.int (nI mm)) :: (.int v33) :: (.ref pl) :: (.ref se) :: (.ref ke) :: (.ref wi) :: (.ref hs) :: (.ref mo) :: (.ref po) :: (.ref nu) :: (.ref pr) :: (.ref sq) :: (.ref xa) :: (.ref sa) :: (.ref n64) :: (.ref m64) :: (.ref ex) :: (.ref wh) :: (.ref sd) :: (.ref tk) :: (.int v52) :: (.int v53) :: (.int v54) :: (.ref hd) :: (.ref ak) :: (.ref ho) :: (.ref ot) :: [])) ∧ va_P (dC, dI) vwCl (va_pl L G) H ∧ va_D A (va_pl L G) ∧ FR ty [ρ] F G := ⟨_, rfl, hP, hD, hR.up hT_h0 (by simp)⟩
  obtain ⟨ty, hty, hT_h0, hW, hO, hR⟩ : ∃ t9 : TyM, t9 = rtf ty h0 (15, ρ, [ta, ou, so, ad, na, va, lc, dm, tg, pe, ml, bg, co, sp, nb0, nb1, nb2, pl, se, ke, wi, hs, mo, po, nu, pr, sq, xa, sa, n64, m64, ex, wh, sd, tk, hd, ak, ho, ot, sx, s0, s1, s2, nf, bd, mm, fm, sn, hg, gc, gv, ze, 0]) ∧ t9 h0 = (15, ρ, [ta, ou, so, ad, na, va, lc, dm, tg, pe, ml, bg, co, sp, nb0, nb1, nb2, pl, se, ke, wi, hs, mo, po, nu, pr, sq, xa, sa, n64, m64, ex, wh, sd, tk, hd, ak, ho, ot, sx, s0, s1, s2, nf, bd, mm, fm, sn, hg, gc, gv, ze, 0]) ∧ WTm t9 gm L ∧ OKm cs t9 gm L F_29 ∧ FR t9 [ρ] F F_29 := ⟨_, rfl, rtf_self, hW.zt hL_h0 hT_h0 (by omega), (by rw [he_30]; exact OKm.retype hO hT_h0 (shm.mod rtf_self ⟨zo, v14, v15, v17, v18, v19, v20, v21, v22, v33, v52, v53, v54, rfl, (by first | omega | assumption | exact Or.inl rfl | exact Or.inr rfl), (by first | omega | assumption | exact Or.inl rfl | exact Or.inr rfl), (by first | omega | assumption | exact Or.inl rfl | exact Or.inr rfl), (by first | omega | assumption | exact Or.inl rfl | exact Or.inr rfl), (by first | omega | assumption | exact Or.inl rfl | exact Or.inr rfl)⟩)), FR.retype hT_h0 hR⟩
  have hF_31 : F_29 h0 = .inr (15, (.ref ta) :: (.int 0) :: (.int (nI zo)) :: (.int (nI ze)) :: (.ref ou) :: (.ref so) :: (.ref ad) :: (.ref na) :: (.ref va) :: (.ref lc) :: (.ref dm) :: (.int (nI fm)) :: (.int (nI sn)) :: (.ref tg) :: (.int v14) :: (.int v15) :: (.ref pe) :: (.int v17) :: (.int v18) :: (.int v19) :: (.int v20) :: (.int v21) :: (.int v22) :: (.ref ml) :: (.ref bg) :: (.ref co) :: (.ref sp) :: (.ref nb0) :: (.ref nb1) :: (.ref nb2) :: (.int (nI nf)) :: (.int (nI bd)) :: (.int (nI mm)) :: (.int v33) :: (.ref pl) :: (.ref se) :: (.ref ke) :: (.ref wi) :: (.ref hs) :: (.ref mo) :: (.ref po) :: (.ref nu) :: (.ref pr) :: (.ref sq) :: (.ref xa) :: (.ref sa) :: (.ref n64) :: (.ref m64) :: (.ref ex) :: (.ref wh) :: (.ref sd) :: (.ref tk) :: (.int v52) :: (.int v53) :: (.int v54) :: (.ref hd) :: (.ref ak) :: (.ref ho) :: (.ref ot) :: []) := by rw [he_30]; exact up_self
  obtain ⟨hq_54, hq_55, hq_56, hq_57, hq_58, hgO, hgA, hgB, hq_59⟩ := hW.sc hL_h0 hT_h0
  refine lv_iload_n hx hb dX15_used_10 rfl (lv_at hl 0 rfl) ?_
  refine W.widen (k := 0) (n := 0) (by omega) (by omega) ?_
  exact W.iret (v := (nI zt)) hx hb hr (fun t ht hWm => ⟨⟨(nI zt), (), rfl, rfl, ⟨F_29, ty, hty, QTm.mk ht hP hD hO hR, hW, hF_31⟩⟩, hS.F ht⟩) hS.2.2 dX15_used_11
set_option maxHeartbeats 4000000 in
set_option maxRecDepth 100000 in
theorem s_X15_end (l : Launch) (dC : Nat → ClassId) (dI : Nat → Nat → Nat) (cs : Nat → ClassId) (ty : TyM) (gm : Nat → Nat → Nat) (L : List Nat) (sz : Nat) (F : Nat → va_E) (h0 : Nat) (ρ : Nat) (ta : Nat) (ou : Nat) (so : Nat) (ad : Nat) (na : Nat) (va : Nat) (lc : Nat) (dm : Nat) (tg : Nat) (pe : Nat) (ml : Nat) (bg : Nat) (co : Nat) (sp : Nat) (nb0 : Nat) (nb1 : Nat) (nb2 : Nat) (pl : Nat) (se : Nat) (ke : Nat) (wi : Nat) (hs : Nat) (mo : Nat) (po : Nat) (nu : Nat) (pr : Nat) (sq : Nat) (xa : Nat) (sa : Nat) (n64 : Nat) (m64 : Nat) (ex : Nat) (wh : Nat) (sd : Nat) (tk : Nat) (hd : Nat) (ak : Nat) (ho : Nat) (ot : Nat) (sx : Nat) (s0 : Nat) (s1 : Nat) (s2 : Nat) (nf : Nat) (bd : Nat) (mm : Nat) (fm : Nat) (sn : Nat) (hg : Nat) (gc : Nat) (gv : Nat) (ze : Nat) (zt : Nat) (x1 : Int32) (hW : WTm ty gm L) (hL_h0 : h0 ∈ L) (hT_h0 : ty h0 = (15, ρ, [ta, ou, so, ad, na, va, lc, dm, tg, pe, ml, bg, co, sp, nb0, nb1, nb2, pl, se, ke, wi, hs, mo, po, nu, pr, sq, xa, sa, n64, m64, ex, wh, sd, tk, hd, ak, ho, ot, sx, s0, s1, s2, nf, bd, mm, fm, sn, hg, gc, gv, ze, zt])) : Met l yX15_end (.code yX15_end cX15_end 2 (some .int) :: tb) ({ frames := 1, cells := 0, slots := 0, locals := 25 }) (va_Pc [.ref h0, .int x1] (PTm (dC, dI) cs ty gm L F sz)) (va_Qi (fun (r : Int32) (_ : Unit) => r = (if ¬ x1 < 0 ∧ ¬ nI zt < x1 then x1 else (-1))) (fun _ T9 => ∃ F2 : Nat → va_E, ∃ ty2 : TyM, ty2 = rtf ty h0 (15, ρ, [ta, ou, so, ad, na, va, lc, dm, tg, pe, ml, bg, co, sp, nb0, nb1, nb2, pl, se, ke, wi, hs, mo, po, nu, pr, sq, xa, sa, n64, m64, ex, wh, sd, tk, hd, ak, ho, ot, sx, s0, s1, s2, nf, bd, mm, fm, sn, hg, gc, gv, ze, (if ¬ x1 < 0 ∧ ¬ nI zt < x1 then x1.toNatClampNeg else zt)]) ∧ QTm (dC, dI) cs ty2 gm L [ρ] F F2 (va_A (va_pl L F) sz) T9 ∧ WTm ty2 gm L) (va_A (va_pl L F) sz)) 0 0 (va_A (va_pl L F) sz) := by
  refine Met.ofW (cc := cX15_end) (maxL := 2) (ret := (some .int)) (by decide) rfl ?_
  intro p e s m args below meth c s₁ B hml hv
  obtain ⟨rfl, hsz, hP, hK, hD0, hE, hO⟩ := hv
  have hx := B.exec
  have hb := B.bytes
  have hr := B.returns
  have hts : ∀ w ∈ tb, w.before _ s = true := fun w h => atoms_spec (ws := .code yX15_end cX15_end 2 (some .int) :: tb) B.pre w (List.mem_cons_of_mem _ h)
  have hown : s.vm.findClass RX15 = some m.cls := findClass_of_methodNamed B.named
  have hlocks := B.notSynchronized
  subst hsz
  have hD := hD0.self (sz := s.heap.size)
  generalize hAe : va_A (va_pl L F) s.heap.size = A at hD ⊢
  have hA : ∀ q : Nat, s.heap.size ≤ q → A q := fun q h => by rw [← hAe]; exact Or.inr h
  have hS : va_S A s.heap s.heap [] := va_S.rf
  have hR : FR ty [ρ] F F := FR.refl
  have hl := lv_entry ([.ref h0, .int x1]) (n := 2) (Nat.le_of_ble_eq_true rfl)
  rw [lg_entry_eq]
  generalize (lg_sl ([.ref h0, .int x1]) ++ List.replicate (2 - (lg_sl ([.ref h0, .int x1])).length) Slot.unset).toArray = ls at hl ⊢
  have hl : lv_has ls 2 [(0, .ref h0), (1, .int x1)] := hl
  obtain ⟨hq_23, hq_24, hq_25, hq_26, hq_27, hgO, hgA, hgB, hq_28⟩ := hW.sc hL_h0 hT_h0
  refine lv_iload_n hx hb dX15_end_0 rfl (lv_at hl 1 rfl) ?_
  refine lv_i2l (v := x1.toInt64) hx hb dX15_end_1 rfl ?_
  refine lv_lconst (v := 0) hx hb dX15_end_2 (by decide) ?_
  refine lv_aload_n hx hb dX15_end_3 rfl (lv_at hl 0 rfl) ?_
  obtain ⟨zo_29, v14_30, v15_31, v17_32, v18_33, v19_34, v20_35, v21_36, v22_37, v33_38, v52_39, v53_40, v54_41, hF_42, hq_43, hq_44, hq_45, hq_46, hq_47⟩ := hO.mod hL_h0 hT_h0
  refine pg_get (ci := 15) (v := .int (nI zt)) (C := RX15) (T := TX15) (N := 59) hx hb hts it_15 hown hK hP hL_h0 hF_42 rfl 1 (by decide) (hts _ kt_1004) (fun _ h9 => h9) rfl dX15_end_4 ?_
  refine lv_i2l (v := (nI zt).toInt64) hx hb dX15_end_7 rfl ?_
  have hFc := pg_free hD hS hA
  refine va_calli (va_runS (As := [.long x1.toInt64, .long 0, .long ((nI zt).toInt64)]) (rest := []) ⟨hx, hb, hml, hown, hts⟩ (s_X15_in l dC dI cs ty gm L s.heap.size F x1.toInt64 0 ((nI zt).toInt64) hW ) ⟨callB_of 3 hts (gi kt_685) rfl rfl rfl (hts _ kt_669) (hts _ kt_705) (by decide +kernel) ⟨Nat.le_of_ble_eq_true rfl, Nat.le_of_ble_eq_true rfl⟩, (hts _ kt_686)⟩ ⟨fun a U g mk q => ⟨q.1, PTm.calling q.2⟩, fun U hU hWm => ⟨rfl, PTm.mk hU hWm hP hK hD hE hO⟩⟩ rfl rfl hl.1 rfl (lv_room (Nat.le_of_ble_eq_true rfl)) dX15_end_8 ⟨by show _ + 0 ≤ 0; omega, by show _ + 0 ≤ 0; omega⟩) hS (fun q _ h => hFc q h) hFc (fun r_48 u t H1 locs ht hvm hw hB hz1 hk1 hS => ?_)
  obtain ⟨F_49, hB1⟩ := hB
  obtain rfl : F = F_49 := (funext (fun a => hB1.2.2.2 a List.not_mem_nil)).symm
  obtain ⟨hP, hD, hO, hR⟩ := QTm.back hB1 ht hFc hR (fun q h => absurd h List.not_mem_nil)
  generalize H1 = H at hP hS ⊢
  have hw : r_48 = (if 0 ≤ x1.toInt64 ∧ x1.toInt64 ≤ (nI zt).toInt64 then 1 else 0) := hw
  have hw_50 := hw
  refine lv_if_ne (tgt := 16) hx hb dX15_end_11 (by decide) (fun c_51 => ?_) (fun c_51 => ?_)
  ·
    have hcE : ¬ x1 < 0 ∧ ¬ nI zt < x1 := (in_0z hw_50 (by omega)).elim (fun h => absurd h.1 c_51) And.right
    obtain ⟨k, hk, rfl⟩ := nI_of hcE.1
    have hkz : k ≤ zt := Nat.not_lt.mp (fun h => hcE.2 ((nI_ltI (by omega) hk).mpr h))
    refine lv_aload_n hx hb dX15_end_16 rfl (lv_at hl 0 rfl) ?_
    refine lv_iload_n hx hb dX15_end_17 rfl (lv_at hl 1 rfl) ?_
    refine pg_put (ci := 15) (v := .int (nI k)) (ty := .int) (C := RX15) (T := TX15) (N := 59) hx hb hts it_15 tyX15 tyX15_ok nmX15 hown hK hP hD hS hL_h0 hF_42 rfl 1 (by decide) (hts _ kt_1004) (fun _ h9 => h9) rfl (by decide +kernel) (rfl) (rfl) (Nat.le_of_ble_eq_true rfl) dX15_end_18 (fun H locs hP hD hS => ?_)
    obtain ⟨F_52, he_53, hP, hD, hR⟩ : ∃ G, G = va_up F h0 (.inr (15, (.ref ta) :: (.int (nI k)) :: (.int (nI zo_29)) :: (.int (nI ze)) :: (.ref ou) :: (.ref so) :: (.ref ad) :: (.ref na) :: (.ref va) :: (.ref lc) :: (.ref dm) :: (.int (nI fm)) :: (.int (nI sn)) :: (.ref tg) :: (.int v14_30) :: (.int v15_31) :: (.ref pe) :: (.int v17_32) :: (.int v18_33) :: (.int v19_34) :: (.int v20_35) :: (.int v21_36) :: (.int v22_37) :: (.ref ml) :: (.ref bg) :: (.ref co) :: (.ref sp) :: (.ref nb0) :: (.ref nb1) :: (.ref nb2) :: (.int (nI nf)) :: (.int (nI bd)) :: (.int (nI mm)) :: (.int v33_38) :: (.ref pl) :: (.ref se) :: (.ref ke) :: (.ref wi) :: (.ref hs) :: (.ref mo) :: (.ref po) :: (.ref nu) :: (.ref pr) :: (.ref sq) :: (.ref xa) :: (.ref sa) :: (.ref n64) :: (.ref m64) :: (.ref ex) :: (.ref wh) :: (.ref sd) :: (.ref tk) :: (.int v52_39) :: (.int v53_40) :: (.int v54_41) :: (.ref hd) :: (.ref ak) :: (.ref ho) :: (.ref ot) :: [])) ∧ va_P (dC, dI) vwCl (va_pl L G) H ∧ va_D A (va_pl L G) ∧ FR ty [ρ] F G := ⟨_, rfl, hP, hD, hR.up hT_h0 (by simp)⟩
    obtain ⟨ty, hty, hT_h0, hW, hO, hR⟩ : ∃ t9 : TyM, t9 = rtf ty h0 (15, ρ, [ta, ou, so, ad, na, va, lc, dm, tg, pe, ml, bg, co, sp, nb0, nb1, nb2, pl, se, ke, wi, hs, mo, po, nu, pr, sq, xa, sa, n64, m64, ex, wh, sd, tk, hd, ak, ho, ot, sx, s0, s1, s2, nf, bd, mm, fm, sn, hg, gc, gv, ze, k]) ∧ t9 h0 = (15, ρ, [ta, ou, so, ad, na, va, lc, dm, tg, pe, ml, bg, co, sp, nb0, nb1, nb2, pl, se, ke, wi, hs, mo, po, nu, pr, sq, xa, sa, n64, m64, ex, wh, sd, tk, hd, ak, ho, ot, sx, s0, s1, s2, nf, bd, mm, fm, sn, hg, gc, gv, ze, k]) ∧ WTm t9 gm L ∧ OKm cs t9 gm L F_52 ∧ FR t9 [ρ] F F_52 := ⟨_, rfl, rtf_self, hW.zt hL_h0 hT_h0 (by omega), (by rw [he_53]; exact OKm.retype hO hT_h0 (shm.mod rtf_self ⟨zo_29, v14_30, v15_31, v17_32, v18_33, v19_34, v20_35, v21_36, v22_37, v33_38, v52_39, v53_40, v54_41, rfl, (by first | omega | assumption | exact Or.inl rfl | exact Or.inr rfl), (by first | omega | assumption | exact Or.inl rfl | exact Or.inr rfl), (by first | omega | assumption | exact Or.inl rfl | exact Or.inr rfl), (by first | omega | assumption | exact Or.inl rfl | exact Or.inr rfl), (by first | omega | assumption | exact Or.inl rfl | exact Or.inr rfl)⟩)), FR.retype hT_h0 hR⟩
    have hF_54 : F_52 h0 = .inr (15, (.ref ta) :: (.int (nI k)) :: (.int (nI zo_29)) :: (.int (nI ze)) :: (.ref ou) :: (.ref so) :: (.ref ad) :: (.ref na) :: (.ref va) :: (.ref lc) :: (.ref dm) :: (.int (nI fm)) :: (.int (nI sn)) :: (.ref tg) :: (.int v14_30) :: (.int v15_31) :: (.ref pe) :: (.int v17_32) :: (.int v18_33) :: (.int v19_34) :: (.int v20_35) :: (.int v21_36) :: (.int v22_37) :: (.ref ml) :: (.ref bg) :: (.ref co) :: (.ref sp) :: (.ref nb0) :: (.ref nb1) :: (.ref nb2) :: (.int (nI nf)) :: (.int (nI bd)) :: (.int (nI mm)) :: (.int v33_38) :: (.ref pl) :: (.ref se) :: (.ref ke) :: (.ref wi) :: (.ref hs) :: (.ref mo) :: (.ref po) :: (.ref nu) :: (.ref pr) :: (.ref sq) :: (.ref xa) :: (.ref sa) :: (.ref n64) :: (.ref m64) :: (.ref ex) :: (.ref wh) :: (.ref sd) :: (.ref tk) :: (.int v52_39) :: (.int v53_40) :: (.int v54_41) :: (.ref hd) :: (.ref ak) :: (.ref ho) :: (.ref ot) :: []) := by rw [he_53]; exact up_self
    obtain ⟨hq_77, hq_78, hq_79, hq_80, hq_81, hgO, hgA, hgB, hq_82⟩ := hW.sc hL_h0 hT_h0
    refine lv_iload_n hx hb dX15_end_21 rfl (lv_at hl 1 rfl) ?_
    refine W.widen (k := 0) (n := 0) (by omega) (by omega) ?_
    exact W.iret (v := (nI k)) hx hb hr (fun t ht hWm => ⟨⟨(nI k), (), rfl, (by rw [if_pos hcE]), ⟨F_52, ty, (by rw [if_pos hcE, nI_clamp hk]; exact hty), QTm.mk ht hP hD hO hR, hW⟩⟩, hS.F ht⟩) hS.2.2 dX15_end_22
  ·
    have hcN : ¬ (¬ x1 < 0 ∧ ¬ nI zt < x1) := (in_0z hw_50 (by omega)).elim And.right (fun h => absurd (h.1.symm.trans c_51) (by decide))
    refine lv_iconst (v := (-1)) hx hb dX15_end_14 (by decide) ?_
    refine W.widen (k := 0) (n := 0) (by omega) (by omega) ?_
    exact W.iret (v := (-1)) hx hb hr (fun t ht hWm => ⟨⟨(-1), (), rfl, (by rw [if_neg hcN]), ⟨F, ty, (by rw [if_neg hcN]; exact (rtf_id hT_h0).symm), QTm.mk ht hP hD hO hR, hW⟩⟩, hS.F ht⟩) hS.2.2 dX15_end_15
set_option maxHeartbeats 4000000 in
set_option maxRecDepth 100000 in
theorem s_X15_forget (l : Launch) (dC : Nat → ClassId) (dI : Nat → Nat → Nat) (cs : Nat → ClassId) (ty : TyM) (gm : Nat → Nat → Nat) (L : List Nat) (sz : Nat) (F : Nat → va_E) (h0 : Nat) (ρ : Nat) (ta : Nat) (ou : Nat) (so : Nat) (ad : Nat) (na : Nat) (va : Nat) (lc : Nat) (dm : Nat) (tg : Nat) (pe : Nat) (ml : Nat) (bg : Nat) (co : Nat) (sp : Nat) (nb0 : Nat) (nb1 : Nat) (nb2 : Nat) (pl : Nat) (se : Nat) (ke : Nat) (wi : Nat) (hs : Nat) (mo : Nat) (po : Nat) (nu : Nat) (pr : Nat) (sq : Nat) (xa : Nat) (sa : Nat) (n64 : Nat) (m64 : Nat) (ex : Nat) (wh : Nat) (sd : Nat) (tk : Nat) (hd : Nat) (ak : Nat) (ho : Nat) (ot : Nat) (sx : Nat) (s0 : Nat) (s1 : Nat) (s2 : Nat) (nf : Nat) (bd : Nat) (mm : Nat) (fm : Nat) (sn : Nat) (hg : Nat) (gc : Nat) (gv : Nat) (ze : Nat) (zt : Nat) (hW : WTm ty gm L) (hL_h0 : h0 ∈ L) (hT_h0 : ty h0 = (15, ρ, [ta, ou, so, ad, na, va, lc, dm, tg, pe, ml, bg, co, sp, nb0, nb1, nb2, pl, se, ke, wi, hs, mo, po, nu, pr, sq, xa, sa, n64, m64, ex, wh, sd, tk, hd, ak, ho, ot, sx, s0, s1, s2, nf, bd, mm, fm, sn, hg, gc, gv, ze, zt])) : Met l yX15_forget (.code yX15_forget cX15_forget 2 (some .int) :: tb) ({ frames := 0, cells := 0, slots := 0, locals := 0 }) (va_Pc [.ref h0] (PTm (dC, dI) cs ty gm L F sz)) (va_Qi (fun (r : Int32) (_ : Unit) => r = nI ze) (fun _ T9 => ∃ F2 : Nat → va_E, ∃ ty2 : TyM, ty2 = rtf ty h0 (15, ρ, [ta, ou, so, ad, na, va, lc, dm, tg, pe, ml, bg, co, sp, nb0, nb1, nb2, pl, se, ke, wi, hs, mo, po, nu, pr, sq, xa, sa, n64, m64, ex, wh, sd, tk, hd, ak, ho, ot, sx, s0, s1, s2, nf, bd, mm, fm, sn, hg, gc, gv, 0, zt]) ∧ QTm (dC, dI) cs ty2 gm L [ρ] F F2 (va_A (va_pl L F) sz) T9 ∧ WTm ty2 gm L) (va_A (va_pl L F) sz)) 0 0 (va_A (va_pl L F) sz) := by
  refine Met.ofW (cc := cX15_forget) (maxL := 2) (ret := (some .int)) (by decide) rfl ?_
  intro p e s m args below meth c s₁ B hml hv
  obtain ⟨rfl, hsz, hP, hK, hD0, hE, hO⟩ := hv
  have hx := B.exec
  have hb := B.bytes
  have hr := B.returns
  have hts : ∀ w ∈ tb, w.before _ s = true := fun w h => atoms_spec (ws := .code yX15_forget cX15_forget 2 (some .int) :: tb) B.pre w (List.mem_cons_of_mem _ h)
  have hown : s.vm.findClass RX15 = some m.cls := findClass_of_methodNamed B.named
  have hlocks := B.notSynchronized
  subst hsz
  have hD := hD0.self (sz := s.heap.size)
  generalize hAe : va_A (va_pl L F) s.heap.size = A at hD ⊢
  have hA : ∀ q : Nat, s.heap.size ≤ q → A q := fun q h => by rw [← hAe]; exact Or.inr h
  have hS : va_S A s.heap s.heap [] := va_S.rf
  have hR : FR ty [ρ] F F := FR.refl
  have hl := lv_entry ([.ref h0]) (n := 2) (Nat.le_of_ble_eq_true rfl)
  rw [lg_entry_eq]
  generalize (lg_sl ([.ref h0]) ++ List.replicate (2 - (lg_sl ([.ref h0])).length) Slot.unset).toArray = ls at hl ⊢
  have hl : lv_has ls 2 [(0, .ref h0)] := hl
  obtain ⟨hq_23, hq_24, hq_25, hq_26, hq_27, hgO, hgA, hgB, hq_28⟩ := hW.sc hL_h0 hT_h0
  refine lv_aload_n hx hb dX15_forget_0 rfl (lv_at hl 0 rfl) ?_
  obtain ⟨zo_29, v14_30, v15_31, v17_32, v18_33, v19_34, v20_35, v21_36, v22_37, v33_38, v52_39, v53_40, v54_41, hF_42, hq_43, hq_44, hq_45, hq_46, hq_47⟩ := hO.mod hL_h0 hT_h0
  refine pg_get (ci := 15) (v := .int (nI ze)) (C := RX15) (T := TX15) (N := 59) hx hb hts it_15 hown hK hP hL_h0 hF_42 rfl 3 (by decide) (hts _ kt_724) (fun _ h9 => h9) rfl dX15_forget_1 ?_
  refine lv_istore_n (lv' := [(1, .int (nI ze)), (0, .ref h0)]) hx hb dX15_forget_4 rfl hl (by decide) rfl (fun ls hl => ?_)
  refine lv_aload_n hx hb dX15_forget_5 rfl (lv_at hl 1 rfl) ?_
  refine lv_iconst (v := 0) hx hb dX15_forget_6 (by decide) ?_
  refine pg_put (ci := 15) (v := .int 0) (ty := .int) (C := RX15) (T := TX15) (N := 59) hx hb hts it_15 tyX15 tyX15_ok nmX15 hown hK hP hD hS hL_h0 hF_42 rfl 3 (by decide) (hts _ kt_724) (fun _ h9 => h9) rfl (by decide +kernel) (rfl) (rfl) (Nat.le_of_ble_eq_true rfl) dX15_forget_7 (fun H locs hP hD hS => ?_)
  obtain ⟨F_48, he_49, hP, hD, hR⟩ : ∃ G, G = va_up F h0 (.inr (15, (.ref ta) :: (.int (nI zt)) :: (.int (nI zo_29)) :: (.int 0) :: (.ref ou) :: (.ref so) :: (.ref ad) :: (.ref na) :: (.ref va) :: (.ref lc) :: (.ref dm) :: (.int (nI fm)) :: (.int (nI sn)) :: (.ref tg) :: (.int v14_30) :: (.int v15_31) :: (.ref pe) :: (.int v17_32) :: (.int v18_33) :: (.int v19_34) :: (.int v20_35) :: (.int v21_36) :: (.int v22_37) :: (.ref ml) :: (.ref bg) :: (.ref co) :: (.ref sp) :: (.ref nb0) :: (.ref nb1) :: (.ref nb2) :: (.int (nI nf)) :: (.int (nI bd)) :: (.int (nI mm)) :: (.int v33_38) :: (.ref pl) :: (.ref se) :: (.ref ke) :: (.ref wi) :: (.ref hs) :: (.ref mo) :: (.ref po) :: (.ref nu) :: (.ref pr) :: (.ref sq) :: (.ref xa) :: (.ref sa) :: (.ref n64) :: (.ref m64) :: (.ref ex) :: (.ref wh) :: (.ref sd) :: (.ref tk) :: (.int v52_39) :: (.int v53_40) :: (.int v54_41) :: (.ref hd) :: (.ref ak) :: (.ref ho) :: (.ref ot) :: [])) ∧ va_P (dC, dI) vwCl (va_pl L G) H ∧ va_D A (va_pl L G) ∧ FR ty [ρ] F G := ⟨_, rfl, hP, hD, hR.up hT_h0 (by simp)⟩
  obtain ⟨ty, hty, hT_h0, hW, hO, hR⟩ : ∃ t9 : TyM, t9 = rtf ty h0 (15, ρ, [ta, ou, so, ad, na, va, lc, dm, tg, pe, ml, bg, co, sp, nb0, nb1, nb2, pl, se, ke, wi, hs, mo, po, nu, pr, sq, xa, sa, n64, m64, ex, wh, sd, tk, hd, ak, ho, ot, sx, s0, s1, s2, nf, bd, mm, fm, sn, hg, gc, gv, 0, zt]) ∧ t9 h0 = (15, ρ, [ta, ou, so, ad, na, va, lc, dm, tg, pe, ml, bg, co, sp, nb0, nb1, nb2, pl, se, ke, wi, hs, mo, po, nu, pr, sq, xa, sa, n64, m64, ex, wh, sd, tk, hd, ak, ho, ot, sx, s0, s1, s2, nf, bd, mm, fm, sn, hg, gc, gv, 0, zt]) ∧ WTm t9 gm L ∧ OKm cs t9 gm L F_48 ∧ FR t9 [ρ] F F_48 := ⟨_, rfl, rtf_self, hW.ze hL_h0 hT_h0, (by rw [he_49]; exact OKm.retype hO hT_h0 (shm.mod rtf_self ⟨zo_29, v14_30, v15_31, v17_32, v18_33, v19_34, v20_35, v21_36, v22_37, v33_38, v52_39, v53_40, v54_41, rfl, (by first | omega | assumption | exact Or.inl rfl | exact Or.inr rfl), (by first | omega | assumption | exact Or.inl rfl | exact Or.inr rfl), (by first | omega | assumption | exact Or.inl rfl | exact Or.inr rfl), (by first | omega | assumption | exact Or.inl rfl | exact Or.inr rfl), (by first | omega | assumption | exact Or.inl rfl | exact Or.inr rfl)⟩)), FR.retype hT_h0 hR⟩
  have hF_50 : F_48 h0 = .inr (15, (.ref ta) :: (.int (nI zt)) :: (.int (nI zo_29)) :: (.int 0) :: (.ref ou) :: (.ref so) :: (.ref ad) :: (.ref na) :: (.ref va) :: (.ref lc) :: (.ref dm) :: (.int (nI fm)) :: (.int (nI sn)) :: (.ref tg) :: (.int v14_30) :: (.int v15_31) :: (.ref pe) :: (.int v17_32) :: (.int v18_33) :: (.int v19_34) :: (.int v20_35) :: (.int v21_36) :: (.int v22_37) :: (.ref ml) :: (.ref bg) :: (.ref co) :: (.ref sp) :: (.ref nb0) :: (.ref nb1) :: (.ref nb2) :: (.int (nI nf)) :: (.int (nI bd)) :: (.int (nI mm)) :: (.int v33_38) :: (.ref pl) :: (.ref se) :: (.ref ke) :: (.ref wi) :: (.ref hs) :: (.ref mo) :: (.ref po) :: (.ref nu) :: (.ref pr) :: (.ref sq) :: (.ref xa) :: (.ref sa) :: (.ref n64) :: (.ref m64) :: (.ref ex) :: (.ref wh) :: (.ref sd) :: (.ref tk) :: (.int v52_39) :: (.int v53_40) :: (.int v54_41) :: (.ref hd) :: (.ref ak) :: (.ref ho) :: (.ref ot) :: []) := by rw [he_49]; exact up_self
  obtain ⟨hq_73, hq_74, hq_75, hq_76, hq_77, hgO, hgA, hgB, hq_78⟩ := hW.sc hL_h0 hT_h0
  refine lv_iload_n hx hb dX15_forget_10 rfl (lv_at hl 0 rfl) ?_
  refine W.widen (k := 0) (n := 0) (by omega) (by omega) ?_
  exact W.iret (v := (nI ze)) hx hb hr (fun t ht hWm => ⟨⟨(nI ze), (), rfl, rfl, ⟨F_48, ty, hty, QTm.mk ht hP hD hO hR, hW⟩⟩, hS.F ht⟩) hS.2.2 dX15_forget_11
set_option maxHeartbeats 4000000 in
set_option maxRecDepth 100000 in
theorem s_X15_digest_ (l : Launch) (dC : Nat → ClassId) (dI : Nat → Nat → Nat) (cs : Nat → ClassId) (ty : TyM) (gm : Nat → Nat → Nat) (L : List Nat) (sz : Nat) (F : Nat → va_E) (h0 : Nat) (ρ : Nat) (ta : Nat) (ou : Nat) (so : Nat) (ad : Nat) (na : Nat) (va : Nat) (lc : Nat) (dm : Nat) (tg : Nat) (pe : Nat) (ml : Nat) (bg : Nat) (co : Nat) (sp : Nat) (nb0 : Nat) (nb1 : Nat) (nb2 : Nat) (pl : Nat) (se : Nat) (ke : Nat) (wi : Nat) (hs : Nat) (mo : Nat) (po : Nat) (nu : Nat) (pr : Nat) (sq : Nat) (xa : Nat) (sa : Nat) (n64 : Nat) (m64 : Nat) (ex : Nat) (wh : Nat) (sd : Nat) (tk : Nat) (hd : Nat) (ak : Nat) (ho : Nat) (ot : Nat) (sx : Nat) (s0 : Nat) (s1 : Nat) (s2 : Nat) (nf : Nat) (bd : Nat) (mm : Nat) (fm : Nat) (sn : Nat) (hg : Nat) (gc : Nat) (gv : Nat) (ze : Nat) (zt : Nat) (hW : WTm ty gm L) (hL_h0 : h0 ∈ L) (hT_h0 : ty h0 = (15, ρ, [ta, ou, so, ad, na, va, lc, dm, tg, pe, ml, bg, co, sp, nb0, nb1, nb2, pl, se, ke, wi, hs, mo, po, nu, pr, sq, xa, sa, n64, m64, ex, wh, sd, tk, hd, ak, ho, ot, sx, s0, s1, s2, nf, bd, mm, fm, sn, hg, gc, gv, ze, zt])) : Met l yX15_digest_ (.code yX15_digest_ cX15_digest_ 2 (some .int) :: tb) ({ frames := 6, cells := 0, slots := 0, locals := 143 }) (va_Pc [.ref h0] (PTm (dC, dI) cs ty gm L F sz)) (va_Qi (fun (r : Int32) (_ : Unit) => r = 32) (fun _ T9 => ∃ F2 : Nat → va_E, ∃ ty2 : TyM, ty2 = rtf ty h0 (15, ρ, [ta, ou, so, ad, na, va, lc, dm, tg, pe, ml, bg, co, sp, nb0, nb1, nb2, pl, se, ke, wi, hs, mo, po, nu, pr, sq, xa, sa, n64, m64, ex, wh, sd, tk, hd, ak, ho, ot, sx, s0, s1, s2, nf, bd, mm, fm, sn, hg, gc, gv, ze, 0]) ∧ QTm (dC, dI) cs ty2 gm L [ρ, ρ + 2, ρ + 17, ρ + 19] F F2 (va_A (va_pl L F) sz) T9 ∧ WTm ty2 gm L) (va_A (va_pl L F) sz)) 0 0 (va_A (va_pl L F) sz) := by
  refine Met.ofW (cc := cX15_digest_) (maxL := 2) (ret := (some .int)) (by decide) rfl ?_
  intro p e s m args below meth c s₁ B hml hv
  obtain ⟨rfl, hsz, hP, hK, hD0, hE, hO⟩ := hv
  have hx := B.exec
  have hb := B.bytes
  have hr := B.returns
  have hts : ∀ w ∈ tb, w.before _ s = true := fun w h => atoms_spec (ws := .code yX15_digest_ cX15_digest_ 2 (some .int) :: tb) B.pre w (List.mem_cons_of_mem _ h)
  have hown : s.vm.findClass RX15 = some m.cls := findClass_of_methodNamed B.named
  have hlocks := B.notSynchronized
  subst hsz
  have hD := hD0.self (sz := s.heap.size)
  generalize hAe : va_A (va_pl L F) s.heap.size = A at hD ⊢
  have hA : ∀ q : Nat, s.heap.size ≤ q → A q := fun q h => by rw [← hAe]; exact Or.inr h
  have hS : va_S A s.heap s.heap [] := va_S.rf
  have hR : FR ty [ρ, ρ + 2, ρ + 17, ρ + 19] F F := FR.refl
  have hl := lv_entry ([.ref h0]) (n := 2) (Nat.le_of_ble_eq_true rfl)
  rw [lg_entry_eq]
  generalize (lg_sl ([.ref h0]) ++ List.replicate (2 - (lg_sl ([.ref h0])).length) Slot.unset).toArray = ls at hl ⊢
  have hl : lv_has ls 2 [(0, .ref h0)] := hl
  obtain ⟨hq_23, hq_24, hq_25, hq_26, hq_27, hgO, hgA, hgB, hq_28⟩ := hW.sc hL_h0 hT_h0
  refine lv_aload_n hx hb dX15_digest__0 rfl (lv_at hl 0 rfl) ?_
  obtain ⟨zo_29, v14_30, v15_31, v17_32, v18_33, v19_34, v20_35, v21_36, v22_37, v33_38, v52_39, v53_40, v54_41, hF_42, hq_43, hq_44, hq_45, hq_46, hq_47⟩ := hO.mod hL_h0 hT_h0
  have hFc := pg_free hD hS hA
  refine va_calli (va_runV (As := []) (rest := []) ⟨hx, hb, hml, hown, hts⟩ (s_X15_used l dC dI cs ty gm L s.heap.size F h0 ρ ta ou so ad na va lc dm tg pe ml bg co sp nb0 nb1 nb2 pl se ke wi hs mo po nu pr sq xa sa n64 m64 ex wh sd tk hd ak ho ot sx s0 s1 s2 nf bd mm fm sn hg gc gv ze zt zo_29 v14_30 v15_31 v17_32 v18_33 v19_34 v20_35 v21_36 v22_37 v33_38 v52_39 v53_40 v54_41 hW hL_h0 hT_h0 hF_42 (by first | omega | assumption | exact Or.inl rfl) (by first | omega | assumption | exact Or.inl rfl) (by first | omega | assumption | exact Or.inl rfl) (by first | omega | assumption | exact Or.inl rfl) (by first | omega | assumption | exact Or.inl rfl)) ⟨callB_of 0 hts (gi kt_1005) rfl rfl rfl (hts _ kt_669) (hts _ kt_1006) (by decide +kernel) ⟨Nat.le_of_ble_eq_true rfl, Nat.le_of_ble_eq_true rfl⟩, (hts _ kt_1007), (hts _ kt_1008)⟩ ⟨fun a U g mk q => ⟨q.1, PTm.calling q.2⟩, pg_recv hK hP hL_h0 hF_42 (q := (RX15, TX15, 59)) rfl, fun U hU hWm => ⟨rfl, PTm.mk hU hWm hP hK hD hE hO⟩⟩ rfl rfl hl.1 rfl (lv_room (Nat.le_of_ble_eq_true rfl)) dX15_digest__1 ⟨by show _ + 0 ≤ 0; omega, by show _ + 0 ≤ 0; omega⟩) hS (fun q _ h => hFc q h) hFc (fun r_48 u t H1 locs ht hvm hw hB hz1 hk1 hS => ?_)
  obtain ⟨F_49, ty9, hty9, hB1, hW9, hq_50⟩ := hB
  subst hty9
  have hR9 := FR.retype (im2 := [ta, ou, so, ad, na, va, lc, dm, tg, pe, ml, bg, co, sp, nb0, nb1, nb2, pl, se, ke, wi, hs, mo, po, nu, pr, sq, xa, sa, n64, m64, ex, wh, sd, tk, hd, ak, ho, ot, sx, s0, s1, s2, nf, bd, mm, fm, sn, hg, gc, gv, ze, 0]) hT_h0 hR
  obtain ⟨hP, hD, hO, hR⟩ := QTm.back hB1 ht hFc hR9 (fun q h => by simp only [List.mem_cons, List.not_mem_nil, or_false] at h ⊢; omega)
  obtain ⟨ty, hty, hT_h0, hW, hO, hR⟩ : ∃ t9 : TyM, t9 = rtf ty h0 (15, ρ, [ta, ou, so, ad, na, va, lc, dm, tg, pe, ml, bg, co, sp, nb0, nb1, nb2, pl, se, ke, wi, hs, mo, po, nu, pr, sq, xa, sa, n64, m64, ex, wh, sd, tk, hd, ak, ho, ot, sx, s0, s1, s2, nf, bd, mm, fm, sn, hg, gc, gv, ze, 0]) ∧ t9 h0 = (15, ρ, [ta, ou, so, ad, na, va, lc, dm, tg, pe, ml, bg, co, sp, nb0, nb1, nb2, pl, se, ke, wi, hs, mo, po, nu, pr, sq, xa, sa, n64, m64, ex, wh, sd, tk, hd, ak, ho, ot, sx, s0, s1, s2, nf, bd, mm, fm, sn, hg, gc, gv, ze, 0]) ∧ WTm t9 gm L ∧ OKm cs t9 gm L F_49 ∧ FR t9 [ρ, ρ + 2, ρ + 17, ρ + 19] F F_49 := ⟨_, rfl, rtf_self, hW9, hO, hR⟩
  generalize H1 = H at hP hS ⊢
  have hw : r_48 = nI zt := hw
  subst hw
  obtain ⟨hq_73, hq_74, hq_75, hq_76, hq_77, hgO, hgA, hgB, hq_78⟩ := hW.sc hL_h0 hT_h0
  refine lv_istore_n (lv' := [(1, .int (nI zt)), (0, .ref h0)]) hx hb dX15_digest__4 rfl hl (by decide) rfl (fun ls hl => ?_)
  refine lv_aload_n hx hb dX15_digest__5 rfl (lv_at hl 1 rfl) ?_
  refine lv_aload_n hx hb dX15_digest__6 rfl (lv_at hl 1 rfl) ?_
  refine pg_get (ci := 15) (v := .ref ta) (C := RX15) (T := TX15) (N := 59) hx hb hts it_15 hown hK hP hL_h0 hq_50 rfl 0 (by decide) (hts _ kt_1009) (fun _ h9 => h9) rfl dX15_digest__7 ?_
  refine lv_iload_n hx hb dX15_digest__10 rfl (lv_at hl 0 rfl) ?_
  refine lv_aload_n hx hb dX15_digest__11 rfl (lv_at hl 1 rfl) ?_
  refine pg_get (ci := 15) (v := .ref xa) (C := RX15) (T := TX15) (N := 59) hx hb hts it_15 hown hK hP hL_h0 hq_50 rfl 44 (by decide) (hts _ kt_935) (fun _ h9 => h9) rfl dX15_digest__12 ?_
  obtain ⟨hi_79, ht_80⟩ := hW.f_ta hL_h0 hT_h0
  obtain ⟨hq_81, hq_82⟩ := hW.octs hi_79 ht_80
  obtain ⟨hi_83, ht_84⟩ := hW.f_xa hL_h0 hT_h0
  obtain ⟨hq_85, hq_86⟩ := hW.octs hi_83 ht_84
  have hFc := pg_free hD hS hA
  refine va_callv (va_runV (As := [.ref ta, .int (nI zt), .ref xa]) (rest := []) ⟨hx, hb, hml, hown, hts⟩ (s_X15_digest l dC dI cs ty gm L H.size F_49 h0 ρ ta ou so ad na va lc dm tg pe ml bg co sp nb0 nb1 nb2 pl se ke wi hs mo po nu pr sq xa sa n64 m64 ex wh sd tk hd ak ho ot sx s0 s1 s2 nf bd mm fm sn hg gc gv ze 0 ta (ρ + 1) 3000 xa (ρ + 19) 32 zt hW hL_h0 hT_h0 hi_79 ht_80 hi_83 ht_84 (by first | omega | assumption | exact Or.inl rfl) (by first | omega | assumption | exact Or.inl rfl)) ⟨callB_of 3 hts (gi kt_976) rfl rfl rfl (hts _ kt_669) (hts _ kt_977) (by decide +kernel) ⟨Nat.le_of_ble_eq_true rfl, Nat.le_of_ble_eq_true rfl⟩, (hts _ kt_978), (hts _ kt_979)⟩ ⟨fun a U g mk q => ⟨q.1, PTm.calling q.2⟩, pg_recv hK hP hL_h0 hq_50 (q := (RX15, TX15, 59)) rfl, fun U hU hWm => ⟨rfl, PTm.mk hU hWm hP hK hD hE hO⟩⟩ rfl rfl hl.1 rfl (lv_room (Nat.le_of_ble_eq_true rfl)) dX15_digest__15 ⟨by show _ + 0 ≤ 0; omega, by show _ + 0 ≤ 0; omega⟩) hS (fun q _ h => hFc q h) hFc (fun u t H1 locs ht hvm hw hB hz1 hk1 hS => ?_)
  obtain ⟨F_88, hB1⟩ := hB
  obtain ⟨hP, hD, hO, hR⟩ := QTm.back hB1 ht hFc hR (fun q h => by simp only [List.mem_cons, List.not_mem_nil, or_false] at h ⊢; omega)
  have hF_89 : F_88 h0 = .inr (15, (.ref ta) :: (.int 0) :: (.int (nI zo_29)) :: (.int (nI ze)) :: (.ref ou) :: (.ref so) :: (.ref ad) :: (.ref na) :: (.ref va) :: (.ref lc) :: (.ref dm) :: (.int (nI fm)) :: (.int (nI sn)) :: (.ref tg) :: (.int v14_30) :: (.int v15_31) :: (.ref pe) :: (.int v17_32) :: (.int v18_33) :: (.int v19_34) :: (.int v20_35) :: (.int v21_36) :: (.int v22_37) :: (.ref ml) :: (.ref bg) :: (.ref co) :: (.ref sp) :: (.ref nb0) :: (.ref nb1) :: (.ref nb2) :: (.int (nI nf)) :: (.int (nI bd)) :: (.int (nI mm)) :: (.int v33_38) :: (.ref pl) :: (.ref se) :: (.ref ke) :: (.ref wi) :: (.ref hs) :: (.ref mo) :: (.ref po) :: (.ref nu) :: (.ref pr) :: (.ref sq) :: (.ref xa) :: (.ref sa) :: (.ref n64) :: (.ref m64) :: (.ref ex) :: (.ref wh) :: (.ref sd) :: (.ref tk) :: (.int v52_39) :: (.int v53_40) :: (.int v54_41) :: (.ref hd) :: (.ref ak) :: (.ref ho) :: (.ref ot) :: []) := (hB1.2.2.2 h0 (by rw [hT_h0]; simp)).trans hq_50
  generalize H1 = H at hP hS ⊢
  refine lv_aload_n hx hb dX15_digest__18 rfl (lv_at hl 1 rfl) ?_
  refine pg_get (ci := 15) (v := .ref xa) (C := RX15) (T := TX15) (N := 59) hx hb hts it_15 hown hK hP hL_h0 hF_89 rfl 44 (by decide) (hts _ kt_935) (fun _ h9 => h9) rfl dX15_digest__19 ?_
  refine lv_iconst (v := 0) hx hb dX15_digest__22 (by decide) ?_
  refine lv_aload_n hx hb dX15_digest__23 rfl (lv_at hl 1 rfl) ?_
  refine pg_get (ci := 15) (v := .ref ou) (C := RX15) (T := TX15) (N := 59) hx hb hts it_15 hown hK hP hL_h0 hF_89 rfl 4 (by decide) (hts _ kt_907) (fun _ h9 => h9) rfl dX15_digest__24 ?_
  refine lv_iconst (v := 0) hx hb dX15_digest__27 (by decide) ?_
  refine lv_bipush (v := 32) hx hb dX15_digest__28 (by decide) ?_
  obtain ⟨f_90, hF_91, hq_92⟩ := hO.octs hi_83 ht_84
  obtain ⟨hi_93, ht_94⟩ := hW.f_ou hL_h0 hT_h0
  obtain ⟨hq_95, hq_96⟩ := hW.octs hi_93 ht_94
  obtain ⟨f_97, hF_98, hq_99⟩ := hO.octs hi_93 ht_94
  refine pg_copyi hx hb (by rw [hml]; exact hl.1.symm) hown (hts _ kt_908) (hts _ kt_29) (hts _ kt_30) (hts _ kt_31) hK hP hD hS hi_83 hi_93 1 1 hF_91 hF_98 rfl rfl rfl (by decide) (by decide) (by decide) (by decide) (by decide) (fun _ _ => hq_92 _) (Nat.le_of_ble_eq_true rfl) (by decide) dX15_digest__30 (fun H locs hP hD hS => ?_)
  obtain ⟨F_100, he_101, hP, hD, hO, hR⟩ : ∃ G, G = va_up F_88 ou (.inl (cs 17, 6000, .inl (va_cpy f_90 f_97 (0 : Int32).toNatClampNeg (0 : Int32).toNatClampNeg (32 : Int32).toNatClampNeg))) ∧ va_P (dC, dI) vwCl (va_pl L G) H ∧ va_D A (va_pl L G) ∧ OKm cs ty gm L G ∧ FR ty [ρ, ρ + 2, ρ + 17, ρ + 19] F G := ⟨_, rfl, hP, hD, hO.up (shm.octs ht_94 ⟨_, rfl, bfm_cpy hq_92 hq_99 _ _ _⟩), hR.up ht_94 (by simp)⟩
  have hF_102 : F_100 ou = .inl (cs 17, 6000, .inl (va_cpy f_90 f_97 (0 : Int32).toNatClampNeg (0 : Int32).toNatClampNeg (32 : Int32).toNatClampNeg)) := by rw [he_101]; exact up_self
  have hF_103 : F_100 h0 = .inr (15, (.ref ta) :: (.int 0) :: (.int (nI zo_29)) :: (.int (nI ze)) :: (.ref ou) :: (.ref so) :: (.ref ad) :: (.ref na) :: (.ref va) :: (.ref lc) :: (.ref dm) :: (.int (nI fm)) :: (.int (nI sn)) :: (.ref tg) :: (.int v14_30) :: (.int v15_31) :: (.ref pe) :: (.int v17_32) :: (.int v18_33) :: (.int v19_34) :: (.int v20_35) :: (.int v21_36) :: (.int v22_37) :: (.ref ml) :: (.ref bg) :: (.ref co) :: (.ref sp) :: (.ref nb0) :: (.ref nb1) :: (.ref nb2) :: (.int (nI nf)) :: (.int (nI bd)) :: (.int (nI mm)) :: (.int v33_38) :: (.ref pl) :: (.ref se) :: (.ref ke) :: (.ref wi) :: (.ref hs) :: (.ref mo) :: (.ref po) :: (.ref nu) :: (.ref pr) :: (.ref sq) :: (.ref xa) :: (.ref sa) :: (.ref n64) :: (.ref m64) :: (.ref ex) :: (.ref wh) :: (.ref sd) :: (.ref tk) :: (.int v52_39) :: (.int v53_40) :: (.int v54_41) :: (.ref hd) :: (.ref ak) :: (.ref ho) :: (.ref ot) :: []) := by rw [he_101, up_ne (ne_ty hT_h0 ht_94 (by simp))]; exact hF_89
  have hF_104 : F_100 xa = .inl (cs 17, 32, .inl f_90) := by rw [he_101, up_ne (ne_ty2 ht_84 ht_94 (by simp))]; exact hF_91
  obtain ⟨f_105, hF_102, hq_106⟩ : ∃ f : Nat → Int32, F_100 ou = .inl (cs 17, 6000, .inl f) ∧ BFm f := ⟨_, hF_102, bfm_cpy hq_92 hq_99 _ _ _⟩
  refine lv_aload_n hx hb dX15_digest__33 rfl (lv_at hl 1 rfl) ?_
  refine lv_bipush (v := 32) hx hb dX15_digest__34 (by decide) ?_
  refine pg_put (ci := 15) (v := .int 32) (ty := .int) (C := RX15) (T := TX15) (N := 59) hx hb hts it_15 tyX15 tyX15_ok nmX15 hown hK hP hD hS hL_h0 hF_103 rfl 2 (by decide) (hts _ kt_909) (fun _ h9 => h9) rfl (by decide +kernel) (rfl) (rfl) (Nat.le_of_ble_eq_true rfl) dX15_digest__36 (fun H locs hP hD hS => ?_)
  obtain ⟨F_107, he_108, hP, hD, hO, hR⟩ : ∃ G, G = va_up F_100 h0 (.inr (15, (.ref ta) :: (.int 0) :: (.int 32) :: (.int (nI ze)) :: (.ref ou) :: (.ref so) :: (.ref ad) :: (.ref na) :: (.ref va) :: (.ref lc) :: (.ref dm) :: (.int (nI fm)) :: (.int (nI sn)) :: (.ref tg) :: (.int v14_30) :: (.int v15_31) :: (.ref pe) :: (.int v17_32) :: (.int v18_33) :: (.int v19_34) :: (.int v20_35) :: (.int v21_36) :: (.int v22_37) :: (.ref ml) :: (.ref bg) :: (.ref co) :: (.ref sp) :: (.ref nb0) :: (.ref nb1) :: (.ref nb2) :: (.int (nI nf)) :: (.int (nI bd)) :: (.int (nI mm)) :: (.int v33_38) :: (.ref pl) :: (.ref se) :: (.ref ke) :: (.ref wi) :: (.ref hs) :: (.ref mo) :: (.ref po) :: (.ref nu) :: (.ref pr) :: (.ref sq) :: (.ref xa) :: (.ref sa) :: (.ref n64) :: (.ref m64) :: (.ref ex) :: (.ref wh) :: (.ref sd) :: (.ref tk) :: (.int v52_39) :: (.int v53_40) :: (.int v54_41) :: (.ref hd) :: (.ref ak) :: (.ref ho) :: (.ref ot) :: [])) ∧ va_P (dC, dI) vwCl (va_pl L G) H ∧ va_D A (va_pl L G) ∧ OKm cs ty gm L G ∧ FR ty [ρ, ρ + 2, ρ + 17, ρ + 19] F G := ⟨_, rfl, hP, hD, hO.up (shm.mod hT_h0 ⟨32, v14_30, v15_31, v17_32, v18_33, v19_34, v20_35, v21_36, v22_37, v33_38, v52_39, v53_40, v54_41, rfl, (by first | omega | assumption | exact Or.inl rfl | exact Or.inr rfl), (by first | omega | assumption | exact Or.inl rfl | exact Or.inr rfl), (by first | omega | assumption | exact Or.inl rfl | exact Or.inr rfl), (by first | omega | assumption | exact Or.inl rfl | exact Or.inr rfl), (by first | omega | assumption | exact Or.inl rfl | exact Or.inr rfl)⟩), hR.up hT_h0 (by simp)⟩
  have hF_109 : F_107 h0 = .inr (15, (.ref ta) :: (.int 0) :: (.int 32) :: (.int (nI ze)) :: (.ref ou) :: (.ref so) :: (.ref ad) :: (.ref na) :: (.ref va) :: (.ref lc) :: (.ref dm) :: (.int (nI fm)) :: (.int (nI sn)) :: (.ref tg) :: (.int v14_30) :: (.int v15_31) :: (.ref pe) :: (.int v17_32) :: (.int v18_33) :: (.int v19_34) :: (.int v20_35) :: (.int v21_36) :: (.int v22_37) :: (.ref ml) :: (.ref bg) :: (.ref co) :: (.ref sp) :: (.ref nb0) :: (.ref nb1) :: (.ref nb2) :: (.int (nI nf)) :: (.int (nI bd)) :: (.int (nI mm)) :: (.int v33_38) :: (.ref pl) :: (.ref se) :: (.ref ke) :: (.ref wi) :: (.ref hs) :: (.ref mo) :: (.ref po) :: (.ref nu) :: (.ref pr) :: (.ref sq) :: (.ref xa) :: (.ref sa) :: (.ref n64) :: (.ref m64) :: (.ref ex) :: (.ref wh) :: (.ref sd) :: (.ref tk) :: (.int v52_39) :: (.int v53_40) :: (.int v54_41) :: (.ref hd) :: (.ref ak) :: (.ref ho) :: (.ref ot) :: []) := by rw [he_108]; exact up_self
  have hF_110 : F_107 ou = .inl (cs 17, 6000, .inl f_105) := by rw [he_108, up_ne (ne_ty ht_94 hT_h0 (by simp))]; exact hF_102
  have hF_111 : F_107 xa = .inl (cs 17, 32, .inl f_90) := by rw [he_108, up_ne (ne_ty ht_84 hT_h0 (by simp))]; exact hF_104
  refine lv_bipush (v := 32) hx hb dX15_digest__39 (by decide) ?_
  refine W.widen (k := 0) (n := 0) (by omega) (by omega) ?_
  exact W.iret (v := 32) hx hb hr (fun t ht hWm => ⟨⟨32, (), rfl, rfl, ⟨F_107, ty, hty, QTm.mk ht hP hD hO hR, hW⟩⟩, hS.F ht⟩) hS.2.2 dX15_digest__41
set_option maxHeartbeats 4000000 in
set_option maxRecDepth 100000 in
theorem s_X15_octet (l : Launch) (dC : Nat → ClassId) (dI : Nat → Nat → Nat) (cs : Nat → ClassId) (ty : TyM) (gm : Nat → Nat → Nat) (L : List Nat) (sz : Nat) (F : Nat → va_E) (h0 : Nat) (ρ : Nat) (ta : Nat) (ou : Nat) (so : Nat) (ad : Nat) (na : Nat) (va : Nat) (lc : Nat) (dm : Nat) (tg : Nat) (pe : Nat) (ml : Nat) (bg : Nat) (co : Nat) (sp : Nat) (nb0 : Nat) (nb1 : Nat) (nb2 : Nat) (pl : Nat) (se : Nat) (ke : Nat) (wi : Nat) (hs : Nat) (mo : Nat) (po : Nat) (nu : Nat) (pr : Nat) (sq : Nat) (xa : Nat) (sa : Nat) (n64 : Nat) (m64 : Nat) (ex : Nat) (wh : Nat) (sd : Nat) (tk : Nat) (hd : Nat) (ak : Nat) (ho : Nat) (ot : Nat) (sx : Nat) (s0 : Nat) (s1 : Nat) (s2 : Nat) (nf : Nat) (bd : Nat) (mm : Nat) (fm : Nat) (sn : Nat) (hg : Nat) (gc : Nat) (gv : Nat) (ze : Nat) (zt : Nat) (x1 : Int32) (hW : WTm ty gm L) (hL_h0 : h0 ∈ L) (hT_h0 : ty h0 = (15, ρ, [ta, ou, so, ad, na, va, lc, dm, tg, pe, ml, bg, co, sp, nb0, nb1, nb2, pl, se, ke, wi, hs, mo, po, nu, pr, sq, xa, sa, n64, m64, ex, wh, sd, tk, hd, ak, ho, ot, sx, s0, s1, s2, nf, bd, mm, fm, sn, hg, gc, gv, ze, zt])) : Met l yX15_octet (.code yX15_octet cX15_octet 2 (some .int) :: tb) ({ frames := 1, cells := 0, slots := 0, locals := 25 }) (va_Pc [.ref h0, .int x1] (PTm (dC, dI) cs ty gm L F sz)) (va_Qi (fun (r : Int32) (_ : Unit) => True) (fun _ T9 => ∃ F2 : Nat → va_E, QTm (dC, dI) cs ty gm L [] F F2 (va_A (va_pl L F) sz) T9) (va_A (va_pl L F) sz)) 0 0 (va_A (va_pl L F) sz) := by
  refine Met.ofW (cc := cX15_octet) (maxL := 2) (ret := (some .int)) (by decide) rfl ?_
  intro p e s m args below meth c s₁ B hml hv
  obtain ⟨rfl, hsz, hP, hK, hD0, hE, hO⟩ := hv
  have hx := B.exec
  have hb := B.bytes
  have hr := B.returns
  have hts : ∀ w ∈ tb, w.before _ s = true := fun w h => atoms_spec (ws := .code yX15_octet cX15_octet 2 (some .int) :: tb) B.pre w (List.mem_cons_of_mem _ h)
  have hown : s.vm.findClass RX15 = some m.cls := findClass_of_methodNamed B.named
  have hlocks := B.notSynchronized
  subst hsz
  have hD := hD0.self (sz := s.heap.size)
  generalize hAe : va_A (va_pl L F) s.heap.size = A at hD ⊢
  have hA : ∀ q : Nat, s.heap.size ≤ q → A q := fun q h => by rw [← hAe]; exact Or.inr h
  have hS : va_S A s.heap s.heap [] := va_S.rf
  have hR : FR ty [] F F := FR.refl
  have hl := lv_entry ([.ref h0, .int x1]) (n := 2) (Nat.le_of_ble_eq_true rfl)
  rw [lg_entry_eq]
  generalize (lg_sl ([.ref h0, .int x1]) ++ List.replicate (2 - (lg_sl ([.ref h0, .int x1])).length) Slot.unset).toArray = ls at hl ⊢
  have hl : lv_has ls 2 [(0, .ref h0), (1, .int x1)] := hl
  obtain ⟨hq_23, hq_24, hq_25, hq_26, hq_27, hgO, hgA, hgB, hq_28⟩ := hW.sc hL_h0 hT_h0
  refine lv_iload_n hx hb dX15_octet_0 rfl (lv_at hl 1 rfl) ?_
  refine lv_i2l (v := x1.toInt64) hx hb dX15_octet_1 rfl ?_
  refine lv_ldc2 (v := (-1)) hx hb hown (hts _ kt_1010) dX15_octet_2 ?_
  refine lv_aload_n hx hb dX15_octet_5 rfl (lv_at hl 0 rfl) ?_
  obtain ⟨zo_29, v14_30, v15_31, v17_32, v18_33, v19_34, v20_35, v21_36, v22_37, v33_38, v52_39, v53_40, v54_41, hF_42, hq_43, hq_44, hq_45, hq_46, hq_47⟩ := hO.mod hL_h0 hT_h0
  refine pg_get (ci := 15) (v := .int (nI zo_29)) (C := RX15) (T := TX15) (N := 59) hx hb hts it_15 hown hK hP hL_h0 hF_42 rfl 2 (by decide) (hts _ kt_909) (fun _ h9 => h9) rfl dX15_octet_6 ?_
  refine lv_iconst (v := 1) hx hb dX15_octet_9 (by decide) ?_
  refine lv_isub hx hb dX15_octet_10 ?_
  refine lv_topi (fun x_48 ex_48 => ?_)
  obtain rfl : x_48 = ((nI zo_29) - 1) := ex_48.trans (rfl)
  refine lv_i2l (v := ((nI zo_29) - 1).toInt64) hx hb dX15_octet_11 rfl ?_
  have hFc := pg_free hD hS hA
  refine va_calli (va_runS (As := [.long x1.toInt64, .long (-1), .long (((nI zo_29) - 1).toInt64)]) (rest := []) ⟨hx, hb, hml, hown, hts⟩ (s_X15_in l dC dI cs ty gm L s.heap.size F x1.toInt64 (-1) (((nI zo_29) - 1).toInt64) hW ) ⟨callB_of 3 hts (gi kt_685) rfl rfl rfl (hts _ kt_669) (hts _ kt_705) (by decide +kernel) ⟨Nat.le_of_ble_eq_true rfl, Nat.le_of_ble_eq_true rfl⟩, (hts _ kt_686)⟩ ⟨fun a U g mk q => ⟨q.1, PTm.calling q.2⟩, fun U hU hWm => ⟨rfl, PTm.mk hU hWm hP hK hD hE hO⟩⟩ rfl rfl hl.1 rfl (lv_room (Nat.le_of_ble_eq_true rfl)) dX15_octet_12 ⟨by show _ + 0 ≤ 0; omega, by show _ + 0 ≤ 0; omega⟩) hS (fun q _ h => hFc q h) hFc (fun r_49 u t H1 locs ht hvm hw hB hz1 hk1 hS => ?_)
  obtain ⟨F_50, hB1⟩ := hB
  obtain rfl : F = F_50 := (funext (fun a => hB1.2.2.2 a List.not_mem_nil)).symm
  obtain ⟨hP, hD, hO, hR⟩ := QTm.back hB1 ht hFc hR (fun q h => absurd h List.not_mem_nil)
  generalize H1 = H at hP hS ⊢
  have hw : r_49 = (if (-1) ≤ x1.toInt64 ∧ x1.toInt64 ≤ ((nI zo_29) - 1).toInt64 then 1 else 0) := hw
  have hw_51 := hw
  refine lv_if_ne (tgt := 21) hx hb dX15_octet_15 (by decide) (fun c_52 => ?_) (fun c_52 => ?_)
  ·
    refine lv_iload_n hx hb dX15_octet_21 rfl (lv_at hl 1 rfl) ?_
    refine lv_if_ge (tgt := 32) hx hb dX15_octet_22 (by decide) (fun c_53 => ?_) (fun c_53 => ?_)
    ·
      have hin := in_int hw_51 c_52
      rw [Int32.toInt_toInt64, show (1 : Int32) = nI 1 from rfl, pk_sub_toInt (by omega) (by omega)] at hin
      obtain ⟨k, hk, rfl⟩ := nI_of (Int32.not_lt.mpr c_53)
      rw [nI_toInt hk] at hin
      refine lv_aload_n hx hb dX15_octet_32 rfl (lv_at hl 0 rfl) ?_
      refine pg_get (ci := 15) (v := .ref ou) (C := RX15) (T := TX15) (N := 59) hx hb hts it_15 hown hK hP hL_h0 hF_42 rfl 4 (by decide) (hts _ kt_907) (fun _ h9 => h9) rfl dX15_octet_33 ?_
      refine lv_iload_n hx hb dX15_octet_36 rfl (lv_at hl 1 rfl) ?_
      obtain ⟨hi_54, ht_55⟩ := hW.f_ou hL_h0 hT_h0
      obtain ⟨hq_56, hq_57⟩ := hW.octs hi_54 ht_55
      obtain ⟨f_58, hF_59, hq_60⟩ := hO.octs hi_54 ht_55
      refine pg_bald hx hb hK hP hi_54 1 hF_59 rfl (vp_in_nI (by omega) (by omega)) dX15_octet_37 ?_
      refine lv_topi (fun x_61 ex_61 => ?_)
      obtain rfl : x_61 = f_58 k := ex_61.trans (congrArg f_58 (show ((nI k) : Int32).toNatClampNeg = k from nI_clamp (by omega)))
      refine lv_sipush (v := 255) hx hb dX15_octet_38 (by decide) ?_
      refine lv_iand hx hb dX15_octet_41 ?_
      refine lv_topi (fun x_62 _ => ?_)
      refine W.widen (k := 0) (n := 0) (by omega) (by omega) ?_
      exact W.iret (v := x_62) hx hb hr (fun t ht hWm => ⟨⟨x_62, (), rfl, trivial, ⟨F, QTm.mk ht hP hD hO hR⟩⟩, hS.F ht⟩) hS.2.2 dX15_octet_42
    ·
      refine lv_aload_n hx hb dX15_octet_25 rfl (lv_at hl 0 rfl) ?_
      refine pg_get (ci := 15) (v := .int (nI zo_29)) (C := RX15) (T := TX15) (N := 59) hx hb hts it_15 hown hK hP hL_h0 hF_42 rfl 2 (by decide) (hts _ kt_909) (fun _ h9 => h9) rfl dX15_octet_26 ?_
      refine lv_goto (tgt := 42) hx hb dX15_octet_29 (by decide) ?_
      refine W.widen (k := 0) (n := 0) (by omega) (by omega) ?_
      exact W.iret (v := (nI zo_29)) hx hb hr (fun t ht hWm => ⟨⟨(nI zo_29), (), rfl, trivial, ⟨F, QTm.mk ht hP hD hO hR⟩⟩, hS.F ht⟩) hS.2.2 dX15_octet_42
  ·
    refine lv_bipush (v := (-2)) hx hb dX15_octet_18 (by decide) ?_
    refine W.widen (k := 0) (n := 0) (by omega) (by omega) ?_
    exact W.iret (v := (-2)) hx hb hr (fun t ht hWm => ⟨⟨(-2), (), rfl, trivial, ⟨F, QTm.mk ht hP hD hO hR⟩⟩, hS.F ht⟩) hS.2.2 dX15_octet_20
set_option maxHeartbeats 4000000 in
set_option maxRecDepth 100000 in
theorem s_X15_house (l : Launch) (dC : Nat → ClassId) (dI : Nat → Nat → Nat) (cs : Nat → ClassId) (ty : TyM) (gm : Nat → Nat → Nat) (L : List Nat) (sz : Nat) (F : Nat → va_E) (h0 : Nat) (ρ : Nat) (ta : Nat) (ou : Nat) (so : Nat) (ad : Nat) (na : Nat) (va : Nat) (lc : Nat) (dm : Nat) (tg : Nat) (pe : Nat) (ml : Nat) (bg : Nat) (co : Nat) (sp : Nat) (nb0 : Nat) (nb1 : Nat) (nb2 : Nat) (pl : Nat) (se : Nat) (ke : Nat) (wi : Nat) (hs : Nat) (mo : Nat) (po : Nat) (nu : Nat) (pr : Nat) (sq : Nat) (xa : Nat) (sa : Nat) (n64 : Nat) (m64 : Nat) (ex : Nat) (wh : Nat) (sd : Nat) (tk : Nat) (hd : Nat) (ak : Nat) (ho : Nat) (ot : Nat) (sx : Nat) (s0 : Nat) (s1 : Nat) (s2 : Nat) (nf : Nat) (bd : Nat) (mm : Nat) (fm : Nat) (sn : Nat) (hg : Nat) (gc : Nat) (gv : Nat) (ze : Nat) (zt : Nat) (hW : WTm ty gm L) (hL_h0 : h0 ∈ L) (hT_h0 : ty h0 = (15, ρ, [ta, ou, so, ad, na, va, lc, dm, tg, pe, ml, bg, co, sp, nb0, nb1, nb2, pl, se, ke, wi, hs, mo, po, nu, pr, sq, xa, sa, n64, m64, ex, wh, sd, tk, hd, ak, ho, ot, sx, s0, s1, s2, nf, bd, mm, fm, sn, hg, gc, gv, ze, zt])) : Met l yX15_house (.code yX15_house cX15_house 2 (some .int) :: tb) ({ frames := 4, cells := 0, slots := 0, locals := 119 }) (va_Pc [.ref h0] (PTm (dC, dI) cs ty gm L F sz)) (va_Qi (fun (r : Int32) (_ : Unit) => True) (fun _ T9 => ∃ F2 : Nat → va_E, ∃ ty2 : TyM, ty2 = rtf ty h0 (15, ρ, [ta, ou, so, ad, na, va, lc, dm, tg, pe, ml, bg, co, sp, nb0, nb1, nb2, pl, se, ke, wi, hs, mo, po, nu, pr, sq, xa, sa, n64, m64, ex, wh, sd, tk, hd, ak, ho, ot, sx, s0, s1, s2, nf, bd, mm, fm, sn, hg, gc, gv, ze, 0]) ∧ QTm (dC, dI) cs ty2 gm L [ρ, ρ + 2, ρ + 28, ρ + 29] F F2 (va_A (va_pl L F) sz) T9 ∧ WTm ty2 gm L) (va_A (va_pl L F) sz)) 0 0 (va_A (va_pl L F) sz) := by
  refine Met.ofW (cc := cX15_house) (maxL := 2) (ret := (some .int)) (by decide) rfl ?_
  intro p e s m args below meth c s₁ B hml hv
  obtain ⟨rfl, hsz, hP, hK, hD0, hE, hO⟩ := hv
  have hx := B.exec
  have hb := B.bytes
  have hr := B.returns
  have hts : ∀ w ∈ tb, w.before _ s = true := fun w h => atoms_spec (ws := .code yX15_house cX15_house 2 (some .int) :: tb) B.pre w (List.mem_cons_of_mem _ h)
  have hown : s.vm.findClass RX15 = some m.cls := findClass_of_methodNamed B.named
  have hlocks := B.notSynchronized
  subst hsz
  have hD := hD0.self (sz := s.heap.size)
  generalize hAe : va_A (va_pl L F) s.heap.size = A at hD ⊢
  have hA : ∀ q : Nat, s.heap.size ≤ q → A q := fun q h => by rw [← hAe]; exact Or.inr h
  have hS : va_S A s.heap s.heap [] := va_S.rf
  have hR : FR ty [ρ, ρ + 2, ρ + 28, ρ + 29] F F := FR.refl
  have hl := lv_entry ([.ref h0]) (n := 2) (Nat.le_of_ble_eq_true rfl)
  rw [lg_entry_eq]
  generalize (lg_sl ([.ref h0]) ++ List.replicate (2 - (lg_sl ([.ref h0])).length) Slot.unset).toArray = ls at hl ⊢
  have hl : lv_has ls 2 [(0, .ref h0)] := hl
  obtain ⟨hq_23, hq_24, hq_25, hq_26, hq_27, hgO, hgA, hgB, hq_28⟩ := hW.sc hL_h0 hT_h0
  refine lv_aload_n hx hb dX15_house_0 rfl (lv_at hl 0 rfl) ?_
  obtain ⟨zo_29, v14_30, v15_31, v17_32, v18_33, v19_34, v20_35, v21_36, v22_37, v33_38, v52_39, v53_40, v54_41, hF_42, hq_43, hq_44, hq_45, hq_46, hq_47⟩ := hO.mod hL_h0 hT_h0
  have hFc := pg_free hD hS hA
  refine va_calli (va_runV (As := []) (rest := []) ⟨hx, hb, hml, hown, hts⟩ (s_X15_used l dC dI cs ty gm L s.heap.size F h0 ρ ta ou so ad na va lc dm tg pe ml bg co sp nb0 nb1 nb2 pl se ke wi hs mo po nu pr sq xa sa n64 m64 ex wh sd tk hd ak ho ot sx s0 s1 s2 nf bd mm fm sn hg gc gv ze zt zo_29 v14_30 v15_31 v17_32 v18_33 v19_34 v20_35 v21_36 v22_37 v33_38 v52_39 v53_40 v54_41 hW hL_h0 hT_h0 hF_42 (by first | omega | assumption | exact Or.inl rfl) (by first | omega | assumption | exact Or.inl rfl) (by first | omega | assumption | exact Or.inl rfl) (by first | omega | assumption | exact Or.inl rfl) (by first | omega | assumption | exact Or.inl rfl)) ⟨callB_of 0 hts (gi kt_1005) rfl rfl rfl (hts _ kt_669) (hts _ kt_1006) (by decide +kernel) ⟨Nat.le_of_ble_eq_true rfl, Nat.le_of_ble_eq_true rfl⟩, (hts _ kt_1007), (hts _ kt_1008)⟩ ⟨fun a U g mk q => ⟨q.1, PTm.calling q.2⟩, pg_recv hK hP hL_h0 hF_42 (q := (RX15, TX15, 59)) rfl, fun U hU hWm => ⟨rfl, PTm.mk hU hWm hP hK hD hE hO⟩⟩ rfl rfl hl.1 rfl (lv_room (Nat.le_of_ble_eq_true rfl)) dX15_house_1 ⟨by show _ + 0 ≤ 0; omega, by show _ + 0 ≤ 0; omega⟩) hS (fun q _ h => hFc q h) hFc (fun r_48 u t H1 locs ht hvm hw hB hz1 hk1 hS => ?_)
  obtain ⟨F_49, ty9, hty9, hB1, hW9, hq_50⟩ := hB
  subst hty9
  have hR9 := FR.retype (im2 := [ta, ou, so, ad, na, va, lc, dm, tg, pe, ml, bg, co, sp, nb0, nb1, nb2, pl, se, ke, wi, hs, mo, po, nu, pr, sq, xa, sa, n64, m64, ex, wh, sd, tk, hd, ak, ho, ot, sx, s0, s1, s2, nf, bd, mm, fm, sn, hg, gc, gv, ze, 0]) hT_h0 hR
  obtain ⟨hP, hD, hO, hR⟩ := QTm.back hB1 ht hFc hR9 (fun q h => by simp only [List.mem_cons, List.not_mem_nil, or_false] at h ⊢; omega)
  obtain ⟨ty, hty, hT_h0, hW, hO, hR⟩ : ∃ t9 : TyM, t9 = rtf ty h0 (15, ρ, [ta, ou, so, ad, na, va, lc, dm, tg, pe, ml, bg, co, sp, nb0, nb1, nb2, pl, se, ke, wi, hs, mo, po, nu, pr, sq, xa, sa, n64, m64, ex, wh, sd, tk, hd, ak, ho, ot, sx, s0, s1, s2, nf, bd, mm, fm, sn, hg, gc, gv, ze, 0]) ∧ t9 h0 = (15, ρ, [ta, ou, so, ad, na, va, lc, dm, tg, pe, ml, bg, co, sp, nb0, nb1, nb2, pl, se, ke, wi, hs, mo, po, nu, pr, sq, xa, sa, n64, m64, ex, wh, sd, tk, hd, ak, ho, ot, sx, s0, s1, s2, nf, bd, mm, fm, sn, hg, gc, gv, ze, 0]) ∧ WTm t9 gm L ∧ OKm cs t9 gm L F_49 ∧ FR t9 [ρ, ρ + 2, ρ + 28, ρ + 29] F F_49 := ⟨_, rfl, rtf_self, hW9, hO, hR⟩
  generalize H1 = H at hP hS ⊢
  have hw : r_48 = nI zt := hw
  subst hw
  obtain ⟨hq_73, hq_74, hq_75, hq_76, hq_77, hgO, hgA, hgB, hq_78⟩ := hW.sc hL_h0 hT_h0
  refine lv_istore_n (lv' := [(1, .int (nI zt)), (0, .ref h0)]) hx hb dX15_house_4 rfl hl (by decide) rfl (fun ls hl => ?_)
  refine lv_aload_n hx hb dX15_house_5 rfl (lv_at hl 1 rfl) ?_
  refine pg_get (ci := 15) (v := .ref ta) (C := RX15) (T := TX15) (N := 59) hx hb hts it_15 hown hK hP hL_h0 hq_50 rfl 0 (by decide) (hts _ kt_1009) (fun _ h9 => h9) rfl dX15_house_6 ?_
  refine lv_iconst (v := 0) hx hb dX15_house_9 (by decide) ?_
  refine lv_iload_n hx hb dX15_house_10 rfl (lv_at hl 0 rfl) ?_
  refine W.eq (g2 := F0 m 11 ls [.int (nI zt), .int (nI 0), .ref ta]) rfl ?_
  obtain ⟨hi_79, ht_80⟩ := hW.f_ta hL_h0 hT_h0
  obtain ⟨hq_81, hq_82⟩ := hW.octs hi_79 ht_80
  have hFc := pg_free hD hS hA
  refine va_calli (va_runS (As := [.ref ta, .int (nI 0), .int (nI zt)]) (rest := []) ⟨hx, hb, hml, hown, hts⟩ (s_X14_isName_ l dC dI cs ty gm L H.size F_49 ta (ρ + 1) 3000 0 zt hW hi_79 ht_80 (by first | omega | assumption | exact Or.inl rfl) (by first | omega | assumption | exact Or.inl rfl)) ⟨callB_of 3 hts (gi kt_689) rfl rfl rfl (hts _ kt_676) (hts _ kt_848) (by decide +kernel) ⟨Nat.le_of_ble_eq_true rfl, Nat.le_of_ble_eq_true rfl⟩, (hts _ kt_691)⟩ ⟨fun a U g mk q => ⟨q.1, PTm.calling q.2⟩, fun U hU hWm => ⟨rfl, PTm.mk hU hWm hP hK hD hE hO⟩⟩ rfl rfl hl.1 rfl (lv_room (Nat.le_of_ble_eq_true rfl)) dX15_house_11 ⟨by show _ + 0 ≤ 0; omega, by show _ + 0 ≤ 0; omega⟩) hS (fun q _ h => hFc q h) hFc (fun r_83 u t H1 locs ht hvm hw hB hz1 hk1 hS => ?_)
  obtain ⟨F_84, hB1⟩ := hB
  obtain rfl : F_49 = F_84 := (funext (fun a => hB1.2.2.2 a List.not_mem_nil)).symm
  obtain ⟨hP, hD, hO, hR⟩ := QTm.back hB1 ht hFc hR (fun q h => absurd h List.not_mem_nil)
  generalize H1 = H at hP hS ⊢
  have hw : (r_83 = 0 ∨ (r_83 = 1 ∧ 0 < zt ∧ zt ≤ 0 + 60)) := hw
  have hw_85 := hw
  refine lv_if_ne (tgt := 19) hx hb dX15_house_14 (by decide) (fun c_86 => ?_) (fun c_86 => ?_)
  ·
    have hnm := bit1 hw_85 c_86
    refine lv_aload_n hx hb dX15_house_19 rfl (lv_at hl 1 rfl) ?_
    refine pg_get (ci := 15) (v := .ref ak) (C := RX15) (T := TX15) (N := 59) hx hb hts it_15 hown hK hP hL_h0 hq_50 rfl 56 (by decide) (hts _ kt_999) (fun _ h9 => h9) rfl dX15_house_20 ?_
    refine lv_aload_n hx hb dX15_house_23 rfl (lv_at hl 1 rfl) ?_
    refine pg_get (ci := 15) (v := .ref ta) (C := RX15) (T := TX15) (N := 59) hx hb hts it_15 hown hK hP hL_h0 hq_50 rfl 0 (by decide) (hts _ kt_1009) (fun _ h9 => h9) rfl dX15_house_24 ?_
    refine lv_iconst (v := 0) hx hb dX15_house_27 (by decide) ?_
    refine lv_iload_n hx hb dX15_house_28 rfl (lv_at hl 0 rfl) ?_
    refine W.eq (g2 := F0 m 29 ls [.int (nI zt), .int (nI 0), .ref ta, .ref ak]) rfl ?_
    obtain ⟨hi_87, r_70, ht_88⟩ := hW.f_ak hL_h0 hT_h0
    obtain ⟨hi_89, ht_90, hq_91⟩ := hW.txt hi_87 ht_88
    have hFc := pg_free hD hS hA
    obtain ⟨z_92, hF_93, hq_94⟩ := hO.txt hi_87 ht_88
    refine va_callv (va_runV (As := [.ref ta, .int (nI 0), .int (nI zt)]) (rest := []) ⟨hx, hb, hml, hown, hts⟩ (s_X14_set l dC dI cs ty gm L H.size F_49 ak (ρ + 28) r_70 6000 ta (ρ + 1) 3000 0 zt hW hi_87 ht_88 hi_79 ht_80 (by first | omega | assumption | exact Or.inl rfl) (by first | omega | assumption | exact Or.inl rfl) (by first | omega | assumption | exact Or.inl rfl)) ⟨callB_of 3 hts (gi kt_951) rfl rfl rfl (hts _ kt_676) (hts _ kt_952) (by decide +kernel) ⟨Nat.le_of_ble_eq_true rfl, Nat.le_of_ble_eq_true rfl⟩, (hts _ kt_953), (hts _ kt_954)⟩ ⟨fun a U g mk q => ⟨q.1, PTm.calling q.2⟩, pg_recv hK hP hi_87 hF_93 (q := (RX14, TX14, 2)) rfl, fun U hU hWm => ⟨rfl, PTm.mk hU hWm hP hK hD hE hO⟩⟩ rfl rfl hl.1 rfl (lv_room (Nat.le_of_ble_eq_true rfl)) dX15_house_29 ⟨by show _ + 0 ≤ 0; omega, by show _ + 0 ≤ 0; omega⟩) hS (fun q _ h => hFc q h) hFc (fun u t H1 locs ht hvm hw hB hz1 hk1 hS => ?_)
    obtain ⟨F_96, hB1, hq_97⟩ := hB
    obtain ⟨hP, hD, hO, hR⟩ := QTm.back hB1 ht hFc hR (fun q h => by simp only [List.mem_cons, List.not_mem_nil, or_false] at h ⊢; omega)
    have hF_98 : F_96 h0 = .inr (15, (.ref ta) :: (.int 0) :: (.int (nI zo_29)) :: (.int (nI ze)) :: (.ref ou) :: (.ref so) :: (.ref ad) :: (.ref na) :: (.ref va) :: (.ref lc) :: (.ref dm) :: (.int (nI fm)) :: (.int (nI sn)) :: (.ref tg) :: (.int v14_30) :: (.int v15_31) :: (.ref pe) :: (.int v17_32) :: (.int v18_33) :: (.int v19_34) :: (.int v20_35) :: (.int v21_36) :: (.int v22_37) :: (.ref ml) :: (.ref bg) :: (.ref co) :: (.ref sp) :: (.ref nb0) :: (.ref nb1) :: (.ref nb2) :: (.int (nI nf)) :: (.int (nI bd)) :: (.int (nI mm)) :: (.int v33_38) :: (.ref pl) :: (.ref se) :: (.ref ke) :: (.ref wi) :: (.ref hs) :: (.ref mo) :: (.ref po) :: (.ref nu) :: (.ref pr) :: (.ref sq) :: (.ref xa) :: (.ref sa) :: (.ref n64) :: (.ref m64) :: (.ref ex) :: (.ref wh) :: (.ref sd) :: (.ref tk) :: (.int v52_39) :: (.int v53_40) :: (.int v54_41) :: (.ref hd) :: (.ref ak) :: (.ref ho) :: (.ref ot) :: []) := (hB1.2.2.2 h0 (by rw [hT_h0]; simp)).trans hq_50
    generalize H1 = H at hP hS ⊢
    refine lv_aload_n hx hb dX15_house_32 rfl (lv_at hl 1 rfl) ?_
    refine lv_aload_n hx hb dX15_house_33 rfl (lv_at hl 1 rfl) ?_
    refine pg_get (ci := 15) (v := .ref ak) (C := RX15) (T := TX15) (N := 59) hx hb hts it_15 hown hK hP hL_h0 hF_98 rfl 56 (by decide) (hts _ kt_999) (fun _ h9 => h9) rfl dX15_house_34 ?_
    refine lv_aload_n hx hb dX15_house_37 rfl (lv_at hl 1 rfl) ?_
    refine pg_get (ci := 15) (v := .ref ho) (C := RX15) (T := TX15) (N := 59) hx hb hts it_15 hown hK hP hL_h0 hF_98 rfl 57 (by decide) (hts _ kt_960) (fun _ h9 => h9) rfl dX15_house_38 ?_
    obtain ⟨hi_99, r_71, ht_100⟩ := hW.f_ho hL_h0 hT_h0
    obtain ⟨hi_101, ht_102, hq_103⟩ := hW.txt hi_99 ht_100
    have hFc := pg_free hD hS hA
    refine va_callv (va_runV (As := [.ref ak, .ref ho]) (rest := []) ⟨hx, hb, hml, hown, hts⟩ (s_X15_houseOf l dC dI cs ty gm L H.size F_96 h0 ρ ta ou so ad na va lc dm tg pe ml bg co sp nb0 nb1 nb2 pl se ke wi hs mo po nu pr sq xa sa n64 m64 ex wh sd tk hd ak ho ot sx s0 s1 s2 nf bd mm fm sn hg gc gv ze 0 ak (ρ + 28) r_70 6000 ho (ρ + 29) r_71 6000 (zt - 0) hW hL_h0 hT_h0 hi_87 ht_88 hi_99 ht_100 hq_97 (by first | omega | assumption | exact Or.inl rfl) (by first | omega | assumption | exact Or.inl rfl)) ⟨callB_of 2 hts (gi kt_961) rfl rfl rfl (hts _ kt_669) (hts _ kt_962) (by decide +kernel) ⟨Nat.le_of_ble_eq_true rfl, Nat.le_of_ble_eq_true rfl⟩, (hts _ kt_963), (hts _ kt_964)⟩ ⟨fun a U g mk q => ⟨q.1, PTm.calling q.2⟩, pg_recv hK hP hL_h0 hF_98 (q := (RX15, TX15, 59)) rfl, fun U hU hWm => ⟨rfl, PTm.mk hU hWm hP hK hD hE hO⟩⟩ rfl rfl hl.1 rfl (lv_room (Nat.le_of_ble_eq_true rfl)) dX15_house_41 ⟨by show _ + 0 ≤ 0; omega, by show _ + 0 ≤ 0; omega⟩) hS (fun q _ h => hFc q h) hFc (fun u t H1 locs ht hvm hw hB hz1 hk1 hS => ?_)
    obtain ⟨F_105, y2_106, hB1, hq_107, hq_108⟩ := hB
    obtain ⟨hP, hD, hO, hR⟩ := QTm.back hB1 ht hFc hR (fun q h => by simp only [List.mem_cons, List.not_mem_nil, or_false] at h ⊢; omega)
    have hF_109 : F_105 h0 = .inr (15, (.ref ta) :: (.int 0) :: (.int (nI zo_29)) :: (.int (nI ze)) :: (.ref ou) :: (.ref so) :: (.ref ad) :: (.ref na) :: (.ref va) :: (.ref lc) :: (.ref dm) :: (.int (nI fm)) :: (.int (nI sn)) :: (.ref tg) :: (.int v14_30) :: (.int v15_31) :: (.ref pe) :: (.int v17_32) :: (.int v18_33) :: (.int v19_34) :: (.int v20_35) :: (.int v21_36) :: (.int v22_37) :: (.ref ml) :: (.ref bg) :: (.ref co) :: (.ref sp) :: (.ref nb0) :: (.ref nb1) :: (.ref nb2) :: (.int (nI nf)) :: (.int (nI bd)) :: (.int (nI mm)) :: (.int v33_38) :: (.ref pl) :: (.ref se) :: (.ref ke) :: (.ref wi) :: (.ref hs) :: (.ref mo) :: (.ref po) :: (.ref nu) :: (.ref pr) :: (.ref sq) :: (.ref xa) :: (.ref sa) :: (.ref n64) :: (.ref m64) :: (.ref ex) :: (.ref wh) :: (.ref sd) :: (.ref tk) :: (.int v52_39) :: (.int v53_40) :: (.int v54_41) :: (.ref hd) :: (.ref ak) :: (.ref ho) :: (.ref ot) :: []) := (hB1.2.2.2 h0 (by rw [hT_h0]; simp)).trans hF_98
    have hF_110 : F_105 ak = .inr (14, [.ref r_70, .int (nI (zt - 0))]) := (hB1.2.2.2 ak (by rw [ht_88]; simp)).trans hq_97
    generalize H1 = H at hP hS ⊢
    refine lv_aload_n hx hb dX15_house_44 rfl (lv_at hl 1 rfl) ?_
    refine lv_aload_n hx hb dX15_house_45 rfl (lv_at hl 1 rfl) ?_
    refine pg_get (ci := 15) (v := .ref ho) (C := RX15) (T := TX15) (N := 59) hx hb hts it_15 hown hK hP hL_h0 hF_109 rfl 57 (by decide) (hts _ kt_960) (fun _ h9 => h9) rfl dX15_house_46 ?_
    have hFc := pg_free hD hS hA
    refine va_calli (va_runV (As := [.ref ho]) (rest := []) ⟨hx, hb, hml, hown, hts⟩ (s_X15_tell l dC dI cs ty gm L H.size F_105 h0 ρ ta ou so ad na va lc dm tg pe ml bg co sp nb0 nb1 nb2 pl se ke wi hs mo po nu pr sq xa sa n64 m64 ex wh sd tk hd ak ho ot sx s0 s1 s2 nf bd mm fm sn hg gc gv ze 0 ho (ρ + 29) r_71 hW hL_h0 hT_h0 hi_99 ht_100) ⟨callB_of 1 hts (gi kt_914) rfl rfl rfl (hts _ kt_669) (hts _ kt_915) (by decide +kernel) ⟨Nat.le_of_ble_eq_true rfl, Nat.le_of_ble_eq_true rfl⟩, (hts _ kt_916), (hts _ kt_917)⟩ ⟨fun a U g mk q => ⟨q.1, PTm.calling q.2⟩, pg_recv hK hP hL_h0 hF_109 (q := (RX15, TX15, 59)) rfl, fun U hU hWm => ⟨rfl, PTm.mk hU hWm hP hK hD hE hO⟩⟩ rfl rfl hl.1 rfl (lv_room (Nat.le_of_ble_eq_true rfl)) dX15_house_49 ⟨by show _ + 0 ≤ 0; omega, by show _ + 0 ≤ 0; omega⟩) hS (fun q _ h => hFc q h) hFc (fun r_111 u t H1 locs ht hvm hw hB hz1 hk1 hS => ?_)
    obtain ⟨F_112, hB1⟩ := hB
    obtain ⟨hP, hD, hO, hR⟩ := QTm.back hB1 ht hFc hR (fun q h => by simp only [List.mem_cons, List.not_mem_nil, or_false] at h ⊢; omega)
    have hF_113 : F_112 ak = .inr (14, [.ref r_70, .int (nI (zt - 0))]) := (hB1.2.2.2 ak (by rw [ht_88]; simp)).trans hF_110
    have hF_114 : F_112 ho = .inr (14, [.ref r_71, .int (nI y2_106)]) := (hB1.2.2.2 ho (by rw [ht_100]; simp)).trans hq_107
    generalize H1 = H at hP hS ⊢
    have hw : True := hw
    have hw_115 := hw
    refine W.widen (k := 0) (n := 0) (by omega) (by omega) ?_
    exact W.iret (v := r_111) hx hb hr (fun t ht hWm => ⟨⟨r_111, (), rfl, trivial, ⟨F_112, ty, hty, QTm.mk ht hP hD hO hR, hW⟩⟩, hS.F ht⟩) hS.2.2 dX15_house_52
  ·
    refine lv_iconst (v := (-1)) hx hb dX15_house_17 (by decide) ?_
    refine W.widen (k := 0) (n := 0) (by omega) (by omega) ?_
    exact W.iret (v := (-1)) hx hb hr (fun t ht hWm => ⟨⟨(-1), (), rfl, trivial, ⟨F_49, ty, hty, QTm.mk ht hP hD hO hR, hW⟩⟩, hS.F ht⟩) hS.2.2 dX15_house_18
