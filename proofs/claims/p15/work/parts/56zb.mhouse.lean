theorem ENM.get {cs : Nat → ClassId} {ty : TyM} {gm : Nat → Nat → Nat} {L : List Nat} {F : Nat → va_E} {δ k b r9 rm n : Nat} {f : Nat → Int32} {fn : Nat → Option Nat} (h : ENM cs F (fn k) rm n f) (hb : fn k = some b) (hO : OKm cs ty gm L F) (hL : b ∈ L) (hT : ty b = (14, δ, [r9, rm])) : F b = .inr (14, [.ref r9, .int (nI n)]) ∧ F r9 = .inl (cs 17, rm, .inl f) ∧ n ≤ rm := by
  obtain ⟨b8, r8, h1, h2, h3, h4⟩ := h
  obtain rfl : b = b8 := Option.some.inj (hb.symm.trans h1)
  obtain ⟨z1, u1, -⟩ := hO.txt hL hT
  have e8 := u1.symm.trans h2
  simp only [Sum.inr.injEq, Prod.mk.injEq, List.cons.injEq, Value.ref.injEq, true_and] at e8
  obtain ⟨rfl, -⟩ := e8
  exact ⟨h2, h3, h4⟩
theorem lgw_cg {U V : (Nat → Int32) → Nat → Prop} {D E : Nat → ETY} : ∀ k, (∀ i, i < k → (((D i).1 = 4 ∧ U (D i).2.2.2.1 (D i).2.2.1) ↔ ((E i).1 = 4 ∧ V (E i).2.2.2.1 (E i).2.2.1)) ∧ (D i).2.2.1 = (E i).2.2.1) → lgw U D k = lgw V E k
  | 0, _ => rfl
  | k + 1, h => by
    have h1 := lgw_cg k (fun i hi => h i (by omega))
    obtain ⟨h2, h3⟩ := h k (by omega)
    rw [lgw_s, lgw_s, h1, h3]
    by_cases c : (D k).1 = 4 ∧ U (D k).2.2.2.1 (D k).2.2.1
    · have h4 := h2.mp c
      rw [h3] at c
      rw [if_pos c, if_pos h4]
    · have h4 : ¬ ((E k).1 = 4 ∧ V (E k).2.2.2.1 (E k).2.2.1) := fun q => c (h2.mpr q)
      rw [h3] at c
      rw [if_neg c, if_neg h4]
theorem lsw_cg {f g : Nat → Int32} {x : Int32} : ∀ k, (∀ j, j < k → (f j = x ↔ g j = x)) → lsw f x k = lsw g x k
  | 0, _ => rfl
  | k + 1, h => by
    have h1 := lsw_cg k (fun j hj => h j (by omega))
    have h2 := h k (by omega)
    unfold lsw
    by_cases c : f k = x
    · rw [if_pos c, if_pos (h2.mp c)]
    · rw [if_neg c, if_neg (fun q => c (h2.mpr q)), h1]
theorem hst_cg {U V : (Nat → Int32) → Nat → Prop} {f g : Nat → Int32} {z : Nat} {D E : Nat → ETY} {ze : Nat} (hl : lgw U D ze = lgw V E ze) (hs : ∀ j, j < z → (f j = 46 ↔ g j = 46)) : HST U f z D ze = HST V g z E ze := by
  have hk : ∀ k, k ≤ z → lsw f 46 k = lsw g 46 k := fun k hk => lsw_cg k (fun j hj => hs j (by omega))
  have h9 := lsw_le (f := g) (x := 46) z
  unfold HST
  rw [hl, hk z (Nat.le_refl _), hk (lsw g 46 z - 1) (by omega), hk (z - lgw V E ze) (by omega)]
theorem unm_to {f g h : Nat → Int32} {z y : Nat} (e : ∀ j, j < z → f j = g j) (q : UNM f z h y) : UNM g z h y := by
  obtain ⟨a1, a2, a3⟩ := q
  refine ⟨a1, ?_, fun j hj => by rw [← e (z - y + j) (by omega)]; exact a3 j hj⟩
  by_cases c : z = y
  · exact Or.inl c
  · obtain ⟨q1, q2⟩ := a2.resolve_left c
    exact Or.inr ⟨q1, by rw [← e (z - y - 1) (by omega)]; exact q2⟩
theorem unm_cg {f g h : Nat → Int32} {z y : Nat} (e : ∀ j, j < z → f j = g j) : UNM f z h y ↔ UNM g z h y :=
  ⟨unm_to e, unm_to (fun j hj => (e j hj).symm)⟩
theorem hst_same {f g : Nat → Int32} {z : Nat} {D : Nat → ETY} {ze : Nat} (e : ∀ j, j < z → f j = g j) : HST (UNM f z) f z D ze = HST (UNM g z) g z D ze :=
  hst_cg (lgw_cg ze (fun i hi => ⟨⟨fun q => ⟨q.1, (unm_cg e).mp q.2⟩, fun q => ⟨q.1, (unm_cg e).mpr q.2⟩⟩, rfl⟩)) (fun j hj => by rw [e j hj])
def LHI (f : Nat → Int32) (tg i : Nat) (w9 : Int32) : Prop := (w9 = 1 ∧ lsw f 46 i = tg) ∨ (w9 = 2 ∧ lsw f 46 (lsw f 46 i - 1) = tg)
theorem lhi_a {U : (Nat → Int32) → Nat → Prop} {f : Nat → Int32} {z : Nat} {D : Nat → ETY} {ze : Nat} (h : lgw U D ze = 0) : LHI f (HST U f z D ze) z 2 := by
  refine Or.inr ⟨rfl, ?_⟩
  unfold HST
  rw [if_neg (by omega), if_pos h]
theorem lhi_b {U : (Nat → Int32) → Nat → Prop} {f : Nat → Int32} {z : Nat} {D : Nat → ETY} {ze : Nat} (h : lgw U D ze = z + 1) : LHI f (HST U f z D ze) 0 1 := by
  refine Or.inl ⟨rfl, ?_⟩
  unfold HST
  rw [if_pos h]
  rfl
theorem lhi_c {U : (Nat → Int32) → Nat → Prop} {f : Nat → Int32} {z q : Nat} {D : Nat → ETY} {ze : Nat} (h : lgw U D ze = q + 1) (hq : q ≠ z) : LHI f (HST U f z D ze) (z - q - 1) 1 := by
  refine Or.inl ⟨rfl, ?_⟩
  unfold HST
  rw [if_neg (by omega), if_neg (by omega), h, show z - (q + 1) = z - q - 1 by omega]
theorem lsw_n {f : Nat → Int32} {i : Nat} (hi : 0 < i) (hc : ¬ f (i - 1) = 46) : lsw f 46 i = lsw f 46 (i - 1) := by
  obtain ⟨k, rfl⟩ : ∃ k, i = k + 1 := ⟨i - 1, by omega⟩
  rw [Nat.add_sub_cancel] at hc ⊢
  exact if_neg hc
theorem lsw_y {f : Nat → Int32} {i : Nat} (hi : 0 < i) (hc : f (i - 1) = 46) : lsw f 46 i = i := by
  obtain ⟨k, rfl⟩ : ∃ k, i = k + 1 := ⟨i - 1, by omega⟩
  rw [Nat.add_sub_cancel] at hc
  exact if_pos hc
theorem lhi_n {f : Nat → Int32} {tg i : Nat} {w9 : Int32} (h : LHI f tg i w9) (hi : 0 < i) (hc : ¬ f (i - 1) = 46) : LHI f tg (i - 1) w9 := by
  have h9 := lsw_n hi hc
  unfold LHI at h ⊢
  rw [h9] at h
  exact h
theorem lhi_2 {f : Nat → Int32} {tg i : Nat} {w9 w8 : Int32} (h : LHI f tg i w9) (hi : 0 < i) (hc : f (i - 1) = 46) (e : w8 = w9 + Int32.ofInt (-1)) (hn : ¬ w8 = 0) : LHI f tg (i - 1) w8 := by
  have h9 := lsw_y hi hc
  rcases h with ⟨h1, h2⟩ | ⟨h1, h2⟩
  · exact absurd (by rw [e, h1]; decide) hn
  · rw [h9] at h2
    exact Or.inl ⟨by rw [e, h1]; decide, h2⟩
theorem lhi_1 {f : Nat → Int32} {tg i : Nat} {w9 w8 : Int32} (h : LHI f tg i w9) (hi : 0 < i) (hc : f (i - 1) = 46) (e : w8 = w9 + Int32.ofInt (-1)) (hz : w8 = 0) : i = tg := by
  have h9 := lsw_y hi hc
  rcases h with ⟨h1, h2⟩ | ⟨h1, h2⟩
  · exact h9.symm.trans h2
  · exact absurd (hz.symm.trans e) (by rw [h1]; decide)
theorem lhi_e {f : Nat → Int32} {tg i : Nat} {w9 : Int32} (h : LHI f tg i w9) (hi : i = 0) : i = tg := by
  subst hi
  rcases h with ⟨h1, h2⟩ | ⟨h1, h2⟩ <;> exact h2
noncomputable def HSM (f : Nat → Int32) (z : Nat) (D : Nat → ETY) (ze : Nat) : Int32 := if NM f 0 z = true then nI (z - HST (UNM f z) f z D ze) else (-1)
theorem hsm_y {f fc : Nat → Int32} {z y2 : Nat} {D : Nat → ETY} {ze : Nat} (hn : NM f 0 z = true) (hc : ∀ j, j < z - 0 → fc j = f (0 + j)) (hy : y2 = z - 0 - HST (UNM fc (z - 0)) fc (z - 0) D ze) : nI y2 = HSM f z D ze := by
  have e1 : ∀ j, j < z → fc j = f j := fun j hj => by
    have h9 := hc j (by omega)
    rw [Nat.zero_add] at h9
    exact h9
  have e2 := hst_same (D := D) (ze := ze) e1
  have hy2 : y2 = z - HST (UNM fc z) fc z D ze := hy
  unfold HSM
  rw [if_pos hn, hy2, e2]
set_option maxHeartbeats 4000000 in
set_option maxRecDepth 100000 in
theorem s_X15_houseOf_e (l : Launch) (dC : Nat → ClassId) (dI : Nat → Nat → Nat) (cs : Nat → ClassId) (ty : TyM) (gm : Nat → Nat → Nat) (L : List Nat) (sz : Nat) (F : Nat → va_E) (h0 : Nat) (ρ : Nat) (ta : Nat) (ou : Nat) (so : Nat) (ad : Nat) (na : Nat) (va : Nat) (lc : Nat) (dm : Nat) (tg : Nat) (pe : Nat) (ml : Nat) (bg : Nat) (co : Nat) (sp : Nat) (nb0 : Nat) (nb1 : Nat) (nb2 : Nat) (pl : Nat) (se : Nat) (ke : Nat) (wi : Nat) (hs : Nat) (mo : Nat) (po : Nat) (nu : Nat) (pr : Nat) (sq : Nat) (xa : Nat) (sa : Nat) (n64 : Nat) (m64 : Nat) (ex : Nat) (wh : Nat) (sd : Nat) (tk : Nat) (hd : Nat) (ak : Nat) (ho : Nat) (ot : Nat) (sx : Nat) (s0 : Nat) (s1 : Nat) (s2 : Nat) (nf : Nat) (bd : Nat) (mm : Nat) (zo : Nat) (fm : Nat) (sn : Nat) (hg : Nat) (gc : Nat) (gv : Nat) (ze : Nat) (zt : Nat) (dt : Nat) (σ : Nat) (rd : Nat) (nd : Nat) (gt : Nat) (τ : Nat) (rt : Nat) (nt : Nat) (zd : Nat) (gd : Nat → Int32) (D : Nat → ETY) (hW : WTm ty gm L) (hL_h0 : h0 ∈ L) (hT_h0 : ty h0 = (15, ρ, [ta, ou, so, ad, na, va, lc, dm, tg, pe, ml, bg, co, sp, nb0, nb1, nb2, pl, se, ke, wi, hs, mo, po, nu, pr, sq, xa, sa, n64, m64, ex, wh, sd, tk, hd, ak, ho, ot, sx, s0, s1, s2, nf, bd, mm, zo, fm, sn, hg, gc, gv, ze, zt])) (hL_dt : dt ∈ L) (hT_dt : ty dt = (14, σ, [rd, nd])) (hL_gt : gt ∈ L) (hT_gt : ty gt = (14, τ, [rt, nt])) (hFd : F dt = .inr (14, [.ref rd, .int (nI zd)])) (hFr : F rd = .inl (cs 17, nd, .inl gd)) (hzd : zd ≤ nd) (hnt : nd ≤ nt) (hDM : DIRM cs F so ad na va ze D) : Met l yX15_houseOf (.code yX15_houseOf cX15_houseOf 6 none :: tb) ({ frames := 3, cells := 0, slots := 0, locals := 94 }) (va_Pc [.ref h0, .ref dt, .ref gt] (PTm (dC, dI) cs ty gm L F sz)) (va_Qv (fun _ : Unit => True) (fun _ T9 => ∃ F2 : Nat → va_E, ∃ y2 : Nat, ∃ fc : Nat → Int32, QTm (dC, dI) cs ty gm L [τ] F F2 (va_A (va_pl L F) sz) T9 ∧ F2 gt = .inr (14, [.ref rt, .int (nI y2)]) ∧ F2 rt = .inl (cs 17, nt, .inl fc) ∧ y2 = zd - HST (UNM gd zd) gd zd D ze ∧ (∀ j, j < y2 → fc j = gd (HST (UNM gd zd) gd zd D ze + j))) (va_A (va_pl L F) sz)) 0 0 (va_A (va_pl L F) sz) := by
  refine Met.ofW (cc := cX15_houseOf) (maxL := 6) (ret := none) (by decide) rfl ?_
  intro p e s m args below meth c s₁ B hml hv
  obtain ⟨rfl, hsz, hP, hK, hD0, hE, hO⟩ := hv
  have hx := B.exec
  have hb := B.bytes
  have hr := B.returns
  have hts : ∀ w ∈ tb, w.before _ s = true := fun w h => atoms_spec (ws := .code yX15_houseOf cX15_houseOf 6 none :: tb) B.pre w (List.mem_cons_of_mem _ h)
  have hown : s.vm.findClass RX15 = some m.cls := findClass_of_methodNamed B.named
  have hlocks := B.notSynchronized
  subst hsz
  have hD := hD0.self (sz := s.heap.size)
  generalize hAe : va_A (va_pl L F) s.heap.size = A at hD ⊢
  have hA : ∀ q : Nat, s.heap.size ≤ q → A q := fun q h => by rw [← hAe]; exact Or.inr h
  have hS : va_S A s.heap s.heap [] := va_S.rf
  have hR : FR ty [τ] F F := FR.refl
  have hl := lv_entry ([.ref h0, .ref dt, .ref gt]) (n := 6) (Nat.le_of_ble_eq_true rfl)
  rw [lg_entry_eq]
  generalize (lg_sl ([.ref h0, .ref dt, .ref gt]) ++ List.replicate (6 - (lg_sl ([.ref h0, .ref dt, .ref gt])).length) Slot.unset).toArray = ls at hl ⊢
  have hl : lv_has ls 6 [(0, .ref h0), (1, .ref dt), (2, .ref gt)] := hl
  obtain ⟨hq_23, hq_24, hq_25, hq_26, hq_27, hgO, hgA, hgB, hq_28⟩ := hW.sc hL_h0 hT_h0
  obtain ⟨hi_29, ht_30, hq_31⟩ := hW.txt hL_dt hT_dt
  obtain ⟨hi_32, ht_33, hq_34⟩ := hW.txt hL_gt hT_gt
  refine lv_iconst (v := (-1)) hx hb dX15_houseOf_0 (by decide) ?_
  refine lv_istore_n (lv' := [(3, .int (-1)), (0, .ref h0), (1, .ref dt), (2, .ref gt)]) hx hb dX15_houseOf_1 rfl hl (by decide) rfl (fun ls hl => ?_)
  refine lv_iconst (v := 0) hx hb dX15_houseOf_2 (by decide) ?_
  refine lv_istore (lv' := [(4, .int 0), (3, .int (-1)), (0, .ref h0), (1, .ref dt), (2, .ref gt)]) hx hb dX15_houseOf_3 hl (by decide) rfl (fun ls hl => ?_)
  refine W.widen (k := 0) (n := 0) (by omega) (by omega) ?_
  refine pl_loopm (σ := Nat × Int32) A (dC, dI) cs ty gm L [τ] F 5 6 (fun (j, w3) => [(4, .int (nI j)), (3, .int w3), (0, .ref h0), (1, .ref dt), (2, .ref gt)]) (fun (j, w3) => []) (fun (j, w3) FF => j ≤ ze ∧ w3.toInt = (lgw (UNM gd zd) D j : Int) - 1 ∧ DIRM cs FF so ad na va ze D ∧ FF dt = .inr (14, [.ref rd, .int (nI zd)]) ∧ FF rd = .inl (cs 17, nd, .inl gd)) (fun (j, w3) => ze - j) ?_ (0, (-1)) F (⟨by omega, by show (-1 : Int32).toInt = ((0 : Nat) : Int) - 1; decide, hDM, hFd, hFr⟩) hO hR _ _ hP hD hS ls (lv_sub hl [0, 1, 2, 3, 4] rfl)
  rintro ⟨j, w3⟩ F_35 hv_36 hO hR ih_37 H locs hP hD hS ls hl
  have hl : lv_has ls 6 [(4, .int (nI j)), (3, .int w3), (0, .ref h0), (1, .ref dt), (2, .ref gt)] := hl
  have hv_36 : j ≤ ze ∧ w3.toInt = (lgw (UNM gd zd) D j : Int) - 1 ∧ DIRM cs F_35 so ad na va ze D ∧ F_35 dt = .inr (14, [.ref rd, .int (nI zd)]) ∧ F_35 rd = .inl (cs 17, nd, .inl gd) := hv_36
  refine W.eq (g2 := F0 m 5 ls []) rfl ?_
  obtain ⟨hv1, hv2, hv3, hv4, hv5⟩ := id hv_36
  obtain ⟨fs, fd, fn, fv, hd1, hd2, hd3, hd4, hd5⟩ := id hv3
  obtain ⟨hi_38, ht_39⟩ := hW.f_na hL_h0 hT_h0
  obtain ⟨f_40, hF_41, hq_42⟩ := hO.rtxj hi_38 ht_39
  obtain rfl : f_40 = fn := by have e9 := hF_41.symm.trans hd3; simpa using e9
  refine lv_iload hx hb dX15_houseOf_5 (lv_at hl 0 rfl) ?_
  refine lv_aload_n hx hb dX15_houseOf_7 rfl (lv_at hl 2 rfl) ?_
  obtain ⟨v14_43, v15_44, v17_45, v18_46, v19_47, v20_48, v21_49, v22_50, v33_51, v52_52, v53_53, v54_54, hF_55, hq_56, hq_57, hq_58, hq_59, hq_60⟩ := hO.mod hL_h0 hT_h0
  refine pg_get (ci := 15) (v := .int (nI ze)) (C := RX15) (T := TX15) (N := 59) hx hb hts it_15 hown hK hP hL_h0 hF_55 rfl 3 (by decide) (hts _ kt_724) (fun _ h9 => h9) rfl dX15_houseOf_8 ?_
  refine lv_icmp_ge (tgt := 60) hx hb dX15_houseOf_11 (by decide) (fun c_61 => ?_) (fun c_61 => ?_)
  ·
    have hi_62 : ze ≤ j := leN (N := ze) c_61
    have hjc : j = ze := by omega
    rw [hjc] at hv2
    refine lv_iload_n hx hb dX15_houseOf_60 rfl (lv_at hl 1 rfl) ?_
    refine lv_if_ge (tgt := 71) hx hb dX15_houseOf_61 (by decide) (fun c_63 => ?_) (fun c_63 => ?_)
    ·
      have hlz := lgw_le (U := UNM gd zd) (D := D) (fun _ _ h9 => h9.1) ze
      obtain ⟨kl, hq9, ekl⟩ := lgw_k hv2 (by omega) (Int32.not_lt.mpr c_63)
      have hkl : kl ≤ zd := by omega
      subst ekl
      refine lv_aload_n hx hb dX15_houseOf_71 rfl (lv_at hl 3 rfl) ?_
      refine pg_get (ci := 14) (v := .int (nI zd)) (C := RX14) (T := TX14) (N := 2) hx hb hts it_14 hown hK hP hL_dt hv4 rfl 1 (by decide) (hts _ kt_709) (fun _ h9 => h9) rfl dX15_houseOf_72 ?_
      refine lv_iload_n hx hb dX15_houseOf_75 rfl (lv_at hl 1 rfl) ?_
      refine lv_isub hx hb dX15_houseOf_76 ?_
      refine lv_topi (fun x_64 ex_64 => ?_)
      obtain rfl : x_64 = (nI (zd - kl)) := ex_64.trans (pk_sub (by omega))
      refine lv_iconst (v := 1) hx hb dX15_houseOf_77 (by decide) ?_
      refine lv_isub hx hb dX15_houseOf_78 ?_
      refine lv_topi (fun x_65 ex_65 => ?_)
      obtain rfl : x_65 = (nI (zd - kl) - 1) := ex_65.trans (rfl)
      refine lv_istore (lv' := [(4, .int (nI (zd - kl) - 1)), (3, .int (nI kl)), (0, .ref h0), (1, .ref dt), (2, .ref gt)]) hx hb dX15_houseOf_79 hl (by decide) rfl (fun ls hl => ?_)
      refine lv_iload_n hx hb dX15_houseOf_81 rfl (lv_at hl 1 rfl) ?_
      refine lv_if_ge (tgt := 89) hx hb dX15_houseOf_82 (by decide) (fun c_66 => ?_) (fun c_66 => absurd (Int32.not_lt.mp (nI_pos (by omega))) c_66)
      refine lv_iconst (v := 1) hx hb dX15_houseOf_89 (by decide) ?_
      refine lv_istore (lv' := [(5, .int 1), (4, .int (nI (zd - kl) - 1)), (3, .int (nI kl)), (0, .ref h0), (1, .ref dt), (2, .ref gt)]) hx hb dX15_houseOf_90 hl (by decide) rfl (fun ls hl => ?_)
      refine lv_iload_n hx hb dX15_houseOf_92 rfl (lv_at hl 2 rfl) ?_
      refine lv_aload_n hx hb dX15_houseOf_93 rfl (lv_at hl 4 rfl) ?_
      refine pg_get (ci := 14) (v := .int (nI zd)) (C := RX14) (T := TX14) (N := 2) hx hb hts it_14 hown hK hP hL_dt hv4 rfl 1 (by decide) (hts _ kt_709) (fun _ h9 => h9) rfl dX15_houseOf_94 ?_
      refine lv_icmp_ne (tgt := 103) hx hb dX15_houseOf_97 (by decide) (fun c_67 => ?_) (fun c_67 => ?_)
      ·
        have hi_68 : kl ≠ zd := fun q => c_67 (by rw [q])
        have hne : kl ≠ zd := by
          intro q
          exact c_67 (by rw [q])
        have e76 : nI (zd - kl) - 1 = nI (zd - kl - 1) := pk_sub (b := 1) (by omega)
        have hl : lv_has ls 6 [(5, .int 1), (4, .int (nI (zd - kl - 1))), (3, .int (nI kl)), (0, .ref h0), (1, .ref dt), (2, .ref gt)] := by have h9 := hl; rw [e76] at h9; exact h9
        refine W.widen (k := 0) (n := 0) (by omega) (by omega) ?_
        obtain ⟨hq_70, hq_71⟩ := hW.octs hi_29 ht_30
        refine pl_loopm (σ := Nat × Int32) A (dC, dI) cs ty gm L [τ] F 103 6 (fun (i, w5) => [(5, .int w5), (4, .int (nI i)), (0, .ref h0), (1, .ref dt), (2, .ref gt)]) (fun (i, w5) => []) (fun (i, w5) FF => i ≤ zd ∧ LHI gd (HST (UNM gd zd) gd zd D ze) i w5 ∧ FF dt = .inr (14, [.ref rd, .int (nI zd)]) ∧ FF rd = .inl (cs 17, nd, .inl gd)) (fun (i, w5) => i) ?_ ((zd - kl - 1), 1) F_35 (⟨by omega, lhi_c hq9 hne, hv4, hv5⟩) hO hR _ _ hP hD hS ls (lv_sub hl [0, 1, 3, 4, 5] rfl)
        rintro ⟨i, w5⟩ F_69 hv_72 hO hR ih_73 H locs hP hD hS ls hl
        have hl : lv_has ls 6 [(5, .int w5), (4, .int (nI i)), (0, .ref h0), (1, .ref dt), (2, .ref gt)] := hl
        have hv_72 : i ≤ zd ∧ LHI gd (HST (UNM gd zd) gd zd D ze) i w5 ∧ F_69 dt = .inr (14, [.ref rd, .int (nI zd)]) ∧ F_69 rd = .inl (cs 17, nd, .inl gd) := hv_72
        refine W.eq (g2 := F0 m 103 ls []) rfl ?_
        obtain ⟨hb1, hb2, hb3, hb4⟩ := id hv_72
        refine lv_iload hx hb dX15_houseOf_103 (lv_at hl 1 rfl) ?_
        refine lv_if_le (tgt := 140) hx hb dX15_houseOf_105 (by decide) (fun c_74 => ?_) (fun c_74 => ?_)
        ·
          have hi_75 : i ≤ 0 := (nI_leI (a := i) (b := 0) (by omega) (by omega)).mp c_74
          have hi0 : i = 0 := Nat.le_zero.mp ((nI_leI (a := i) (b := 0) (by omega) (by omega)).mp c_74)
          have hta : i = HST (UNM gd zd) gd zd D ze := lhi_e hb2 hi0
          refine lv_aload_n hx hb dX15_houseOf_140 rfl (lv_at hl 4 rfl) ?_
          refine lv_aload_n hx hb dX15_houseOf_141 rfl (lv_at hl 3 rfl) ?_
          refine pg_get (ci := 14) (v := .ref rd) (C := RX14) (T := TX14) (N := 2) hx hb hts it_14 hown hK hP hL_dt hb3 rfl 0 (by decide) (hts _ kt_710) (fun _ h9 => h9) rfl dX15_houseOf_142 ?_
          refine lv_iload hx hb dX15_houseOf_145 (lv_at hl 1 rfl) ?_
          refine lv_aload_n hx hb dX15_houseOf_147 rfl (lv_at hl 3 rfl) ?_
          refine pg_get (ci := 14) (v := .int (nI zd)) (C := RX14) (T := TX14) (N := 2) hx hb hts it_14 hown hK hP hL_dt hb3 rfl 1 (by decide) (hts _ kt_709) (fun _ h9 => h9) rfl dX15_houseOf_148 ?_
          obtain ⟨hq_76, hq_77⟩ := hW.octs hi_29 ht_30
          have hFc := pg_free hD hS hA
          obtain ⟨z_78, hF_79, hq_80⟩ := hO.txt hL_gt hT_gt
          refine va_callv (va_runV (As := [.ref rd, .int (nI i), .int (nI zd)]) (rest := []) ⟨hx, hb, hml, hown, hts⟩ (s_X14_set_e l dC dI cs ty gm L H.size F_69 gt τ rt nt rd σ nd i zd gd hW hL_gt hT_gt hi_29 ht_30 hb4 (by omega) (by omega) (by omega)) ⟨callB_of 3 hts (gi kt_941) rfl rfl rfl (hts _ kt_676) (hts _ kt_942) (by decide +kernel) ⟨Nat.le_of_ble_eq_true rfl, Nat.le_of_ble_eq_true rfl⟩, (hts _ kt_943), (hts _ kt_944)⟩ ⟨fun a U g mk q => ⟨q.1, PTm.calling q.2⟩, pg_recv hK hP hL_gt hF_79 (q := (RX14, TX14, 2)) rfl, fun U hU hWm => ⟨rfl, PTm.mk hU hWm hP hK hD hE hO⟩⟩ rfl rfl hl.1 rfl (lv_room (Nat.le_of_ble_eq_true rfl)) dX15_houseOf_151 ⟨by show _ + 0 ≤ 0; omega, by show _ + 0 ≤ 0; omega⟩) hS (fun q _ h => hFc q h) hFc (fun u t H1 locs ht hvm hw hB hz1 hk1 hS => ?_)
          obtain ⟨F_82, fc_83, hB1, hq_84, hq_85, hq_86⟩ := hB
          obtain ⟨hP, hD, hO, hR⟩ := QTm.back hB1 ht hFc hR (fun q h => by simp only [List.mem_cons, List.not_mem_nil, or_false] at h ⊢; omega)
          generalize H1 = H at hP hS ⊢
          refine W.widen (k := 0) (n := 0) (by omega) (by omega) ?_
          exact W.vret hx hb hr (fun t ht hWm => ⟨⟨(), rfl, trivial, ⟨F_82, (zd - i), fc_83, QTm.mk ht hP hD hO hR, hq_84, hq_85, (by rw [hta]), (by rw [← hta]; exact hq_86)⟩⟩, hS.F ht⟩) hS.2.2 dX15_houseOf_154
        ·
          have hi_87 : 0 < i := Nat.not_le.mp (fun q => c_74 ((nI_leI (a := i) (b := 0) (by omega) (by omega)).mpr q))
          have hi1 : 0 < i := posN c_74
          refine lv_iinc (v := (nI (i - 1))) (lv' := [(4, .int (nI (i - 1))), (5, .int w5), (0, .ref h0), (1, .ref dt), (2, .ref gt)]) hx hb dX15_houseOf_108 hl (k := 1) rfl (m1N (by omega)) (by decide) rfl (fun ls hl => ?_)
          refine lv_aload_n hx hb dX15_houseOf_111 rfl (lv_at hl 3 rfl) ?_
          refine pg_get (ci := 14) (v := .ref rd) (C := RX14) (T := TX14) (N := 2) hx hb hts it_14 hown hK hP hL_dt hb3 rfl 0 (by decide) (hts _ kt_710) (fun _ h9 => h9) rfl dX15_houseOf_112 ?_
          refine lv_iload hx hb dX15_houseOf_115 (lv_at hl 0 rfl) ?_
          obtain ⟨hq_88, hq_89⟩ := hW.octs hi_29 ht_30
          refine pg_bald hx hb hK hP hi_29 1 hb4 rfl (vp_in_nI (by omega) (by omega)) dX15_houseOf_117 ?_
          refine lv_topi (fun x_90 ex_90 => ?_)
          obtain rfl : x_90 = gd (i - 1) := ex_90.trans (congrArg gd (show ((nI (i - 1)) : Int32).toNatClampNeg = (i - 1) from nI_clamp (by omega)))
          refine lv_bipush (v := 46) hx hb dX15_houseOf_118 (by decide) ?_
          refine lv_icmp_eq (tgt := 126) hx hb dX15_houseOf_120 (by decide) (fun c_91 => ?_) (fun c_91 => ?_)
          ·
            obtain ⟨x_92, ex_92⟩ : ∃ y : Int32, y = w5 + Int32.ofInt (-1) := ⟨_, rfl⟩
            refine lv_iinc (v := x_92) (lv' := [(5, .int x_92), (4, .int (nI (i - 1))), (0, .ref h0), (1, .ref dt), (2, .ref gt)]) hx hb dX15_houseOf_126 hl (k := 1) rfl (ex_92.symm) (by decide) rfl (fun ls hl => ?_)
            refine lv_iload hx hb dX15_houseOf_129 (lv_at hl 0 rfl) ?_
            refine lv_if_ne (tgt := 103) hx hb dX15_houseOf_131 (by decide) (fun c_93 => ?_) (fun c_93 => ?_)
            ·
              refine W.widen (k := 0) (n := 0) (by omega) (by omega) ?_
              exact ih_73 ((i - 1), x_92) F_69 (⟨by omega, lhi_2 hb2 hi1 c_91 ex_92 c_93, hb3, hb4⟩) (by show (i - 1) < i; omega) hO hR _ _ hP hD hS ls (lv_sub hl [0, 1, 2, 3, 4] rfl)
            ·
              have hta : i - 1 + 1 = HST (UNM gd zd) gd zd D ze := by have h9 := lhi_1 hb2 hi1 c_91 ex_92 c_93; omega
              refine lv_iinc (v := (nI (i - 1 + 1))) (lv' := [(4, .int (nI (i - 1 + 1))), (5, .int x_92), (0, .ref h0), (1, .ref dt), (2, .ref gt)]) hx hb dX15_houseOf_134 hl (k := 1) rfl (nI_1 (i - 1)) (by decide) rfl (fun ls hl => ?_)
              refine lv_goto (tgt := 140) hx hb dX15_houseOf_137 (by decide) ?_
              refine lv_aload_n hx hb dX15_houseOf_140 rfl (lv_at hl 4 rfl) ?_
              refine lv_aload_n hx hb dX15_houseOf_141 rfl (lv_at hl 3 rfl) ?_
              refine pg_get (ci := 14) (v := .ref rd) (C := RX14) (T := TX14) (N := 2) hx hb hts it_14 hown hK hP hL_dt hb3 rfl 0 (by decide) (hts _ kt_710) (fun _ h9 => h9) rfl dX15_houseOf_142 ?_
              refine lv_iload hx hb dX15_houseOf_145 (lv_at hl 0 rfl) ?_
              refine lv_aload_n hx hb dX15_houseOf_147 rfl (lv_at hl 3 rfl) ?_
              refine pg_get (ci := 14) (v := .int (nI zd)) (C := RX14) (T := TX14) (N := 2) hx hb hts it_14 hown hK hP hL_dt hb3 rfl 1 (by decide) (hts _ kt_709) (fun _ h9 => h9) rfl dX15_houseOf_148 ?_
              have hFc := pg_free hD hS hA
              obtain ⟨z_94, hF_95, hq_96⟩ := hO.txt hL_gt hT_gt
              refine va_callv (va_runV (As := [.ref rd, .int (nI (i - 1 + 1)), .int (nI zd)]) (rest := []) ⟨hx, hb, hml, hown, hts⟩ (s_X14_set_e l dC dI cs ty gm L H.size F_69 gt τ rt nt rd σ nd (i - 1 + 1) zd gd hW hL_gt hT_gt hi_29 ht_30 hb4 (by omega) (by omega) (by omega)) ⟨callB_of 3 hts (gi kt_941) rfl rfl rfl (hts _ kt_676) (hts _ kt_942) (by decide +kernel) ⟨Nat.le_of_ble_eq_true rfl, Nat.le_of_ble_eq_true rfl⟩, (hts _ kt_943), (hts _ kt_944)⟩ ⟨fun a U g mk q => ⟨q.1, PTm.calling q.2⟩, pg_recv hK hP hL_gt hF_95 (q := (RX14, TX14, 2)) rfl, fun U hU hWm => ⟨rfl, PTm.mk hU hWm hP hK hD hE hO⟩⟩ rfl rfl hl.1 rfl (lv_room (Nat.le_of_ble_eq_true rfl)) dX15_houseOf_151 ⟨by show _ + 0 ≤ 0; omega, by show _ + 0 ≤ 0; omega⟩) hS (fun q _ h => hFc q h) hFc (fun u t H1 locs ht hvm hw hB hz1 hk1 hS => ?_)
              obtain ⟨F_98, fc_99, hB1, hq_100, hq_101, hq_102⟩ := hB
              obtain ⟨hP, hD, hO, hR⟩ := QTm.back hB1 ht hFc hR (fun q h => by simp only [List.mem_cons, List.not_mem_nil, or_false] at h ⊢; omega)
              generalize H1 = H at hP hS ⊢
              refine W.widen (k := 0) (n := 0) (by omega) (by omega) ?_
              exact W.vret hx hb hr (fun t ht hWm => ⟨⟨(), rfl, trivial, ⟨F_98, (zd - (i - 1 + 1)), fc_99, QTm.mk ht hP hD hO hR, hq_100, hq_101, (by rw [hta]), (by rw [← hta]; exact hq_102)⟩⟩, hS.F ht⟩) hS.2.2 dX15_houseOf_154
          ·
            refine lv_goto (tgt := 103) hx hb dX15_houseOf_123 (by decide) ?_
            refine W.widen (k := 0) (n := 0) (by omega) (by omega) ?_
            exact ih_73 ((i - 1), w5) F_69 (⟨by omega, lhi_n hb2 hi1 c_91, hb3, hb4⟩) (by show (i - 1) < i; omega) hO hR _ _ hP hD hS ls (lv_sub hl [1, 0, 2, 3, 4] rfl)
      ·
        have hi_103 : kl = zd := (nI_eq (a := kl) (b := zd) (by omega) (by omega)).mp c_67
        refine lv_iconst (v := 0) hx hb dX15_houseOf_100 (by decide) ?_
        refine lv_istore (lv' := [(4, .int 0), (5, .int 1), (3, .int (nI kl)), (0, .ref h0), (1, .ref dt), (2, .ref gt)]) hx hb dX15_houseOf_101 hl (by decide) rfl (fun ls hl => ?_)
        refine W.widen (k := 0) (n := 0) (by omega) (by omega) ?_
        obtain ⟨hq_105, hq_106⟩ := hW.octs hi_29 ht_30
        refine pl_loopm (σ := Nat × Int32) A (dC, dI) cs ty gm L [τ] F 103 6 (fun (i, w5) => [(4, .int (nI i)), (5, .int w5), (0, .ref h0), (1, .ref dt), (2, .ref gt)]) (fun (i, w5) => []) (fun (i, w5) FF => i ≤ zd ∧ LHI gd (HST (UNM gd zd) gd zd D ze) i w5 ∧ FF dt = .inr (14, [.ref rd, .int (nI zd)]) ∧ FF rd = .inl (cs 17, nd, .inl gd)) (fun (i, w5) => i) ?_ (0, 1) F_35 (⟨by omega, lhi_b (by omega), hv4, hv5⟩) hO hR _ _ hP hD hS ls (lv_sub hl [0, 1, 3, 4, 5] rfl)
        rintro ⟨i, w5⟩ F_104 hv_107 hO hR ih_108 H locs hP hD hS ls hl
        have hl : lv_has ls 6 [(4, .int (nI i)), (5, .int w5), (0, .ref h0), (1, .ref dt), (2, .ref gt)] := hl
        have hv_107 : i ≤ zd ∧ LHI gd (HST (UNM gd zd) gd zd D ze) i w5 ∧ F_104 dt = .inr (14, [.ref rd, .int (nI zd)]) ∧ F_104 rd = .inl (cs 17, nd, .inl gd) := hv_107
        refine W.eq (g2 := F0 m 103 ls []) rfl ?_
        obtain ⟨hb1, hb2, hb3, hb4⟩ := id hv_107
        refine lv_iload hx hb dX15_houseOf_103 (lv_at hl 0 rfl) ?_
        refine lv_if_le (tgt := 140) hx hb dX15_houseOf_105 (by decide) (fun c_109 => ?_) (fun c_109 => ?_)
        ·
          have hi_110 : i ≤ 0 := (nI_leI (a := i) (b := 0) (by omega) (by omega)).mp c_109
          have hi0 : i = 0 := Nat.le_zero.mp ((nI_leI (a := i) (b := 0) (by omega) (by omega)).mp c_109)
          have hta : i = HST (UNM gd zd) gd zd D ze := lhi_e hb2 hi0
          refine lv_aload_n hx hb dX15_houseOf_140 rfl (lv_at hl 4 rfl) ?_
          refine lv_aload_n hx hb dX15_houseOf_141 rfl (lv_at hl 3 rfl) ?_
          refine pg_get (ci := 14) (v := .ref rd) (C := RX14) (T := TX14) (N := 2) hx hb hts it_14 hown hK hP hL_dt hb3 rfl 0 (by decide) (hts _ kt_710) (fun _ h9 => h9) rfl dX15_houseOf_142 ?_
          refine lv_iload hx hb dX15_houseOf_145 (lv_at hl 0 rfl) ?_
          refine lv_aload_n hx hb dX15_houseOf_147 rfl (lv_at hl 3 rfl) ?_
          refine pg_get (ci := 14) (v := .int (nI zd)) (C := RX14) (T := TX14) (N := 2) hx hb hts it_14 hown hK hP hL_dt hb3 rfl 1 (by decide) (hts _ kt_709) (fun _ h9 => h9) rfl dX15_houseOf_148 ?_
          obtain ⟨hq_111, hq_112⟩ := hW.octs hi_29 ht_30
          have hFc := pg_free hD hS hA
          obtain ⟨z_113, hF_114, hq_115⟩ := hO.txt hL_gt hT_gt
          refine va_callv (va_runV (As := [.ref rd, .int (nI i), .int (nI zd)]) (rest := []) ⟨hx, hb, hml, hown, hts⟩ (s_X14_set_e l dC dI cs ty gm L H.size F_104 gt τ rt nt rd σ nd i zd gd hW hL_gt hT_gt hi_29 ht_30 hb4 (by omega) (by omega) (by omega)) ⟨callB_of 3 hts (gi kt_941) rfl rfl rfl (hts _ kt_676) (hts _ kt_942) (by decide +kernel) ⟨Nat.le_of_ble_eq_true rfl, Nat.le_of_ble_eq_true rfl⟩, (hts _ kt_943), (hts _ kt_944)⟩ ⟨fun a U g mk q => ⟨q.1, PTm.calling q.2⟩, pg_recv hK hP hL_gt hF_114 (q := (RX14, TX14, 2)) rfl, fun U hU hWm => ⟨rfl, PTm.mk hU hWm hP hK hD hE hO⟩⟩ rfl rfl hl.1 rfl (lv_room (Nat.le_of_ble_eq_true rfl)) dX15_houseOf_151 ⟨by show _ + 0 ≤ 0; omega, by show _ + 0 ≤ 0; omega⟩) hS (fun q _ h => hFc q h) hFc (fun u t H1 locs ht hvm hw hB hz1 hk1 hS => ?_)
          obtain ⟨F_117, fc_118, hB1, hq_119, hq_120, hq_121⟩ := hB
          obtain ⟨hP, hD, hO, hR⟩ := QTm.back hB1 ht hFc hR (fun q h => by simp only [List.mem_cons, List.not_mem_nil, or_false] at h ⊢; omega)
          generalize H1 = H at hP hS ⊢
          refine W.widen (k := 0) (n := 0) (by omega) (by omega) ?_
          exact W.vret hx hb hr (fun t ht hWm => ⟨⟨(), rfl, trivial, ⟨F_117, (zd - i), fc_118, QTm.mk ht hP hD hO hR, hq_119, hq_120, (by rw [hta]), (by rw [← hta]; exact hq_121)⟩⟩, hS.F ht⟩) hS.2.2 dX15_houseOf_154
        ·
          have hi_122 : 0 < i := Nat.not_le.mp (fun q => c_109 ((nI_leI (a := i) (b := 0) (by omega) (by omega)).mpr q))
          have hi1 : 0 < i := posN c_109
          refine lv_iinc (v := (nI (i - 1))) (lv' := [(4, .int (nI (i - 1))), (5, .int w5), (0, .ref h0), (1, .ref dt), (2, .ref gt)]) hx hb dX15_houseOf_108 hl (k := 0) rfl (m1N (by omega)) (by decide) rfl (fun ls hl => ?_)
          refine lv_aload_n hx hb dX15_houseOf_111 rfl (lv_at hl 3 rfl) ?_
          refine pg_get (ci := 14) (v := .ref rd) (C := RX14) (T := TX14) (N := 2) hx hb hts it_14 hown hK hP hL_dt hb3 rfl 0 (by decide) (hts _ kt_710) (fun _ h9 => h9) rfl dX15_houseOf_112 ?_
          refine lv_iload hx hb dX15_houseOf_115 (lv_at hl 0 rfl) ?_
          obtain ⟨hq_123, hq_124⟩ := hW.octs hi_29 ht_30
          refine pg_bald hx hb hK hP hi_29 1 hb4 rfl (vp_in_nI (by omega) (by omega)) dX15_houseOf_117 ?_
          refine lv_topi (fun x_125 ex_125 => ?_)
          obtain rfl : x_125 = gd (i - 1) := ex_125.trans (congrArg gd (show ((nI (i - 1)) : Int32).toNatClampNeg = (i - 1) from nI_clamp (by omega)))
          refine lv_bipush (v := 46) hx hb dX15_houseOf_118 (by decide) ?_
          refine lv_icmp_eq (tgt := 126) hx hb dX15_houseOf_120 (by decide) (fun c_126 => ?_) (fun c_126 => ?_)
          ·
            obtain ⟨x_127, ex_127⟩ : ∃ y : Int32, y = w5 + Int32.ofInt (-1) := ⟨_, rfl⟩
            refine lv_iinc (v := x_127) (lv' := [(5, .int x_127), (4, .int (nI (i - 1))), (0, .ref h0), (1, .ref dt), (2, .ref gt)]) hx hb dX15_houseOf_126 hl (k := 1) rfl (ex_127.symm) (by decide) rfl (fun ls hl => ?_)
            refine lv_iload hx hb dX15_houseOf_129 (lv_at hl 0 rfl) ?_
            refine lv_if_ne (tgt := 103) hx hb dX15_houseOf_131 (by decide) (fun c_128 => ?_) (fun c_128 => ?_)
            ·
              refine W.widen (k := 0) (n := 0) (by omega) (by omega) ?_
              exact ih_108 ((i - 1), x_127) F_104 (⟨by omega, lhi_2 hb2 hi1 c_126 ex_127 c_128, hb3, hb4⟩) (by show (i - 1) < i; omega) hO hR _ _ hP hD hS ls (lv_sub hl [1, 0, 2, 3, 4] rfl)
            ·
              have hta : i - 1 + 1 = HST (UNM gd zd) gd zd D ze := by have h9 := lhi_1 hb2 hi1 c_126 ex_127 c_128; omega
              refine lv_iinc (v := (nI (i - 1 + 1))) (lv' := [(4, .int (nI (i - 1 + 1))), (5, .int x_127), (0, .ref h0), (1, .ref dt), (2, .ref gt)]) hx hb dX15_houseOf_134 hl (k := 1) rfl (nI_1 (i - 1)) (by decide) rfl (fun ls hl => ?_)
              refine lv_goto (tgt := 140) hx hb dX15_houseOf_137 (by decide) ?_
              refine lv_aload_n hx hb dX15_houseOf_140 rfl (lv_at hl 4 rfl) ?_
              refine lv_aload_n hx hb dX15_houseOf_141 rfl (lv_at hl 3 rfl) ?_
              refine pg_get (ci := 14) (v := .ref rd) (C := RX14) (T := TX14) (N := 2) hx hb hts it_14 hown hK hP hL_dt hb3 rfl 0 (by decide) (hts _ kt_710) (fun _ h9 => h9) rfl dX15_houseOf_142 ?_
              refine lv_iload hx hb dX15_houseOf_145 (lv_at hl 0 rfl) ?_
              refine lv_aload_n hx hb dX15_houseOf_147 rfl (lv_at hl 3 rfl) ?_
              refine pg_get (ci := 14) (v := .int (nI zd)) (C := RX14) (T := TX14) (N := 2) hx hb hts it_14 hown hK hP hL_dt hb3 rfl 1 (by decide) (hts _ kt_709) (fun _ h9 => h9) rfl dX15_houseOf_148 ?_
              have hFc := pg_free hD hS hA
              obtain ⟨z_129, hF_130, hq_131⟩ := hO.txt hL_gt hT_gt
              refine va_callv (va_runV (As := [.ref rd, .int (nI (i - 1 + 1)), .int (nI zd)]) (rest := []) ⟨hx, hb, hml, hown, hts⟩ (s_X14_set_e l dC dI cs ty gm L H.size F_104 gt τ rt nt rd σ nd (i - 1 + 1) zd gd hW hL_gt hT_gt hi_29 ht_30 hb4 (by omega) (by omega) (by omega)) ⟨callB_of 3 hts (gi kt_941) rfl rfl rfl (hts _ kt_676) (hts _ kt_942) (by decide +kernel) ⟨Nat.le_of_ble_eq_true rfl, Nat.le_of_ble_eq_true rfl⟩, (hts _ kt_943), (hts _ kt_944)⟩ ⟨fun a U g mk q => ⟨q.1, PTm.calling q.2⟩, pg_recv hK hP hL_gt hF_130 (q := (RX14, TX14, 2)) rfl, fun U hU hWm => ⟨rfl, PTm.mk hU hWm hP hK hD hE hO⟩⟩ rfl rfl hl.1 rfl (lv_room (Nat.le_of_ble_eq_true rfl)) dX15_houseOf_151 ⟨by show _ + 0 ≤ 0; omega, by show _ + 0 ≤ 0; omega⟩) hS (fun q _ h => hFc q h) hFc (fun u t H1 locs ht hvm hw hB hz1 hk1 hS => ?_)
              obtain ⟨F_133, fc_134, hB1, hq_135, hq_136, hq_137⟩ := hB
              obtain ⟨hP, hD, hO, hR⟩ := QTm.back hB1 ht hFc hR (fun q h => by simp only [List.mem_cons, List.not_mem_nil, or_false] at h ⊢; omega)
              generalize H1 = H at hP hS ⊢
              refine W.widen (k := 0) (n := 0) (by omega) (by omega) ?_
              exact W.vret hx hb hr (fun t ht hWm => ⟨⟨(), rfl, trivial, ⟨F_133, (zd - (i - 1 + 1)), fc_134, QTm.mk ht hP hD hO hR, hq_135, hq_136, (by rw [hta]), (by rw [← hta]; exact hq_137)⟩⟩, hS.F ht⟩) hS.2.2 dX15_houseOf_154
          ·
            refine lv_goto (tgt := 103) hx hb dX15_houseOf_123 (by decide) ?_
            refine W.widen (k := 0) (n := 0) (by omega) (by omega) ?_
            exact ih_108 ((i - 1), w5) F_104 (⟨by omega, lhi_n hb2 hi1 c_126, hb3, hb4⟩) (by show (i - 1) < i; omega) hO hR _ _ hP hD hS ls (lv_sub hl [0, 1, 2, 3, 4] rfl)
    ·
      have hq0 := lgw_z hv2 (Int32.not_le.mp c_63)
      refine lv_aload_n hx hb dX15_houseOf_64 rfl (lv_at hl 3 rfl) ?_
      refine pg_get (ci := 14) (v := .int (nI zd)) (C := RX14) (T := TX14) (N := 2) hx hb hts it_14 hown hK hP hL_dt hv4 rfl 1 (by decide) (hts _ kt_709) (fun _ h9 => h9) rfl dX15_houseOf_65 ?_
      refine lv_goto (tgt := 79) hx hb dX15_houseOf_68 (by decide) ?_
      refine lv_istore (lv' := [(4, .int (nI zd)), (3, .int w3), (0, .ref h0), (1, .ref dt), (2, .ref gt)]) hx hb dX15_houseOf_79 hl (by decide) rfl (fun ls hl => ?_)
      refine lv_iload_n hx hb dX15_houseOf_81 rfl (lv_at hl 1 rfl) ?_
      refine lv_if_ge (tgt := 89) hx hb dX15_houseOf_82 (by decide) (fun c_138 => absurd c_138 (c_63)) (fun c_138 => ?_)
      refine lv_iconst (v := 2) hx hb dX15_houseOf_85 (by decide) ?_
      refine lv_goto (tgt := 90) hx hb dX15_houseOf_86 (by decide) ?_
      refine lv_istore (lv' := [(5, .int 2), (4, .int (nI zd)), (3, .int w3), (0, .ref h0), (1, .ref dt), (2, .ref gt)]) hx hb dX15_houseOf_90 hl (by decide) rfl (fun ls hl => ?_)
      refine lv_iload_n hx hb dX15_houseOf_92 rfl (lv_at hl 2 rfl) ?_
      refine lv_aload_n hx hb dX15_houseOf_93 rfl (lv_at hl 4 rfl) ?_
      refine pg_get (ci := 14) (v := .int (nI zd)) (C := RX14) (T := TX14) (N := 2) hx hb hts it_14 hown hK hP hL_dt hv4 rfl 1 (by decide) (hts _ kt_709) (fun _ h9 => h9) rfl dX15_houseOf_94 ?_
      refine lv_icmp_ne (tgt := 103) hx hb dX15_houseOf_97 (by decide) (fun c_139 => ?_) (fun c_139 => ?_)
      ·
        refine W.widen (k := 0) (n := 0) (by omega) (by omega) ?_
        obtain ⟨hq_141, hq_142⟩ := hW.octs hi_29 ht_30
        refine pl_loopm (σ := Nat × Int32) A (dC, dI) cs ty gm L [τ] F 103 6 (fun (i, w5) => [(5, .int w5), (4, .int (nI i)), (0, .ref h0), (1, .ref dt), (2, .ref gt)]) (fun (i, w5) => []) (fun (i, w5) FF => i ≤ zd ∧ LHI gd (HST (UNM gd zd) gd zd D ze) i w5 ∧ FF dt = .inr (14, [.ref rd, .int (nI zd)]) ∧ FF rd = .inl (cs 17, nd, .inl gd)) (fun (i, w5) => i) ?_ (zd, 2) F_35 (⟨by omega, lhi_a hq0, hv4, hv5⟩) hO hR _ _ hP hD hS ls (lv_sub hl [0, 1, 3, 4, 5] rfl)
        rintro ⟨i, w5⟩ F_140 hv_143 hO hR ih_144 H locs hP hD hS ls hl
        have hl : lv_has ls 6 [(5, .int w5), (4, .int (nI i)), (0, .ref h0), (1, .ref dt), (2, .ref gt)] := hl
        have hv_143 : i ≤ zd ∧ LHI gd (HST (UNM gd zd) gd zd D ze) i w5 ∧ F_140 dt = .inr (14, [.ref rd, .int (nI zd)]) ∧ F_140 rd = .inl (cs 17, nd, .inl gd) := hv_143
        refine W.eq (g2 := F0 m 103 ls []) rfl ?_
        obtain ⟨hb1, hb2, hb3, hb4⟩ := id hv_143
        refine lv_iload hx hb dX15_houseOf_103 (lv_at hl 1 rfl) ?_
        refine lv_if_le (tgt := 140) hx hb dX15_houseOf_105 (by decide) (fun c_145 => ?_) (fun c_145 => ?_)
        ·
          have hi_146 : i ≤ 0 := (nI_leI (a := i) (b := 0) (by omega) (by omega)).mp c_145
          have hi0 : i = 0 := Nat.le_zero.mp ((nI_leI (a := i) (b := 0) (by omega) (by omega)).mp c_145)
          have hta : i = HST (UNM gd zd) gd zd D ze := lhi_e hb2 hi0
          refine lv_aload_n hx hb dX15_houseOf_140 rfl (lv_at hl 4 rfl) ?_
          refine lv_aload_n hx hb dX15_houseOf_141 rfl (lv_at hl 3 rfl) ?_
          refine pg_get (ci := 14) (v := .ref rd) (C := RX14) (T := TX14) (N := 2) hx hb hts it_14 hown hK hP hL_dt hb3 rfl 0 (by decide) (hts _ kt_710) (fun _ h9 => h9) rfl dX15_houseOf_142 ?_
          refine lv_iload hx hb dX15_houseOf_145 (lv_at hl 1 rfl) ?_
          refine lv_aload_n hx hb dX15_houseOf_147 rfl (lv_at hl 3 rfl) ?_
          refine pg_get (ci := 14) (v := .int (nI zd)) (C := RX14) (T := TX14) (N := 2) hx hb hts it_14 hown hK hP hL_dt hb3 rfl 1 (by decide) (hts _ kt_709) (fun _ h9 => h9) rfl dX15_houseOf_148 ?_
          obtain ⟨hq_147, hq_148⟩ := hW.octs hi_29 ht_30
          have hFc := pg_free hD hS hA
          obtain ⟨z_149, hF_150, hq_151⟩ := hO.txt hL_gt hT_gt
          refine va_callv (va_runV (As := [.ref rd, .int (nI i), .int (nI zd)]) (rest := []) ⟨hx, hb, hml, hown, hts⟩ (s_X14_set_e l dC dI cs ty gm L H.size F_140 gt τ rt nt rd σ nd i zd gd hW hL_gt hT_gt hi_29 ht_30 hb4 (by omega) (by omega) (by omega)) ⟨callB_of 3 hts (gi kt_941) rfl rfl rfl (hts _ kt_676) (hts _ kt_942) (by decide +kernel) ⟨Nat.le_of_ble_eq_true rfl, Nat.le_of_ble_eq_true rfl⟩, (hts _ kt_943), (hts _ kt_944)⟩ ⟨fun a U g mk q => ⟨q.1, PTm.calling q.2⟩, pg_recv hK hP hL_gt hF_150 (q := (RX14, TX14, 2)) rfl, fun U hU hWm => ⟨rfl, PTm.mk hU hWm hP hK hD hE hO⟩⟩ rfl rfl hl.1 rfl (lv_room (Nat.le_of_ble_eq_true rfl)) dX15_houseOf_151 ⟨by show _ + 0 ≤ 0; omega, by show _ + 0 ≤ 0; omega⟩) hS (fun q _ h => hFc q h) hFc (fun u t H1 locs ht hvm hw hB hz1 hk1 hS => ?_)
          obtain ⟨F_153, fc_154, hB1, hq_155, hq_156, hq_157⟩ := hB
          obtain ⟨hP, hD, hO, hR⟩ := QTm.back hB1 ht hFc hR (fun q h => by simp only [List.mem_cons, List.not_mem_nil, or_false] at h ⊢; omega)
          generalize H1 = H at hP hS ⊢
          refine W.widen (k := 0) (n := 0) (by omega) (by omega) ?_
          exact W.vret hx hb hr (fun t ht hWm => ⟨⟨(), rfl, trivial, ⟨F_153, (zd - i), fc_154, QTm.mk ht hP hD hO hR, hq_155, hq_156, (by rw [hta]), (by rw [← hta]; exact hq_157)⟩⟩, hS.F ht⟩) hS.2.2 dX15_houseOf_154
        ·
          have hi_158 : 0 < i := Nat.not_le.mp (fun q => c_145 ((nI_leI (a := i) (b := 0) (by omega) (by omega)).mpr q))
          have hi1 : 0 < i := posN c_145
          refine lv_iinc (v := (nI (i - 1))) (lv' := [(4, .int (nI (i - 1))), (5, .int w5), (0, .ref h0), (1, .ref dt), (2, .ref gt)]) hx hb dX15_houseOf_108 hl (k := 1) rfl (m1N (by omega)) (by decide) rfl (fun ls hl => ?_)
          refine lv_aload_n hx hb dX15_houseOf_111 rfl (lv_at hl 3 rfl) ?_
          refine pg_get (ci := 14) (v := .ref rd) (C := RX14) (T := TX14) (N := 2) hx hb hts it_14 hown hK hP hL_dt hb3 rfl 0 (by decide) (hts _ kt_710) (fun _ h9 => h9) rfl dX15_houseOf_112 ?_
          refine lv_iload hx hb dX15_houseOf_115 (lv_at hl 0 rfl) ?_
          obtain ⟨hq_159, hq_160⟩ := hW.octs hi_29 ht_30
          refine pg_bald hx hb hK hP hi_29 1 hb4 rfl (vp_in_nI (by omega) (by omega)) dX15_houseOf_117 ?_
          refine lv_topi (fun x_161 ex_161 => ?_)
          obtain rfl : x_161 = gd (i - 1) := ex_161.trans (congrArg gd (show ((nI (i - 1)) : Int32).toNatClampNeg = (i - 1) from nI_clamp (by omega)))
          refine lv_bipush (v := 46) hx hb dX15_houseOf_118 (by decide) ?_
          refine lv_icmp_eq (tgt := 126) hx hb dX15_houseOf_120 (by decide) (fun c_162 => ?_) (fun c_162 => ?_)
          ·
            obtain ⟨x_163, ex_163⟩ : ∃ y : Int32, y = w5 + Int32.ofInt (-1) := ⟨_, rfl⟩
            refine lv_iinc (v := x_163) (lv' := [(5, .int x_163), (4, .int (nI (i - 1))), (0, .ref h0), (1, .ref dt), (2, .ref gt)]) hx hb dX15_houseOf_126 hl (k := 1) rfl (ex_163.symm) (by decide) rfl (fun ls hl => ?_)
            refine lv_iload hx hb dX15_houseOf_129 (lv_at hl 0 rfl) ?_
            refine lv_if_ne (tgt := 103) hx hb dX15_houseOf_131 (by decide) (fun c_164 => ?_) (fun c_164 => ?_)
            ·
              refine W.widen (k := 0) (n := 0) (by omega) (by omega) ?_
              exact ih_144 ((i - 1), x_163) F_140 (⟨by omega, lhi_2 hb2 hi1 c_162 ex_163 c_164, hb3, hb4⟩) (by show (i - 1) < i; omega) hO hR _ _ hP hD hS ls (lv_sub hl [0, 1, 2, 3, 4] rfl)
            ·
              have hta : i - 1 + 1 = HST (UNM gd zd) gd zd D ze := by have h9 := lhi_1 hb2 hi1 c_162 ex_163 c_164; omega
              refine lv_iinc (v := (nI (i - 1 + 1))) (lv' := [(4, .int (nI (i - 1 + 1))), (5, .int x_163), (0, .ref h0), (1, .ref dt), (2, .ref gt)]) hx hb dX15_houseOf_134 hl (k := 1) rfl (nI_1 (i - 1)) (by decide) rfl (fun ls hl => ?_)
              refine lv_goto (tgt := 140) hx hb dX15_houseOf_137 (by decide) ?_
              refine lv_aload_n hx hb dX15_houseOf_140 rfl (lv_at hl 4 rfl) ?_
              refine lv_aload_n hx hb dX15_houseOf_141 rfl (lv_at hl 3 rfl) ?_
              refine pg_get (ci := 14) (v := .ref rd) (C := RX14) (T := TX14) (N := 2) hx hb hts it_14 hown hK hP hL_dt hb3 rfl 0 (by decide) (hts _ kt_710) (fun _ h9 => h9) rfl dX15_houseOf_142 ?_
              refine lv_iload hx hb dX15_houseOf_145 (lv_at hl 0 rfl) ?_
              refine lv_aload_n hx hb dX15_houseOf_147 rfl (lv_at hl 3 rfl) ?_
              refine pg_get (ci := 14) (v := .int (nI zd)) (C := RX14) (T := TX14) (N := 2) hx hb hts it_14 hown hK hP hL_dt hb3 rfl 1 (by decide) (hts _ kt_709) (fun _ h9 => h9) rfl dX15_houseOf_148 ?_
              have hFc := pg_free hD hS hA
              obtain ⟨z_165, hF_166, hq_167⟩ := hO.txt hL_gt hT_gt
              refine va_callv (va_runV (As := [.ref rd, .int (nI (i - 1 + 1)), .int (nI zd)]) (rest := []) ⟨hx, hb, hml, hown, hts⟩ (s_X14_set_e l dC dI cs ty gm L H.size F_140 gt τ rt nt rd σ nd (i - 1 + 1) zd gd hW hL_gt hT_gt hi_29 ht_30 hb4 (by omega) (by omega) (by omega)) ⟨callB_of 3 hts (gi kt_941) rfl rfl rfl (hts _ kt_676) (hts _ kt_942) (by decide +kernel) ⟨Nat.le_of_ble_eq_true rfl, Nat.le_of_ble_eq_true rfl⟩, (hts _ kt_943), (hts _ kt_944)⟩ ⟨fun a U g mk q => ⟨q.1, PTm.calling q.2⟩, pg_recv hK hP hL_gt hF_166 (q := (RX14, TX14, 2)) rfl, fun U hU hWm => ⟨rfl, PTm.mk hU hWm hP hK hD hE hO⟩⟩ rfl rfl hl.1 rfl (lv_room (Nat.le_of_ble_eq_true rfl)) dX15_houseOf_151 ⟨by show _ + 0 ≤ 0; omega, by show _ + 0 ≤ 0; omega⟩) hS (fun q _ h => hFc q h) hFc (fun u t H1 locs ht hvm hw hB hz1 hk1 hS => ?_)
              obtain ⟨F_169, fc_170, hB1, hq_171, hq_172, hq_173⟩ := hB
              obtain ⟨hP, hD, hO, hR⟩ := QTm.back hB1 ht hFc hR (fun q h => by simp only [List.mem_cons, List.not_mem_nil, or_false] at h ⊢; omega)
              generalize H1 = H at hP hS ⊢
              refine W.widen (k := 0) (n := 0) (by omega) (by omega) ?_
              exact W.vret hx hb hr (fun t ht hWm => ⟨⟨(), rfl, trivial, ⟨F_169, (zd - (i - 1 + 1)), fc_170, QTm.mk ht hP hD hO hR, hq_171, hq_172, (by rw [hta]), (by rw [← hta]; exact hq_173)⟩⟩, hS.F ht⟩) hS.2.2 dX15_houseOf_154
          ·
            refine lv_goto (tgt := 103) hx hb dX15_houseOf_123 (by decide) ?_
            refine W.widen (k := 0) (n := 0) (by omega) (by omega) ?_
            exact ih_144 ((i - 1), w5) F_140 (⟨by omega, lhi_n hb2 hi1 c_162, hb3, hb4⟩) (by show (i - 1) < i; omega) hO hR _ _ hP hD hS ls (lv_sub hl [1, 0, 2, 3, 4] rfl)
      ·
        exact absurd (show (0 : Int32) ≤ w3 by rw [c_139]; exact Int32.not_lt.mp (nI_pos (by omega))) c_63
  ·
    have hi_174 : j < ze := ltN (N := ze) c_61
    have hjz : j < ze := by omega
    refine lv_aload_n hx hb dX15_houseOf_14 rfl (lv_at hl 2 rfl) ?_
    refine pg_get (ci := 15) (v := .ref so) (C := RX15) (T := TX15) (N := 59) hx hb hts it_15 hown hK hP hL_h0 hF_55 rfl 5 (by decide) (hts _ kt_718) (fun _ h9 => h9) rfl dX15_houseOf_15 ?_
    refine lv_iload hx hb dX15_houseOf_18 (lv_at hl 0 rfl) ?_
    obtain ⟨hi_175, ht_176⟩ := hW.f_so hL_h0 hT_h0
    obtain ⟨hq_177, hq_178⟩ := hW.ints hi_175 ht_176
    refine pg_iald hx hb hK hP hi_175 0 hd1 rfl (vp_in_nI (by omega) (by omega)) dX15_houseOf_20 ?_
    refine lv_topi (fun x_179 ex_179 => ?_)
    obtain rfl : x_179 = (D j).1 := ex_179.trans ((congrArg fs (nI_clamp (by omega))).trans (hd5 j hjz).1)
    refine lv_iconst (v := 4) hx hb dX15_houseOf_21 (by decide) ?_
    refine lv_icmp_ne (tgt := 54) hx hb dX15_houseOf_22 (by decide) (fun c_180 => ?_) (fun c_180 => ?_)
    ·
      refine lv_iinc (v := (nI (j + 1))) (lv' := [(4, .int (nI (j + 1))), (3, .int w3), (0, .ref h0), (1, .ref dt), (2, .ref gt)]) hx hb dX15_houseOf_54 hl (k := 0) rfl (nI_1 _) (by decide) rfl (fun ls hl => ?_)
      refine lv_goto (tgt := 5) hx hb dX15_houseOf_57 (by decide) ?_
      refine W.widen (k := 0) (n := 0) (by omega) (by omega) ?_
      exact ih_37 ((j + 1), w3) F_35 (⟨by omega, lgw_n hv2 (fun q => c_180 q.1), hv3, hv4, hv5⟩) (by show ze - (j + 1) < ze - j; omega) hO hR _ _ hP hD hS ls (lv_sub hl [0, 1, 2, 3, 4] rfl)
    ·
      refine lv_aload_n hx hb dX15_houseOf_25 rfl (lv_at hl 3 rfl) ?_
      refine lv_aload_n hx hb dX15_houseOf_26 rfl (lv_at hl 2 rfl) ?_
      refine pg_get (ci := 15) (v := .ref na) (C := RX15) (T := TX15) (N := 59) hx hb hts it_15 hown hK hP hL_h0 hF_55 rfl 7 (by decide) (hts _ kt_719) (fun _ h9 => h9) rfl dX15_houseOf_27 ?_
      refine lv_iload hx hb dX15_houseOf_30 (lv_at hl 0 rfl) ?_
      obtain ⟨b_181, r_182, hbf_183, hi_184, ht_185⟩ := hq_42 j (by omega)
      refine pg_aald (r := b_181) hx hb hK hP hi_38 7 hF_41 rfl (vp_in_nI (by omega) (by omega)) (show f_40 ((nI j) : Int32).toNatClampNeg = _ from by rw [show ((nI j) : Int32) = nI j from rfl, nI_clamp (by omega)]; exact hbf_183) dX15_houseOf_32 ?_
      obtain ⟨hen1, hen2, hen3⟩ := ENM.get (hd5 j hjz).2.2.1 hbf_183 hO hi_184 ht_185
      obtain ⟨hi_186, ht_187, hq_188⟩ := hW.txt hi_184 ht_185
      obtain ⟨hq_189, hq_190⟩ := hW.octs hi_29 ht_30
      obtain ⟨hq_191, hq_192⟩ := hW.octs hi_186 ht_187
      have hFc := pg_free hD hS hA
      refine va_calli (va_runV (As := [.ref b_181]) (rest := []) ⟨hx, hb, hml, hown, hts⟩ (s_X14_isUnder_e l dC dI cs ty gm L H.size F_35 dt σ rd nd b_181 (ρ + 4 + j + 100) r_182 60 zd ((D j).2.2.1) gd ((D j).2.2.2.1) hW hL_dt hT_dt hi_184 ht_185 hv4 hv5 hen1 hen2 (by first | omega | assumption | exact Or.inl rfl) (by first | omega | assumption | exact Or.inl rfl)) ⟨callB_of 1 hts (gi kt_945) rfl rfl rfl (hts _ kt_676) (hts _ kt_946) (by decide +kernel) ⟨Nat.le_of_ble_eq_true rfl, Nat.le_of_ble_eq_true rfl⟩, (hts _ kt_947), (hts _ kt_948)⟩ ⟨fun a U g mk q => ⟨q.1, PTm.calling q.2⟩, pg_recv hK hP hL_dt hv4 (q := (RX14, TX14, 2)) rfl, fun U hU hWm => ⟨rfl, PTm.mk hU hWm hP hK hD hE hO⟩⟩ rfl rfl hl.1 rfl (lv_room (Nat.le_of_ble_eq_true rfl)) dX15_houseOf_33 ⟨by show _ + 0 ≤ 0; omega, by show _ + 0 ≤ 0; omega⟩) hS (fun q _ h => hFc q h) hFc (fun r_193 u t H1 locs ht hvm hw hB hz1 hk1 hS => ?_)
      obtain ⟨F_194, hB1⟩ := hB
      obtain rfl : F_35 = F_194 := (funext (fun a => hB1.2.2.2 a List.not_mem_nil)).symm
      obtain ⟨hP, hD, hO, hR⟩ := QTm.back hB1 ht hFc hR (fun q h => absurd h List.not_mem_nil)
      generalize H1 = H at hP hS ⊢
      have hw : (r_193 = 1 ∧ UNM gd zd (D j).2.2.2.1 (D j).2.2.1) ∨ (r_193 = 0 ∧ ¬ UNM gd zd (D j).2.2.2.1 (D j).2.2.1) := hw
      have hw_195 := hw
      refine lv_if_eq (tgt := 54) hx hb dX15_houseOf_36 (by decide) (fun c_196 => ?_) (fun c_196 => ?_)
      ·
        refine lv_iinc (v := (nI (j + 1))) (lv' := [(4, .int (nI (j + 1))), (3, .int w3), (0, .ref h0), (1, .ref dt), (2, .ref gt)]) hx hb dX15_houseOf_54 hl (k := 0) rfl (nI_1 _) (by decide) rfl (fun ls hl => ?_)
        refine lv_goto (tgt := 5) hx hb dX15_houseOf_57 (by decide) ?_
        refine W.widen (k := 0) (n := 0) (by omega) (by omega) ?_
        exact ih_37 ((j + 1), w3) F_35 (⟨by omega, lgw_n hv2 (fun q => orp0 hw_195 c_196 q.2), hv3, hv4, hv5⟩) (by show ze - (j + 1) < ze - j; omega) hO hR _ _ hP hD hS ls (lv_sub hl [0, 1, 2, 3, 4] rfl)
      ·
        refine lv_iload_n hx hb dX15_houseOf_39 rfl (lv_at hl 1 rfl) ?_
        refine lv_aload_n hx hb dX15_houseOf_40 rfl (lv_at hl 2 rfl) ?_
        refine pg_get (ci := 15) (v := .ref na) (C := RX15) (T := TX15) (N := 59) hx hb hts it_15 hown hK hP hL_h0 hF_55 rfl 7 (by decide) (hts _ kt_719) (fun _ h9 => h9) rfl dX15_houseOf_41 ?_
        refine lv_iload hx hb dX15_houseOf_44 (lv_at hl 0 rfl) ?_
        refine pg_aald (r := b_181) hx hb hK hP hi_38 7 hF_41 rfl (vp_in_nI (by omega) (by omega)) (show f_40 ((nI j) : Int32).toNatClampNeg = _ from by rw [show ((nI j) : Int32) = nI j from rfl, nI_clamp (by omega)]; exact hbf_183) dX15_houseOf_46 ?_
        refine pg_get (ci := 14) (v := .int (nI (D j).2.2.1)) (C := RX14) (T := TX14) (N := 2) hx hb hts it_14 hown hK hP hi_184 hen1 rfl 1 (by decide) (hts _ kt_709) (fun _ h9 => h9) rfl dX15_houseOf_47 ?_
        refine va_mmax hx hb (by rw [hml]; exact hl.1.symm) hown (hts _ kt_949) (hts _ kt_18) (hts _ kt_19) (hts _ kt_20) (Nat.le_of_ble_eq_true rfl) (Nat.le_of_ble_eq_true rfl) (by show _ ≤ 0; omega) (by show _ ≤ 0; omega) dX15_houseOf_50 ?_
        refine lv_topi (fun x_197 ex_197 => ?_)
        obtain rfl : x_197 = (mxl w3 (D j).2.2.1) := ex_197.trans (rfl)
        refine lv_istore_n (lv' := [(3, .int (mxl w3 (D j).2.2.1)), (4, .int (nI j)), (0, .ref h0), (1, .ref dt), (2, .ref gt)]) hx hb dX15_houseOf_53 rfl hl (by decide) rfl (fun ls hl => ?_)
        refine lv_iinc (v := (nI (j + 1))) (lv' := [(4, .int (nI (j + 1))), (3, .int (mxl w3 (D j).2.2.1)), (0, .ref h0), (1, .ref dt), (2, .ref gt)]) hx hb dX15_houseOf_54 hl (k := 1) rfl (nI_1 _) (by decide) rfl (fun ls hl => ?_)
        refine lv_goto (tgt := 5) hx hb dX15_houseOf_57 (by decide) ?_
        refine W.widen (k := 0) (n := 0) (by omega) (by omega) ?_
        exact ih_37 ((j + 1), (mxl w3 (D j).2.2.1)) F_35 (⟨by omega, lgw_y hv2 c_180 (orp1 hw_195 c_196) hen3, hv3, hv4, hv5⟩) (by show ze - (j + 1) < ze - j; omega) hO hR _ _ hP hD hS ls (lv_sub hl [0, 1, 2, 3, 4] rfl)
