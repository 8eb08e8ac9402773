theorem ENM.get {cs : Nat → ClassId} {ty : TyM} {gm : Nat → Nat → Nat} {L : List Nat} {F : Nat → va_E} {δ k b r9 rm n : Nat} {f : Nat → Int32} {fn : Nat → Option Nat} (h : ENM cs F (fn k) rm n f) (hb : fn k = some b) (hO : OKm cs ty gm L F) (hL : b ∈ L) (hT : ty b = (14, δ, [r9, rm])) : F b = .inr (14, [.ref r9, .int (nI n)]) ∧ F r9 = .inl (cs 17, rm, .inl f) ∧ n ≤ rm := by
  obtain ⟨b8, r8, h1, h2, h3, h4⟩ := h
  obtain rfl : b = b8 := Option.some.inj (hb.symm.trans h1)
  obtain ⟨z1, u1, -⟩ := hO.txt hL hT
  have e8 := u1.symm.trans h2
  simp only [Sum.inr.injEq, Prod.mk.injEq, List.cons.injEq, Value.ref.injEq, true_and] at e8
  obtain ⟨rfl, -⟩ := e8
  exact ⟨h2, h3, h4⟩
theorem lgw_cg {U V : (Nat → Int32) → Nat → Prop} {D E : Nat → ETY} : ∀ k, (∀ i, i < k → (((D i).1 = 4 ∧ U (D i).2.2.2.1 (D i).2.2.1) ↔ ((E i).1 = 4 ∧ V (E i).2.2.2.1 (E i).2.2.1)) ∧ (D i).2.2.1 = (E i).2.2.1) → lgw U D k = lgw V E k
  | 0, _ => rfl
  | k + 1, h => by
    have h1 := lgw_cg k (fun i hi => h i (by omega))
    obtain ⟨h2, h3⟩ := h k (by omega)
    rw [lgw_s, lgw_s, h1, h3]
    by_cases c : (D k).1 = 4 ∧ U (D k).2.2.2.1 (D k).2.2.1
    · have h4 := h2.mp c
      rw [h3] at c
      rw [if_pos c, if_pos h4]
    · have h4 : ¬ ((E k).1 = 4 ∧ V (E k).2.2.2.1 (E k).2.2.1) := fun q => c (h2.mpr q)
      rw [h3] at c
      rw [if_neg c, if_neg h4]
theorem lsw_cg {f g : Nat → Int32} {x : Int32} : ∀ k, (∀ j, j < k → (f j = x ↔ g j = x)) → lsw f x k = lsw g x k
  | 0, _ => rfl
  | k + 1, h => by
    have h1 := lsw_cg k (fun j hj => h j (by omega))
    have h2 := h k (by omega)
    unfold lsw
    by_cases c : f k = x
    · rw [if_pos c, if_pos (h2.mp c)]
    · rw [if_neg c, if_neg (fun q => c (h2.mpr q)), h1]
theorem hst_cg {U V : (Nat → Int32) → Nat → Prop} {f g : Nat → Int32} {z : Nat} {D E : Nat → ETY} {ze : Nat} (hl : lgw U D ze = lgw V E ze) (hs : ∀ j, j < z → (f j = 46 ↔ g j = 46)) : HST U f z D ze = HST V g z E ze := by
  have hk : ∀ k, k ≤ z → lsw f 46 k = lsw g 46 k := fun k hk => lsw_cg k (fun j hj => hs j (by omega))
  have h9 := lsw_le (f := g) (x := 46) z
  unfold HST
  rw [hl, hk z (Nat.le_refl _), hk (lsw g 46 z - 1) (by omega), hk (z - lgw V E ze) (by omega)]
theorem unm_to {f g h : Nat → Int32} {z y : Nat} (e : ∀ j, j < z → f j = g j) (q : UNM f z h y) : UNM g z h y := by
  obtain ⟨a1, a2, a3⟩ := q
  refine ⟨a1, ?_, fun j hj => by rw [← e (z - y + j) (by omega)]; exact a3 j hj⟩
  by_cases c : z = y
  · exact Or.inl c
  · obtain ⟨q1, q2⟩ := a2.resolve_left c
    exact Or.inr ⟨q1, by rw [← e (z - y - 1) (by omega)]; exact q2⟩
theorem unm_cg {f g h : Nat → Int32} {z y : Nat} (e : ∀ j, j < z → f j = g j) : UNM f z h y ↔ UNM g z h y :=
  ⟨unm_to e, unm_to (fun j hj => (e j hj).symm)⟩
theorem hst_same {f g : Nat → Int32} {z : Nat} {D : Nat → ETY} {ze : Nat} (e : ∀ j, j < z → f j = g j) : HST (UNM f z) f z D ze = HST (UNM g z) g z D ze :=
  hst_cg (lgw_cg ze (fun i hi => ⟨⟨fun q => ⟨q.1, (unm_cg e).mp q.2⟩, fun q => ⟨q.1, (unm_cg e).mpr q.2⟩⟩, rfl⟩)) (fun j hj => by rw [e j hj])
def LHI (f : Nat → Int32) (tg i : Nat) (w9 : Int32) : Prop := (w9 = 1 ∧ lsw f 46 i = tg) ∨ (w9 = 2 ∧ lsw f 46 (lsw f 46 i - 1) = tg)
theorem lhi_a {U : (Nat → Int32) → Nat → Prop} {f : Nat → Int32} {z : Nat} {D : Nat → ETY} {ze : Nat} (h : lgw U D ze = 0) : LHI f (HST U f z D ze) z 2 := by
  refine Or.inr ⟨rfl, ?_⟩
  unfold HST
  rw [if_neg (by omega), if_pos h]
theorem lhi_b {U : (Nat → Int32) → Nat → Prop} {f : Nat → Int32} {z : Nat} {D : Nat → ETY} {ze : Nat} (h : lgw U D ze = z + 1) : LHI f (HST U f z D ze) 0 1 := by
  refine Or.inl ⟨rfl, ?_⟩
  unfold HST
  rw [if_pos h]
  rfl
theorem lhi_c {U : (Nat → Int32) → Nat → Prop} {f : Nat → Int32} {z q : Nat} {D : Nat → ETY} {ze : Nat} (h : lgw U D ze = q + 1) (hq : q ≠ z) : LHI f (HST U f z D ze) (z - q - 1) 1 := by
  refine Or.inl ⟨rfl, ?_⟩
  unfold HST
  rw [if_neg (by omega), if_neg (by omega), h, show z - (q + 1) = z - q - 1 by omega]
theorem lsw_n {f : Nat → Int32} {i : Nat} (hi : 0 < i) (hc : ¬ f (i - 1) = 46) : lsw f 46 i = lsw f 46 (i - 1) := by
  obtain ⟨k, rfl⟩ : ∃ k, i = k + 1 := ⟨i - 1, by omega⟩
  rw [Nat.add_sub_cancel] at hc ⊢
  exact if_neg hc
theorem lsw_y {f : Nat → Int32} {i : Nat} (hi : 0 < i) (hc : f (i - 1) = 46) : lsw f 46 i = i := by
  obtain ⟨k, rfl⟩ : ∃ k, i = k + 1 := ⟨i - 1, by omega⟩
  rw [Nat.add_sub_cancel] at hc
  exact if_pos hc
theorem lhi_n {f : Nat → Int32} {tg i : Nat} {w9 : Int32} (h : LHI f tg i w9) (hi : 0 < i) (hc : ¬ f (i - 1) = 46) : LHI f tg (i - 1) w9 := by
  have h9 := lsw_n hi hc
  unfold LHI at h ⊢
  rw [h9] at h
  exact h
theorem lhi_2 {f : Nat → Int32} {tg i : Nat} {w9 w8 : Int32} (h : LHI f tg i w9) (hi : 0 < i) (hc : f (i - 1) = 46) (e : w8 = w9 + Int32.ofInt (-1)) (hn : ¬ w8 = 0) : LHI f tg (i - 1) w8 := by
  have h9 := lsw_y hi hc
  rcases h with ⟨h1, h2⟩ | ⟨h1, h2⟩
  · exact absurd (by rw [e, h1]; decide) hn
  · rw [h9] at h2
    exact Or.inl ⟨by rw [e, h1]; decide, h2⟩
theorem lhi_1 {f : Nat → Int32} {tg i : Nat} {w9 w8 : Int32} (h : LHI f tg i w9) (hi : 0 < i) (hc : f (i - 1) = 46) (e : w8 = w9 + Int32.ofInt (-1)) (hz : w8 = 0) : i = tg := by
  have h9 := lsw_y hi hc
  rcases h with ⟨h1, h2⟩ | ⟨h1, h2⟩
  · exact h9.symm.trans h2
  · exact absurd (hz.symm.trans e) (by rw [h1]; decide)
theorem lhi_e {f : Nat → Int32} {tg i : Nat} {w9 : Int32} (h : LHI f tg i w9) (hi : i = 0) : i = tg := by
  subst hi
  rcases h with ⟨h1, h2⟩ | ⟨h1, h2⟩ <;> exact h2
noncomputable def HSM (f : Nat → Int32) (z : Nat) (D : Nat → ETY) (ze : Nat) : Int32 := if NM f 0 z = true then nI (z - HST (UNM f z) f z D ze) else (-1)
theorem hsm_y {f fc : Nat → Int32} {z y2 : Nat} {D : Nat → ETY} {ze : Nat} (hn : NM f 0 z = true) (hc : ∀ j, j < z - 0 → fc j = f (0 + j)) (hy : y2 = z - 0 - HST (UNM fc (z - 0)) fc (z - 0) D ze) : nI y2 = HSM f z D ze := by
  have e1 : ∀ j, j < z → fc j = f j := fun j hj => by
    have h9 := hc j (by omega)
    rw [Nat.zero_add] at h9
    exact h9
  have e2 := hst_same (D := D) (ze := ze) e1
  have hy2 : y2 = z - HST (UNM fc z) fc z D ze := hy
  unfold HSM
  rw [if_pos hn, hy2, e2]
set_option maxHeartbeats 4000000 in
set_option maxRecDepth 100000 in
theorem s_X15_houseOf_e (l : Launch) (dC : Nat → ClassId) (dI : Nat → Nat → Nat) (cs : Nat → ClassId) (ty : TyM) (gm : Nat → Nat → Nat) (L : List Nat) (sz : Nat) (F : Nat → va_E) (h0 : Nat) (ρ : Nat) (ta : Nat) (ou : Nat) (so : Nat) (ad : Nat) (na : Nat) (va : Nat) (lc : Nat) (dm : Nat) (tg : Nat) (pe : Nat) (ml : Nat) (bg : Nat) (co : Nat) (sp : Nat) (nb0 : Nat) (nb1 : Nat) (nb2 : Nat) (pl : Nat) (se : Nat) (ke : Nat) (wi : Nat) (hs : Nat) (mo : Nat) (po : Nat) (nu : Nat) (pr : Nat) (sq : Nat) (xa : Nat) (sa : Nat) (n64 : Nat) (m64 : Nat) (ex : Nat) (wh : Nat) (sd : Nat) (tk : Nat) (hd : Nat) (ak : Nat) (ho : Nat) (ot : Nat) (sx : Nat) (s0 : Nat) (s1 : Nat) (s2 : Nat) (nf : Nat) (bd : Nat) (mm : Nat) (fm : Nat) (sn : Nat) (hg : Nat) (gc : Nat) (gv : Nat) (ze : Nat) (zt : Nat) (dt : Nat) (σ : Nat) (rd : Nat) (nd : Nat) (gt : Nat) (τ : Nat) (rt : Nat) (nt : Nat) (zd : Nat) (gd : Nat → Int32) (D : Nat → ETY) (hW : WTm ty gm L) (hL_h0 : h0 ∈ L) (hT_h0 : ty h0 = (15, ρ, [ta, ou, so, ad, na, va, lc, dm, tg, pe, ml, bg, co, sp, nb0, nb1, nb2, pl, se, ke, wi, hs, mo, po, nu, pr, sq, xa, sa, n64, m64, ex, wh, sd, tk, hd, ak, ho, ot, sx, s0, s1, s2, nf, bd, mm, fm, sn, hg, gc, gv, ze, zt])) (hL_dt : dt ∈ L) (hT_dt : ty dt = (14, σ, [rd, nd])) (hL_gt : gt ∈ L) (hT_gt : ty gt = (14, τ, [rt, nt])) (hFd : F dt = .inr (14, [.ref rd, .int (nI zd)])) (hFr : F rd = .inl (cs 17, nd, .inl gd)) (hzd : zd ≤ nd) (hnt : nd ≤ nt) (hDM : DIRM cs F so ad na va ze D) : Met l yX15_houseOf (.code yX15_houseOf cX15_houseOf 6 none :: tb) ({ frames := 3, cells := 0, slots := 0, locals := 94 }) (va_Pc [.ref h0, .ref dt, .ref gt] (PTm (dC, dI) cs ty gm L F sz)) (va_Qv (fun _ : Unit => True) (fun _ T9 => ∃ F2 : Nat → va_E, ∃ y2 : Nat, ∃ fc : Nat → Int32, QTm (dC, dI) cs ty gm L [τ] F F2 (va_A (va_pl L F) sz) T9 ∧ F2 gt = .inr (14, [.ref rt, .int (nI y2)]) ∧ F2 rt = .inl (cs 17, nt, .inl fc) ∧ y2 = zd - HST (UNM gd zd) gd zd D ze ∧ (∀ j, j < y2 → fc j = gd (HST (UNM gd zd) gd zd D ze + j))) (va_A (va_pl L F) sz)) 0 0 (va_A (va_pl L F) sz) := by
  refine Met.ofW (cc := cX15_houseOf) (maxL := 6) (ret := none) (by decide) rfl ?_
  intro p e s m args below meth c s₁ B hml hv
  obtain ⟨rfl, hsz, hP, hK, hD0, hE, hO⟩ := hv
  have hx := B.exec
  have hb := B.bytes
  have hr := B.returns
  have hts : ∀ w ∈ tb, w.before _ s = true := fun w h => atoms_spec (ws := .code yX15_houseOf cX15_houseOf 6 none :: tb) B.pre w (List.mem_cons_of_mem _ h)
  have hown : s.vm.findClass RX15 = some m.cls := findClass_of_methodNamed B.named
  have hlocks := B.notSynchronized
  subst hsz
  have hD := hD0.self (sz := s.heap.size)
  generalize hAe : va_A (va_pl L F) s.heap.size = A at hD ⊢
  have hA : ∀ q : Nat, s.heap.size ≤ q → A q := fun q h => by rw [← hAe]; exact Or.inr h
  have hS : va_S A s.heap s.heap [] := va_S.rf
  have hR : FR ty [τ] F F := FR.refl
  have hl := lv_entry ([.ref h0, .ref dt, .ref gt]) (n := 6) (Nat.le_of_ble_eq_true rfl)
  rw [lg_entry_eq]
  generalize (lg_sl ([.ref h0, .ref dt, .ref gt]) ++ List.replicate (6 - (lg_sl ([.ref h0, .ref dt, .ref gt])).length) Slot.unset).toArray = ls at hl ⊢
  have hl : lv_has ls 6 [(0, .ref h0), (1, .ref dt), (2, .ref gt)] := hl
  obtain ⟨hq_23, hq_24, hq_25, hq_26, hq_27, hgO, hgA, hgB, hq_28⟩ := hW.sc hL_h0 hT_h0
  obtain ⟨hi_29, ht_30, hq_31⟩ := hW.txt hL_dt hT_dt
  obtain ⟨hi_32, ht_33, hq_34⟩ := hW.txt hL_gt hT_gt
  refine lv_iconst (v := (-1)) hx hb dX15_houseOf_0 (by decide) ?_
  refine lv_istore_n (lv' := [(3, .int (-1)), (0, .ref h0), (1, .ref dt), (2, .ref gt)]) hx hb dX15_houseOf_1 rfl hl (by decide) rfl (fun ls hl => ?_)
  refine lv_iconst (v := 0) hx hb dX15_houseOf_2 (by decide) ?_
  refine lv_istore (lv' := [(4, .int 0), (3, .int (-1)), (0, .ref h0), (1, .ref dt), (2, .ref gt)]) hx hb dX15_houseOf_3 hl (by decide) rfl (fun ls hl => ?_)
  refine W.widen (k := 0) (n := 0) (by omega) (by omega) ?_
  refine pl_loopm (σ := Nat × Int32) A (dC, dI) cs ty gm L [τ] F 5 6 (fun (j, w3) => [(4, .int (nI j)), (3, .int w3), (0, .ref h0), (1, .ref dt), (2, .ref gt)]) (fun (j, w3) => []) (fun (j, w3) FF => j ≤ ze ∧ w3.toInt = (lgw (UNM gd zd) D j : Int) - 1 ∧ DIRM cs FF so ad na va ze D ∧ FF dt = .inr (14, [.ref rd, .int (nI zd)]) ∧ FF rd = .inl (cs 17, nd, .inl gd)) (fun (j, w3) => ze - j) ?_ (0, (-1)) F (⟨by omega, by show (-1 : Int32).toInt = ((0 : Nat) : Int) - 1; decide, hDM, hFd, hFr⟩) hO hR _ _ hP hD hS ls (lv_sub hl [0, 1, 2, 3, 4] rfl)
  rintro ⟨j, w3⟩ F_35 hv_36 hO hR ih_37 H locs hP hD hS ls hl
  have hl : lv_has ls 6 [(4, .int (nI j)), (3, .int w3), (0, .ref h0), (1, .ref dt), (2, .ref gt)] := hl
  have hv_36 : j ≤ ze ∧ w3.toInt = (lgw (UNM gd zd) D j : Int) - 1 ∧ DIRM cs F_35 so ad na va ze D ∧ F_35 dt = .inr (14, [.ref rd, .int (nI zd)]) ∧ F_35 rd = .inl (cs 17, nd, .inl gd) := hv_36
  refine W.eq (g2 := F0 m 5 ls []) rfl ?_
  obtain ⟨hv1, hv2, hv3, hv4, hv5⟩ := id hv_36
  obtain ⟨fs, fd, fn, fv, hd1, hd2, hd3, hd4, hd5⟩ := id hv3
  obtain ⟨hi_38, ht_39⟩ := hW.f_na hL_h0 hT_h0
  obtain ⟨f_40, hF_41, hq_42⟩ := hO.rtxj hi_38 ht_39
  obtain rfl : f_40 = fn := by have e9 := hF_41.symm.trans hd3; simpa using e9
  refine lv_iload hx hb dX15_houseOf_5 (lv_at hl 0 rfl) ?_
  refine lv_aload_n hx hb dX15_houseOf_7 rfl (lv_at hl 2 rfl) ?_
  obtain ⟨zo_43, v14_44, v15_45, v17_46, v18_47, v19_48, v20_49, v21_50, v22_51, v33_52, v52_53, v53_54, v54_55, hF_56, hq_57, hq_58, hq_59, hq_60, hq_61⟩ := hO.mod hL_h0 hT_h0
  refine pg_get (ci := 15) (v := .int (nI ze)) (C := RX15) (T := TX15) (N := 59) hx hb hts it_15 hown hK hP hL_h0 hF_56 rfl 3 (by decide) (hts _ kt_724) (fun _ h9 => h9) rfl dX15_houseOf_8 ?_
  refine lv_icmp_ge (tgt := 60) hx hb dX15_houseOf_11 (by decide) (fun c_62 => ?_) (fun c_62 => ?_)
  ·
    have hi_63 : ze ≤ j := leN (N := ze) c_62
    have hjc : j = ze := by omega
    rw [hjc] at hv2
    refine lv_iload_n hx hb dX15_houseOf_60 rfl (lv_at hl 1 rfl) ?_
    refine lv_if_ge (tgt := 71) hx hb dX15_houseOf_61 (by decide) (fun c_64 => ?_) (fun c_64 => ?_)
    ·
      have hlz := lgw_le (U := UNM gd zd) (D := D) (fun _ _ h9 => h9.1) ze
      obtain ⟨kl, hq9, ekl⟩ := lgw_k hv2 (by omega) (Int32.not_lt.mpr c_64)
      have hkl : kl ≤ zd := by omega
      subst ekl
      refine lv_aload_n hx hb dX15_houseOf_71 rfl (lv_at hl 3 rfl) ?_
      refine pg_get (ci := 14) (v := .int (nI zd)) (C := RX14) (T := TX14) (N := 2) hx hb hts it_14 hown hK hP hL_dt hv4 rfl 1 (by decide) (hts _ kt_709) (fun _ h9 => h9) rfl dX15_houseOf_72 ?_
      refine lv_iload_n hx hb dX15_houseOf_75 rfl (lv_at hl 1 rfl) ?_
      refine lv_isub hx hb dX15_houseOf_76 ?_
      refine lv_topi (fun x_65 ex_65 => ?_)
      obtain rfl : x_65 = (nI (zd - kl)) := ex_65.trans (pk_sub (by omega))
      refine lv_iconst (v := 1) hx hb dX15_houseOf_77 (by decide) ?_
      refine lv_isub hx hb dX15_houseOf_78 ?_
      refine lv_topi (fun x_66 ex_66 => ?_)
      obtain rfl : x_66 = (nI (zd - kl) - 1) := ex_66.trans (rfl)
      refine lv_istore (lv' := [(4, .int (nI (zd - kl) - 1)), (3, .int (nI kl)), (0, .ref h0), (1, .ref dt), (2, .ref gt)]) hx hb dX15_houseOf_79 hl (by decide) rfl (fun ls hl => ?_)
      refine lv_iload_n hx hb dX15_houseOf_81 rfl (lv_at hl 1 rfl) ?_
      refine lv_if_ge (tgt := 89) hx hb dX15_houseOf_82 (by decide) (fun c_67 => ?_) (fun c_67 => absurd (Int32.not_lt.mp (nI_pos (by omega))) c_67)
      refine lv_iconst (v := 1) hx hb dX15_houseOf_89 (by decide) ?_
      refine lv_istore (lv' := [(5, .int 1), (4, .int (nI (zd - kl) - 1)), (3, .int (nI kl)), (0, .ref h0), (1, .ref dt), (2, .ref gt)]) hx hb dX15_houseOf_90 hl (by decide) rfl (fun ls hl => ?_)
      refine lv_iload_n hx hb dX15_houseOf_92 rfl (lv_at hl 2 rfl) ?_
      refine lv_aload_n hx hb dX15_houseOf_93 rfl (lv_at hl 4 rfl) ?_
      refine pg_get (ci := 14) (v := .int (nI zd)) (C := RX14) (T := TX14) (N := 2) hx hb hts it_14 hown hK hP hL_dt hv4 rfl 1 (by decide) (hts _ kt_709) (fun _ h9 => h9) rfl dX15_houseOf_94 ?_
      refine lv_icmp_ne (tgt := 103) hx hb dX15_houseOf_97 (by decide) (fun c_68 => ?_) (fun c_68 => ?_)
      ·
        have hi_69 : kl ≠ zd := fun q => c_68 (by rw [q])
        have hne : kl ≠ zd := by
          intro q
          exact c_68 (by rw [q])
        have e76 : nI (zd - kl) - 1 = nI (zd - kl - 1) := pk_sub (b := 1) (by omega)
        have hl : lv_has ls 6 [(5, .int 1), (4, .int (nI (zd - kl - 1))), (3, .int (nI kl)), (0, .ref h0), (1, .ref dt), (2, .ref gt)] := by have h9 := hl; rw [e76] at h9; exact h9
        refine W.widen (k := 0) (n := 0) (by omega) (by omega) ?_
        obtain ⟨hq_71, hq_72⟩ := hW.octs hi_29 ht_30
        refine pl_loopm (σ := Nat × Int32) A (dC, dI) cs ty gm L [τ] F 103 6 (fun (i, w5) => [(5, .int w5), (4, .int (nI i)), (0, .ref h0), (1, .ref dt), (2, .ref gt)]) (fun (i, w5) => []) (fun (i, w5) FF => i ≤ zd ∧ LHI gd (HST (UNM gd zd) gd zd D ze) i w5 ∧ FF dt = .inr (14, [.ref rd, .int (nI zd)]) ∧ FF rd = .inl (cs 17, nd, .inl gd)) (fun (i, w5) => i) ?_ ((zd - kl - 1), 1) F_35 (⟨by omega, lhi_c hq9 hne, hv4, hv5⟩) hO hR _ _ hP hD hS ls (lv_sub hl [0, 1, 3, 4, 5] rfl)
        rintro ⟨i, w5⟩ F_70 hv_73 hO hR ih_74 H locs hP hD hS ls hl
        have hl : lv_has ls 6 [(5, .int w5), (4, .int (nI i)), (0, .ref h0), (1, .ref dt), (2, .ref gt)] := hl
        have hv_73 : i ≤ zd ∧ LHI gd (HST (UNM gd zd) gd zd D ze) i w5 ∧ F_70 dt = .inr (14, [.ref rd, .int (nI zd)]) ∧ F_70 rd = .inl (cs 17, nd, .inl gd) := hv_73
        refine W.eq (g2 := F0 m 103 ls []) rfl ?_
        obtain ⟨hb1, hb2, hb3, hb4⟩ := id hv_73
        refine lv_iload hx hb dX15_houseOf_103 (lv_at hl 1 rfl) ?_
        refine lv_if_le (tgt := 140) hx hb dX15_houseOf_105 (by decide) (fun c_75 => ?_) (fun c_75 => ?_)
        ·
          have hi_76 : i ≤ 0 := (nI_leI (a := i) (b := 0) (by omega) (by omega)).mp c_75
          have hi0 : i = 0 := Nat.le_zero.mp ((nI_leI (a := i) (b := 0) (by omega) (by omega)).mp c_75)
          have hta : i = HST (UNM gd zd) gd zd D ze := lhi_e hb2 hi0
          refine lv_aload_n hx hb dX15_houseOf_140 rfl (lv_at hl 4 rfl) ?_
          refine lv_aload_n hx hb dX15_houseOf_141 rfl (lv_at hl 3 rfl) ?_
          refine pg_get (ci := 14) (v := .ref rd) (C := RX14) (T := TX14) (N := 2) hx hb hts it_14 hown hK hP hL_dt hb3 rfl 0 (by decide) (hts _ kt_710) (fun _ h9 => h9) rfl dX15_houseOf_142 ?_
          refine lv_iload hx hb dX15_houseOf_145 (lv_at hl 1 rfl) ?_
          refine lv_aload_n hx hb dX15_houseOf_147 rfl (lv_at hl 3 rfl) ?_
          refine pg_get (ci := 14) (v := .int (nI zd)) (C := RX14) (T := TX14) (N := 2) hx hb hts it_14 hown hK hP hL_dt hb3 rfl 1 (by decide) (hts _ kt_709) (fun _ h9 => h9) rfl dX15_houseOf_148 ?_
          obtain ⟨hq_77, hq_78⟩ := hW.octs hi_29 ht_30
          have hFc := pg_free hD hS hA
          obtain ⟨z_79, hF_80, hq_81⟩ := hO.txt hL_gt hT_gt
          refine va_callv (va_runV (As := [.ref rd, .int (nI i), .int (nI zd)]) (rest := []) ⟨hx, hb, hml, hown, hts⟩ (s_X14_set_e l dC dI cs ty gm L H.size F_70 gt τ rt nt rd σ nd i zd gd hW hL_gt hT_gt hi_29 ht_30 hb4 (by omega) (by omega) (by omega)) ⟨callB_of 3 hts (gi kt_951) rfl rfl rfl (hts _ kt_676) (hts _ kt_952) (by decide +kernel) ⟨Nat.le_of_ble_eq_true rfl, Nat.le_of_ble_eq_true rfl⟩, (hts _ kt_953), (hts _ kt_954)⟩ ⟨fun a U g mk q => ⟨q.1, PTm.calling q.2⟩, pg_recv hK hP hL_gt hF_80 (q := (RX14, TX14, 2)) rfl, fun U hU hWm => ⟨rfl, PTm.mk hU hWm hP hK hD hE hO⟩⟩ rfl rfl hl.1 rfl (lv_room (Nat.le_of_ble_eq_true rfl)) dX15_houseOf_151 ⟨by show _ + 0 ≤ 0; omega, by show _ + 0 ≤ 0; omega⟩) hS (fun q _ h => hFc q h) hFc (fun u t H1 locs ht hvm hw hB hz1 hk1 hS => ?_)
          obtain ⟨F_83, fc_84, hB1, hq_85, hq_86, hq_87⟩ := hB
          obtain ⟨hP, hD, hO, hR⟩ := QTm.back hB1 ht hFc hR (fun q h => by simp only [List.mem_cons, List.not_mem_nil, or_false] at h ⊢; omega)
          generalize H1 = H at hP hS ⊢
          refine W.widen (k := 0) (n := 0) (by omega) (by omega) ?_
          exact W.vret hx hb hr (fun t ht hWm => ⟨⟨(), rfl, trivial, ⟨F_83, (zd - i), fc_84, QTm.mk ht hP hD hO hR, hq_85, hq_86, (by rw [hta]), (by rw [← hta]; exact hq_87)⟩⟩, hS.F ht⟩) hS.2.2 dX15_houseOf_154
        ·
          have hi_88 : 0 < i := Nat.not_le.mp (fun q => c_75 ((nI_leI (a := i) (b := 0) (by omega) (by omega)).mpr q))
          have hi1 : 0 < i := posN c_75
          refine lv_iinc (v := (nI (i - 1))) (lv' := [(4, .int (nI (i - 1))), (5, .int w5), (0, .ref h0), (1, .ref dt), (2, .ref gt)]) hx hb dX15_houseOf_108 hl (k := 1) rfl (m1N (by omega)) (by decide) rfl (fun ls hl => ?_)
          refine lv_aload_n hx hb dX15_houseOf_111 rfl (lv_at hl 3 rfl) ?_
          refine pg_get (ci := 14) (v := .ref rd) (C := RX14) (T := TX14) (N := 2) hx hb hts it_14 hown hK hP hL_dt hb3 rfl 0 (by decide) (hts _ kt_710) (fun _ h9 => h9) rfl dX15_houseOf_112 ?_
          refine lv_iload hx hb dX15_houseOf_115 (lv_at hl 0 rfl) ?_
          obtain ⟨hq_89, hq_90⟩ := hW.octs hi_29 ht_30
          refine pg_bald hx hb hK hP hi_29 1 hb4 rfl (vp_in_nI (by omega) (by omega)) dX15_houseOf_117 ?_
          refine lv_topi (fun x_91 ex_91 => ?_)
          obtain rfl : x_91 = gd (i - 1) := ex_91.trans (congrArg gd (show ((nI (i - 1)) : Int32).toNatClampNeg = (i - 1) from nI_clamp (by omega)))
          refine lv_bipush (v := 46) hx hb dX15_houseOf_118 (by decide) ?_
          refine lv_icmp_eq (tgt := 126) hx hb dX15_houseOf_120 (by decide) (fun c_92 => ?_) (fun c_92 => ?_)
          ·
            obtain ⟨x_93, ex_93⟩ : ∃ y : Int32, y = w5 + Int32.ofInt (-1) := ⟨_, rfl⟩
            refine lv_iinc (v := x_93) (lv' := [(5, .int x_93), (4, .int (nI (i - 1))), (0, .ref h0), (1, .ref dt), (2, .ref gt)]) hx hb dX15_houseOf_126 hl (k := 1) rfl (ex_93.symm) (by decide) rfl (fun ls hl => ?_)
            refine lv_iload hx hb dX15_houseOf_129 (lv_at hl 0 rfl) ?_
            refine lv_if_ne (tgt := 103) hx hb dX15_houseOf_131 (by decide) (fun c_94 => ?_) (fun c_94 => ?_)
            ·
              refine W.widen (k := 0) (n := 0) (by omega) (by omega) ?_
              exact ih_74 ((i - 1), x_93) F_70 (⟨by omega, lhi_2 hb2 hi1 c_92 ex_93 c_94, hb3, hb4⟩) (by show (i - 1) < i; omega) hO hR _ _ hP hD hS ls (lv_sub hl [0, 1, 2, 3, 4] rfl)
            ·
              have hta : i - 1 + 1 = HST (UNM gd zd) gd zd D ze := by have h9 := lhi_1 hb2 hi1 c_92 ex_93 c_94; omega
              refine lv_iinc (v := (nI (i - 1 + 1))) (lv' := [(4, .int (nI (i - 1 + 1))), (5, .int x_93), (0, .ref h0), (1, .ref dt), (2, .ref gt)]) hx hb dX15_houseOf_134 hl (k := 1) rfl (nI_1 (i - 1)) (by decide) rfl (fun ls hl => ?_)
              refine lv_goto (tgt := 140) hx hb dX15_houseOf_137 (by decide) ?_
              refine lv_aload_n hx hb dX15_houseOf_140 rfl (lv_at hl 4 rfl) ?_
              refine lv_aload_n hx hb dX15_houseOf_141 rfl (lv_at hl 3 rfl) ?_
              refine pg_get (ci := 14) (v := .ref rd) (C := RX14) (T := TX14) (N := 2) hx hb hts it_14 hown hK hP hL_dt hb3 rfl 0 (by decide) (hts _ kt_710) (fun _ h9 => h9) rfl dX15_houseOf_142 ?_
              refine lv_iload hx hb dX15_houseOf_145 (lv_at hl 0 rfl) ?_
              refine lv_aload_n hx hb dX15_houseOf_147 rfl (lv_at hl 3 rfl) ?_
              refine pg_get (ci := 14) (v := .int (nI zd)) (C := RX14) (T := TX14) (N := 2) hx hb hts it_14 hown hK hP hL_dt hb3 rfl 1 (by decide) (hts _ kt_709) (fun _ h9 => h9) rfl dX15_houseOf_148 ?_
              have hFc := pg_free hD hS hA
              obtain ⟨z_95, hF_96, hq_97⟩ := hO.txt hL_gt hT_gt
              refine va_callv (va_runV (As := [.ref rd, .int (nI (i - 1 + 1)), .int (nI zd)]) (rest := []) ⟨hx, hb, hml, hown, hts⟩ (s_X14_set_e l dC dI cs ty gm L H.size F_70 gt τ rt nt rd σ nd (i - 1 + 1) zd gd hW hL_gt hT_gt hi_29 ht_30 hb4 (by omega) (by omega) (by omega)) ⟨callB_of 3 hts (gi kt_951) rfl rfl rfl (hts _ kt_676) (hts _ kt_952) (by decide +kernel) ⟨Nat.le_of_ble_eq_true rfl, Nat.le_of_ble_eq_true rfl⟩, (hts _ kt_953), (hts _ kt_954)⟩ ⟨fun a U g mk q => ⟨q.1, PTm.calling q.2⟩, pg_recv hK hP hL_gt hF_96 (q := (RX14, TX14, 2)) rfl, fun U hU hWm => ⟨rfl, PTm.mk hU hWm hP hK hD hE hO⟩⟩ rfl rfl hl.1 rfl (lv_room (Nat.le_of_ble_eq_true rfl)) dX15_houseOf_151 ⟨by show _ + 0 ≤ 0; omega, by show _ + 0 ≤ 0; omega⟩) hS (fun q _ h => hFc q h) hFc (fun u t H1 locs ht hvm hw hB hz1 hk1 hS => ?_)
              obtain ⟨F_99, fc_100, hB1, hq_101, hq_102, hq_103⟩ := hB
              obtain ⟨hP, hD, hO, hR⟩ := QTm.back hB1 ht hFc hR (fun q h => by simp only [List.mem_cons, List.not_mem_nil, or_false] at h ⊢; omega)
              generalize H1 = H at hP hS ⊢
              refine W.widen (k := 0) (n := 0) (by omega) (by omega) ?_
              exact W.vret hx hb hr (fun t ht hWm => ⟨⟨(), rfl, trivial, ⟨F_99, (zd - (i - 1 + 1)), fc_100, QTm.mk ht hP hD hO hR, hq_101, hq_102, (by rw [hta]), (by rw [← hta]; exact hq_103)⟩⟩, hS.F ht⟩) hS.2.2 dX15_houseOf_154
          ·
            refine lv_goto (tgt := 103) hx hb dX15_houseOf_123 (by decide) ?_
            refine W.widen (k := 0) (n := 0) (by omega) (by omega) ?_
            exact ih_74 ((i - 1), w5) F_70 (⟨by omega, lhi_n hb2 hi1 c_92, hb3, hb4⟩) (by show (i - 1) < i; omega) hO hR _ _ hP hD hS ls (lv_sub hl [1, 0, 2, 3, 4] rfl)
      ·
        have hi_104 : kl = zd := (nI_eq (a := kl) (b := zd) (by omega) (by omega)).mp c_68
        refine lv_iconst (v := 0) hx hb dX15_houseOf_100 (by decide) ?_
        refine lv_istore (lv' := [(4, .int 0), (5, .int 1), (3, .int (nI kl)), (0, .ref h0), (1, .ref dt), (2, .ref gt)]) hx hb dX15_houseOf_101 hl (by decide) rfl (fun ls hl => ?_)
        refine W.widen (k := 0) (n := 0) (by omega) (by omega) ?_
        obtain ⟨hq_106, hq_107⟩ := hW.octs hi_29 ht_30
        refine pl_loopm (σ := Nat × Int32) A (dC, dI) cs ty gm L [τ] F 103 6 (fun (i, w5) => [(4, .int (nI i)), (5, .int w5), (0, .ref h0), (1, .ref dt), (2, .ref gt)]) (fun (i, w5) => []) (fun (i, w5) FF => i ≤ zd ∧ LHI gd (HST (UNM gd zd) gd zd D ze) i w5 ∧ FF dt = .inr (14, [.ref rd, .int (nI zd)]) ∧ FF rd = .inl (cs 17, nd, .inl gd)) (fun (i, w5) => i) ?_ (0, 1) F_35 (⟨by omega, lhi_b (by omega), hv4, hv5⟩) hO hR _ _ hP hD hS ls (lv_sub hl [0, 1, 3, 4, 5] rfl)
        rintro ⟨i, w5⟩ F_105 hv_108 hO hR ih_109 H locs hP hD hS ls hl
        have hl : lv_has ls 6 [(4, .int (nI i)), (5, .int w5), (0, .ref h0), (1, .ref dt), (2, .ref gt)] := hl
        have hv_108 : i ≤ zd ∧ LHI gd (HST (UNM gd zd) gd zd D ze) i w5 ∧ F_105 dt = .inr (14, [.ref rd, .int (nI zd)]) ∧ F_105 rd = .inl (cs 17, nd, .inl gd) := hv_108
        refine W.eq (g2 := F0 m 103 ls []) rfl ?_
        obtain ⟨hb1, hb2, hb3, hb4⟩ := id hv_108
        refine lv_iload hx hb dX15_houseOf_103 (lv_at hl 0 rfl) ?_
        refine lv_if_le (tgt := 140) hx hb dX15_houseOf_105 (by decide) (fun c_110 => ?_) (fun c_110 => ?_)
        ·
          have hi_111 : i ≤ 0 := (nI_leI (a := i) (b := 0) (by omega) (by omega)).mp c_110
          have hi0 : i = 0 := Nat.le_zero.mp ((nI_leI (a := i) (b := 0) (by omega) (by omega)).mp c_110)
          have hta : i = HST (UNM gd zd) gd zd D ze := lhi_e hb2 hi0
          refine lv_aload_n hx hb dX15_houseOf_140 rfl (lv_at hl 4 rfl) ?_
          refine lv_aload_n hx hb dX15_houseOf_141 rfl (lv_at hl 3 rfl) ?_
          refine pg_get (ci := 14) (v := .ref rd) (C := RX14) (T := TX14) (N := 2) hx hb hts it_14 hown hK hP hL_dt hb3 rfl 0 (by decide) (hts _ kt_710) (fun _ h9 => h9) rfl dX15_houseOf_142 ?_
          refine lv_iload hx hb dX15_houseOf_145 (lv_at hl 0 rfl) ?_
          refine lv_aload_n hx hb dX15_houseOf_147 rfl (lv_at hl 3 rfl) ?_
          refine pg_get (ci := 14) (v := .int (nI zd)) (C := RX14) (T := TX14) (N := 2) hx hb hts it_14 hown hK hP hL_dt hb3 rfl 1 (by decide) (hts _ kt_709) (fun _ h9 => h9) rfl dX15_houseOf_148 ?_
          obtain ⟨hq_112, hq_113⟩ := hW.octs hi_29 ht_30
          have hFc := pg_free hD hS hA
          obtain ⟨z_114, hF_115, hq_116⟩ := hO.txt hL_gt hT_gt
          refine va_callv (va_runV (As := [.ref rd, .int (nI i), .int (nI zd)]) (rest := []) ⟨hx, hb, hml, hown, hts⟩ (s_X14_set_e l dC dI cs ty gm L H.size F_105 gt τ rt nt rd σ nd i zd gd hW hL_gt hT_gt hi_29 ht_30 hb4 (by omega) (by omega) (by omega)) ⟨callB_of 3 hts (gi kt_951) rfl rfl rfl (hts _ kt_676) (hts _ kt_952) (by decide +kernel) ⟨Nat.le_of_ble_eq_true rfl, Nat.le_of_ble_eq_true rfl⟩, (hts _ kt_953), (hts _ kt_954)⟩ ⟨fun a U g mk q => ⟨q.1, PTm.calling q.2⟩, pg_recv hK hP hL_gt hF_115 (q := (RX14, TX14, 2)) rfl, fun U hU hWm => ⟨rfl, PTm.mk hU hWm hP hK hD hE hO⟩⟩ rfl rfl hl.1 rfl (lv_room (Nat.le_of_ble_eq_true rfl)) dX15_houseOf_151 ⟨by show _ + 0 ≤ 0; omega, by show _ + 0 ≤ 0; omega⟩) hS (fun q _ h => hFc q h) hFc (fun u t H1 locs ht hvm hw hB hz1 hk1 hS => ?_)
          obtain ⟨F_118, fc_119, hB1, hq_120, hq_121, hq_122⟩ := hB
          obtain ⟨hP, hD, hO, hR⟩ := QTm.back hB1 ht hFc hR (fun q h => by simp only [List.mem_cons, List.not_mem_nil, or_false] at h ⊢; omega)
          generalize H1 = H at hP hS ⊢
          refine W.widen (k := 0) (n := 0) (by omega) (by omega) ?_
          exact W.vret hx hb hr (fun t ht hWm => ⟨⟨(), rfl, trivial, ⟨F_118, (zd - i), fc_119, QTm.mk ht hP hD hO hR, hq_120, hq_121, (by rw [hta]), (by rw [← hta]; exact hq_122)⟩⟩, hS.F ht⟩) hS.2.2 dX15_houseOf_154
        ·
          have hi_123 : 0 < i := Nat.not_le.mp (fun q => c_110 ((nI_leI (a := i) (b := 0) (by omega) (by omega)).mpr q))
          have hi1 : 0 < i := posN c_110
          refine lv_iinc (v := (nI (i - 1))) (lv' := [(4, .int (nI (i - 1))), (5, .int w5), (0, .ref h0), (1, .ref dt), (2, .ref gt)]) hx hb dX15_houseOf_108 hl (k := 0) rfl (m1N (by omega)) (by decide) rfl (fun ls hl => ?_)
          refine lv_aload_n hx hb dX15_houseOf_111 rfl (lv_at hl 3 rfl) ?_
          refine pg_get (ci := 14) (v := .ref rd) (C := RX14) (T := TX14) (N := 2) hx hb hts it_14 hown hK hP hL_dt hb3 rfl 0 (by decide) (hts _ kt_710) (fun _ h9 => h9) rfl dX15_houseOf_112 ?_
          refine lv_iload hx hb dX15_houseOf_115 (lv_at hl 0 rfl) ?_
          obtain ⟨hq_124, hq_125⟩ := hW.octs hi_29 ht_30
          refine pg_bald hx hb hK hP hi_29 1 hb4 rfl (vp_in_nI (by omega) (by omega)) dX15_houseOf_117 ?_
          refine lv_topi (fun x_126 ex_126 => ?_)
          obtain rfl : x_126 = gd (i - 1) := ex_126.trans (congrArg gd (show ((nI (i - 1)) : Int32).toNatClampNeg = (i - 1) from nI_clamp (by omega)))
          refine lv_bipush (v := 46) hx hb dX15_houseOf_118 (by decide) ?_
          refine lv_icmp_eq (tgt := 126) hx hb dX15_houseOf_120 (by decide) (fun c_127 => ?_) (fun c_127 => ?_)
          ·
            obtain ⟨x_128, ex_128⟩ : ∃ y : Int32, y = w5 + Int32.ofInt (-1) := ⟨_, rfl⟩
            refine lv_iinc (v := x_128) (lv' := [(5, .int x_128), (4, .int (nI (i - 1))), (0, .ref h0), (1, .ref dt), (2, .ref gt)]) hx hb dX15_houseOf_126 hl (k := 1) rfl (ex_128.symm) (by decide) rfl (fun ls hl => ?_)
            refine lv_iload hx hb dX15_houseOf_129 (lv_at hl 0 rfl) ?_
            refine lv_if_ne (tgt := 103) hx hb dX15_houseOf_131 (by decide) (fun c_129 => ?_) (fun c_129 => ?_)
            ·
              refine W.widen (k := 0) (n := 0) (by omega) (by omega) ?_
              exact ih_109 ((i - 1), x_128) F_105 (⟨by omega, lhi_2 hb2 hi1 c_127 ex_128 c_129, hb3, hb4⟩) (by show (i - 1) < i; omega) hO hR _ _ hP hD hS ls (lv_sub hl [1, 0, 2, 3, 4] rfl)
            ·
              have hta : i - 1 + 1 = HST (UNM gd zd) gd zd D ze := by have h9 := lhi_1 hb2 hi1 c_127 ex_128 c_129; omega
              refine lv_iinc (v := (nI (i - 1 + 1))) (lv' := [(4, .int (nI (i - 1 + 1))), (5, .int x_128), (0, .ref h0), (1, .ref dt), (2, .ref gt)]) hx hb dX15_houseOf_134 hl (k := 1) rfl (nI_1 (i - 1)) (by decide) rfl (fun ls hl => ?_)
              refine lv_goto (tgt := 140) hx hb dX15_houseOf_137 (by decide) ?_
              refine lv_aload_n hx hb dX15_houseOf_140 rfl (lv_at hl 4 rfl) ?_
              refine lv_aload_n hx hb dX15_houseOf_141 rfl (lv_at hl 3 rfl) ?_
              refine pg_get (ci := 14) (v := .ref rd) (C := RX14) (T := TX14) (N := 2) hx hb hts it_14 hown hK hP hL_dt hb3 rfl 0 (by decide) (hts _ kt_710) (fun _ h9 => h9) rfl dX15_houseOf_142 ?_
              refine lv_iload hx hb dX15_houseOf_145 (lv_at hl 0 rfl) ?_
              refine lv_aload_n hx hb dX15_houseOf_147 rfl (lv_at hl 3 rfl) ?_
              refine pg_get (ci := 14) (v := .int (nI zd)) (C := RX14) (T := TX14) (N := 2) hx hb hts it_14 hown hK hP hL_dt hb3 rfl 1 (by decide) (hts _ kt_709) (fun _ h9 => h9) rfl dX15_houseOf_148 ?_
              have hFc := pg_free hD hS hA
              obtain ⟨z_130, hF_131, hq_132⟩ := hO.txt hL_gt hT_gt
              refine va_callv (va_runV (As := [.ref rd, .int (nI (i - 1 + 1)), .int (nI zd)]) (rest := []) ⟨hx, hb, hml, hown, hts⟩ (s_X14_set_e l dC dI cs ty gm L H.size F_105 gt τ rt nt rd σ nd (i - 1 + 1) zd gd hW hL_gt hT_gt hi_29 ht_30 hb4 (by omega) (by omega) (by omega)) ⟨callB_of 3 hts (gi kt_951) rfl rfl rfl (hts _ kt_676) (hts _ kt_952) (by decide +kernel) ⟨Nat.le_of_ble_eq_true rfl, Nat.le_of_ble_eq_true rfl⟩, (hts _ kt_953), (hts _ kt_954)⟩ ⟨fun a U g mk q => ⟨q.1, PTm.calling q.2⟩, pg_recv hK hP hL_gt hF_131 (q := (RX14, TX14, 2)) rfl, fun U hU hWm => ⟨rfl, PTm.mk hU hWm hP hK hD hE hO⟩⟩ rfl rfl hl.1 rfl (lv_room (Nat.le_of_ble_eq_true rfl)) dX15_houseOf_151 ⟨by show _ + 0 ≤ 0; omega, by show _ + 0 ≤ 0; omega⟩) hS (fun q _ h => hFc q h) hFc (fun u t H1 locs ht hvm hw hB hz1 hk1 hS => ?_)
              obtain ⟨F_134, fc_135, hB1, hq_136, hq_137, hq_138⟩ := hB
              obtain ⟨hP, hD, hO, hR⟩ := QTm.back hB1 ht hFc hR (fun q h => by simp only [List.mem_cons, List.not_mem_nil, or_false] at h ⊢; omega)
              generalize H1 = H at hP hS ⊢
              refine W.widen (k := 0) (n := 0) (by omega) (by omega) ?_
              exact W.vret hx hb hr (fun t ht hWm => ⟨⟨(), rfl, trivial, ⟨F_134, (zd - (i - 1 + 1)), fc_135, QTm.mk ht hP hD hO hR, hq_136, hq_137, (by rw [hta]), (by rw [← hta]; exact hq_138)⟩⟩, hS.F ht⟩) hS.2.2 dX15_houseOf_154
          ·
            refine lv_goto (tgt := 103) hx hb dX15_houseOf_123 (by decide) ?_
            refine W.widen (k := 0) (n := 0) (by omega) (by omega) ?_
            exact ih_109 ((i - 1), w5) F_105 (⟨by omega, lhi_n hb2 hi1 c_127, hb3, hb4⟩) (by show (i - 1) < i; omega) hO hR _ _ hP hD hS ls (lv_sub hl [0, 1, 2, 3, 4] rfl)
    ·
      have hq0 := lgw_z hv2 (Int32.not_le.mp c_64)
      refine lv_aload_n hx hb dX15_houseOf_64 rfl (lv_at hl 3 rfl) ?_
      refine pg_get (ci := 14) (v := .int (nI zd)) (C := RX14) (T := TX14) (N := 2) hx hb hts it_14 hown hK hP hL_dt hv4 rfl 1 (by decide) (hts _ kt_709) (fun _ h9 => h9) rfl dX15_houseOf_65 ?_
      refine lv_goto (tgt := 79) hx hb dX15_houseOf_68 (by decide) ?_
      refine lv_istore (lv' := [(4, .int (nI zd)), (3, .int w3), (0, .ref h0), (1, .ref dt), (2, .ref gt)]) hx hb dX15_houseOf_79 hl (by decide) rfl (fun ls hl => ?_)
      refine lv_iload_n hx hb dX15_houseOf_81 rfl (lv_at hl 1 rfl) ?_
      refine lv_if_ge (tgt := 89) hx hb dX15_houseOf_82 (by decide) (fun c_139 => absurd c_139 (c_64)) (fun c_139 => ?_)
      refine lv_iconst (v := 2) hx hb dX15_houseOf_85 (by decide) ?_
      refine lv_goto (tgt := 90) hx hb dX15_houseOf_86 (by decide) ?_
      refine lv_istore (lv' := [(5, .int 2), (4, .int (nI zd)), (3, .int w3), (0, .ref h0), (1, .ref dt), (2, .ref gt)]) hx hb dX15_houseOf_90 hl (by decide) rfl (fun ls hl => ?_)
      refine lv_iload_n hx hb dX15_houseOf_92 rfl (lv_at hl 2 rfl) ?_
      refine lv_aload_n hx hb dX15_houseOf_93 rfl (lv_at hl 4 rfl) ?_
      refine pg_get (ci := 14) (v := .int (nI zd)) (C := RX14) (T := TX14) (N := 2) hx hb hts it_14 hown hK hP hL_dt hv4 rfl 1 (by decide) (hts _ kt_709) (fun _ h9 => h9) rfl dX15_houseOf_94 ?_
      refine lv_icmp_ne (tgt := 103) hx hb dX15_houseOf_97 (by decide) (fun c_140 => ?_) (fun c_140 => ?_)
      ·
        refine W.widen (k := 0) (n := 0) (by omega) (by omega) ?_
        obtain ⟨hq_142, hq_143⟩ := hW.octs hi_29 ht_30
        refine pl_loopm (σ := Nat × Int32) A (dC, dI) cs ty gm L [τ] F 103 6 (fun (i, w5) => [(5, .int w5), (4, .int (nI i)), (0, .ref h0), (1, .ref dt), (2, .ref gt)]) (fun (i, w5) => []) (fun (i, w5) FF => i ≤ zd ∧ LHI gd (HST (UNM gd zd) gd zd D ze) i w5 ∧ FF dt = .inr (14, [.ref rd, .int (nI zd)]) ∧ FF rd = .inl (cs 17, nd, .inl gd)) (fun (i, w5) => i) ?_ (zd, 2) F_35 (⟨by omega, lhi_a hq0, hv4, hv5⟩) hO hR _ _ hP hD hS ls (lv_sub hl [0, 1, 3, 4, 5] rfl)
        rintro ⟨i, w5⟩ F_141 hv_144 hO hR ih_145 H locs hP hD hS ls hl
        have hl : lv_has ls 6 [(5, .int w5), (4, .int (nI i)), (0, .ref h0), (1, .ref dt), (2, .ref gt)] := hl
        have hv_144 : i ≤ zd ∧ LHI gd (HST (UNM gd zd) gd zd D ze) i w5 ∧ F_141 dt = .inr (14, [.ref rd, .int (nI zd)]) ∧ F_141 rd = .inl (cs 17, nd, .inl gd) := hv_144
        refine W.eq (g2 := F0 m 103 ls []) rfl ?_
        obtain ⟨hb1, hb2, hb3, hb4⟩ := id hv_144
        refine lv_iload hx hb dX15_houseOf_103 (lv_at hl 1 rfl) ?_
        refine lv_if_le (tgt := 140) hx hb dX15_houseOf_105 (by decide) (fun c_146 => ?_) (fun c_146 => ?_)
        ·
          have hi_147 : i ≤ 0 := (nI_leI (a := i) (b := 0) (by omega) (by omega)).mp c_146
          have hi0 : i = 0 := Nat.le_zero.mp ((nI_leI (a := i) (b := 0) (by omega) (by omega)).mp c_146)
          have hta : i = HST (UNM gd zd) gd zd D ze := lhi_e hb2 hi0
          refine lv_aload_n hx hb dX15_houseOf_140 rfl (lv_at hl 4 rfl) ?_
          refine lv_aload_n hx hb dX15_houseOf_141 rfl (lv_at hl 3 rfl) ?_
          refine pg_get (ci := 14) (v := .ref rd) (C := RX14) (T := TX14) (N := 2) hx hb hts it_14 hown hK hP hL_dt hb3 rfl 0 (by decide) (hts _ kt_710) (fun _ h9 => h9) rfl dX15_houseOf_142 ?_
          refine lv_iload hx hb dX15_houseOf_145 (lv_at hl 1 rfl) ?_
          refine lv_aload_n hx hb dX15_houseOf_147 rfl (lv_at hl 3 rfl) ?_
          refine pg_get (ci := 14) (v := .int (nI zd)) (C := RX14) (T := TX14) (N := 2) hx hb hts it_14 hown hK hP hL_dt hb3 rfl 1 (by decide) (hts _ kt_709) (fun _ h9 => h9) rfl dX15_houseOf_148 ?_
          obtain ⟨hq_148, hq_149⟩ := hW.octs hi_29 ht_30
          have hFc := pg_free hD hS hA
          obtain ⟨z_150, hF_151, hq_152⟩ := hO.txt hL_gt hT_gt
          refine va_callv (va_runV (As := [.ref rd, .int (nI i), .int (nI zd)]) (rest := []) ⟨hx, hb, hml, hown, hts⟩ (s_X14_set_e l dC dI cs ty gm L H.size F_141 gt τ rt nt rd σ nd i zd gd hW hL_gt hT_gt hi_29 ht_30 hb4 (by omega) (by omega) (by omega)) ⟨callB_of 3 hts (gi kt_951) rfl rfl rfl (hts _ kt_676) (hts _ kt_952) (by decide +kernel) ⟨Nat.le_of_ble_eq_true rfl, Nat.le_of_ble_eq_true rfl⟩, (hts _ kt_953), (hts _ kt_954)⟩ ⟨fun a U g mk q => ⟨q.1, PTm.calling q.2⟩, pg_recv hK hP hL_gt hF_151 (q := (RX14, TX14, 2)) rfl, fun U hU hWm => ⟨rfl, PTm.mk hU hWm hP hK hD hE hO⟩⟩ rfl rfl hl.1 rfl (lv_room (Nat.le_of_ble_eq_true rfl)) dX15_houseOf_151 ⟨by show _ + 0 ≤ 0; omega, by show _ + 0 ≤ 0; omega⟩) hS (fun q _ h => hFc q h) hFc (fun u t H1 locs ht hvm hw hB hz1 hk1 hS => ?_)
          obtain ⟨F_154, fc_155, hB1, hq_156, hq_157, hq_158⟩ := hB
          obtain ⟨hP, hD, hO, hR⟩ := QTm.back hB1 ht hFc hR (fun q h => by simp only [List.mem_cons, List.not_mem_nil, or_false] at h ⊢; omega)
          generalize H1 = H at hP hS ⊢
          refine W.widen (k := 0) (n := 0) (by omega) (by omega) ?_
          exact W.vret hx hb hr (fun t ht hWm => ⟨⟨(), rfl, trivial, ⟨F_154, (zd - i), fc_155, QTm.mk ht hP hD hO hR, hq_156, hq_157, (by rw [hta]), (by rw [← hta]; exact hq_158)⟩⟩, hS.F ht⟩) hS.2.2 dX15_houseOf_154
        ·
          have hi_159 : 0 < i := Nat.not_le.mp (fun q => c_146 ((nI_leI (a := i) (b := 0) (by omega) (by omega)).mpr q))
          have hi1 : 0 < i := posN c_146
          refine lv_iinc (v := (nI (i - 1))) (lv' := [(4, .int (nI (i - 1))), (5, .int w5), (0, .ref h0), (1, .ref dt), (2, .ref gt)]) hx hb dX15_houseOf_108 hl (k := 1) rfl (m1N (by omega)) (by decide) rfl (fun ls hl => ?_)
          refine lv_aload_n hx hb dX15_houseOf_111 rfl (lv_at hl 3 rfl) ?_
          refine pg_get (ci := 14) (v := .ref rd) (C := RX14) (T := TX14) (N := 2) hx hb hts it_14 hown hK hP hL_dt hb3 rfl 0 (by decide) (hts _ kt_710) (fun _ h9 => h9) rfl dX15_houseOf_112 ?_
          refine lv_iload hx hb dX15_houseOf_115 (lv_at hl 0 rfl) ?_
          obtain ⟨hq_160, hq_161⟩ := hW.octs hi_29 ht_30
          refine pg_bald hx hb hK hP hi_29 1 hb4 rfl (vp_in_nI (by omega) (by omega)) dX15_houseOf_117 ?_
          refine lv_topi (fun x_162 ex_162 => ?_)
          obtain rfl : x_162 = gd (i - 1) := ex_162.trans (congrArg gd (show ((nI (i - 1)) : Int32).toNatClampNeg = (i - 1) from nI_clamp (by omega)))
          refine lv_bipush (v := 46) hx hb dX15_houseOf_118 (by decide) ?_
          refine lv_icmp_eq (tgt := 126) hx hb dX15_houseOf_120 (by decide) (fun c_163 => ?_) (fun c_163 => ?_)
          ·
            obtain ⟨x_164, ex_164⟩ : ∃ y : Int32, y = w5 + Int32.ofInt (-1) := ⟨_, rfl⟩
            refine lv_iinc (v := x_164) (lv' := [(5, .int x_164), (4, .int (nI (i - 1))), (0, .ref h0), (1, .ref dt), (2, .ref gt)]) hx hb dX15_houseOf_126 hl (k := 1) rfl (ex_164.symm) (by decide) rfl (fun ls hl => ?_)
            refine lv_iload hx hb dX15_houseOf_129 (lv_at hl 0 rfl) ?_
            refine lv_if_ne (tgt := 103) hx hb dX15_houseOf_131 (by decide) (fun c_165 => ?_) (fun c_165 => ?_)
            ·
              refine W.widen (k := 0) (n := 0) (by omega) (by omega) ?_
              exact ih_145 ((i - 1), x_164) F_141 (⟨by omega, lhi_2 hb2 hi1 c_163 ex_164 c_165, hb3, hb4⟩) (by show (i - 1) < i; omega) hO hR _ _ hP hD hS ls (lv_sub hl [0, 1, 2, 3, 4] rfl)
            ·
              have hta : i - 1 + 1 = HST (UNM gd zd) gd zd D ze := by have h9 := lhi_1 hb2 hi1 c_163 ex_164 c_165; omega
              refine lv_iinc (v := (nI (i - 1 + 1))) (lv' := [(4, .int (nI (i - 1 + 1))), (5, .int x_164), (0, .ref h0), (1, .ref dt), (2, .ref gt)]) hx hb dX15_houseOf_134 hl (k := 1) rfl (nI_1 (i - 1)) (by decide) rfl (fun ls hl => ?_)
              refine lv_goto (tgt := 140) hx hb dX15_houseOf_137 (by decide) ?_
              refine lv_aload_n hx hb dX15_houseOf_140 rfl (lv_at hl 4 rfl) ?_
              refine lv_aload_n hx hb dX15_houseOf_141 rfl (lv_at hl 3 rfl) ?_
              refine pg_get (ci := 14) (v := .ref rd) (C := RX14) (T := TX14) (N := 2) hx hb hts it_14 hown hK hP hL_dt hb3 rfl 0 (by decide) (hts _ kt_710) (fun _ h9 => h9) rfl dX15_houseOf_142 ?_
              refine lv_iload hx hb dX15_houseOf_145 (lv_at hl 0 rfl) ?_
              refine lv_aload_n hx hb dX15_houseOf_147 rfl (lv_at hl 3 rfl) ?_
              refine pg_get (ci := 14) (v := .int (nI zd)) (C := RX14) (T := TX14) (N := 2) hx hb hts it_14 hown hK hP hL_dt hb3 rfl 1 (by decide) (hts _ kt_709) (fun _ h9 => h9) rfl dX15_houseOf_148 ?_
              have hFc := pg_free hD hS hA
              obtain ⟨z_166, hF_167, hq_168⟩ := hO.txt hL_gt hT_gt
              refine va_callv (va_runV (As := [.ref rd, .int (nI (i - 1 + 1)), .int (nI zd)]) (rest := []) ⟨hx, hb, hml, hown, hts⟩ (s_X14_set_e l dC dI cs ty gm L H.size F_141 gt τ rt nt rd σ nd (i - 1 + 1) zd gd hW hL_gt hT_gt hi_29 ht_30 hb4 (by omega) (by omega) (by omega)) ⟨callB_of 3 hts (gi kt_951) rfl rfl rfl (hts _ kt_676) (hts _ kt_952) (by decide +kernel) ⟨Nat.le_of_ble_eq_true rfl, Nat.le_of_ble_eq_true rfl⟩, (hts _ kt_953), (hts _ kt_954)⟩ ⟨fun a U g mk q => ⟨q.1, PTm.calling q.2⟩, pg_recv hK hP hL_gt hF_167 (q := (RX14, TX14, 2)) rfl, fun U hU hWm => ⟨rfl, PTm.mk hU hWm hP hK hD hE hO⟩⟩ rfl rfl hl.1 rfl (lv_room (Nat.le_of_ble_eq_true rfl)) dX15_houseOf_151 ⟨by show _ + 0 ≤ 0; omega, by show _ + 0 ≤ 0; omega⟩) hS (fun q _ h => hFc q h) hFc (fun u t H1 locs ht hvm hw hB hz1 hk1 hS => ?_)
              obtain ⟨F_170, fc_171, hB1, hq_172, hq_173, hq_174⟩ := hB
              obtain ⟨hP, hD, hO, hR⟩ := QTm.back hB1 ht hFc hR (fun q h => by simp only [List.mem_cons, List.not_mem_nil, or_false] at h ⊢; omega)
              generalize H1 = H at hP hS ⊢
              refine W.widen (k := 0) (n := 0) (by omega) (by omega) ?_
              exact W.vret hx hb hr (fun t ht hWm => ⟨⟨(), rfl, trivial, ⟨F_170, (zd - (i - 1 + 1)), fc_171, QTm.mk ht hP hD hO hR, hq_172, hq_173, (by rw [hta]), (by rw [← hta]; exact hq_174)⟩⟩, hS.F ht⟩) hS.2.2 dX15_houseOf_154
          ·
            refine lv_goto (tgt := 103) hx hb dX15_houseOf_123 (by decide) ?_
            refine W.widen (k := 0) (n := 0) (by omega) (by omega) ?_
            exact ih_145 ((i - 1), w5) F_141 (⟨by omega, lhi_n hb2 hi1 c_163, hb3, hb4⟩) (by show (i - 1) < i; omega) hO hR _ _ hP hD hS ls (lv_sub hl [1, 0, 2, 3, 4] rfl)
      ·
        exact absurd (show (0 : Int32) ≤ w3 by rw [c_140]; exact Int32.not_lt.mp (nI_pos (by omega))) c_64
  ·
    have hi_175 : j < ze := ltN (N := ze) c_62
    have hjz : j < ze := by omega
    refine lv_aload_n hx hb dX15_houseOf_14 rfl (lv_at hl 2 rfl) ?_
    refine pg_get (ci := 15) (v := .ref so) (C := RX15) (T := TX15) (N := 59) hx hb hts it_15 hown hK hP hL_h0 hF_56 rfl 5 (by decide) (hts _ kt_718) (fun _ h9 => h9) rfl dX15_houseOf_15 ?_
    refine lv_iload hx hb dX15_houseOf_18 (lv_at hl 0 rfl) ?_
    obtain ⟨hi_176, ht_177⟩ := hW.f_so hL_h0 hT_h0
    obtain ⟨hq_178, hq_179⟩ := hW.ints hi_176 ht_177
    refine pg_iald hx hb hK hP hi_176 0 hd1 rfl (vp_in_nI (by omega) (by omega)) dX15_houseOf_20 ?_
    refine lv_topi (fun x_180 ex_180 => ?_)
    obtain rfl : x_180 = (D j).1 := ex_180.trans ((congrArg fs (nI_clamp (by omega))).trans (hd5 j hjz).1)
    refine lv_iconst (v := 4) hx hb dX15_houseOf_21 (by decide) ?_
    refine lv_icmp_ne (tgt := 54) hx hb dX15_houseOf_22 (by decide) (fun c_181 => ?_) (fun c_181 => ?_)
    ·
      refine lv_iinc (v := (nI (j + 1))) (lv' := [(4, .int (nI (j + 1))), (3, .int w3), (0, .ref h0), (1, .ref dt), (2, .ref gt)]) hx hb dX15_houseOf_54 hl (k := 0) rfl (nI_1 _) (by decide) rfl (fun ls hl => ?_)
      refine lv_goto (tgt := 5) hx hb dX15_houseOf_57 (by decide) ?_
      refine W.widen (k := 0) (n := 0) (by omega) (by omega) ?_
      exact ih_37 ((j + 1), w3) F_35 (⟨by omega, lgw_n hv2 (fun q => c_181 q.1), hv3, hv4, hv5⟩) (by show ze - (j + 1) < ze - j; omega) hO hR _ _ hP hD hS ls (lv_sub hl [0, 1, 2, 3, 4] rfl)
    ·
      refine lv_aload_n hx hb dX15_houseOf_25 rfl (lv_at hl 3 rfl) ?_
      refine lv_aload_n hx hb dX15_houseOf_26 rfl (lv_at hl 2 rfl) ?_
      refine pg_get (ci := 15) (v := .ref na) (C := RX15) (T := TX15) (N := 59) hx hb hts it_15 hown hK hP hL_h0 hF_56 rfl 7 (by decide) (hts _ kt_719) (fun _ h9 => h9) rfl dX15_houseOf_27 ?_
      refine lv_iload hx hb dX15_houseOf_30 (lv_at hl 0 rfl) ?_
      obtain ⟨b_182, r_183, hbf_184, hi_185, ht_186⟩ := hq_42 j (by omega)
      refine pg_aald (r := b_182) hx hb hK hP hi_38 7 hF_41 rfl (vp_in_nI (by omega) (by omega)) (show f_40 ((nI j) : Int32).toNatClampNeg = _ from by rw [show ((nI j) : Int32) = nI j from rfl, nI_clamp (by omega)]; exact hbf_184) dX15_houseOf_32 ?_
      obtain ⟨hen1, hen2, hen3⟩ := ENM.get (hd5 j hjz).2.2.1 hbf_184 hO hi_185 ht_186
      obtain ⟨hi_187, ht_188, hq_189⟩ := hW.txt hi_185 ht_186
      obtain ⟨hq_190, hq_191⟩ := hW.octs hi_29 ht_30
      obtain ⟨hq_192, hq_193⟩ := hW.octs hi_187 ht_188
      have hFc := pg_free hD hS hA
      refine va_calli (va_runV (As := [.ref b_182]) (rest := []) ⟨hx, hb, hml, hown, hts⟩ (s_X14_isUnder_e l dC dI cs ty gm L H.size F_35 dt σ rd nd b_182 (ρ + 4 + j + 100) r_183 60 zd ((D j).2.2.1) gd ((D j).2.2.2.1) hW hL_dt hT_dt hi_185 ht_186 hv4 hv5 hen1 hen2 (by first | omega | assumption | exact Or.inl rfl) (by first | omega | assumption | exact Or.inl rfl)) ⟨callB_of 1 hts (gi kt_955) rfl rfl rfl (hts _ kt_676) (hts _ kt_956) (by decide +kernel) ⟨Nat.le_of_ble_eq_true rfl, Nat.le_of_ble_eq_true rfl⟩, (hts _ kt_957), (hts _ kt_958)⟩ ⟨fun a U g mk q => ⟨q.1, PTm.calling q.2⟩, pg_recv hK hP hL_dt hv4 (q := (RX14, TX14, 2)) rfl, fun U hU hWm => ⟨rfl, PTm.mk hU hWm hP hK hD hE hO⟩⟩ rfl rfl hl.1 rfl (lv_room (Nat.le_of_ble_eq_true rfl)) dX15_houseOf_33 ⟨by show _ + 0 ≤ 0; omega, by show _ + 0 ≤ 0; omega⟩) hS (fun q _ h => hFc q h) hFc (fun r_194 u t H1 locs ht hvm hw hB hz1 hk1 hS => ?_)
      obtain ⟨F_195, hB1⟩ := hB
      obtain rfl : F_35 = F_195 := (funext (fun a => hB1.2.2.2 a List.not_mem_nil)).symm
      obtain ⟨hP, hD, hO, hR⟩ := QTm.back hB1 ht hFc hR (fun q h => absurd h List.not_mem_nil)
      generalize H1 = H at hP hS ⊢
      have hw : (r_194 = 1 ∧ UNM gd zd (D j).2.2.2.1 (D j).2.2.1) ∨ (r_194 = 0 ∧ ¬ UNM gd zd (D j).2.2.2.1 (D j).2.2.1) := hw
      have hw_196 := hw
      refine lv_if_eq (tgt := 54) hx hb dX15_houseOf_36 (by decide) (fun c_197 => ?_) (fun c_197 => ?_)
      ·
        refine lv_iinc (v := (nI (j + 1))) (lv' := [(4, .int (nI (j + 1))), (3, .int w3), (0, .ref h0), (1, .ref dt), (2, .ref gt)]) hx hb dX15_houseOf_54 hl (k := 0) rfl (nI_1 _) (by decide) rfl (fun ls hl => ?_)
        refine lv_goto (tgt := 5) hx hb dX15_houseOf_57 (by decide) ?_
        refine W.widen (k := 0) (n := 0) (by omega) (by omega) ?_
        exact ih_37 ((j + 1), w3) F_35 (⟨by omega, lgw_n hv2 (fun q => orp0 hw_196 c_197 q.2), hv3, hv4, hv5⟩) (by show ze - (j + 1) < ze - j; omega) hO hR _ _ hP hD hS ls (lv_sub hl [0, 1, 2, 3, 4] rfl)
      ·
        refine lv_iload_n hx hb dX15_houseOf_39 rfl (lv_at hl 1 rfl) ?_
        refine lv_aload_n hx hb dX15_houseOf_40 rfl (lv_at hl 2 rfl) ?_
        refine pg_get (ci := 15) (v := .ref na) (C := RX15) (T := TX15) (N := 59) hx hb hts it_15 hown hK hP hL_h0 hF_56 rfl 7 (by decide) (hts _ kt_719) (fun _ h9 => h9) rfl dX15_houseOf_41 ?_
        refine lv_iload hx hb dX15_houseOf_44 (lv_at hl 0 rfl) ?_
        refine pg_aald (r := b_182) hx hb hK hP hi_38 7 hF_41 rfl (vp_in_nI (by omega) (by omega)) (show f_40 ((nI j) : Int32).toNatClampNeg = _ from by rw [show ((nI j) : Int32) = nI j from rfl, nI_clamp (by omega)]; exact hbf_184) dX15_houseOf_46 ?_
        refine pg_get (ci := 14) (v := .int (nI (D j).2.2.1)) (C := RX14) (T := TX14) (N := 2) hx hb hts it_14 hown hK hP hi_185 hen1 rfl 1 (by decide) (hts _ kt_709) (fun _ h9 => h9) rfl dX15_houseOf_47 ?_
        refine va_mmax hx hb (by rw [hml]; exact hl.1.symm) hown (hts _ kt_959) (hts _ kt_18) (hts _ kt_19) (hts _ kt_20) (Nat.le_of_ble_eq_true rfl) (Nat.le_of_ble_eq_true rfl) (by show _ ≤ 0; omega) (by show _ ≤ 0; omega) dX15_houseOf_50 ?_
        refine lv_topi (fun x_198 ex_198 => ?_)
        obtain rfl : x_198 = (mxl w3 (D j).2.2.1) := ex_198.trans (rfl)
        refine lv_istore_n (lv' := [(3, .int (mxl w3 (D j).2.2.1)), (4, .int (nI j)), (0, .ref h0), (1, .ref dt), (2, .ref gt)]) hx hb dX15_houseOf_53 rfl hl (by decide) rfl (fun ls hl => ?_)
        refine lv_iinc (v := (nI (j + 1))) (lv' := [(4, .int (nI (j + 1))), (3, .int (mxl w3 (D j).2.2.1)), (0, .ref h0), (1, .ref dt), (2, .ref gt)]) hx hb dX15_houseOf_54 hl (k := 1) rfl (nI_1 _) (by decide) rfl (fun ls hl => ?_)
        refine lv_goto (tgt := 5) hx hb dX15_houseOf_57 (by decide) ?_
        refine W.widen (k := 0) (n := 0) (by omega) (by omega) ?_
        exact ih_37 ((j + 1), (mxl w3 (D j).2.2.1)) F_35 (⟨by omega, lgw_y hv2 c_181 (orp1 hw_196 c_197) hen3, hv3, hv4, hv5⟩) (by show ze - (j + 1) < ze - j; omega) hO hR _ _ hP hD hS ls (lv_sub hl [0, 1, 2, 3, 4] rfl)
set_option maxHeartbeats 4000000 in
set_option maxRecDepth 100000 in
theorem s_X15_house_e (l : Launch) (dC : Nat → ClassId) (dI : Nat → Nat → Nat) (cs : Nat → ClassId) (ty : TyM) (gm : Nat → Nat → Nat) (L : List Nat) (sz : Nat) (F : Nat → va_E) (h0 : Nat) (ρ : Nat) (ta : Nat) (ou : Nat) (so : Nat) (ad : Nat) (na : Nat) (va : Nat) (lc : Nat) (dm : Nat) (tg : Nat) (pe : Nat) (ml : Nat) (bg : Nat) (co : Nat) (sp : Nat) (nb0 : Nat) (nb1 : Nat) (nb2 : Nat) (pl : Nat) (se : Nat) (ke : Nat) (wi : Nat) (hs : Nat) (mo : Nat) (po : Nat) (nu : Nat) (pr : Nat) (sq : Nat) (xa : Nat) (sa : Nat) (n64 : Nat) (m64 : Nat) (ex : Nat) (wh : Nat) (sd : Nat) (tk : Nat) (hd : Nat) (ak : Nat) (ho : Nat) (ot : Nat) (sx : Nat) (s0 : Nat) (s1 : Nat) (s2 : Nat) (nf : Nat) (bd : Nat) (mm : Nat) (fm : Nat) (sn : Nat) (hg : Nat) (gc : Nat) (gv : Nat) (ze : Nat) (zt : Nat) (gt : Nat → Int32) (D : Nat → ETY) (hW : WTm ty gm L) (hL_h0 : h0 ∈ L) (hT_h0 : ty h0 = (15, ρ, [ta, ou, so, ad, na, va, lc, dm, tg, pe, ml, bg, co, sp, nb0, nb1, nb2, pl, se, ke, wi, hs, mo, po, nu, pr, sq, xa, sa, n64, m64, ex, wh, sd, tk, hd, ak, ho, ot, sx, s0, s1, s2, nf, bd, mm, fm, sn, hg, gc, gv, ze, zt])) (hFta : F ta = .inl (cs 17, 3000, .inl gt)) (hDM : DIRM cs F so ad na va ze D) : Met l yX15_house (.code yX15_house cX15_house 2 (some .int) :: tb) ({ frames := 4, cells := 0, slots := 0, locals := 119 }) (va_Pc [.ref h0] (PTm (dC, dI) cs ty gm L F sz)) (va_Qi (fun (r : Int32) (_ : Unit) => r = HSM gt zt D ze) (fun _ T9 => ∃ F2 : Nat → va_E, ∃ ty2 : TyM, ty2 = rtf ty h0 (15, ρ, [ta, ou, so, ad, na, va, lc, dm, tg, pe, ml, bg, co, sp, nb0, nb1, nb2, pl, se, ke, wi, hs, mo, po, nu, pr, sq, xa, sa, n64, m64, ex, wh, sd, tk, hd, ak, ho, ot, sx, s0, s1, s2, nf, bd, mm, fm, sn, hg, gc, gv, ze, 0]) ∧ QTm (dC, dI) cs ty2 gm L [ρ, ρ + 2, ρ + 28, ρ + 29] F F2 (va_A (va_pl L F) sz) T9 ∧ WTm ty2 gm L) (va_A (va_pl L F) sz)) 0 0 (va_A (va_pl L F) sz) := by
  refine Met.ofW (cc := cX15_house) (maxL := 2) (ret := (some .int)) (by decide) rfl ?_
  intro p e s m args below meth c s₁ B hml hv
  obtain ⟨rfl, hsz, hP, hK, hD0, hE, hO⟩ := hv
  have hx := B.exec
  have hb := B.bytes
  have hr := B.returns
  have hts : ∀ w ∈ tb, w.before _ s = true := fun w h => atoms_spec (ws := .code yX15_house cX15_house 2 (some .int) :: tb) B.pre w (List.mem_cons_of_mem _ h)
  have hown : s.vm.findClass RX15 = some m.cls := findClass_of_methodNamed B.named
  have hlocks := B.notSynchronized
  subst hsz
  have hD := hD0.self (sz := s.heap.size)
  generalize hAe : va_A (va_pl L F) s.heap.size = A at hD ⊢
  have hA : ∀ q : Nat, s.heap.size ≤ q → A q := fun q h => by rw [← hAe]; exact Or.inr h
  have hS : va_S A s.heap s.heap [] := va_S.rf
  have hR : FR ty [ρ, ρ + 2, ρ + 28, ρ + 29] F F := FR.refl
  have hl := lv_entry ([.ref h0]) (n := 2) (Nat.le_of_ble_eq_true rfl)
  rw [lg_entry_eq]
  generalize (lg_sl ([.ref h0]) ++ List.replicate (2 - (lg_sl ([.ref h0])).length) Slot.unset).toArray = ls at hl ⊢
  have hl : lv_has ls 2 [(0, .ref h0)] := hl
  obtain ⟨hq_23, hq_24, hq_25, hq_26, hq_27, hgO, hgA, hgB, hq_28⟩ := hW.sc hL_h0 hT_h0
  have hO0 := hO
  have hW0 := hW
  have hT00 := hT_h0
  obtain ⟨hLs0, hTs0⟩ := hW.f_so hL_h0 hT_h0
  obtain ⟨hLd0, hTd0⟩ := hW.f_ad hL_h0 hT_h0
  obtain ⟨hLn0, hTn0⟩ := hW.f_na hL_h0 hT_h0
  obtain ⟨hLv0, hTv0⟩ := hW.f_va hL_h0 hT_h0
  obtain ⟨fs, fd, fn, fv, hd1, hd2, hd3, hd4, hd5⟩ := id hDM
  refine lv_aload_n hx hb dX15_house_0 rfl (lv_at hl 0 rfl) ?_
  obtain ⟨zo_29, v14_30, v15_31, v17_32, v18_33, v19_34, v20_35, v21_36, v22_37, v33_38, v52_39, v53_40, v54_41, hF_42, hq_43, hq_44, hq_45, hq_46, hq_47⟩ := hO.mod hL_h0 hT_h0
  have hFc := pg_free hD hS hA
  refine va_calli (va_runV (As := []) (rest := []) ⟨hx, hb, hml, hown, hts⟩ (s_X15_used l dC dI cs ty gm L s.heap.size F h0 ρ ta ou so ad na va lc dm tg pe ml bg co sp nb0 nb1 nb2 pl se ke wi hs mo po nu pr sq xa sa n64 m64 ex wh sd tk hd ak ho ot sx s0 s1 s2 nf bd mm fm sn hg gc gv ze zt zo_29 v14_30 v15_31 v17_32 v18_33 v19_34 v20_35 v21_36 v22_37 v33_38 v52_39 v53_40 v54_41 hW hL_h0 hT_h0 hF_42 (by first | omega | assumption | exact Or.inl rfl) (by first | omega | assumption | exact Or.inl rfl) (by first | omega | assumption | exact Or.inl rfl) (by first | omega | assumption | exact Or.inl rfl) (by first | omega | assumption | exact Or.inl rfl)) ⟨callB_of 0 hts (gi kt_1005) rfl rfl rfl (hts _ kt_669) (hts _ kt_1006) (by decide +kernel) ⟨Nat.le_of_ble_eq_true rfl, Nat.le_of_ble_eq_true rfl⟩, (hts _ kt_1007), (hts _ kt_1008)⟩ ⟨fun a U g mk q => ⟨q.1, PTm.calling q.2⟩, pg_recv hK hP hL_h0 hF_42 (q := (RX15, TX15, 59)) rfl, fun U hU hWm => ⟨rfl, PTm.mk hU hWm hP hK hD hE hO⟩⟩ rfl rfl hl.1 rfl (lv_room (Nat.le_of_ble_eq_true rfl)) dX15_house_1 ⟨by show _ + 0 ≤ 0; omega, by show _ + 0 ≤ 0; omega⟩) hS (fun q _ h => hFc q h) hFc (fun r_48 u t H1 locs ht hvm hw hB hz1 hk1 hS => ?_)
  obtain ⟨F_49, ty9, hty9, hB1, hW9, hq_50⟩ := hB
  subst hty9
  have hR9 := FR.retype (im2 := [ta, ou, so, ad, na, va, lc, dm, tg, pe, ml, bg, co, sp, nb0, nb1, nb2, pl, se, ke, wi, hs, mo, po, nu, pr, sq, xa, sa, n64, m64, ex, wh, sd, tk, hd, ak, ho, ot, sx, s0, s1, s2, nf, bd, mm, fm, sn, hg, gc, gv, ze, 0]) hT_h0 hR
  obtain ⟨hP, hD, hO, hR⟩ := QTm.back hB1 ht hFc hR9 (fun q h => by simp only [List.mem_cons, List.not_mem_nil, or_false] at h ⊢; omega)
  obtain ⟨ty, hty, hT_h0, hW, hO, hR⟩ : ∃ t9 : TyM, t9 = rtf ty h0 (15, ρ, [ta, ou, so, ad, na, va, lc, dm, tg, pe, ml, bg, co, sp, nb0, nb1, nb2, pl, se, ke, wi, hs, mo, po, nu, pr, sq, xa, sa, n64, m64, ex, wh, sd, tk, hd, ak, ho, ot, sx, s0, s1, s2, nf, bd, mm, fm, sn, hg, gc, gv, ze, 0]) ∧ t9 h0 = (15, ρ, [ta, ou, so, ad, na, va, lc, dm, tg, pe, ml, bg, co, sp, nb0, nb1, nb2, pl, se, ke, wi, hs, mo, po, nu, pr, sq, xa, sa, n64, m64, ex, wh, sd, tk, hd, ak, ho, ot, sx, s0, s1, s2, nf, bd, mm, fm, sn, hg, gc, gv, ze, 0]) ∧ WTm t9 gm L ∧ OKm cs t9 gm L F_49 ∧ FR t9 [ρ, ρ + 2, ρ + 28, ρ + 29] F F_49 := ⟨_, rfl, rtf_self, hW9, hO, hR⟩
  generalize H1 = H at hP hS ⊢
  have hw : r_48 = nI zt := hw
  subst hw
  obtain ⟨hq_73, hq_74, hq_75, hq_76, hq_77, hgO, hgA, hgB, hq_78⟩ := hW.sc hL_h0 hT_h0
  obtain ⟨hi_80, ht_81⟩ := hW.f_ta hL_h0 hT_h0
  have hF_79 : F_49 ta = .inl (cs 17, 3000, .inl gt) := (hB1.2.2.2 ta (by rw [← hty, ht_81]; simp)).trans hFta
  refine lv_istore_n (lv' := [(1, .int (nI zt)), (0, .ref h0)]) hx hb dX15_house_4 rfl hl (by decide) rfl (fun ls hl => ?_)
  refine lv_aload_n hx hb dX15_house_5 rfl (lv_at hl 1 rfl) ?_
  refine pg_get (ci := 15) (v := .ref ta) (C := RX15) (T := TX15) (N := 59) hx hb hts it_15 hown hK hP hL_h0 hq_50 rfl 0 (by decide) (hts _ kt_1009) (fun _ h9 => h9) rfl dX15_house_6 ?_
  refine lv_iconst (v := 0) hx hb dX15_house_9 (by decide) ?_
  refine lv_iload_n hx hb dX15_house_10 rfl (lv_at hl 0 rfl) ?_
  refine W.eq (g2 := F0 m 11 ls [.int (nI zt), .int (nI 0), .ref ta]) rfl ?_
  obtain ⟨hq_82, hq_83⟩ := hW.octs hi_80 ht_81
  have hFc := pg_free hD hS hA
  refine va_calli (va_runS (As := [.ref ta, .int (nI 0), .int (nI zt)]) (rest := []) ⟨hx, hb, hml, hown, hts⟩ (s_X14_isName_e l dC dI cs ty gm L H.size F_49 ta (ρ + 1) 3000 0 zt gt hW hi_80 ht_81 hF_79 (by first | omega | assumption | exact Or.inl rfl) (by first | omega | assumption | exact Or.inl rfl)) ⟨callB_of 3 hts (gi kt_689) rfl rfl rfl (hts _ kt_676) (hts _ kt_848) (by decide +kernel) ⟨Nat.le_of_ble_eq_true rfl, Nat.le_of_ble_eq_true rfl⟩, (hts _ kt_691)⟩ ⟨fun a U g mk q => ⟨q.1, PTm.calling q.2⟩, fun U hU hWm => ⟨rfl, PTm.mk hU hWm hP hK hD hE hO⟩⟩ rfl rfl hl.1 rfl (lv_room (Nat.le_of_ble_eq_true rfl)) dX15_house_11 ⟨by show _ + 0 ≤ 0; omega, by show _ + 0 ≤ 0; omega⟩) hS (fun q _ h => hFc q h) hFc (fun r_84 u t H1 locs ht hvm hw hB hz1 hk1 hS => ?_)
  obtain ⟨F_85, hB1⟩ := hB
  obtain rfl : F_49 = F_85 := (funext (fun a => hB1.2.2.2 a List.not_mem_nil)).symm
  obtain ⟨hP, hD, hO, hR⟩ := QTm.back hB1 ht hFc hR (fun q h => absurd h List.not_mem_nil)
  generalize H1 = H at hP hS ⊢
  have hw : r_84 = (if NM gt 0 zt = true then 1 else 0) := hw
  have hw_86 := hw
  refine lv_if_ne (tgt := 19) hx hb dX15_house_14 (by decide) (fun c_87 => ?_) (fun c_87 => ?_)
  ·
    refine lv_aload_n hx hb dX15_house_19 rfl (lv_at hl 1 rfl) ?_
    refine pg_get (ci := 15) (v := .ref ak) (C := RX15) (T := TX15) (N := 59) hx hb hts it_15 hown hK hP hL_h0 hq_50 rfl 56 (by decide) (hts _ kt_999) (fun _ h9 => h9) rfl dX15_house_20 ?_
    refine lv_aload_n hx hb dX15_house_23 rfl (lv_at hl 1 rfl) ?_
    refine pg_get (ci := 15) (v := .ref ta) (C := RX15) (T := TX15) (N := 59) hx hb hts it_15 hown hK hP hL_h0 hq_50 rfl 0 (by decide) (hts _ kt_1009) (fun _ h9 => h9) rfl dX15_house_24 ?_
    refine lv_iconst (v := 0) hx hb dX15_house_27 (by decide) ?_
    refine lv_iload_n hx hb dX15_house_28 rfl (lv_at hl 0 rfl) ?_
    refine W.eq (g2 := F0 m 29 ls [.int (nI zt), .int (nI 0), .ref ta, .ref ak]) rfl ?_
    obtain ⟨hi_88, r_70, ht_89⟩ := hW.f_ak hL_h0 hT_h0
    obtain ⟨hi_90, ht_91, hq_92⟩ := hW.txt hi_88 ht_89
    have hFc := pg_free hD hS hA
    obtain ⟨z_93, hF_94, hq_95⟩ := hO.txt hi_88 ht_89
    refine va_callv (va_runV (As := [.ref ta, .int (nI 0), .int (nI zt)]) (rest := []) ⟨hx, hb, hml, hown, hts⟩ (s_X14_set_e l dC dI cs ty gm L H.size F_49 ak (ρ + 28) r_70 6000 ta (ρ + 1) 3000 0 zt gt hW hi_88 ht_89 hi_80 ht_81 hF_79 (Nat.zero_le _) (by omega) (by omega)) ⟨callB_of 3 hts (gi kt_951) rfl rfl rfl (hts _ kt_676) (hts _ kt_952) (by decide +kernel) ⟨Nat.le_of_ble_eq_true rfl, Nat.le_of_ble_eq_true rfl⟩, (hts _ kt_953), (hts _ kt_954)⟩ ⟨fun a U g mk q => ⟨q.1, PTm.calling q.2⟩, pg_recv hK hP hi_88 hF_94 (q := (RX14, TX14, 2)) rfl, fun U hU hWm => ⟨rfl, PTm.mk hU hWm hP hK hD hE hO⟩⟩ rfl rfl hl.1 rfl (lv_room (Nat.le_of_ble_eq_true rfl)) dX15_house_29 ⟨by show _ + 0 ≤ 0; omega, by show _ + 0 ≤ 0; omega⟩) hS (fun q _ h => hFc q h) hFc (fun u t H1 locs ht hvm hw hB hz1 hk1 hS => ?_)
    obtain ⟨F_97, fc_98, hB1, hq_99, hq_100, hq_101⟩ := hB
    obtain ⟨hP, hD, hO, hR⟩ := QTm.back hB1 ht hFc hR (fun q h => by simp only [List.mem_cons, List.not_mem_nil, or_false] at h ⊢; omega)
    have hF_102 : F_97 h0 = .inr (15, (.ref ta) :: (.int 0) :: (.int (nI zo_29)) :: (.int (nI ze)) :: (.ref ou) :: (.ref so) :: (.ref ad) :: (.ref na) :: (.ref va) :: (.ref lc) :: (.ref dm) :: (.int (nI fm)) :: (.int (nI sn)) :: (.ref tg) :: (.int v14_30) :: (.int v15_31) :: (.ref pe) :: (.int v17_32) :: (.int v18_33) :: (.int v19_34) :: (.int v20_35) :: (.int v21_36) :: (.int v22_37) :: (.ref ml) :: (.ref bg) :: (.ref co) :: (.ref sp) :: (.ref nb0) :: (.ref nb1) :: (.ref nb2) :: (.int (nI nf)) :: (.int (nI bd)) :: (.int (nI mm)) :: (.int v33_38) :: (.ref pl) :: (.ref se) :: (.ref ke) :: (.ref wi) :: (.ref hs) :: (.ref mo) :: (.ref po) :: (.ref nu) :: (.ref pr) :: (.ref sq) :: (.ref xa) :: (.ref sa) :: (.ref n64) :: (.ref m64) :: (.ref ex) :: (.ref wh) :: (.ref sd) :: (.ref tk) :: (.int v52_39) :: (.int v53_40) :: (.int v54_41) :: (.ref hd) :: (.ref ak) :: (.ref ho) :: (.ref ot) :: []) := (hB1.2.2.2 h0 (by rw [hT_h0]; simp)).trans hq_50
    have hF_103 : F_97 ta = .inl (cs 17, 3000, .inl gt) := (hB1.2.2.2 ta (by rw [ht_81]; simp)).trans hF_79
    generalize H1 = H at hP hS ⊢
    refine lv_aload_n hx hb dX15_house_32 rfl (lv_at hl 1 rfl) ?_
    refine lv_aload_n hx hb dX15_house_33 rfl (lv_at hl 1 rfl) ?_
    refine pg_get (ci := 15) (v := .ref ak) (C := RX15) (T := TX15) (N := 59) hx hb hts it_15 hown hK hP hL_h0 hF_102 rfl 56 (by decide) (hts _ kt_999) (fun _ h9 => h9) rfl dX15_house_34 ?_
    refine lv_aload_n hx hb dX15_house_37 rfl (lv_at hl 1 rfl) ?_
    refine pg_get (ci := 15) (v := .ref ho) (C := RX15) (T := TX15) (N := 59) hx hb hts it_15 hown hK hP hL_h0 hF_102 rfl 57 (by decide) (hts _ kt_960) (fun _ h9 => h9) rfl dX15_house_38 ?_
    have hR0 := FR.unre hT00 hty hR
    have hQna := hR0 na (by rw [hTn0]; simp only [List.mem_cons, List.not_mem_nil, or_false]; omega)
    have hQva := hR0 va (by rw [hTv0]; simp only [List.mem_cons, List.not_mem_nil, or_false]; omega)
    have hQso := hR0 so (by rw [hTs0]; simp only [List.mem_cons, List.not_mem_nil, or_false]; omega)
    have hQad := hR0 ad (by rw [hTd0]; simp only [List.mem_cons, List.not_mem_nil, or_false]; omega)
    have hDM5 := DIRM.fr hDM hO0 hW0 hLn0 hTn0 hLv0 hTv0 (by omega) hR0 hQso hQad hQna hQva (fun k hk => ⟨by simp only [List.mem_cons, List.not_mem_nil, or_false]; omega, by simp only [List.mem_cons, List.not_mem_nil, or_false]; omega⟩)
    obtain ⟨hi_104, r_71, ht_105⟩ := hW.f_ho hL_h0 hT_h0
    obtain ⟨hi_106, ht_107, hq_108⟩ := hW.txt hi_104 ht_105
    obtain ⟨hq_109, hq_110⟩ := hW.octs hi_90 ht_91
    have hFc := pg_free hD hS hA
    refine va_callv (va_runV (As := [.ref ak, .ref ho]) (rest := []) ⟨hx, hb, hml, hown, hts⟩ (s_X15_houseOf_e l dC dI cs ty gm L H.size F_97 h0 ρ ta ou so ad na va lc dm tg pe ml bg co sp nb0 nb1 nb2 pl se ke wi hs mo po nu pr sq xa sa n64 m64 ex wh sd tk hd ak ho ot sx s0 s1 s2 nf bd mm fm sn hg gc gv ze 0 ak (ρ + 28) r_70 6000 ho (ρ + 29) r_71 6000 (zt - 0) fc_98 D hW hL_h0 hT_h0 hi_88 ht_89 hi_104 ht_105 hq_99 hq_100 (by first | omega | assumption | exact Or.inl rfl) (by first | omega | assumption | exact Or.inl rfl) (hDM5)) ⟨callB_of 2 hts (gi kt_961) rfl rfl rfl (hts _ kt_669) (hts _ kt_962) (by decide +kernel) ⟨Nat.le_of_ble_eq_true rfl, Nat.le_of_ble_eq_true rfl⟩, (hts _ kt_963), (hts _ kt_964)⟩ ⟨fun a U g mk q => ⟨q.1, PTm.calling q.2⟩, pg_recv hK hP hL_h0 hF_102 (q := (RX15, TX15, 59)) rfl, fun U hU hWm => ⟨rfl, PTm.mk hU hWm hP hK hD hE hO⟩⟩ rfl rfl hl.1 rfl (lv_room (Nat.le_of_ble_eq_true rfl)) dX15_house_41 ⟨by show _ + 0 ≤ 0; omega, by show _ + 0 ≤ 0; omega⟩) hS (fun q _ h => hFc q h) hFc (fun u t H1 locs ht hvm hw hB hz1 hk1 hS => ?_)
    obtain ⟨F_112, y2_113, fc_114, hB1, hq_115, hq_116, hq_117, hq_118⟩ := hB
    obtain ⟨hP, hD, hO, hR⟩ := QTm.back hB1 ht hFc hR (fun q h => by simp only [List.mem_cons, List.not_mem_nil, or_false] at h ⊢; omega)
    have hF_119 : F_112 h0 = .inr (15, (.ref ta) :: (.int 0) :: (.int (nI zo_29)) :: (.int (nI ze)) :: (.ref ou) :: (.ref so) :: (.ref ad) :: (.ref na) :: (.ref va) :: (.ref lc) :: (.ref dm) :: (.int (nI fm)) :: (.int (nI sn)) :: (.ref tg) :: (.int v14_30) :: (.int v15_31) :: (.ref pe) :: (.int v17_32) :: (.int v18_33) :: (.int v19_34) :: (.int v20_35) :: (.int v21_36) :: (.int v22_37) :: (.ref ml) :: (.ref bg) :: (.ref co) :: (.ref sp) :: (.ref nb0) :: (.ref nb1) :: (.ref nb2) :: (.int (nI nf)) :: (.int (nI bd)) :: (.int (nI mm)) :: (.int v33_38) :: (.ref pl) :: (.ref se) :: (.ref ke) :: (.ref wi) :: (.ref hs) :: (.ref mo) :: (.ref po) :: (.ref nu) :: (.ref pr) :: (.ref sq) :: (.ref xa) :: (.ref sa) :: (.ref n64) :: (.ref m64) :: (.ref ex) :: (.ref wh) :: (.ref sd) :: (.ref tk) :: (.int v52_39) :: (.int v53_40) :: (.int v54_41) :: (.ref hd) :: (.ref ak) :: (.ref ho) :: (.ref ot) :: []) := (hB1.2.2.2 h0 (by rw [hT_h0]; simp)).trans hF_102
    have hF_120 : F_112 ta = .inl (cs 17, 3000, .inl gt) := (hB1.2.2.2 ta (by rw [ht_81]; simp)).trans hF_103
    have hF_121 : F_112 ak = .inr (14, [.ref r_70, .int (nI (zt - 0))]) := (hB1.2.2.2 ak (by rw [ht_89]; simp)).trans hq_99
    have hF_122 : F_112 r_70 = .inl (cs 17, 6000, .inl fc_98) := (hB1.2.2.2 r_70 (by rw [ht_91]; simp)).trans hq_100
    generalize H1 = H at hP hS ⊢
    refine lv_aload_n hx hb dX15_house_44 rfl (lv_at hl 1 rfl) ?_
    refine lv_aload_n hx hb dX15_house_45 rfl (lv_at hl 1 rfl) ?_
    refine pg_get (ci := 15) (v := .ref ho) (C := RX15) (T := TX15) (N := 59) hx hb hts it_15 hown hK hP hL_h0 hF_119 rfl 57 (by decide) (hts _ kt_960) (fun _ h9 => h9) rfl dX15_house_46 ?_
    have hFc := pg_free hD hS hA
    refine va_calli (va_runV (As := [.ref ho]) (rest := []) ⟨hx, hb, hml, hown, hts⟩ (s_X15_tell_e l dC dI cs ty gm L H.size F_112 h0 ρ ta ou so ad na va lc dm tg pe ml bg co sp nb0 nb1 nb2 pl se ke wi hs mo po nu pr sq xa sa n64 m64 ex wh sd tk hd ak ho ot sx s0 s1 s2 nf bd mm fm sn hg gc gv ze 0 ho (ρ + 29) r_71 y2_113 hW hL_h0 hT_h0 hi_104 ht_105 hq_115 (by omega)) ⟨callB_of 1 hts (gi kt_914) rfl rfl rfl (hts _ kt_669) (hts _ kt_915) (by decide +kernel) ⟨Nat.le_of_ble_eq_true rfl, Nat.le_of_ble_eq_true rfl⟩, (hts _ kt_916), (hts _ kt_917)⟩ ⟨fun a U g mk q => ⟨q.1, PTm.calling q.2⟩, pg_recv hK hP hL_h0 hF_119 (q := (RX15, TX15, 59)) rfl, fun U hU hWm => ⟨rfl, PTm.mk hU hWm hP hK hD hE hO⟩⟩ rfl rfl hl.1 rfl (lv_room (Nat.le_of_ble_eq_true rfl)) dX15_house_49 ⟨by show _ + 0 ≤ 0; omega, by show _ + 0 ≤ 0; omega⟩) hS (fun q _ h => hFc q h) hFc (fun r_123 u t H1 locs ht hvm hw hB hz1 hk1 hS => ?_)
    obtain ⟨F_124, hB1⟩ := hB
    obtain ⟨hP, hD, hO, hR⟩ := QTm.back hB1 ht hFc hR (fun q h => by simp only [List.mem_cons, List.not_mem_nil, or_false] at h ⊢; omega)
    have hF_125 : F_124 ta = .inl (cs 17, 3000, .inl gt) := (hB1.2.2.2 ta (by rw [ht_81]; simp)).trans hF_120
    have hF_126 : F_124 ak = .inr (14, [.ref r_70, .int (nI (zt - 0))]) := (hB1.2.2.2 ak (by rw [ht_89]; simp)).trans hF_121
    have hF_127 : F_124 r_70 = .inl (cs 17, 6000, .inl fc_98) := (hB1.2.2.2 r_70 (by rw [ht_91]; simp)).trans hF_122
    have hF_128 : F_124 ho = .inr (14, [.ref r_71, .int (nI y2_113)]) := (hB1.2.2.2 ho (by rw [ht_105]; simp)).trans hq_115
    have hF_129 : F_124 r_71 = .inl (cs 17, 6000, .inl fc_114) := (hB1.2.2.2 r_71 (by rw [ht_107]; simp)).trans hq_116
    generalize H1 = H at hP hS ⊢
    have hw : r_123 = nI y2_113 := hw
    subst hw
    refine W.widen (k := 0) (n := 0) (by omega) (by omega) ?_
    exact W.iret (v := (nI y2_113)) hx hb hr (fun t ht hWm => ⟨⟨(nI y2_113), (), rfl, (hsm_y (ifb1 hw_86 c_87) hq_101 hq_117), ⟨F_124, ty, hty, QTm.mk ht hP hD hO hR, hW⟩⟩, hS.F ht⟩) hS.2.2 dX15_house_52
  ·
    refine lv_iconst (v := (-1)) hx hb dX15_house_17 (by decide) ?_
    refine W.widen (k := 0) (n := 0) (by omega) (by omega) ?_
    exact W.iret (v := (-1)) hx hb hr (fun t ht hWm => ⟨⟨(-1), (), rfl, ((if_neg (ifb0 hw_86 c_87)).symm), ⟨F_49, ty, hty, QTm.mk ht hP hD hO hR, hW⟩⟩, hS.F ht⟩) hS.2.2 dX15_house_18
