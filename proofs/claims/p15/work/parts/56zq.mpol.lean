def TGL (U : List Nat) (y : Nat) (f : Nat → Int32) : Prop := (60 < U.length ∧ 60 < y) ∨ (U.length = y ∧ ∀ j, j < y → f j = nI (U.getD j 0))
theorem sam_l {d : ETY} {U : List Nat} {y : Nat} {f : Nat → Int32} (h : TGL U y f) (hd : d.2.2.1 ≤ 60) : (d.2.2.1 = y ∧ ∀ j, j < d.2.2.1 → d.2.2.2.1 j = f j) ↔ SAMN d (ooU U) (yU U) (faU U) := by
  have hbig : 60 < U.length → ¬ SAMN d (ooU U) (yU U) (faU U) := fun c q => by
    have h9 : ooU U = 1 := if_pos c
    rw [h9] at q
    exact absurd q.1 (by decide)
  rcases h with ⟨h1, h2⟩ | ⟨h1, h2⟩
  · exact ⟨fun q => by have h9 := q.1; omega, fun q => absurd q (hbig h1)⟩
  · by_cases c : 60 < U.length
    · exact ⟨fun q => by have h9 := q.1; omega, fun q => absurd q (hbig c)⟩
    · have e0 : ooU U = 0 := if_neg c
      have e1 : yU U = y := by
        show min U.length 60 = y
        omega
      constructor
      · rintro ⟨a1, a2⟩
        refine ⟨e0, by rw [e1]; exact a1, fun j hj => ?_⟩
        rw [a2 j hj, h2 j (by omega)]
        rfl
      · rintro ⟨-, a2, a3⟩
        rw [e1] at a2
        refine ⟨a2, fun j hj => ?_⟩
        rw [a3 j hj, h2 j (by omega)]
        rfl
theorem tgl_of {V : List Nat} {z : Nat} {f : Nat → Int32} (h : SRC V z f) : TGL V z f := Or.inr ⟨h.1, h.2.1⟩
theorem srcn9 {f : Nat → Int32} : SRC [] 0 f := ⟨rfl, fun j h => absurd h (Nat.not_lt_zero _), fun j h => absurd h (Nat.not_lt_zero _)⟩
theorem src_a {W : List Nat} {z c : Nat} {f : Nat → Int32} (h : SRC W z f) (hc : c < 128) : SRC (W ++ [c]) (z + 1) (upd f z (nI c)) := by
  obtain ⟨h1, h2, h3⟩ := h
  have h9 := apl_r (W := [c]) W 0
  rw [Nat.add_zero, h1] at h9
  refine ⟨by rw [List.length_append, h1]; rfl, fun j hj => ?_, fun j hj => ?_⟩
  · by_cases e : j = z
    · rw [e, updc_at, h9]
      rfl
    · rw [updc_ne e, h2 j (by omega), apl_l W j (by omega)]
  · by_cases e : j = z
    · rw [e, h9]
      exact hc
    · rw [apl_l W j (by omega)]
      exact h3 j (by omega)
theorem rgL_all {V : List Nat} : ∀ k a, a + k = V.length → rgL V a k = V.drop a := by
  intro k
  induction k with
  | zero =>
    intro a h
    rw [show a = V.length by omega, List.drop_length]
    rfl
  | succ k ih =>
    intro a h
    show V.getD a 0 :: rgL V (a + 1) k = V.drop a
    rw [ih (a + 1) (by omega), List.drop_eq_getElem_cons (show a < V.length by omega)]
    congr 1
    rw [List.getD_eq_getElem?_getD, List.getElem?_eq_getElem (show a < V.length by omega)]
    rfl
theorem dmu_0 {V : List Nat} : DMU V 0 = [95, 100, 109, 97, 114, 99, 46] ++ V := by
  unfold DMU
  rw [rgL_all (V.length - 0) 0 (by omega), List.drop_zero]
noncomputable def woW (D : Nat → ETY) (ze : Nat) (U : List Nat) : Int32 := @ite Int32 (HAS D ze 3 (ooU U) (yU U) (faU U)) (Classical.propDecidable _) (-2) (if otU D ze U < 0 then (-1) else otU D ze U)
def OTI (x w2 : Int32) (w3 ze : Nat) : Prop := (w3 = 0 ∧ w2 = (-1) ∧ x = (-1)) ∨ (w3 = 1 ∧ w2 = x ∧ ∃ i, i < ze ∧ x = nI i) ∨ (2 ≤ w3 ∧ x = (-2))
theorem oti_y {Q : ETY → Prop} {D : Nat → ETY} {j w3 ze : Nat} {w2 : Int32} (h : OTI (otv Q D j) w2 w3 ze) (hQ : Q (D j)) (hj : j < ze) (hz : ze ≤ 40) : OTI (otv Q D (j + 1)) (nI j) (w3 + 1) ze := by
  have e : otv Q D (j + 1) = if otv Q D j = (-1) then nI j else (-2) := if_pos hQ
  rw [e]
  rcases h with ⟨h1, h2, h3⟩ | ⟨h1, h2, i, h3, h4⟩ | ⟨h1, h2⟩
  · rw [if_pos h3]
    exact Or.inr (Or.inl ⟨by omega, rfl, j, hj, rfl⟩)
  · rw [if_neg (by rw [h4]; exact fun q => absurd (show nI i < 0 by rw [q]; decide) (nI_pos (by omega)))]
    exact Or.inr (Or.inr ⟨by omega, rfl⟩)
  · rw [if_neg (by rw [h2]; decide)]
    exact Or.inr (Or.inr ⟨by omega, rfl⟩)
theorem oti_n {Q : ETY → Prop} {D : Nat → ETY} {j w3 ze : Nat} {w2 : Int32} (h : OTI (otv Q D j) w2 w3 ze) (hQ : ¬ Q (D j)) : OTI (otv Q D (j + 1)) w2 w3 ze := by
  have e : otv Q D (j + 1) = otv Q D j := if_neg hQ
  rw [e]
  exact h
theorem oti_1 {x w2 : Int32} {w3 ze : Nat} (h : OTI x w2 w3 ze) (hz : ze ≤ 40) (c : w3 = 1) : w2 = (if x < 0 then (-1) else x) := by
  rcases h with ⟨h1, -⟩ | ⟨h1, h2, i, h3, h4⟩ | ⟨h1, -⟩
  · omega
  · rw [if_neg (by rw [h4]; exact nI_pos (by omega))]
    exact h2
  · omega
theorem oti_0 {x w2 : Int32} {w3 ze : Nat} (h : OTI x w2 w3 ze) (c : ¬ w3 = 1) : (-1) = (if x < 0 then (-1) else x) := by
  rcases h with ⟨-, -, h3⟩ | ⟨h1, -⟩ | ⟨-, h3⟩
  · rw [h3, if_pos (by decide)]
  · exact absurd h1 c
  · rw [h3, if_pos (by decide)]
theorem cnt_mo {P : Nat → Prop} {j w : Nat} (h : CNT P j w) : ∀ d, ∃ v, CNT P (j + d) v ∧ w ≤ v := by
  intro d
  induction d with
  | zero => exact ⟨w, h, Nat.le_refl _⟩
  | succ d ih =>
    obtain ⟨v, h1, h2⟩ := ih
    by_cases c : P (j + d)
    · exact ⟨v + 1, h1.y c, by omega⟩
    · exact ⟨v, h1.n c, h2⟩
def SMA (g : Nat → Int32) (a k : Nat) (f : Nat → Int32) : Prop := ∀ j, j < k → f j = smv (g (a + j))
theorem SMA.nil {g f : Nat → Int32} {a : Nat} : SMA g a 0 f := fun j h => absurd h (Nat.not_lt_zero _)
theorem SMA.add {g f : Nat → Int32} {a k : Nat} (h : SMA g a k f) : SMA g a (k + 1) (upd f k (smv (g (a + k)))) := by
  intro j hj
  by_cases e : j = k
  · rw [e, updc_at]
  · rw [updc_ne e]
    exact h j (by omega)
theorem sma_nm {g f : Nat → Int32} {z a k : Nat} (h : SMA g a k f) (hz : a + k ≤ z) : NM f 0 k = NM (faU (smL (TC g z) a k)) 0 k := NM_cg (fun j a1 a2 => by
  have e1 : faU (smL (TC g z) a k) j = nI (smc (cdv (g (a + j)))) := by
    show nI ((smL (TC g z) a k).getD j 0) = _
    rw [smL_get k j a2, tcn_in (by omega)]
  rw [h j a2, e1]
  exact sm_cl _)
theorem sma_src {g f : Nat → Int32} {z a k : Nat} (h : SMA g a k f) (hz : a + k ≤ z) (hn : NM f 0 k = true) : SRC (smL (TC g z) a k) k f := by
  have hc : ∀ j, j < k → cdv (g (a + j)) < 128 := fun j hj => Classical.byContradiction (fun c => by
    have h9 := NM_cd hn j (Nat.zero_le _) hj
    rw [h j hj, smv_out c] at h9
    exact c h9)
  refine ⟨smL_len k, fun j hj => ?_, fun j hj => ?_⟩
  · rw [smL_get k j hj, tcn_in (by omega), h j hj]
    have h9 := smv_all _ (hc j hj)
    rw [← cdv_in (hc j hj)] at h9
    exact h9
  · rw [smL_get k j hj, tcn_in (by omega)]
    exact smc_lt (hc j hj)
def SNR (P : Nat → Prop) (n : Nat) (Z : Nat → Option (List Nat)) (r : Int32) (gU : Option (List Nat)) : Prop := ((r = 1 ∧ ¬ gU = none) ∨ (r = 0 ∧ gU = none)) ∧ ∃ w, CNT P n w ∧ ((¬ w = 1 ∧ gU = none) ∨ (w = 1 ∧ ∃ j, j < n ∧ P j ∧ (∀ i, i < j → ¬ P i) ∧ gU = Z j))
theorem snr_0 {P : Nat → Prop} {n : Nat} {Z : Nat → Option (List Nat)} {w : Nat} (h : CNT P n w) (hw : ¬ w = 1) : SNR P n Z 0 none := ⟨Or.inr ⟨rfl, rfl⟩, w, h, Or.inl ⟨hw, rfl⟩⟩
theorem snr_2 {P : Nat → Prop} {n j : Nat} {Z : Nat → Option (List Nat)} (h : CNT P j 1) (hp : P j) (hj : j < n) : SNR P n Z 0 none := by
  obtain ⟨v, h1, h2⟩ := cnt_mo (h.y hp) (n - (j + 1))
  rw [show j + 1 + (n - (j + 1)) = n by omega] at h1
  exact snr_0 h1 (by omega)
theorem snr_n {P : Nat → Prop} {n j : Nat} {Z : Nat → Option (List Nat)} (h : CNT P n 1) (hj : j < n) (hp : P j) (hf : ∀ i, i < j → ¬ P i) (hz : Z j = none) : SNR P n Z 0 none := ⟨Or.inr ⟨rfl, rfl⟩, 1, h, Or.inr ⟨rfl, j, hj, hp, hf, hz.symm⟩⟩
theorem snr_e {P : Nat → Prop} {n j e c i y : Nat} {Z : Nat → Option (List Nat)} {g f : Nat → Int32} {z : Nat} {r : Int32} (h : CNT P n 1) (hj : j < n) (hp : P j) (hf : ∀ i, i < j → ¬ P i) (hZ : Z j = dmW (TC g z) c e) (h1 : c + 1 < lsc (TC g z) 64 e) (he : e ≤ z) (hi : lsc (TC g z) 64 e ≤ i) (hie : i ≤ e) (h2 : dmE (TC g z) (lsc (TC g z) 64 e) e = i) (hy : y = i - lsc (TC g z) 64 e) (hS : SMA g (lsc (TC g z) 64 e) y f) (hr : r = (if NM f 0 y = true then 1 else 0)) : SNR P n Z r (dmW (TC g z) c e) ∧ ∀ V, dmW (TC g z) c e = some V → SRC V y f ∧ NM f 0 y = true := by
  subst hy
  have hn := sma_nm (z := z) hS (by omega)
  have e1 : dmW (TC g z) c e = if NM f 0 (i - lsc (TC g z) 64 e) = true then some (smL (TC g z) (lsc (TC g z) 64 e) (i - lsc (TC g z) 64 e)) else none := by
    unfold dmW
    rw [h2, hn]
    by_cases c9 : NM (faU (smL (TC g z) (lsc (TC g z) 64 e) (i - lsc (TC g z) 64 e))) 0 (i - lsc (TC g z) 64 e) = true
    · rw [if_pos ⟨h1, c9⟩, if_pos c9]
    · rw [if_neg (fun q => c9 q.2), if_neg c9]
  have hb : SNR P n Z r (dmW (TC g z) c e) := by
    refine ⟨?_, 1, h, Or.inr ⟨rfl, j, hj, hp, hf, hZ.symm⟩⟩
    by_cases c9 : NM f 0 (i - lsc (TC g z) 64 e) = true
    · rw [if_pos c9] at hr
      exact Or.inl ⟨hr, by rw [e1, if_pos c9]; exact fun q => nomatch q⟩
    · rw [if_neg c9] at hr
      exact Or.inr ⟨hr, by rw [e1, if_neg c9]⟩
  refine ⟨hb, fun V hV => ?_⟩
  by_cases c9 : NM f 0 (i - lsc (TC g z) 64 e) = true
  · rw [if_pos c9] at e1
    obtain rfl := Option.some.inj (e1.symm.trans hV)
    exact ⟨sma_src hS (by omega) c9, c9⟩
  · rw [if_neg c9] at e1
    exact nomatch (e1.symm.trans hV)
set_option maxHeartbeats 4000000 in
set_option maxRecDepth 100000 in
theorem s_X15_isOf_l (l : Launch) (dC : Nat → ClassId) (dI : Nat → Nat → Nat) (cs : Nat → ClassId) (ty : TyM) (gm : Nat → Nat → Nat) (L : List Nat) (sz : Nat) (F : Nat → va_E) (h0 : Nat) (ρ : Nat) (ta : Nat) (ou : Nat) (so : Nat) (ad : Nat) (na : Nat) (va : Nat) (lc : Nat) (dm : Nat) (tg : Nat) (pe : Nat) (ml : Nat) (bg : Nat) (co : Nat) (sp : Nat) (nb0 : Nat) (nb1 : Nat) (nb2 : Nat) (pl : Nat) (se : Nat) (ke : Nat) (wi : Nat) (hs : Nat) (mo : Nat) (po : Nat) (nu : Nat) (pr : Nat) (sq : Nat) (xa : Nat) (sa : Nat) (n64 : Nat) (m64 : Nat) (ex : Nat) (wh : Nat) (sd : Nat) (tk : Nat) (hd : Nat) (ak : Nat) (ho : Nat) (ot : Nat) (sx : Nat) (s0 : Nat) (s1 : Nat) (s2 : Nat) (nf : Nat) (bd : Nat) (mm : Nat) (zo : Nat) (fm : Nat) (sn : Nat) (hg : Nat) (gc : Nat) (gv : Nat) (ze : Nat) (zt : Nat) (jk : Nat) (g1 : Nat) (σ : Nat) (r1 : Nat) (n1 : Nat) (y : Nat) (hf : Nat → Int32) (U : List Nat) (D : Nat → ETY) (x2 : Int32) (hW : WTm ty gm L) (hL_h0 : h0 ∈ L) (hT_h0 : ty h0 = (15, ρ, [ta, ou, so, ad, na, va, lc, dm, tg, pe, ml, bg, co, sp, nb0, nb1, nb2, pl, se, ke, wi, hs, mo, po, nu, pr, sq, xa, sa, n64, m64, ex, wh, sd, tk, hd, ak, ho, ot, sx, s0, s1, s2, nf, bd, mm, zo, fm, sn, hg, gc, gv, ze, zt])) (hL_g1 : g1 ∈ L) (hT_g1 : ty g1 = (14, σ, [r1, n1])) (hF1 : F g1 = .inr (14, [.ref r1, .int (nI y)])) (hFr1 : F r1 = .inl (cs 17, n1, .inl hf)) (hyn : y ≤ n1) (hTU : TGL U y hf) (hjk : jk < ze) (hDM : DIRM cs F so ad na va ze D) : Met l yX15_isOf (.code yX15_isOf cX15_isOf 4 (some .boolean) :: tb) ({ frames := 2, cells := 0, slots := 0, locals := 45 }) (va_Pc [.ref h0, .int (nI jk), .int x2, .ref g1] (PTm (dC, dI) cs ty gm L F sz)) (va_Qi (fun (r : Int32) (_ : Unit) => ((r = 1 ∧ ((D jk).1 = x2 ∧ SAMN (D jk) (ooU U) (yU U) (faU U))) ∨ (r = 0 ∧ ¬ ((D jk).1 = x2 ∧ SAMN (D jk) (ooU U) (yU U) (faU U))))) (fun _ T9 => ∃ F2 : Nat → va_E, QTm (dC, dI) cs ty gm L [] F F2 (va_A (va_pl L F) sz) T9) (va_A (va_pl L F) sz)) 0 0 (va_A (va_pl L F) sz) := by
  refine Met.ofW (cc := cX15_isOf) (maxL := 4) (ret := (some .boolean)) (by decide) rfl ?_
  intro p e s m args below meth c s₁ B hml hv
  obtain ⟨rfl, hsz, hP, hK, hD0, hE, hO⟩ := hv
  have hx := B.exec
  have hb := B.bytes
  have hr := B.returns
  have hts : ∀ w ∈ tb, w.before _ s = true := fun w h => atoms_spec (ws := .code yX15_isOf cX15_isOf 4 (some .boolean) :: tb) B.pre w (List.mem_cons_of_mem _ h)
  have hown : s.vm.findClass RX15 = some m.cls := findClass_of_methodNamed B.named
  have hlocks := B.notSynchronized
  subst hsz
  have hD := hD0.self (sz := s.heap.size)
  generalize hAe : va_A (va_pl L F) s.heap.size = A at hD ⊢
  have hA : ∀ q : Nat, s.heap.size ≤ q → A q := fun q h => by rw [← hAe]; exact Or.inr h
  have hS : va_S A s.heap s.heap [] := va_S.rf
  have hR : FR ty [] F F := FR.refl
  have hl := lv_entry ([.ref h0, .int (nI jk), .int x2, .ref g1]) (n := 4) (Nat.le_of_ble_eq_true rfl)
  rw [lg_entry_eq]
  generalize (lg_sl ([.ref h0, .int (nI jk), .int x2, .ref g1]) ++ List.replicate (4 - (lg_sl ([.ref h0, .int (nI jk), .int x2, .ref g1])).length) Slot.unset).toArray = ls at hl ⊢
  have hl : lv_has ls 4 [(0, .ref h0), (1, .int (nI jk)), (2, .int x2), (3, .ref g1)] := hl
  obtain ⟨hq_23, hq_24, hq_25, hq_26, hq_27, hgO, hgA, hgB, hq_28⟩ := hW.sc hL_h0 hT_h0
  obtain ⟨v14_29, v15_30, v17_31, v18_32, v19_33, v20_34, v21_35, v22_36, v33_37, v52_38, v53_39, v54_40, hF_41, hq_42, hq_43, hq_44, hq_45, hq_46⟩ := hO.mod hL_h0 hT_h0
  obtain ⟨hi_47, ht_48, hq_49⟩ := hW.txt hL_g1 hT_g1
  obtain ⟨fs, fd, fn, fv, hd1, hd2, hd3, hd4, hd5⟩ := id hDM
  obtain ⟨hi_50, ht_51⟩ := hW.f_na hL_h0 hT_h0
  obtain ⟨f_52, hF_53, hq_54⟩ := hO.rtxj hi_50 ht_51
  obtain rfl : f_52 = fn := by have e9 := hF_53.symm.trans hd3; simpa using e9
  obtain ⟨hi_55, ht_56⟩ := hW.f_va hL_h0 hT_h0
  obtain ⟨f_57, hF_58, hq_59⟩ := hO.rtxj hi_55 ht_56
  obtain rfl : f_57 = fv := by have e9 := hF_58.symm.trans hd4; simpa using e9
  refine lv_aload_n hx hb dX15_isOf_0 rfl (lv_at hl 0 rfl) ?_
  refine pg_get (ci := 15) (v := .ref so) (C := RX15) (T := TX15) (N := 59) hx hb hts it_15 hown hK hP hL_h0 hF_41 rfl 5 (by decide) (hts _ kt_718) (fun _ h9 => h9) rfl dX15_isOf_1 ?_
  refine lv_iload_n hx hb dX15_isOf_4 rfl (lv_at hl 1 rfl) ?_
  obtain ⟨hi_60, ht_61⟩ := hW.f_so hL_h0 hT_h0
  obtain ⟨hq_62, hq_63⟩ := hW.ints hi_60 ht_61
  refine pg_iald hx hb hK hP hi_60 0 hd1 rfl (vp_in_nI (by omega) (by omega)) dX15_isOf_5 ?_
  refine lv_topi (fun x_64 ex_64 => ?_)
  obtain rfl : x_64 = (D jk).1 := ex_64.trans ((congrArg fs (nI_clamp (by omega))).trans (hd5 jk hjk).1)
  refine lv_iload_n hx hb dX15_isOf_6 rfl (lv_at hl 2 rfl) ?_
  refine lv_icmp_ne (tgt := 27) hx hb dX15_isOf_7 (by decide) (fun c_65 => ?_) (fun c_65 => ?_)
  ·
    refine lv_iconst (v := 0) hx hb dX15_isOf_27 (by decide) ?_
    refine W.widen (k := 0) (n := 0) (by omega) (by omega) ?_
    exact W.zret (v := 0) (ty := .boolean) hx hb hr (by decide) (fun t ht hWm => ⟨⟨0, (), rfl, (Or.inr ⟨rfl, fun q => c_65 q.1⟩), ⟨F, QTm.mk ht hP hD hO hR⟩⟩, hS.F ht⟩) hS.2.2 dX15_isOf_28
  ·
    refine lv_aload_n hx hb dX15_isOf_10 rfl (lv_at hl 0 rfl) ?_
    refine pg_get (ci := 15) (v := .ref na) (C := RX15) (T := TX15) (N := 59) hx hb hts it_15 hown hK hP hL_h0 hF_41 rfl 7 (by decide) (hts _ kt_719) (fun _ h9 => h9) rfl dX15_isOf_11 ?_
    refine lv_iload_n hx hb dX15_isOf_14 rfl (lv_at hl 1 rfl) ?_
    obtain ⟨b_66, r_67, hbf_68, hi_69, ht_70⟩ := hq_54 jk (by omega)
    refine pg_aald (r := b_66) hx hb hK hP hi_50 7 hF_53 rfl (vp_in_nI (by omega) (by omega)) (show f_52 ((nI jk) : Int32).toNatClampNeg = _ from by rw [show ((nI jk) : Int32) = nI jk from rfl, nI_clamp (by omega)]; exact hbf_68) dX15_isOf_15 ?_
    refine lv_aload_n hx hb dX15_isOf_16 rfl (lv_at hl 3 rfl) ?_
    obtain ⟨hen0a, hen0b, hen0c⟩ := ENM.get (hd5 jk hjk).2.2.1 hbf_68 hO hi_69 ht_70
    obtain ⟨hi_71, ht_72, hq_73⟩ := hW.txt hi_69 ht_70
    obtain ⟨hq_74, hq_75⟩ := hW.octs hi_71 ht_72
    obtain ⟨hq_76, hq_77⟩ := hW.octs hi_47 ht_48
    have hFc := pg_free hD hS hA
    refine va_calli (va_runV (As := [.ref g1]) (rest := []) ⟨hx, hb, hml, hown, hts⟩ (s_X14_is__x l dC dI cs ty gm L s.heap.size F b_66 (ρ + 4 + jk + 100) r_67 60 g1 σ r1 n1 ((D jk).2.2.1) y ((D jk).2.2.2.1) hf hW hi_69 ht_70 hL_g1 hT_g1 hen0a hen0b hF1 hFr1 (hen0c) (hyn)) ⟨callB_of 1 hts (gi kt_720) rfl rfl rfl (hts _ kt_676) (hts _ kt_721) (by decide +kernel) ⟨Nat.le_of_ble_eq_true rfl, Nat.le_of_ble_eq_true rfl⟩, (hts _ kt_722), (hts _ kt_723)⟩ ⟨fun a U g mk q => ⟨q.1, PTm.calling q.2⟩, pg_recv hK hP hi_69 hen0a (q := (RX14, TX14, 2)) rfl, fun U hU hWm => ⟨rfl, PTm.mk hU hWm hP hK hD hE hO⟩⟩ rfl rfl hl.1 rfl (lv_room (Nat.le_of_ble_eq_true rfl)) dX15_isOf_17 ⟨by show _ + 0 ≤ 0; omega, by show _ + 0 ≤ 0; omega⟩) hS (fun q _ h => hFc q h) hFc (fun r_78 u t H1 locs ht hvm hw hB hz1 hk1 hS => ?_)
    obtain ⟨F_79, hB1⟩ := hB
    obtain rfl : F = F_79 := (funext (fun a => hB1.2.2.2 a List.not_mem_nil)).symm
    obtain ⟨hP, hD, hO, hR⟩ := QTm.back hB1 ht hFc hR (fun q h => absurd h List.not_mem_nil)
    generalize H1 = H at hP hS ⊢
    have hw : ((r_78 = 1 ∧ ((D jk).2.2.1 = y ∧ ∀ j, j < (D jk).2.2.1 → (D jk).2.2.2.1 j = hf j)) ∨ (r_78 = 0 ∧ ¬ ((D jk).2.2.1 = y ∧ ∀ j, j < (D jk).2.2.1 → (D jk).2.2.2.1 j = hf j))) := hw
    have hw_80 := hw
    refine lv_if_eq (tgt := 27) hx hb dX15_isOf_20 (by decide) (fun c_81 => ?_) (fun c_81 => ?_)
    ·
      refine lv_iconst (v := 0) hx hb dX15_isOf_27 (by decide) ?_
      refine W.widen (k := 0) (n := 0) (by omega) (by omega) ?_
      exact W.zret (v := 0) (ty := .boolean) hx hb hr (by decide) (fun t ht hWm => ⟨⟨0, (), rfl, (Or.inr ⟨rfl, fun q => orp0 hw_80 c_81 ((sam_l hTU hen0c).mpr q.2)⟩), ⟨F, QTm.mk ht hP hD hO hR⟩⟩, hS.F ht⟩) hS.2.2 dX15_isOf_28
    ·
      refine lv_iconst (v := 1) hx hb dX15_isOf_23 (by decide) ?_
      refine lv_goto (tgt := 28) hx hb dX15_isOf_24 (by decide) ?_
      refine W.widen (k := 0) (n := 0) (by omega) (by omega) ?_
      exact W.zret (v := 1) (ty := .boolean) hx hb hr (by decide) (fun t ht hWm => ⟨⟨1, (), rfl, (Or.inl ⟨rfl, c_65, (sam_l hTU hen0c).mp (orp1 hw_80 c_81)⟩), ⟨F, QTm.mk ht hP hD hO hR⟩⟩, hS.F ht⟩) hS.2.2 dX15_isOf_28
set_option maxHeartbeats 4000000 in
set_option maxRecDepth 100000 in
theorem s_X15_isTrouble_l (l : Launch) (dC : Nat → ClassId) (dI : Nat → Nat → Nat) (cs : Nat → ClassId) (ty : TyM) (gm : Nat → Nat → Nat) (L : List Nat) (sz : Nat) (F : Nat → va_E) (h0 : Nat) (ρ : Nat) (ta : Nat) (ou : Nat) (so : Nat) (ad : Nat) (na : Nat) (va : Nat) (lc : Nat) (dm : Nat) (tg : Nat) (pe : Nat) (ml : Nat) (bg : Nat) (co : Nat) (sp : Nat) (nb0 : Nat) (nb1 : Nat) (nb2 : Nat) (pl : Nat) (se : Nat) (ke : Nat) (wi : Nat) (hs : Nat) (mo : Nat) (po : Nat) (nu : Nat) (pr : Nat) (sq : Nat) (xa : Nat) (sa : Nat) (n64 : Nat) (m64 : Nat) (ex : Nat) (wh : Nat) (sd : Nat) (tk : Nat) (hd : Nat) (ak : Nat) (ho : Nat) (ot : Nat) (sx : Nat) (s0 : Nat) (s1 : Nat) (s2 : Nat) (nf : Nat) (bd : Nat) (mm : Nat) (zo : Nat) (fm : Nat) (sn : Nat) (hg : Nat) (gc : Nat) (gv : Nat) (ze : Nat) (zt : Nat) (g1 : Nat) (σ : Nat) (r1 : Nat) (n1 : Nat) (y : Nat) (hf : Nat → Int32) (U : List Nat) (D : Nat → ETY) (hW : WTm ty gm L) (hL_h0 : h0 ∈ L) (hT_h0 : ty h0 = (15, ρ, [ta, ou, so, ad, na, va, lc, dm, tg, pe, ml, bg, co, sp, nb0, nb1, nb2, pl, se, ke, wi, hs, mo, po, nu, pr, sq, xa, sa, n64, m64, ex, wh, sd, tk, hd, ak, ho, ot, sx, s0, s1, s2, nf, bd, mm, zo, fm, sn, hg, gc, gv, ze, zt])) (hL_g1 : g1 ∈ L) (hT_g1 : ty g1 = (14, σ, [r1, n1])) (hF1 : F g1 = .inr (14, [.ref r1, .int (nI y)])) (hFr1 : F r1 = .inl (cs 17, n1, .inl hf)) (hyn : y ≤ n1) (hTU : TGL U y hf) (hDM : DIRM cs F so ad na va ze D) : Met l yX15_isTrouble (.code yX15_isTrouble cX15_isTrouble 3 (some .boolean) :: tb) ({ frames := 3, cells := 0, slots := 0, locals := 68 }) (va_Pc [.ref h0, .ref g1] (PTm (dC, dI) cs ty gm L F sz)) (va_Qi (fun (r : Int32) (_ : Unit) => ((r = 1 ∧ HAS D ze 3 (ooU U) (yU U) (faU U)) ∨ (r = 0 ∧ ¬ HAS D ze 3 (ooU U) (yU U) (faU U)))) (fun _ T9 => ∃ F2 : Nat → va_E, QTm (dC, dI) cs ty gm L [] F F2 (va_A (va_pl L F) sz) T9) (va_A (va_pl L F) sz)) 0 0 (va_A (va_pl L F) sz) := by
  refine Met.ofW (cc := cX15_isTrouble) (maxL := 3) (ret := (some .boolean)) (by decide) rfl ?_
  intro p e s m args below meth c s₁ B hml hv
  obtain ⟨rfl, hsz, hP, hK, hD0, hE, hO⟩ := hv
  have hx := B.exec
  have hb := B.bytes
  have hr := B.returns
  have hts : ∀ w ∈ tb, w.before _ s = true := fun w h => atoms_spec (ws := .code yX15_isTrouble cX15_isTrouble 3 (some .boolean) :: tb) B.pre w (List.mem_cons_of_mem _ h)
  have hown : s.vm.findClass RX15 = some m.cls := findClass_of_methodNamed B.named
  have hlocks := B.notSynchronized
  subst hsz
  have hD := hD0.self (sz := s.heap.size)
  generalize hAe : va_A (va_pl L F) s.heap.size = A at hD ⊢
  have hA : ∀ q : Nat, s.heap.size ≤ q → A q := fun q h => by rw [← hAe]; exact Or.inr h
  have hS : va_S A s.heap s.heap [] := va_S.rf
  have hR : FR ty [] F F := FR.refl
  have hl := lv_entry ([.ref h0, .ref g1]) (n := 3) (Nat.le_of_ble_eq_true rfl)
  rw [lg_entry_eq]
  generalize (lg_sl ([.ref h0, .ref g1]) ++ List.replicate (3 - (lg_sl ([.ref h0, .ref g1])).length) Slot.unset).toArray = ls at hl ⊢
  have hl : lv_has ls 3 [(0, .ref h0), (1, .ref g1)] := hl
  obtain ⟨hq_23, hq_24, hq_25, hq_26, hq_27, hgO, hgA, hgB, hq_28⟩ := hW.sc hL_h0 hT_h0
  obtain ⟨v14_29, v15_30, v17_31, v18_32, v19_33, v20_34, v21_35, v22_36, v33_37, v52_38, v53_39, v54_40, hF_41, hq_42, hq_43, hq_44, hq_45, hq_46⟩ := hO.mod hL_h0 hT_h0
  obtain ⟨hi_47, ht_48, hq_49⟩ := hW.txt hL_g1 hT_g1
  refine lv_iconst (v := 0) hx hb dX15_isTrouble_0 (by decide) ?_
  refine lv_istore_n (lv' := [(2, .int 0), (0, .ref h0), (1, .ref g1)]) hx hb dX15_isTrouble_1 rfl hl (by decide) rfl (fun ls hl => ?_)
  refine W.widen (k := 0) (n := 0) (by omega) (by omega) ?_
  refine pl_loopm (σ := Nat) A (dC, dI) cs ty gm L [] F 2 3 (fun j => [(2, .int (nI j)), (0, .ref h0), (1, .ref g1)]) (fun j => []) (fun j _ => j ≤ ze ∧ ¬ HAS D j 3 (ooU U) (yU U) (faU U)) (fun j => ze - j) ?_ 0 F (⟨Nat.zero_le _, fun q => by obtain ⟨k, hk, -⟩ := q; omega⟩) hO hR _ _ hP hD hS ls (lv_sub hl [0, 1, 2] rfl)
  rintro j F_50 hv_51 hO hR ih_52 H locs hP hD hS ls hl
  have hl : lv_has ls 3 [(2, .int (nI j)), (0, .ref h0), (1, .ref g1)] := hl
  have hv_51 : j ≤ ze ∧ ¬ HAS D j 3 (ooU U) (yU U) (faU U) := hv_51
  refine W.eq (g2 := F0 m 2 ls []) rfl ?_
  obtain rfl : F = F_50 := (funext (fun a => hR a List.not_mem_nil)).symm
  obtain ⟨hv1, hv2⟩ := id hv_51
  refine lv_iload_n hx hb dX15_isTrouble_2 rfl (lv_at hl 0 rfl) ?_
  refine lv_aload_n hx hb dX15_isTrouble_3 rfl (lv_at hl 1 rfl) ?_
  refine pg_get (ci := 15) (v := .int (nI ze)) (C := RX15) (T := TX15) (N := 59) hx hb hts it_15 hown hK hP hL_h0 hF_41 rfl 3 (by decide) (hts _ kt_724) (fun _ h9 => h9) rfl dX15_isTrouble_4 ?_
  refine lv_icmp_ge (tgt := 28) hx hb dX15_isTrouble_7 (by decide) (fun c_53 => ?_) (fun c_53 => ?_)
  ·
    have hi_54 : ze ≤ j := leN (N := ze) c_53
    refine lv_iconst (v := 0) hx hb dX15_isTrouble_28 (by decide) ?_
    refine W.widen (k := 0) (n := 0) (by omega) (by omega) ?_
    exact W.zret (v := 0) (ty := .boolean) hx hb hr (by decide) (fun t ht hWm => ⟨⟨0, (), rfl, (Or.inr ⟨rfl, by rw [show ze = j by omega]; exact hv2⟩), ⟨F, QTm.mk ht hP hD hO hR⟩⟩, hS.F ht⟩) hS.2.2 dX15_isTrouble_29
  ·
    have hi_55 : j < ze := ltN (N := ze) c_53
    refine lv_aload_n hx hb dX15_isTrouble_10 rfl (lv_at hl 1 rfl) ?_
    refine lv_iload_n hx hb dX15_isTrouble_11 rfl (lv_at hl 0 rfl) ?_
    refine lv_iconst (v := 3) hx hb dX15_isTrouble_12 (by decide) ?_
    refine lv_aload_n hx hb dX15_isTrouble_13 rfl (lv_at hl 2 rfl) ?_
    obtain ⟨hq_56, hq_57⟩ := hW.octs hi_47 ht_48
    have hFc := pg_free hD hS hA
    refine va_calli (va_runV (As := [.int (nI j), .int 3, .ref g1]) (rest := []) ⟨hx, hb, hml, hown, hts⟩ (s_X15_isOf_l l dC dI cs ty gm L H.size F h0 ρ ta ou so ad na va lc dm tg pe ml bg co sp nb0 nb1 nb2 pl se ke wi hs mo po nu pr sq xa sa n64 m64 ex wh sd tk hd ak ho ot sx s0 s1 s2 nf bd mm zo fm sn hg gc gv ze zt j g1 σ r1 n1 y hf U D 3 hW hL_h0 hT_h0 hL_g1 hT_g1 hF1 hFr1 (hyn) (hTU) (by omega) (hDM)) ⟨callB_of 3 hts (gi kt_725) rfl rfl rfl (hts _ kt_669) (hts _ kt_726) (by decide +kernel) ⟨Nat.le_of_ble_eq_true rfl, Nat.le_of_ble_eq_true rfl⟩, (hts _ kt_727), (hts _ kt_728)⟩ ⟨fun a U g mk q => ⟨q.1, PTm.calling q.2⟩, pg_recv hK hP hL_h0 hF_41 (q := (RX15, TX15, 59)) rfl, fun U hU hWm => ⟨rfl, PTm.mk hU hWm hP hK hD hE hO⟩⟩ rfl rfl hl.1 rfl (lv_room (Nat.le_of_ble_eq_true rfl)) dX15_isTrouble_14 ⟨by show _ + 0 ≤ 0; omega, by show _ + 0 ≤ 0; omega⟩) hS (fun q _ h => hFc q h) hFc (fun r_58 u t H1 locs ht hvm hw hB hz1 hk1 hS => ?_)
    obtain ⟨F_59, hB1⟩ := hB
    obtain rfl : F = F_59 := (funext (fun a => hB1.2.2.2 a List.not_mem_nil)).symm
    obtain ⟨hP, hD, hO, hR⟩ := QTm.back hB1 ht hFc hR (fun q h => absurd h List.not_mem_nil)
    generalize H1 = H at hP hS ⊢
    have hw : ((r_58 = 1 ∧ ((D j).1 = 3 ∧ SAMN (D j) (ooU U) (yU U) (faU U))) ∨ (r_58 = 0 ∧ ¬ ((D j).1 = 3 ∧ SAMN (D j) (ooU U) (yU U) (faU U)))) := hw
    have hw_60 := hw
    refine lv_if_eq (tgt := 22) hx hb dX15_isTrouble_17 (by decide) (fun c_61 => ?_) (fun c_61 => ?_)
    ·
      refine lv_iinc (v := (nI (j + 1))) (lv' := [(2, .int (nI (j + 1))), (0, .ref h0), (1, .ref g1)]) hx hb dX15_isTrouble_22 hl (k := 0) rfl (nI_1 _) (by decide) rfl (fun ls hl => ?_)
      refine lv_goto (tgt := 2) hx hb dX15_isTrouble_25 (by decide) ?_
      refine W.widen (k := 0) (n := 0) (by omega) (by omega) ?_
      exact ih_52 (j + 1) F (⟨by omega, has_s hv2 (orp0 hw_60 c_61)⟩) (by show ze - (j + 1) < ze - j; omega) hO hR _ _ hP hD hS ls (lv_sub hl [0, 1, 2] rfl)
    ·
      refine lv_iconst (v := 1) hx hb dX15_isTrouble_20 (by decide) ?_
      refine W.widen (k := 0) (n := 0) (by omega) (by omega) ?_
      exact W.zret (v := 1) (ty := .boolean) hx hb hr (by decide) (fun t ht hWm => ⟨⟨1, (), rfl, (Or.inl ⟨rfl, j, by omega, orp1 hw_60 c_61⟩), ⟨F, QTm.mk ht hP hD hO hR⟩⟩, hS.F ht⟩) hS.2.2 dX15_isTrouble_21
set_option maxHeartbeats 4000000 in
set_option maxRecDepth 100000 in
theorem s_X15_wantedOf_x (l : Launch) (dC : Nat → ClassId) (dI : Nat → Nat → Nat) (cs : Nat → ClassId) (ty : TyM) (gm : Nat → Nat → Nat) (L : List Nat) (sz : Nat) (F : Nat → va_E) (h0 : Nat) (ρ : Nat) (ta : Nat) (ou : Nat) (so : Nat) (ad : Nat) (na : Nat) (va : Nat) (lc : Nat) (dm : Nat) (tg : Nat) (pe : Nat) (ml : Nat) (bg : Nat) (co : Nat) (sp : Nat) (nb0 : Nat) (nb1 : Nat) (nb2 : Nat) (pl : Nat) (se : Nat) (ke : Nat) (wi : Nat) (hs : Nat) (mo : Nat) (po : Nat) (nu : Nat) (pr : Nat) (sq : Nat) (xa : Nat) (sa : Nat) (n64 : Nat) (m64 : Nat) (ex : Nat) (wh : Nat) (sd : Nat) (tk : Nat) (hd : Nat) (ak : Nat) (ho : Nat) (ot : Nat) (sx : Nat) (s0 : Nat) (s1 : Nat) (s2 : Nat) (nf : Nat) (bd : Nat) (mm : Nat) (zo : Nat) (fm : Nat) (sn : Nat) (hg : Nat) (gc : Nat) (gv : Nat) (ze : Nat) (zt : Nat) (dt : Nat) (σ : Nat) (rd : Nat) (nd : Nat) (zd : Nat) (gd : Nat → Int32) (V : List Nat) (D : Nat → ETY) (hW : WTm ty gm L) (hL_h0 : h0 ∈ L) (hT_h0 : ty h0 = (15, ρ, [ta, ou, so, ad, na, va, lc, dm, tg, pe, ml, bg, co, sp, nb0, nb1, nb2, pl, se, ke, wi, hs, mo, po, nu, pr, sq, xa, sa, n64, m64, ex, wh, sd, tk, hd, ak, ho, ot, sx, s0, s1, s2, nf, bd, mm, zo, fm, sn, hg, gc, gv, ze, zt])) (hL_dt : dt ∈ L) (hT_dt : ty dt = (14, σ, [rd, nd])) (hFd : F dt = .inr (14, [.ref rd, .int (nI zd)])) (hFr : F rd = .inl (cs 17, nd, .inl gd)) (hzd : zd ≤ 5000) (hzn : zd ≤ nd) (hsr : σ ≠ ρ + 24) (hs9 : σ ≤ ρ + 99) (hV : SRC V zd gd) (hze : ze ≤ 40) (hDM : DIRM cs F so ad na va ze D) : Met l yX15_wantedOf (.code yX15_wantedOf cX15_wantedOf 5 (some .int) :: tb) ({ frames := 6, cells := 0, slots := 0, locals := 132 }) (va_Pc [.ref h0, .ref dt] (PTEm (dC, dI) cs ty gm L F sz [])) (va_Qi (fun (r : Int32) (_ : Unit) => r = woW D ze ([95, 100, 109, 97, 114, 99, 46] ++ V)) (fun _ T9 => ∃ F2 : Nat → va_E, QTm (dC, dI) cs ty gm L [ρ + 24] F F2 (va_A (va_pl L F) sz) T9) (va_A (va_pl L F) sz)) 0 0 (va_A (va_pl L F) sz) := by
  refine Met.ofW (cc := cX15_wantedOf) (maxL := 5) (ret := (some .int)) (by decide) rfl ?_
  intro p e s m args below meth c s₁ B hml hv
  obtain ⟨rfl, ⟨hsz, hP, hK, hD0, hE, hO⟩, hG, hX⟩ := hv
  have hx := B.exec
  have hb := B.bytes
  have hr := B.returns
  have hts : ∀ w ∈ tb, w.before _ s = true := fun w h => atoms_spec (ws := .code yX15_wantedOf cX15_wantedOf 5 (some .int) :: tb) B.pre w (List.mem_cons_of_mem _ h)
  have hown : s.vm.findClass RX15 = some m.cls := findClass_of_methodNamed B.named
  have hlocks := B.notSynchronized
  subst hsz
  have hD := hD0.self (sz := s.heap.size)
  generalize hAe : va_A (va_pl L F) s.heap.size = A at hD hG hX ⊢
  have hA : ∀ q : Nat, s.heap.size ≤ q → A q := fun q h => by rw [← hAe]; exact Or.inr h
  have hS : va_S A s.heap s.heap [] := va_S.rf
  have hR : FR ty [ρ + 24] F F := FR.refl
  have hl := lv_entry ([.ref h0, .ref dt]) (n := 5) (Nat.le_of_ble_eq_true rfl)
  rw [lg_entry_eq]
  generalize (lg_sl ([.ref h0, .ref dt]) ++ List.replicate (5 - (lg_sl ([.ref h0, .ref dt])).length) Slot.unset).toArray = ls at hl ⊢
  have hl : lv_has ls 5 [(0, .ref h0), (1, .ref dt)] := hl
  obtain ⟨hq_23, hq_24, hq_25, hq_26, hq_27, hgO, hgA, hgB, hq_28⟩ := hW.sc hL_h0 hT_h0
  obtain ⟨hi_29, ht_30, hq_31⟩ := hW.txt hL_dt hT_dt
  obtain ⟨hi_32, r_18, ht_33⟩ := hW.f_wh hL_h0 hT_h0
  obtain ⟨hi_34, ht_35, hq_36⟩ := hW.txt hi_32 ht_33
  obtain ⟨v14_37, v15_38, v17_39, v18_40, v19_41, v20_42, v21_43, v22_44, v33_45, v52_46, v53_47, v54_48, hF_49, hq_50, hq_51, hq_52, hq_53, hq_54⟩ := hO.mod hL_h0 hT_h0
  have hO0 := hO
  obtain ⟨hLs0, hTs0⟩ := hW.f_so hL_h0 hT_h0
  obtain ⟨hLd0, hTd0⟩ := hW.f_ad hL_h0 hT_h0
  obtain ⟨hLn0, hTn0⟩ := hW.f_na hL_h0 hT_h0
  obtain ⟨hLv0, hTv0⟩ := hW.f_va hL_h0 hT_h0
  refine lv_aload_n hx hb dX15_wantedOf_0 rfl (lv_at hl 0 rfl) ?_
  refine pg_get (ci := 15) (v := .ref wh) (C := RX15) (T := TX15) (N := 59) hx hb hts it_15 hown hK hP hL_h0 hF_49 rfl 49 (by decide) (hts _ kt_924) (fun _ h9 => h9) rfl dX15_wantedOf_1 ?_
  refine lv_iconst (v := 0) hx hb dX15_wantedOf_4 (by decide) ?_
  obtain ⟨z_55, hF_56, hq_57⟩ := hO.txt hi_32 ht_33
  refine pg_put (ci := 14) (v := .int 0) (ty := .int) (C := RX14) (T := TX14) (N := 2) hx hb hts it_14 tyX14 tyX14_ok nmX14 hown hK hP hD hS hi_32 hF_56 rfl 1 (by decide) (hts _ kt_709) (fun _ h9 => h9) rfl (by decide +kernel) (rfl) (rfl) (Nat.le_of_ble_eq_true rfl) dX15_wantedOf_5 (fun H locs hP hD hS => ?_)
  obtain ⟨F_58, he_59, hP, hD, hO, hR⟩ : ∃ G, G = va_up F wh (.inr (14, [.ref r_18, .int 0])) ∧ va_P (dC, dI) vwCl (va_pl L G) H ∧ va_D A (va_pl L G) ∧ OKm cs ty gm L G ∧ FR ty [ρ + 24] F G := ⟨_, rfl, hP, hD, hO.up (shm.txt ht_33 ⟨0, rfl, (by first | omega | assumption | exact Or.inl rfl | exact Or.inr rfl)⟩), hR.up ht_33 (by simp)⟩
  have hF_60 : F_58 wh = .inr (14, [.ref r_18, .int 0]) := by rw [he_59]; exact up_self
  have hF_61 : F_58 rd = .inl (cs 17, nd, .inl gd) := by rw [he_59, up_ne (ne_ty ht_30 ht_33 (by simp))]; exact hFr
  have hF_62 : F_58 h0 = .inr (15, (.ref ta) :: (.int (nI zt)) :: (.int (nI zo)) :: (.int (nI ze)) :: (.ref ou) :: (.ref so) :: (.ref ad) :: (.ref na) :: (.ref va) :: (.ref lc) :: (.ref dm) :: (.int (nI fm)) :: (.int (nI sn)) :: (.ref tg) :: (.int v14_37) :: (.int v15_38) :: (.ref pe) :: (.int v17_39) :: (.int v18_40) :: (.int v19_41) :: (.int v20_42) :: (.int v21_43) :: (.int v22_44) :: (.ref ml) :: (.ref bg) :: (.ref co) :: (.ref sp) :: (.ref nb0) :: (.ref nb1) :: (.ref nb2) :: (.int (nI nf)) :: (.int (nI bd)) :: (.int (nI mm)) :: (.int v33_45) :: (.ref pl) :: (.ref se) :: (.ref ke) :: (.ref wi) :: (.ref hs) :: (.ref mo) :: (.ref po) :: (.ref nu) :: (.ref pr) :: (.ref sq) :: (.ref xa) :: (.ref sa) :: (.ref n64) :: (.ref m64) :: (.ref ex) :: (.ref wh) :: (.ref sd) :: (.ref tk) :: (.int v52_46) :: (.int v53_47) :: (.int v54_48) :: (.ref hd) :: (.ref ak) :: (.ref ho) :: (.ref ot) :: []) := by rw [he_59, up_ne (ne_ty hT_h0 ht_33 (by simp))]; exact hF_49
  refine lv_iconst (v := 0) hx hb dX15_wantedOf_8 (by decide) ?_
  refine lv_istore_n (lv' := [(2, .int 0), (0, .ref h0), (1, .ref dt)]) hx hb dX15_wantedOf_9 rfl hl (by decide) rfl (fun ls hl => ?_)
  obtain ⟨hq_63, hq_64⟩ := hW.octs hi_34 ht_35
  obtain ⟨f_65, hF_66, hq_67⟩ := hO.octs hi_34 ht_35
  refine W.widen (k := 0) (n := 0) (by omega) (by omega) ?_
  have hF_69 : F rd = .inl (cs 17, nd, .inl gd) := (hR rd (by rw [ht_30]; simp only [List.mem_cons, List.not_mem_nil, or_false]; omega)).symm.trans hF_61
  have hF_70 : F h0 = .inr (15, (.ref ta) :: (.int (nI zt)) :: (.int (nI zo)) :: (.int (nI ze)) :: (.ref ou) :: (.ref so) :: (.ref ad) :: (.ref na) :: (.ref va) :: (.ref lc) :: (.ref dm) :: (.int (nI fm)) :: (.int (nI sn)) :: (.ref tg) :: (.int v14_37) :: (.int v15_38) :: (.ref pe) :: (.int v17_39) :: (.int v18_40) :: (.int v19_41) :: (.int v20_42) :: (.int v21_43) :: (.int v22_44) :: (.ref ml) :: (.ref bg) :: (.ref co) :: (.ref sp) :: (.ref nb0) :: (.ref nb1) :: (.ref nb2) :: (.int (nI nf)) :: (.int (nI bd)) :: (.int (nI mm)) :: (.int v33_45) :: (.ref pl) :: (.ref se) :: (.ref ke) :: (.ref wi) :: (.ref hs) :: (.ref mo) :: (.ref po) :: (.ref nu) :: (.ref pr) :: (.ref sq) :: (.ref xa) :: (.ref sa) :: (.ref n64) :: (.ref m64) :: (.ref ex) :: (.ref wh) :: (.ref sd) :: (.ref tk) :: (.int v52_46) :: (.int v53_47) :: (.int v54_48) :: (.ref hd) :: (.ref ak) :: (.ref ho) :: (.ref ot) :: []) := (hR h0 (by rw [hT_h0]; simp)).symm.trans hF_62
  refine pl_loopm (σ := Nat × (Nat → Int32)) A (dC, dI) cs ty gm L [ρ + 24] F 10 5 (fun (j, fq) => [(2, .int (nI j)), (0, .ref h0), (1, .ref dt)]) (fun (j, fq) => []) (fun (j, fq) FF => j ≤ 7 ∧ FF wh = .inr (14, [.ref r_18, .int (nI j)]) ∧ FF r_18 = .inl (cs 17, 6000, .inl fq) ∧ SRC ([95, 100, 109, 97, 114, 99, 46].take j) j fq) (fun (j, fq) => 7 - j) ?_ (0, f_65) F_58 (⟨Nat.zero_le _, hF_60, hF_66, srcn9⟩) hO hR _ _ hP hD hS ls (lv_sub hl [0, 1, 2] rfl)
  rintro ⟨j, fq⟩ F_68 hv_71 hO hR ih_72 H locs hP hD hS ls hl
  have hl : lv_has ls 5 [(2, .int (nI j)), (0, .ref h0), (1, .ref dt)] := hl
  have hv_71 : j ≤ 7 ∧ F_68 wh = .inr (14, [.ref r_18, .int (nI j)]) ∧ F_68 r_18 = .inl (cs 17, 6000, .inl fq) ∧ SRC ([95, 100, 109, 97, 114, 99, 46].take j) j fq := hv_71
  refine W.eq (g2 := F0 m 10 ls []) rfl ?_
  have hF_73 : F_68 rd = .inl (cs 17, nd, .inl gd) := (hR rd (by rw [ht_30]; simp only [List.mem_cons, List.not_mem_nil, or_false]; omega)).trans hF_69
  have hF_74 : F_68 h0 = .inr (15, (.ref ta) :: (.int (nI zt)) :: (.int (nI zo)) :: (.int (nI ze)) :: (.ref ou) :: (.ref so) :: (.ref ad) :: (.ref na) :: (.ref va) :: (.ref lc) :: (.ref dm) :: (.int (nI fm)) :: (.int (nI sn)) :: (.ref tg) :: (.int v14_37) :: (.int v15_38) :: (.ref pe) :: (.int v17_39) :: (.int v18_40) :: (.int v19_41) :: (.int v20_42) :: (.int v21_43) :: (.int v22_44) :: (.ref ml) :: (.ref bg) :: (.ref co) :: (.ref sp) :: (.ref nb0) :: (.ref nb1) :: (.ref nb2) :: (.int (nI nf)) :: (.int (nI bd)) :: (.int (nI mm)) :: (.int v33_45) :: (.ref pl) :: (.ref se) :: (.ref ke) :: (.ref wi) :: (.ref hs) :: (.ref mo) :: (.ref po) :: (.ref nu) :: (.ref pr) :: (.ref sq) :: (.ref xa) :: (.ref sa) :: (.ref n64) :: (.ref m64) :: (.ref ex) :: (.ref wh) :: (.ref sd) :: (.ref tk) :: (.int v52_46) :: (.int v53_47) :: (.int v54_48) :: (.ref hd) :: (.ref ak) :: (.ref ho) :: (.ref ot) :: []) := (hR h0 (by rw [hT_h0]; simp)).trans hF_70
  obtain ⟨ha1, ha2, ha3, ha4⟩ := id hv_71
  have hFd2 : F_68 dt = .inr (14, [.ref rd, .int (nI zd)]) := (hR dt (by rw [hT_dt]; simp; exact hsr)).trans hFd
  refine lv_iload_n hx hb dX15_wantedOf_10 rfl (lv_at hl 0 rfl) ?_
  refine lv_bipush (v := 7) hx hb dX15_wantedOf_11 (by decide) ?_
  refine lv_icmp_ge (tgt := 36) hx hb dX15_wantedOf_13 (by decide) (fun c_75 => ?_) (fun c_75 => ?_)
  ·
    have hi_76 : 7 ≤ j := leN (N := 7) c_75
    have hj7e : j = 7 := by have h9 : 7 ≤ j := (nI_leI (a := 7) (by omega) (by omega)).mp c_75; omega
    refine lv_aload_n hx hb dX15_wantedOf_36 rfl (lv_at hl 1 rfl) ?_
    refine pg_get (ci := 15) (v := .ref wh) (C := RX15) (T := TX15) (N := 59) hx hb hts it_15 hown hK hP hL_h0 hF_74 rfl 49 (by decide) (hts _ kt_924) (fun _ h9 => h9) rfl dX15_wantedOf_37 ?_
    refine lv_aload_n hx hb dX15_wantedOf_40 rfl (lv_at hl 2 rfl) ?_
    refine pg_get (ci := 14) (v := .ref rd) (C := RX14) (T := TX14) (N := 2) hx hb hts it_14 hown hK hP hL_dt hFd2 rfl 0 (by decide) (hts _ kt_710) (fun _ h9 => h9) rfl dX15_wantedOf_41 ?_
    refine lv_iconst (v := 0) hx hb dX15_wantedOf_44 (by decide) ?_
    refine lv_aload_n hx hb dX15_wantedOf_45 rfl (lv_at hl 2 rfl) ?_
    refine pg_get (ci := 14) (v := .int (nI zd)) (C := RX14) (T := TX14) (N := 2) hx hb hts it_14 hown hK hP hL_dt hFd2 rfl 1 (by decide) (hts _ kt_709) (fun _ h9 => h9) rfl dX15_wantedOf_46 ?_
    obtain ⟨hq_77, hq_78⟩ := hW.octs hi_29 ht_30
    have hFc := pg_free hD hS hA
    refine va_callv (va_runV (As := [.ref rd, .int 0, .int (nI zd)]) (rest := []) ⟨hx, hb, hml, hown, hts⟩ (s_X14_add__8 l dC dI cs ty gm L H.size F_68 wh (ρ + 24) r_18 6000 rd σ nd j zd fq gd V ([95, 100, 109, 97, 114, 99, 46].take j) hW hi_32 ht_33 hi_29 ht_30 ha2 ha3 hF_73 (hzn) (by omega) (by omega) (ha4) (hV)) ⟨callB_of 3 hts (gi kt_675) rfl rfl rfl (hts _ kt_676) (hts _ kt_956) (by decide +kernel) ⟨Nat.le_of_ble_eq_true rfl, Nat.le_of_ble_eq_true rfl⟩, (hts _ kt_678), (hts _ kt_679)⟩ ⟨fun a U g mk q => ⟨q.1, PTm.calling q.2⟩, pg_recv hK hP hi_32 ha2 (q := (RX14, TX14, 2)) rfl, fun U hU hWm => ⟨rfl, PTm.mk hU hWm hP hK hD hE hO⟩⟩ rfl rfl hl.1 rfl (lv_room (Nat.le_of_ble_eq_true rfl)) dX15_wantedOf_49 ⟨by show _ + 0 ≤ 0; omega, by show _ + 0 ≤ 0; omega⟩) hS (fun q _ h => hFc q h) hFc (fun u t H1 locs ht hvm hw hB hz1 hk1 hS => ?_)
    obtain ⟨F_80, f2_81, hB1, hq_82, hq_83, hq_84⟩ := hB
    obtain ⟨hP, hD, hO, hR⟩ := QTm.back hB1 ht hFc hR (fun q h => by simp only [List.mem_cons, List.not_mem_nil, or_false] at h ⊢; omega)
    have hF_85 : F_80 rd = .inl (cs 17, nd, .inl gd) := (hB1.2.2.2 rd (by rw [ht_30]; simp only [List.mem_cons, List.not_mem_nil, or_false]; omega)).trans hF_73
    have hF_86 : F_80 h0 = .inr (15, (.ref ta) :: (.int (nI zt)) :: (.int (nI zo)) :: (.int (nI ze)) :: (.ref ou) :: (.ref so) :: (.ref ad) :: (.ref na) :: (.ref va) :: (.ref lc) :: (.ref dm) :: (.int (nI fm)) :: (.int (nI sn)) :: (.ref tg) :: (.int v14_37) :: (.int v15_38) :: (.ref pe) :: (.int v17_39) :: (.int v18_40) :: (.int v19_41) :: (.int v20_42) :: (.int v21_43) :: (.int v22_44) :: (.ref ml) :: (.ref bg) :: (.ref co) :: (.ref sp) :: (.ref nb0) :: (.ref nb1) :: (.ref nb2) :: (.int (nI nf)) :: (.int (nI bd)) :: (.int (nI mm)) :: (.int v33_45) :: (.ref pl) :: (.ref se) :: (.ref ke) :: (.ref wi) :: (.ref hs) :: (.ref mo) :: (.ref po) :: (.ref nu) :: (.ref pr) :: (.ref sq) :: (.ref xa) :: (.ref sa) :: (.ref n64) :: (.ref m64) :: (.ref ex) :: (.ref wh) :: (.ref sd) :: (.ref tk) :: (.int v52_46) :: (.int v53_47) :: (.int v54_48) :: (.ref hd) :: (.ref ak) :: (.ref ho) :: (.ref ot) :: []) := (hB1.2.2.2 h0 (by rw [hT_h0]; simp)).trans hF_74
    have hF_87 : F_80 dt = .inr (14, [.ref rd, .int (nI zd)]) := (hB1.2.2.2 dt (by rw [hT_dt]; simp only [List.mem_cons, List.not_mem_nil, or_false]; omega)).trans hFd2
    generalize H1 = H at hP hS ⊢
    refine lv_aload_n hx hb dX15_wantedOf_52 rfl (lv_at hl 1 rfl) ?_
    refine lv_aload_n hx hb dX15_wantedOf_53 rfl (lv_at hl 1 rfl) ?_
    refine pg_get (ci := 15) (v := .ref wh) (C := RX15) (T := TX15) (N := 59) hx hb hts it_15 hown hK hP hL_h0 hF_86 rfl 49 (by decide) (hts _ kt_924) (fun _ h9 => h9) rfl dX15_wantedOf_54 ?_
    have hQso := hR so (by rw [hTs0]; simp only [List.mem_cons, List.not_mem_nil, or_false]; omega)
    have hQad := hR ad (by rw [hTd0]; simp only [List.mem_cons, List.not_mem_nil, or_false]; omega)
    have hQna := hR na (by rw [hTn0]; simp only [List.mem_cons, List.not_mem_nil, or_false]; omega)
    have hQva := hR va (by rw [hTv0]; simp only [List.mem_cons, List.not_mem_nil, or_false]; omega)
    have hDM5 := DIRM.fr hDM hO0 hW hLn0 hTn0 hLv0 hTv0 (by omega) hR hQso hQad hQna hQva (fun k hk => ⟨by simp only [List.mem_cons, List.not_mem_nil, or_false]; omega, by simp only [List.mem_cons, List.not_mem_nil, or_false]; omega⟩)
    have hTL : TGL ([95, 100, 109, 97, 114, 99, 46] ++ V) (j + zd) f2_81 := by have h9 := tgl_of hq_84; rw [show ([95, 100, 109, 97, 114, 99, 46] : List Nat).take j = [95, 100, 109, 97, 114, 99, 46] by rw [hj7e]; rfl] at h9; exact h9
    have hUl := hV.1
    have hFc := pg_free hD hS hA
    refine va_calli (va_runV (As := [.ref wh]) (rest := []) ⟨hx, hb, hml, hown, hts⟩ (s_X15_isTrouble_l l dC dI cs ty gm L H.size F_80 h0 ρ ta ou so ad na va lc dm tg pe ml bg co sp nb0 nb1 nb2 pl se ke wi hs mo po nu pr sq xa sa n64 m64 ex wh sd tk hd ak ho ot sx s0 s1 s2 nf bd mm zo fm sn hg gc gv ze zt wh (ρ + 24) r_18 6000 (j + zd) f2_81 ([95, 100, 109, 97, 114, 99, 46] ++ V) D hW hL_h0 hT_h0 hi_32 ht_33 hq_82 hq_83 (by omega) (hTL) (hDM5)) ⟨callB_of 1 hts (gi kt_736) rfl rfl rfl (hts _ kt_669) (hts _ kt_737) (by decide +kernel) ⟨Nat.le_of_ble_eq_true rfl, Nat.le_of_ble_eq_true rfl⟩, (hts _ kt_738), (hts _ kt_739)⟩ ⟨fun a U g mk q => ⟨q.1, PTm.calling q.2⟩, pg_recv hK hP hL_h0 hF_86 (q := (RX15, TX15, 59)) rfl, fun U hU hWm => ⟨rfl, PTm.mk hU hWm hP hK hD hE hO⟩⟩ rfl rfl hl.1 rfl (lv_room (Nat.le_of_ble_eq_true rfl)) dX15_wantedOf_57 ⟨by show _ + 0 ≤ 0; omega, by show _ + 0 ≤ 0; omega⟩) hS (fun q _ h => hFc q h) hFc (fun r_88 u t H1 locs ht hvm hw hB hz1 hk1 hS => ?_)
    obtain ⟨F_89, hB1⟩ := hB
    obtain rfl : F_80 = F_89 := (funext (fun a => hB1.2.2.2 a List.not_mem_nil)).symm
    obtain ⟨hP, hD, hO, hR⟩ := QTm.back hB1 ht hFc hR (fun q h => absurd h List.not_mem_nil)
    generalize H1 = H at hP hS ⊢
    have hw : ((r_88 = 1 ∧ HAS D ze 3 (ooU ([95, 100, 109, 97, 114, 99, 46] ++ V)) (yU ([95, 100, 109, 97, 114, 99, 46] ++ V)) (faU ([95, 100, 109, 97, 114, 99, 46] ++ V))) ∨ (r_88 = 0 ∧ ¬ HAS D ze 3 (ooU ([95, 100, 109, 97, 114, 99, 46] ++ V)) (yU ([95, 100, 109, 97, 114, 99, 46] ++ V)) (faU ([95, 100, 109, 97, 114, 99, 46] ++ V)))) := hw
    have hw_90 := hw
    refine lv_if_eq (tgt := 66) hx hb dX15_wantedOf_60 (by decide) (fun c_91 => ?_) (fun c_91 => ?_)
    ·
      refine lv_iconst (v := (-1)) hx hb dX15_wantedOf_66 (by decide) ?_
      refine lv_istore_n (lv' := [(2, .int (-1)), (0, .ref h0), (1, .ref dt)]) hx hb dX15_wantedOf_67 rfl hl (by decide) rfl (fun ls hl => ?_)
      refine lv_iconst (v := 0) hx hb dX15_wantedOf_68 (by decide) ?_
      refine lv_istore_n (lv' := [(3, .int 0), (2, .int (-1)), (0, .ref h0), (1, .ref dt)]) hx hb dX15_wantedOf_69 rfl hl (by decide) rfl (fun ls hl => ?_)
      refine lv_iconst (v := 0) hx hb dX15_wantedOf_70 (by decide) ?_
      refine lv_istore (lv' := [(4, .int 0), (3, .int 0), (2, .int (-1)), (0, .ref h0), (1, .ref dt)]) hx hb dX15_wantedOf_71 hl (by decide) rfl (fun ls hl => ?_)
      refine W.widen (k := 0) (n := 0) (by omega) (by omega) ?_
      have hF_93 : F rd = .inl (cs 17, nd, .inl gd) := (hR rd (by rw [ht_30]; simp only [List.mem_cons, List.not_mem_nil, or_false]; omega)).symm.trans hF_85
      have hF_94 : F h0 = .inr (15, (.ref ta) :: (.int (nI zt)) :: (.int (nI zo)) :: (.int (nI ze)) :: (.ref ou) :: (.ref so) :: (.ref ad) :: (.ref na) :: (.ref va) :: (.ref lc) :: (.ref dm) :: (.int (nI fm)) :: (.int (nI sn)) :: (.ref tg) :: (.int v14_37) :: (.int v15_38) :: (.ref pe) :: (.int v17_39) :: (.int v18_40) :: (.int v19_41) :: (.int v20_42) :: (.int v21_43) :: (.int v22_44) :: (.ref ml) :: (.ref bg) :: (.ref co) :: (.ref sp) :: (.ref nb0) :: (.ref nb1) :: (.ref nb2) :: (.int (nI nf)) :: (.int (nI bd)) :: (.int (nI mm)) :: (.int v33_45) :: (.ref pl) :: (.ref se) :: (.ref ke) :: (.ref wi) :: (.ref hs) :: (.ref mo) :: (.ref po) :: (.ref nu) :: (.ref pr) :: (.ref sq) :: (.ref xa) :: (.ref sa) :: (.ref n64) :: (.ref m64) :: (.ref ex) :: (.ref wh) :: (.ref sd) :: (.ref tk) :: (.int v52_46) :: (.int v53_47) :: (.int v54_48) :: (.ref hd) :: (.ref ak) :: (.ref ho) :: (.ref ot) :: []) := (hR h0 (by rw [hT_h0]; simp)).symm.trans hF_86
      have hF_95 : F dt = .inr (14, [.ref rd, .int (nI zd)]) := (hR dt (by rw [hT_dt]; simp only [List.mem_cons, List.not_mem_nil, or_false]; omega)).symm.trans hF_87
      refine pl_loopm (σ := Nat × Int32 × Nat) A (dC, dI) cs ty gm L [ρ + 24] F 73 5 (fun (k, w2, w3) => [(4, .int (nI k)), (3, .int (nI w3)), (2, .int w2), (0, .ref h0), (1, .ref dt)]) (fun (k, w2, w3) => []) (fun (k, w2, w3) FF => k ≤ ze ∧ w3 ≤ k ∧ OTI (otv (OTR (ooU ([95, 100, 109, 97, 114, 99, 46] ++ V)) (yU ([95, 100, 109, 97, 114, 99, 46] ++ V)) (faU ([95, 100, 109, 97, 114, 99, 46] ++ V)) 8 DMS) D k) w2 w3 ze ∧ FF wh = .inr (14, [.ref r_18, .int (nI (j + zd))]) ∧ FF r_18 = .inl (cs 17, 6000, .inl f2_81)) (fun (k, w2, w3) => ze - k) ?_ (0, (-1), 0) F_80 (⟨Nat.zero_le _, Nat.le_refl _, Or.inl ⟨rfl, rfl, rfl⟩, hq_82, hq_83⟩) hO hR _ _ hP hD hS ls (lv_sub hl [0, 1, 2, 3, 4] rfl)
      rintro ⟨k, w2, w3⟩ F_92 hv_96 hO hR ih_97 H locs hP hD hS ls hl
      have hl : lv_has ls 5 [(4, .int (nI k)), (3, .int (nI w3)), (2, .int w2), (0, .ref h0), (1, .ref dt)] := hl
      have hv_96 : k ≤ ze ∧ w3 ≤ k ∧ OTI (otv (OTR (ooU ([95, 100, 109, 97, 114, 99, 46] ++ V)) (yU ([95, 100, 109, 97, 114, 99, 46] ++ V)) (faU ([95, 100, 109, 97, 114, 99, 46] ++ V)) 8 DMS) D k) w2 w3 ze ∧ F_92 wh = .inr (14, [.ref r_18, .int (nI (j + zd))]) ∧ F_92 r_18 = .inl (cs 17, 6000, .inl f2_81) := hv_96
      refine W.eq (g2 := F0 m 73 ls []) rfl ?_
      have hF_98 : F_92 rd = .inl (cs 17, nd, .inl gd) := (hR rd (by rw [ht_30]; simp only [List.mem_cons, List.not_mem_nil, or_false]; omega)).trans hF_93
      have hF_99 : F_92 h0 = .inr (15, (.ref ta) :: (.int (nI zt)) :: (.int (nI zo)) :: (.int (nI ze)) :: (.ref ou) :: (.ref so) :: (.ref ad) :: (.ref na) :: (.ref va) :: (.ref lc) :: (.ref dm) :: (.int (nI fm)) :: (.int (nI sn)) :: (.ref tg) :: (.int v14_37) :: (.int v15_38) :: (.ref pe) :: (.int v17_39) :: (.int v18_40) :: (.int v19_41) :: (.int v20_42) :: (.int v21_43) :: (.int v22_44) :: (.ref ml) :: (.ref bg) :: (.ref co) :: (.ref sp) :: (.ref nb0) :: (.ref nb1) :: (.ref nb2) :: (.int (nI nf)) :: (.int (nI bd)) :: (.int (nI mm)) :: (.int v33_45) :: (.ref pl) :: (.ref se) :: (.ref ke) :: (.ref wi) :: (.ref hs) :: (.ref mo) :: (.ref po) :: (.ref nu) :: (.ref pr) :: (.ref sq) :: (.ref xa) :: (.ref sa) :: (.ref n64) :: (.ref m64) :: (.ref ex) :: (.ref wh) :: (.ref sd) :: (.ref tk) :: (.int v52_46) :: (.int v53_47) :: (.int v54_48) :: (.ref hd) :: (.ref ak) :: (.ref ho) :: (.ref ot) :: []) := (hR h0 (by rw [hT_h0]; simp)).trans hF_94
      have hF_100 : F_92 dt = .inr (14, [.ref rd, .int (nI zd)]) := (hR dt (by rw [hT_dt]; simp only [List.mem_cons, List.not_mem_nil, or_false]; omega)).trans hF_95
      obtain ⟨hv1, hv2, hv3, hv8, hv9⟩ := id hv_96
      have hQso := hR so (by rw [hTs0]; simp only [List.mem_cons, List.not_mem_nil, or_false]; omega)
      have hQad := hR ad (by rw [hTd0]; simp only [List.mem_cons, List.not_mem_nil, or_false]; omega)
      have hQna := hR na (by rw [hTn0]; simp only [List.mem_cons, List.not_mem_nil, or_false]; omega)
      have hQva := hR va (by rw [hTv0]; simp only [List.mem_cons, List.not_mem_nil, or_false]; omega)
      have hDM5 := DIRM.fr hDM hO0 hW hLn0 hTn0 hLv0 hTv0 (by omega) hR hQso hQad hQna hQva (fun k hk => ⟨by simp only [List.mem_cons, List.not_mem_nil, or_false]; omega, by simp only [List.mem_cons, List.not_mem_nil, or_false]; omega⟩)
      obtain ⟨fs, fd, fn, fv, hd1, hd2, hd3, hd4, hd5⟩ := id hDM5
      obtain ⟨hi_101, ht_102⟩ := hW.f_va hL_h0 hT_h0
      obtain ⟨f_103, hF_104, hq_105⟩ := hO.rtxj hi_101 ht_102
      obtain rfl : f_103 = fv := by have e9 := hF_104.symm.trans hd4; simpa using e9
      refine lv_iload hx hb dX15_wantedOf_73 (lv_at hl 0 rfl) ?_
      refine lv_aload_n hx hb dX15_wantedOf_75 rfl (lv_at hl 3 rfl) ?_
      refine pg_get (ci := 15) (v := .int (nI ze)) (C := RX15) (T := TX15) (N := 59) hx hb hts it_15 hown hK hP hL_h0 hF_99 rfl 3 (by decide) (hts _ kt_724) (fun _ h9 => h9) rfl dX15_wantedOf_76 ?_
      refine lv_icmp_ge (tgt := 141) hx hb dX15_wantedOf_79 (by decide) (fun c_106 => ?_) (fun c_106 => ?_)
      ·
        have hi_107 : ze ≤ k := leN (N := ze) c_106
        refine lv_iload_n hx hb dX15_wantedOf_141 rfl (lv_at hl 1 rfl) ?_
        refine lv_iconst (v := 1) hx hb dX15_wantedOf_142 (by decide) ?_
        refine lv_icmp_ne (tgt := 150) hx hb dX15_wantedOf_143 (by decide) (fun c_108 => ?_) (fun c_108 => ?_)
        ·
          have hi_109 : w3 ≠ 1 := fun q => c_108 (by rw [q]; rfl)
          refine lv_iconst (v := (-1)) hx hb dX15_wantedOf_150 (by decide) ?_
          refine W.widen (k := 0) (n := 0) (by omega) (by omega) ?_
          exact W.iret (v := (-1)) hx hb hr (fun t ht hWm => ⟨⟨(-1), (), rfl, (by unfold woW; rw [if_neg (show ¬ HAS D ze 3 (ooU ([95, 100, 109, 97, 114, 99, 46] ++ V)) (yU ([95, 100, 109, 97, 114, 99, 46] ++ V)) (faU ([95, 100, 109, 97, 114, 99, 46] ++ V)) from orp0 hw_90 c_91)]; show (_ : Int32) = (if otv (OTR (ooU ([95, 100, 109, 97, 114, 99, 46] ++ V)) (yU ([95, 100, 109, 97, 114, 99, 46] ++ V)) (faU ([95, 100, 109, 97, 114, 99, 46] ++ V)) 8 DMS) D ze < 0 then (-1) else otv (OTR (ooU ([95, 100, 109, 97, 114, 99, 46] ++ V)) (yU ([95, 100, 109, 97, 114, 99, 46] ++ V)) (faU ([95, 100, 109, 97, 114, 99, 46] ++ V)) 8 DMS) D ze); rw [show ze = k by omega]; exact oti_0 (show OTI (otv (OTR (ooU ([95, 100, 109, 97, 114, 99, 46] ++ V)) (yU ([95, 100, 109, 97, 114, 99, 46] ++ V)) (faU ([95, 100, 109, 97, 114, 99, 46] ++ V)) 8 DMS) D k) w2 w3 k from by have h9 := hv3; rw [show ze = k by omega] at h9; exact h9) (show ¬ w3 = 1 from fun q => c_108 (by rw [q]; rfl))), ⟨F_92, QTm.mk ht hP hD hO hR⟩⟩, hS.F ht⟩) hS.2.2 dX15_wantedOf_151
        ·
          have hi_110 : w3 = 1 := (nI_eq (a := w3) (b := 1) (by omega) (by omega)).mp c_108
          refine lv_iload_n hx hb dX15_wantedOf_146 rfl (lv_at hl 2 rfl) ?_
          refine lv_goto (tgt := 151) hx hb dX15_wantedOf_147 (by decide) ?_
          refine W.widen (k := 0) (n := 0) (by omega) (by omega) ?_
          exact W.iret (v := w2) hx hb hr (fun t ht hWm => ⟨⟨w2, (), rfl, (by unfold woW; rw [if_neg (show ¬ HAS D ze 3 (ooU ([95, 100, 109, 97, 114, 99, 46] ++ V)) (yU ([95, 100, 109, 97, 114, 99, 46] ++ V)) (faU ([95, 100, 109, 97, 114, 99, 46] ++ V)) from orp0 hw_90 c_91)]; show (_ : Int32) = (if otv (OTR (ooU ([95, 100, 109, 97, 114, 99, 46] ++ V)) (yU ([95, 100, 109, 97, 114, 99, 46] ++ V)) (faU ([95, 100, 109, 97, 114, 99, 46] ++ V)) 8 DMS) D ze < 0 then (-1) else otv (OTR (ooU ([95, 100, 109, 97, 114, 99, 46] ++ V)) (yU ([95, 100, 109, 97, 114, 99, 46] ++ V)) (faU ([95, 100, 109, 97, 114, 99, 46] ++ V)) 8 DMS) D ze); rw [show ze = k by omega]; exact oti_1 (show OTI (otv (OTR (ooU ([95, 100, 109, 97, 114, 99, 46] ++ V)) (yU ([95, 100, 109, 97, 114, 99, 46] ++ V)) (faU ([95, 100, 109, 97, 114, 99, 46] ++ V)) 8 DMS) D k) w2 w3 k from by have h9 := hv3; rw [show ze = k by omega] at h9; exact h9) (by omega) (show w3 = 1 from (nI_eq (b := 1) (by omega) (by omega)).mp c_108)), ⟨F_92, QTm.mk ht hP hD hO hR⟩⟩, hS.F ht⟩) hS.2.2 dX15_wantedOf_151
      ·
        have hi_111 : k < ze := ltN (N := ze) c_106
        refine lv_aload_n hx hb dX15_wantedOf_82 rfl (lv_at hl 3 rfl) ?_
        refine lv_iload hx hb dX15_wantedOf_83 (lv_at hl 0 rfl) ?_
        refine lv_iconst (v := 0) hx hb dX15_wantedOf_85 (by decide) ?_
        refine lv_aload_n hx hb dX15_wantedOf_86 rfl (lv_at hl 3 rfl) ?_
        refine pg_get (ci := 15) (v := .ref wh) (C := RX15) (T := TX15) (N := 59) hx hb hts it_15 hown hK hP hL_h0 hF_99 rfl 49 (by decide) (hts _ kt_924) (fun _ h9 => h9) rfl dX15_wantedOf_87 ?_
        have hFc := pg_free hD hS hA
        refine va_calli (va_runV (As := [.int (nI k), .int 0, .ref wh]) (rest := []) ⟨hx, hb, hml, hown, hts⟩ (s_X15_isOf_l l dC dI cs ty gm L H.size F_92 h0 ρ ta ou so ad na va lc dm tg pe ml bg co sp nb0 nb1 nb2 pl se ke wi hs mo po nu pr sq xa sa n64 m64 ex wh sd tk hd ak ho ot sx s0 s1 s2 nf bd mm zo fm sn hg gc gv ze zt k wh (ρ + 24) r_18 6000 (j + zd) f2_81 ([95, 100, 109, 97, 114, 99, 46] ++ V) D 0 hW hL_h0 hT_h0 hi_32 ht_33 hv8 hv9 (by omega) (hTL) (by omega) (hDM5)) ⟨callB_of 3 hts (gi kt_725) rfl rfl rfl (hts _ kt_669) (hts _ kt_726) (by decide +kernel) ⟨Nat.le_of_ble_eq_true rfl, Nat.le_of_ble_eq_true rfl⟩, (hts _ kt_727), (hts _ kt_728)⟩ ⟨fun a U g mk q => ⟨q.1, PTm.calling q.2⟩, pg_recv hK hP hL_h0 hF_99 (q := (RX15, TX15, 59)) rfl, fun U hU hWm => ⟨rfl, PTm.mk hU hWm hP hK hD hE hO⟩⟩ rfl rfl hl.1 rfl (lv_room (Nat.le_of_ble_eq_true rfl)) dX15_wantedOf_90 ⟨by show _ + 0 ≤ 0; omega, by show _ + 0 ≤ 0; omega⟩) hS (fun q _ h => hFc q h) hFc (fun r_112 u t H1 locs ht hvm hw hB hz1 hk1 hS => ?_)
        obtain ⟨F_113, hB1⟩ := hB
        obtain rfl : F_92 = F_113 := (funext (fun a => hB1.2.2.2 a List.not_mem_nil)).symm
        obtain ⟨hP, hD, hO, hR⟩ := QTm.back hB1 ht hFc hR (fun q h => absurd h List.not_mem_nil)
        generalize H1 = H at hP hS ⊢
        have hw : ((r_112 = 1 ∧ ((D k).1 = 0 ∧ SAMN (D k) (ooU ([95, 100, 109, 97, 114, 99, 46] ++ V)) (yU ([95, 100, 109, 97, 114, 99, 46] ++ V)) (faU ([95, 100, 109, 97, 114, 99, 46] ++ V)))) ∨ (r_112 = 0 ∧ ¬ ((D k).1 = 0 ∧ SAMN (D k) (ooU ([95, 100, 109, 97, 114, 99, 46] ++ V)) (yU ([95, 100, 109, 97, 114, 99, 46] ++ V)) (faU ([95, 100, 109, 97, 114, 99, 46] ++ V))))) := hw
        have hw_114 := hw
        refine lv_if_eq (tgt := 135) hx hb dX15_wantedOf_93 (by decide) (fun c_115 => ?_) (fun c_115 => ?_)
        ·
          refine lv_iinc (v := (nI (k + 1))) (lv' := [(4, .int (nI (k + 1))), (3, .int (nI w3)), (2, .int w2), (0, .ref h0), (1, .ref dt)]) hx hb dX15_wantedOf_135 hl (k := 0) rfl (nI_1 _) (by decide) rfl (fun ls hl => ?_)
          refine lv_goto (tgt := 73) hx hb dX15_wantedOf_138 (by decide) ?_
          refine W.widen (k := 0) (n := 0) (by omega) (by omega) ?_
          exact ih_97 ((k + 1), w2, w3) F_92 (⟨by omega, by omega, oti_n hv3 (fun q => orp0 hw_114 c_115 ⟨q.1, q.2.1⟩), hv8, hv9⟩) (by show ze - (k + 1) < ze - k; omega) hO hR _ _ hP hD hS ls (lv_sub hl [0, 1, 2, 3, 4] rfl)
        ·
          refine lv_aload_n hx hb dX15_wantedOf_96 rfl (lv_at hl 3 rfl) ?_
          refine pg_get (ci := 15) (v := .ref va) (C := RX15) (T := TX15) (N := 59) hx hb hts it_15 hown hK hP hL_h0 hF_99 rfl 8 (by decide) (hts _ kt_732) (fun _ h9 => h9) rfl dX15_wantedOf_97 ?_
          refine lv_iload hx hb dX15_wantedOf_100 (lv_at hl 0 rfl) ?_
          obtain ⟨b_116, r_117, hbf_118, hi_119, ht_120⟩ := hq_105 k (by omega)
          refine pg_aald (r := b_116) hx hb hK hP hi_101 7 hF_104 rfl (vp_in_nI (by omega) (by omega)) (show f_103 ((nI k) : Int32).toNatClampNeg = _ from by rw [show ((nI k) : Int32) = nI k from rfl, nI_clamp (by omega)]; exact hbf_118) dX15_wantedOf_102 ?_
          obtain ⟨hen1a, hen1b, hen1c⟩ := ENM.get (hd5 k (by omega)).2.2.2 hbf_118 hO hi_119 ht_120
          obtain ⟨hi_121, ht_122, hq_123⟩ := hW.txt hi_119 ht_120
          refine pg_get (ci := 14) (v := .ref r_117) (C := RX14) (T := TX14) (N := 2) hx hb hts it_14 hown hK hP hi_119 hen1a rfl 0 (by decide) (hts _ kt_710) (fun _ h9 => h9) rfl dX15_wantedOf_103 ?_
          refine lv_iconst (v := 0) hx hb dX15_wantedOf_106 (by decide) ?_
          refine lv_aload_n hx hb dX15_wantedOf_107 rfl (lv_at hl 3 rfl) ?_
          refine pg_get (ci := 15) (v := .ref va) (C := RX15) (T := TX15) (N := 59) hx hb hts it_15 hown hK hP hL_h0 hF_99 rfl 8 (by decide) (hts _ kt_732) (fun _ h9 => h9) rfl dX15_wantedOf_108 ?_
          refine lv_iload hx hb dX15_wantedOf_111 (lv_at hl 0 rfl) ?_
          refine pg_aald (r := b_116) hx hb hK hP hi_101 7 hF_104 rfl (vp_in_nI (by omega) (by omega)) (show f_103 ((nI k) : Int32).toNatClampNeg = _ from by rw [show ((nI k) : Int32) = nI k from rfl, nI_clamp (by omega)]; exact hbf_118) dX15_wantedOf_113 ?_
          refine pg_get (ci := 14) (v := .int (nI (D k).2.2.2.2.1)) (C := RX14) (T := TX14) (N := 2) hx hb hts it_14 hown hK hP hi_119 hen1a rfl 1 (by decide) (hts _ kt_709) (fun _ h9 => h9) rfl dX15_wantedOf_114 ?_
          obtain ⟨q_124, v_125, hr_q_124, hX_q_124⟩ := hG.2.2 ("PostGateModel", 571, "v=DMARC1", [118, 61, 68, 77, 65, 82, 67, 49]) (by decide +kernel)
          have hX_q_124 : SXc q_124 v_125 8 (cct [118, 61, 68, 77, 65, 82, 67, 49]) A s s.heap := hX_q_124
          obtain ⟨xo_q_124, xc_q_124, xv_q_124, xt_q_124, xn_q_124⟩ := id hX_q_124
          have hr_q_124 : vk_R "PostGateModel" 571 "v=DMARC1" q_124 s := hr_q_124
          refine va_ldcwS hx hb hown hr_q_124 dX15_wantedOf_117 ?_
          refine W.eq (g2 := F0 m 120 ls [.ref q_124, .int (nI (D k).2.2.2.2.1), .int (nI 0), .ref r_117]) rfl ?_
          obtain ⟨hq_126, hq_127⟩ := hW.octs hi_121 ht_122
          have hFc := pg_free hD hS hA
          refine va_calli (va_runS (As := [.ref r_117, .int (nI 0), .int (nI (D k).2.2.2.2.1), .ref q_124]) (rest := []) ⟨hx, hb, hml, hown, hts⟩ (s_X15_begins_x l dC dI cs ty gm L H.size F_92 r_117 (ρ + 50 + k + 100) 700 q_124 v_125 8 (cct [118, 61, 68, 77, 65, 82, 67, 49]) ((D k).2.2.2.2.1) 0 ((D k).2.2.2.2.1) ((D k).2.2.2.2.2) DMS hW hi_121 ht_122 hen1b (Nat.le_refl _) (hen1c) (by first | omega | assumption | exact Or.inl rfl) (by omega) (⟨rfl, by decide +kernel⟩)) ⟨callB_of 4 hts (gi kt_733) rfl rfl rfl (hts _ kt_669) (hts _ kt_734) (by decide +kernel) ⟨Nat.le_of_ble_eq_true rfl, Nat.le_of_ble_eq_true rfl⟩, (hts _ kt_735)⟩ ⟨fun a U g mk q => ⟨q.1, PTEm.calling q.2⟩, fun U hU hWm => ⟨rfl, PTEm.mk hU hWm hP hK hD hE hO hG (fun x hx => by rw [List.mem_singleton] at hx; subst hx; exact hX_q_124) hS hFc⟩⟩ rfl rfl hl.1 rfl (lv_room (Nat.le_of_ble_eq_true rfl)) dX15_wantedOf_120 ⟨by show _ + 0 ≤ 0; omega, by show _ + 0 ≤ 0; omega⟩) hS (fun q _ h => hFc q h) hFc (fun r_128 u t H1 locs ht hvm hw hB hz1 hk1 hS => ?_)
          obtain ⟨F_129, hB1⟩ := hB
          obtain rfl : F_92 = F_129 := (funext (fun a => hB1.2.2.2 a List.not_mem_nil)).symm
          obtain ⟨hP, hD, hO, hR⟩ := QTm.back hB1 ht hFc hR (fun q h => absurd h List.not_mem_nil)
          generalize H1 = H at hP hS ⊢
          have hw : ((r_128 = 1 ∧ BGW (TC (D k).2.2.2.2.2 (D k).2.2.2.2.1) 0 (D k).2.2.2.2.1 8 DMS) ∨ (r_128 = 0 ∧ ¬ BGW (TC (D k).2.2.2.2.2 (D k).2.2.2.2.1) 0 (D k).2.2.2.2.1 8 DMS)) := hw
          have hw_130 := hw
          refine lv_if_ne (tgt := 129) hx hb dX15_wantedOf_123 (by decide) (fun c_131 => ?_) (fun c_131 => ?_)
          ·
            refine lv_iload hx hb dX15_wantedOf_129 (lv_at hl 0 rfl) ?_
            refine lv_istore_n (lv' := [(2, .int (nI k)), (4, .int (nI k)), (3, .int (nI w3)), (0, .ref h0), (1, .ref dt)]) hx hb dX15_wantedOf_131 rfl hl (by decide) rfl (fun ls hl => ?_)
            refine lv_iinc (v := (nI (w3 + 1))) (lv' := [(3, .int (nI (w3 + 1))), (2, .int (nI k)), (4, .int (nI k)), (0, .ref h0), (1, .ref dt)]) hx hb dX15_wantedOf_132 hl (k := 2) rfl (nI_1 _) (by decide) rfl (fun ls hl => ?_)
            refine lv_iinc (v := (nI (k + 1))) (lv' := [(4, .int (nI (k + 1))), (3, .int (nI (w3 + 1))), (2, .int (nI k)), (0, .ref h0), (1, .ref dt)]) hx hb dX15_wantedOf_135 hl (k := 2) rfl (nI_1 _) (by decide) rfl (fun ls hl => ?_)
            refine lv_goto (tgt := 73) hx hb dX15_wantedOf_138 (by decide) ?_
            refine W.widen (k := 0) (n := 0) (by omega) (by omega) ?_
            exact ih_97 ((k + 1), (nI k), (w3 + 1)) F_92 (⟨by omega, by omega, oti_y hv3 ⟨(orp1 hw_114 c_115).1, (orp1 hw_114 c_115).2, orp1 hw_130 c_131⟩ (by omega) hze, hv8, hv9⟩) (by show ze - (k + 1) < ze - k; omega) hO hR _ _ hP hD hS ls (lv_sub hl [0, 1, 2, 3, 4] rfl)
          ·
            refine lv_goto (tgt := 135) hx hb dX15_wantedOf_126 (by decide) ?_
            refine lv_iinc (v := (nI (k + 1))) (lv' := [(4, .int (nI (k + 1))), (3, .int (nI w3)), (2, .int w2), (0, .ref h0), (1, .ref dt)]) hx hb dX15_wantedOf_135 hl (k := 0) rfl (nI_1 _) (by decide) rfl (fun ls hl => ?_)
            refine lv_goto (tgt := 73) hx hb dX15_wantedOf_138 (by decide) ?_
            refine W.widen (k := 0) (n := 0) (by omega) (by omega) ?_
            exact ih_97 ((k + 1), w2, w3) F_92 (⟨by omega, by omega, oti_n hv3 (fun q => orp0 hw_130 c_131 q.2.2), hv8, hv9⟩) (by show ze - (k + 1) < ze - k; omega) hO hR _ _ hP hD hS ls (lv_sub hl [0, 1, 2, 3, 4] rfl)
    ·
      refine lv_bipush (v := (-2)) hx hb dX15_wantedOf_63 (by decide) ?_
      refine W.widen (k := 0) (n := 0) (by omega) (by omega) ?_
      exact W.iret (v := (-2)) hx hb hr (fun t ht hWm => ⟨⟨(-2), (), rfl, (by unfold woW; rw [if_pos (show HAS D ze 3 (ooU ([95, 100, 109, 97, 114, 99, 46] ++ V)) (yU ([95, 100, 109, 97, 114, 99, 46] ++ V)) (faU ([95, 100, 109, 97, 114, 99, 46] ++ V)) from orp1 hw_90 c_91)]), ⟨F_80, QTm.mk ht hP hD hO hR⟩⟩, hS.F ht⟩) hS.2.2 dX15_wantedOf_65
  ·
    have hi_132 : j < 7 := ltN (N := 7) c_75
    have hj7 : j < 7 := by have h9 : ¬ 7 ≤ j := fun q => c_75 ((nI_leI (a := 7) (by omega) (by omega)).mpr q); omega
    refine lv_aload_n hx hb dX15_wantedOf_16 rfl (lv_at hl 1 rfl) ?_
    refine pg_get (ci := 15) (v := .ref wh) (C := RX15) (T := TX15) (N := 59) hx hb hts it_15 hown hK hP hL_h0 hF_74 rfl 49 (by decide) (hts _ kt_924) (fun _ h9 => h9) rfl dX15_wantedOf_17 ?_
    obtain ⟨q_133, v_134, hr_q_133, hX_q_133⟩ := hG.2.2 ("PostGateModel", 569, "_dmarc.", [95, 100, 109, 97, 114, 99, 46]) (by decide +kernel)
    have hX_q_133 : SXc q_133 v_134 7 (cct [95, 100, 109, 97, 114, 99, 46]) A s s.heap := hX_q_133
    obtain ⟨xo_q_133, xc_q_133, xv_q_133, xt_q_133, xn_q_133⟩ := id hX_q_133
    have hr_q_133 : vk_R "PostGateModel" 569 "_dmarc." q_133 s := hr_q_133
    refine va_ldcwS hx hb hown hr_q_133 dX15_wantedOf_20 ?_
    refine lv_iload_n hx hb dX15_wantedOf_23 rfl (lv_at hl 0 rfl) ?_
    have hFc := pg_free hD hS hA
    refine va_calli (va_runV (As := [.int (nI j)]) (rest := [.ref wh]) ⟨hx, hb, hml, hown, hts⟩ (m_J0_charAt_5068e l dC dI cs ty gm L H.size F_68 q_133 v_134 7 (cct [95, 100, 109, 97, 114, 99, 46]) j hW (hj7)) ⟨callB_of 1 hts (gi kt_75) rfl rfl rfl (hts _ kt_51) (hts _ kt_693) (by decide +kernel) ⟨Nat.le_of_ble_eq_true rfl, Nat.le_of_ble_eq_true rfl⟩, (hts _ kt_77), (hts _ kt_78)⟩ ⟨fun a U g mk q => ⟨q.1, PTEm.calling q.2⟩, sx_recv hX_q_133.sx hS, fun U hU hWm => ⟨rfl, PTEm.mk hU hWm hP hK hD hE hO hG (fun x hx => by rw [List.mem_singleton] at hx; subst hx; exact hX_q_133) hS hFc⟩⟩ rfl rfl hl.1 rfl (lv_room (Nat.le_of_ble_eq_true rfl)) dX15_wantedOf_24 ⟨by show _ + 0 ≤ 0; omega, by show _ + 0 ≤ 0; omega⟩) hS (fun q _ h => hFc q h) hFc (fun r_135 u t H1 locs ht hvm hw hB hz1 hk1 hS => ?_)
    obtain ⟨F_136, hB1⟩ := hB
    obtain rfl : F_68 = F_136 := (funext (fun a => hB1.2.2.2 a List.not_mem_nil)).symm
    obtain ⟨hP, hD, hO, hR⟩ := QTm.back hB1 ht hFc hR (fun q h => absurd h List.not_mem_nil)
    generalize H1 = H at hP hS ⊢
    have hw : r_135 = chv ((cct [95, 100, 109, 97, 114, 99, 46]) j) := hw
    subst hw
    have hCL7 : CLI (cct [95, 100, 109, 97, 114, 99, 46]) 7 [95, 100, 109, 97, 114, 99, 46] := ⟨rfl, by decide +kernel⟩
    refine lv_topi (fun x9 ex9 => ?_)
    obtain rfl : x9 = nI ([95, 100, 109, 97, 114, 99, 46].getD j 0) := ex9.trans (hCL7.2 j hj7).1
    have hFc := pg_free hD hS hA
    refine va_callv (va_runV (As := [.int (nI ([95, 100, 109, 97, 114, 99, 46].getD j 0))]) (rest := []) ⟨hx, hb, hml, hown, hts⟩ (s_X14_add_8 l dC dI cs ty gm L H.size F_68 wh (ρ + 24) r_18 6000 j ([95, 100, 109, 97, 114, 99, 46].getD j 0) fq hW hi_32 ht_33 ha2 ha3 (by omega) ((hCL7.2 j hj7).2)) ⟨callB_of 1 hts (gi kt_711) rfl rfl rfl (hts _ kt_676) (hts _ kt_712) (by decide +kernel) ⟨Nat.le_of_ble_eq_true rfl, Nat.le_of_ble_eq_true rfl⟩, (hts _ kt_713), (hts _ kt_714)⟩ ⟨fun a U g mk q => ⟨q.1, PTm.calling q.2⟩, pg_recv hK hP hi_32 ha2 (q := (RX14, TX14, 2)) rfl, fun U hU hWm => ⟨rfl, PTm.mk hU hWm hP hK hD hE hO⟩⟩ rfl rfl hl.1 rfl (lv_room (Nat.le_of_ble_eq_true rfl)) dX15_wantedOf_27 ⟨by show _ + 0 ≤ 0; omega, by show _ + 0 ≤ 0; omega⟩) hS (fun q _ h => hFc q h) hFc (fun u t H1 locs ht hvm hw hB hz1 hk1 hS => ?_)
    obtain ⟨F_138, hB1, hq_139, hq_140⟩ := hB
    obtain ⟨hP, hD, hO, hR⟩ := QTm.back hB1 ht hFc hR (fun q h => by simp only [List.mem_cons, List.not_mem_nil, or_false] at h ⊢; omega)
    have hF_141 : F_138 rd = .inl (cs 17, nd, .inl gd) := (hB1.2.2.2 rd (by rw [ht_30]; simp only [List.mem_cons, List.not_mem_nil, or_false]; omega)).trans hF_73
    have hF_142 : F_138 h0 = .inr (15, (.ref ta) :: (.int (nI zt)) :: (.int (nI zo)) :: (.int (nI ze)) :: (.ref ou) :: (.ref so) :: (.ref ad) :: (.ref na) :: (.ref va) :: (.ref lc) :: (.ref dm) :: (.int (nI fm)) :: (.int (nI sn)) :: (.ref tg) :: (.int v14_37) :: (.int v15_38) :: (.ref pe) :: (.int v17_39) :: (.int v18_40) :: (.int v19_41) :: (.int v20_42) :: (.int v21_43) :: (.int v22_44) :: (.ref ml) :: (.ref bg) :: (.ref co) :: (.ref sp) :: (.ref nb0) :: (.ref nb1) :: (.ref nb2) :: (.int (nI nf)) :: (.int (nI bd)) :: (.int (nI mm)) :: (.int v33_45) :: (.ref pl) :: (.ref se) :: (.ref ke) :: (.ref wi) :: (.ref hs) :: (.ref mo) :: (.ref po) :: (.ref nu) :: (.ref pr) :: (.ref sq) :: (.ref xa) :: (.ref sa) :: (.ref n64) :: (.ref m64) :: (.ref ex) :: (.ref wh) :: (.ref sd) :: (.ref tk) :: (.int v52_46) :: (.int v53_47) :: (.int v54_48) :: (.ref hd) :: (.ref ak) :: (.ref ho) :: (.ref ot) :: []) := (hB1.2.2.2 h0 (by rw [hT_h0]; simp)).trans hF_74
    have hF_143 : F_138 dt = .inr (14, [.ref rd, .int (nI zd)]) := (hB1.2.2.2 dt (by rw [hT_dt]; simp only [List.mem_cons, List.not_mem_nil, or_false]; omega)).trans hFd2
    generalize H1 = H at hP hS ⊢
    refine lv_iinc (v := (nI (j + 1))) (lv' := [(2, .int (nI (j + 1))), (0, .ref h0), (1, .ref dt)]) hx hb dX15_wantedOf_30 hl (k := 0) rfl (nI_1 _) (by decide) rfl (fun ls hl => ?_)
    refine lv_goto (tgt := 10) hx hb dX15_wantedOf_33 (by decide) ?_
    refine W.widen (k := 0) (n := 0) (by omega) (by omega) ?_
    exact ih_72 ((j + 1), (upd fq j (nI ([95, 100, 109, 97, 114, 99, 46].getD j 0)))) F_138 (⟨by omega, hq_139, hq_140, by have h9 := src_a ha4 (c := [95, 100, 109, 97, 114, 99, 46].getD j 0) (hCL7.2 j hj7).2; rw [tk_s (l := []) [95, 100, 109, 97, 114, 99, 46] j hj7] at h9; exact h9⟩) (by show 7 - (j + 1) < 7 - j; omega) hO hR _ _ hP hD hS ls (lv_sub hl [0, 1, 2] rfl)
set_option maxHeartbeats 4000000 in
set_option maxRecDepth 100000 in
theorem s_X14_isName_x (l : Launch) (dC : Nat → ClassId) (dI : Nat → Nat → Nat) (cs : Nat → ClassId) (ty : TyM) (gm : Nat → Nat → Nat) (L : List Nat) (sz : Nat) (F : Nat → va_E) (h0 : Nat) (ρ : Nat) (r0 : Nat) (n : Nat) (z : Nat) (fq : Nat → Int32) (hW : WTm ty gm L) (hL_h0 : h0 ∈ L) (hT_h0 : ty h0 = (14, ρ, [r0, n])) (hF0 : F h0 = .inr (14, [.ref r0, .int (nI z)])) (hFr : F r0 = .inl (cs 17, n, .inl fq)) (hzn : z ≤ n) : Met l yX14_isName (.code yX14_isName cX14_isName 1 (some .boolean) :: tb) ({ frames := 2, cells := 0, slots := 0, locals := 50 }) (va_Pc [.ref h0] (PTm (dC, dI) cs ty gm L F sz)) (va_Qi (fun (r : Int32) (_ : Unit) => r = (if NM fq 0 z = true then 1 else 0)) (fun _ T9 => ∃ F2 : Nat → va_E, QTm (dC, dI) cs ty gm L [] F F2 (va_A (va_pl L F) sz) T9) (va_A (va_pl L F) sz)) 0 0 (va_A (va_pl L F) sz) := by
  refine Met.ofW (cc := cX14_isName) (maxL := 1) (ret := (some .boolean)) (by decide) rfl ?_
  intro p e s m args below meth c s₁ B hml hv
  obtain ⟨rfl, hsz, hP, hK, hD0, hE, hO⟩ := hv
  have hx := B.exec
  have hb := B.bytes
  have hr := B.returns
  have hts : ∀ w ∈ tb, w.before _ s = true := fun w h => atoms_spec (ws := .code yX14_isName cX14_isName 1 (some .boolean) :: tb) B.pre w (List.mem_cons_of_mem _ h)
  have hown : s.vm.findClass RX14 = some m.cls := findClass_of_methodNamed B.named
  have hlocks := B.notSynchronized
  subst hsz
  have hD := hD0.self (sz := s.heap.size)
  generalize hAe : va_A (va_pl L F) s.heap.size = A at hD ⊢
  have hA : ∀ q : Nat, s.heap.size ≤ q → A q := fun q h => by rw [← hAe]; exact Or.inr h
  have hS : va_S A s.heap s.heap [] := va_S.rf
  have hR : FR ty [] F F := FR.refl
  have hl := lv_entry ([.ref h0]) (n := 1) (Nat.le_of_ble_eq_true rfl)
  rw [lg_entry_eq]
  generalize (lg_sl ([.ref h0]) ++ List.replicate (1 - (lg_sl ([.ref h0])).length) Slot.unset).toArray = ls at hl ⊢
  have hl : lv_has ls 1 [(0, .ref h0)] := hl
  obtain ⟨hi_1, ht_2, hq_3⟩ := hW.txt hL_h0 hT_h0
  refine lv_aload_n hx hb dX14_isName_0 rfl (lv_at hl 0 rfl) ?_
  refine pg_get (ci := 14) (v := .ref r0) (C := RX14) (T := TX14) (N := 2) hx hb hts it_14 hown hK hP hL_h0 hF0 rfl 0 (by decide) (hts _ kt_672) (fun _ h9 => h9) rfl dX14_isName_1 ?_
  refine lv_iconst (v := 0) hx hb dX14_isName_4 (by decide) ?_
  refine lv_aload_n hx hb dX14_isName_5 rfl (lv_at hl 0 rfl) ?_
  refine pg_get (ci := 14) (v := .int (nI z)) (C := RX14) (T := TX14) (N := 2) hx hb hts it_14 hown hK hP hL_h0 hF0 rfl 1 (by decide) (hts _ kt_673) (fun _ h9 => h9) rfl dX14_isName_6 ?_
  refine W.eq (g2 := F0 m 9 ls [.int (nI z), .int (nI 0), .ref r0]) rfl ?_
  obtain ⟨hq_4, hq_5⟩ := hW.octs hi_1 ht_2
  have hFc := pg_free hD hS hA
  refine va_calli (va_runS (As := [.ref r0, .int (nI 0), .int (nI z)]) (rest := []) ⟨hx, hb, hml, hown, hts⟩ (s_X14_isName_e l dC dI cs ty gm L s.heap.size F r0 ρ n 0 z fq hW hi_1 ht_2 hFr (Nat.zero_le _) (hzn)) ⟨callB_of 3 hts (gi kt_689) rfl rfl rfl (hts _ kt_676) (hts _ kt_690) (by decide +kernel) ⟨Nat.le_of_ble_eq_true rfl, Nat.le_of_ble_eq_true rfl⟩, (hts _ kt_691)⟩ ⟨fun a U g mk q => ⟨q.1, PTm.calling q.2⟩, fun U hU hWm => ⟨rfl, PTm.mk hU hWm hP hK hD hE hO⟩⟩ rfl rfl hl.1 rfl (lv_room (Nat.le_of_ble_eq_true rfl)) dX14_isName_9 ⟨by show _ + 0 ≤ 0; omega, by show _ + 0 ≤ 0; omega⟩) hS (fun q _ h => hFc q h) hFc (fun r_6 u t H1 locs ht hvm hw hB hz1 hk1 hS => ?_)
  obtain ⟨F_7, hB1⟩ := hB
  obtain rfl : F = F_7 := (funext (fun a => hB1.2.2.2 a List.not_mem_nil)).symm
  obtain ⟨hP, hD, hO, hR⟩ := QTm.back hB1 ht hFc hR (fun q h => absurd h List.not_mem_nil)
  generalize H1 = H at hP hS ⊢
  have hw : r_6 = (if NM fq 0 z = true then 1 else 0) := hw
  have hw_8 := hw
  refine W.widen (k := 0) (n := 0) (by omega) (by omega) ?_
  exact W.zret (v := r_6) (ty := .boolean) hx hb hr (bitN (nmb hw_8)) (fun t ht hWm => ⟨⟨r_6, (), rfl, hw_8, ⟨F, QTm.mk ht hP hD hO hR⟩⟩, hS.F ht⟩) hS.2.2 dX14_isName_12
set_option maxHeartbeats 4000000 in
set_option maxRecDepth 100000 in
theorem s_X15_isSeen_x (l : Launch) (dC : Nat → ClassId) (dI : Nat → Nat → Nat) (cs : Nat → ClassId) (ty : TyM) (gm : Nat → Nat → Nat) (L : List Nat) (sz : Nat) (F : Nat → va_E) (h0 : Nat) (ρ : Nat) (ta : Nat) (ou : Nat) (so : Nat) (ad : Nat) (na : Nat) (va : Nat) (lc : Nat) (dm : Nat) (tg : Nat) (pe : Nat) (ml : Nat) (bg : Nat) (co : Nat) (sp : Nat) (nb0 : Nat) (nb1 : Nat) (nb2 : Nat) (pl : Nat) (se : Nat) (ke : Nat) (wi : Nat) (hs : Nat) (mo : Nat) (po : Nat) (nu : Nat) (pr : Nat) (sq : Nat) (xa : Nat) (sa : Nat) (n64 : Nat) (m64 : Nat) (ex : Nat) (wh : Nat) (sd : Nat) (tk : Nat) (hd : Nat) (ak : Nat) (ho : Nat) (ot : Nat) (sx : Nat) (s0 : Nat) (s1 : Nat) (s2 : Nat) (nf : Nat) (bd : Nat) (mm : Nat) (zo : Nat) (fm : Nat) (sn : Nat) (hg : Nat) (gc : Nat) (gv : Nat) (ze : Nat) (zt : Nat) (rak : Nat) (gl : Nat → Int32) (hW : WTm ty gm L) (hL_h0 : h0 ∈ L) (hT_h0 : ty h0 = (15, ρ, [ta, ou, so, ad, na, va, lc, dm, tg, pe, ml, bg, co, sp, nb0, nb1, nb2, pl, se, ke, wi, hs, mo, po, nu, pr, sq, xa, sa, n64, m64, ex, wh, sd, tk, hd, ak, ho, ot, sx, s0, s1, s2, nf, bd, mm, zo, fm, sn, hg, gc, gv, ze, zt])) (hL_ak : ak ∈ L) (hT_ak : ty ak = (14, ρ + 28, [rak, 6000])) (hFml : F ml = .inl (cs 17, 3000, .inl gl)) (hby : ∀ j, j < mm → BYQ (gl j)) : Met l yX15_isSeen (.code yX15_isSeen cX15_isSeen 4 (some .boolean) :: tb) ({ frames := 6, cells := 0, slots := 0, locals := 131 }) (va_Pc [.ref h0] (PTEm (dC, dI) cs ty gm L F sz [])) (va_Qi (fun (r : Int32) (gU : Option (List Nat)) => SNR (fun i => alP gl (gm 0 i) (gm 1 i) (cct [102, 114, 111, 109]) 4) nf (fun j9 => dmW (TC gl mm) (gm 1 j9) (gm 2 j9)) r gU) (fun (gU : Option (List Nat)) T9 => ∃ F2 : Nat → va_E, QTm (dC, dI) cs ty gm L [ρ + 28] F F2 (va_A (va_pl L F) sz) T9 ∧ (∀ V, gU = some V → TXM cs F2 ak 6000 V ∧ NM (faU V) 0 V.length = true)) (va_A (va_pl L F) sz)) 0 0 (va_A (va_pl L F) sz) := by
  refine Met.ofW (cc := cX15_isSeen) (maxL := 4) (ret := (some .boolean)) (by decide) rfl ?_
  intro p e s m args below meth c s₁ B hml hv
  obtain ⟨rfl, ⟨hsz, hP, hK, hD0, hE, hO⟩, hG, hX⟩ := hv
  have hx := B.exec
  have hb := B.bytes
  have hr := B.returns
  have hts : ∀ w ∈ tb, w.before _ s = true := fun w h => atoms_spec (ws := .code yX15_isSeen cX15_isSeen 4 (some .boolean) :: tb) B.pre w (List.mem_cons_of_mem _ h)
  have hown : s.vm.findClass RX15 = some m.cls := findClass_of_methodNamed B.named
  have hlocks := B.notSynchronized
  subst hsz
  have hD := hD0.self (sz := s.heap.size)
  generalize hAe : va_A (va_pl L F) s.heap.size = A at hD hG hX ⊢
  have hA : ∀ q : Nat, s.heap.size ≤ q → A q := fun q h => by rw [← hAe]; exact Or.inr h
  have hS : va_S A s.heap s.heap [] := va_S.rf
  have hR : FR ty [ρ + 28] F F := FR.refl
  have hl := lv_entry ([.ref h0]) (n := 4) (Nat.le_of_ble_eq_true rfl)
  rw [lg_entry_eq]
  generalize (lg_sl ([.ref h0]) ++ List.replicate (4 - (lg_sl ([.ref h0])).length) Slot.unset).toArray = ls at hl ⊢
  have hl : lv_has ls 4 [(0, .ref h0)] := hl
  obtain ⟨hq_22, hq_23, hq_24, hq_25, hq_26, hgO, hgA, hgB, hq_27⟩ := hW.sc hL_h0 hT_h0
  obtain ⟨hi_28, ht_29, hq_30⟩ := hW.txt hL_ak hT_ak
  refine lv_iconst (v := (-1)) hx hb dX15_isSeen_0 (by decide) ?_
  refine lv_istore_n (lv' := [(1, .int (-1)), (0, .ref h0)]) hx hb dX15_isSeen_1 rfl hl (by decide) rfl (fun ls hl => ?_)
  refine lv_iconst (v := 0) hx hb dX15_isSeen_2 (by decide) ?_
  refine lv_istore_n (lv' := [(2, .int 0), (1, .int (-1)), (0, .ref h0)]) hx hb dX15_isSeen_3 rfl hl (by decide) rfl (fun ls hl => ?_)
  refine W.widen (k := 0) (n := 0) (by omega) (by omega) ?_
  obtain ⟨hi_33, ht_34⟩ := hW.f_ml hL_h0 hT_h0
  have hF_32 : F ml = .inl (cs 17, 3000, .inl gl) := (hR ml (by rw [ht_34]; simp)).symm.trans hFml
  refine pl_loopm (σ := Nat × Int32) A (dC, dI) cs ty gm L [ρ + 28] F 4 4 (fun (j, w1) => [(2, .int (nI j)), (1, .int w1), (0, .ref h0)]) (fun (j, w1) => []) (fun (j, w1) _ => j ≤ nf ∧ ((w1 = (-1) ∧ CNT (fun i => alP gl (gm 0 i) (gm 1 i) (cct [102, 114, 111, 109]) 4) j 0 ∧ ∀ i, i < j → ¬ alP gl (gm 0 i) (gm 1 i) (cct [102, 114, 111, 109]) 4) ∨ ∃ i : Nat, i < j ∧ w1 = nI i ∧ CNT (fun i => alP gl (gm 0 i) (gm 1 i) (cct [102, 114, 111, 109]) 4) j 1 ∧ alP gl (gm 0 i) (gm 1 i) (cct [102, 114, 111, 109]) 4 ∧ ∀ q, q < i → ¬ alP gl (gm 0 q) (gm 1 q) (cct [102, 114, 111, 109]) 4)) (fun (j, w1) => nf - j) ?_ (0, (-1)) F (⟨by omega, Or.inl ⟨rfl, rfl, fun i hi => absurd hi (Nat.not_lt_zero _)⟩⟩) hO hR _ _ hP hD hS ls (lv_sub hl [0, 1, 2] rfl)
  rintro ⟨j, w1⟩ F_31 hv_35 hO hR ih_36 H locs hP hD hS ls hl
  have hl : lv_has ls 4 [(2, .int (nI j)), (1, .int w1), (0, .ref h0)] := hl
  have hv_35 : j ≤ nf ∧ ((w1 = (-1) ∧ CNT (fun i => alP gl (gm 0 i) (gm 1 i) (cct [102, 114, 111, 109]) 4) j 0 ∧ ∀ i, i < j → ¬ alP gl (gm 0 i) (gm 1 i) (cct [102, 114, 111, 109]) 4) ∨ ∃ i : Nat, i < j ∧ w1 = nI i ∧ CNT (fun i => alP gl (gm 0 i) (gm 1 i) (cct [102, 114, 111, 109]) 4) j 1 ∧ alP gl (gm 0 i) (gm 1 i) (cct [102, 114, 111, 109]) 4 ∧ ∀ q, q < i → ¬ alP gl (gm 0 q) (gm 1 q) (cct [102, 114, 111, 109]) 4) := hv_35
  refine W.eq (g2 := F0 m 4 ls []) rfl ?_
  obtain ⟨hi_38, ht_39⟩ := hW.f_ml hL_h0 hT_h0
  have hF_37 : F_31 ml = .inl (cs 17, 3000, .inl gl) := (hR ml (by rw [ht_39]; simp)).trans hF_32
  obtain ⟨hv1, hv2⟩ := id hv_35
  refine lv_iload_n hx hb dX15_isSeen_4 rfl (lv_at hl 0 rfl) ?_
  refine lv_aload_n hx hb dX15_isSeen_5 rfl (lv_at hl 2 rfl) ?_
  obtain ⟨v14_40, v15_41, v17_42, v18_43, v19_44, v20_45, v21_46, v22_47, v33_48, v52_49, v53_50, v54_51, hF_52, hq_53, hq_54, hq_55, hq_56, hq_57⟩ := hO.mod hL_h0 hT_h0
  refine pg_get (ci := 15) (v := .int (nI nf)) (C := RX15) (T := TX15) (N := 59) hx hb hts it_15 hown hK hP hL_h0 hF_52 rfl 30 (by decide) (hts _ kt_892) (fun _ h9 => h9) rfl dX15_isSeen_6 ?_
  refine lv_icmp_ge (tgt := 40) hx hb dX15_isSeen_9 (by decide) (fun c_58 => ?_) (fun c_58 => ?_)
  ·
    have hi_59 : nf ≤ j := leN (N := nf) c_58
    refine lv_iload_n hx hb dX15_isSeen_40 rfl (lv_at hl 1 rfl) ?_
    refine lv_if_ge (tgt := 46) hx hb dX15_isSeen_41 (by decide) (fun c_60 => ?_) (fun c_60 => ?_)
    ·
      obtain ⟨jf, hjf0, ej, hc1, hp1, hf1⟩ := hv2.resolve_left (fun q => by have h9 := c_60; rw [q.1] at h9; exact absurd h9 (by decide))
      subst ej
      have hjf : jf < nf := by omega
      have hoj := hgO jf hjf
      have hjn : j = nf := by omega
      rw [hjn] at hc1
      refine lv_aload_n hx hb dX15_isSeen_46 rfl (lv_at hl 2 rfl) ?_
      refine pg_get (ci := 15) (v := .ref sp) (C := RX15) (T := TX15) (N := 59) hx hb hts it_15 hown hK hP hL_h0 hF_52 rfl 26 (by decide) (hts _ kt_890) (fun _ h9 => h9) rfl dX15_isSeen_47 ?_
      refine lv_iload_n hx hb dX15_isSeen_50 rfl (lv_at hl 1 rfl) ?_
      obtain ⟨hi_61, ht_62⟩ := hW.f_sp hL_h0 hT_h0
      obtain ⟨f_63, hF_64, hq_65⟩ := hO.pos hi_61 ht_62
      refine pg_iald hx hb hK hP hi_61 0 hF_64 rfl (vp_in_nI (by omega) (by omega)) dX15_isSeen_51 ?_
      refine lv_topi (fun x_66 ex_66 => ?_)
      obtain rfl : x_66 = (nI (gm 2 jf)) := ex_66.trans (by rw [show ((nI jf) : Int32) = nI jf from rfl, nI_clamp (by omega)]; exact hq_65 jf (by omega))
      have hgbx_66 := hgB 2 jf
      refine lv_iconst (v := 1) hx hb dX15_isSeen_52 (by decide) ?_
      refine lv_isub hx hb dX15_isSeen_53 ?_
      refine lv_topi (fun x_67 ex_67 => ?_)
      obtain rfl : x_67 = (nI ((gm 2 jf) - 1)) := ex_67.trans (pk_sub (a := (gm 2 jf)) (b := 1) (by omega))
      refine lv_istore_n (lv' := [(2, .int (nI ((gm 2 jf) - 1))), (1, .int (nI jf)), (0, .ref h0)]) hx hb dX15_isSeen_54 rfl hl (by decide) rfl (fun ls hl => ?_)
      refine W.widen (k := 0) (n := 0) (by omega) (by omega) ?_
      have hF_69 : F ml = .inl (cs 17, 3000, .inl gl) := (hR ml (by rw [ht_39]; simp)).symm.trans hF_37
      have hF_70 : F h0 = .inr (15, (.ref ta) :: (.int (nI zt)) :: (.int (nI zo)) :: (.int (nI ze)) :: (.ref ou) :: (.ref so) :: (.ref ad) :: (.ref na) :: (.ref va) :: (.ref lc) :: (.ref dm) :: (.int (nI fm)) :: (.int (nI sn)) :: (.ref tg) :: (.int v14_40) :: (.int v15_41) :: (.ref pe) :: (.int v17_42) :: (.int v18_43) :: (.int v19_44) :: (.int v20_45) :: (.int v21_46) :: (.int v22_47) :: (.ref ml) :: (.ref bg) :: (.ref co) :: (.ref sp) :: (.ref nb0) :: (.ref nb1) :: (.ref nb2) :: (.int (nI nf)) :: (.int (nI bd)) :: (.int (nI mm)) :: (.int v33_48) :: (.ref pl) :: (.ref se) :: (.ref ke) :: (.ref wi) :: (.ref hs) :: (.ref mo) :: (.ref po) :: (.ref nu) :: (.ref pr) :: (.ref sq) :: (.ref xa) :: (.ref sa) :: (.ref n64) :: (.ref m64) :: (.ref ex) :: (.ref wh) :: (.ref sd) :: (.ref tk) :: (.int v52_49) :: (.int v53_50) :: (.int v54_51) :: (.ref hd) :: (.ref ak) :: (.ref ho) :: (.ref ot) :: []) := (hR h0 (by rw [hT_h0]; simp)).symm.trans hF_52
      have hF_71 : F sp = .inl (cs 16, 21, .inl f_63) := (hR sp (by rw [ht_62]; simp)).symm.trans hF_64
      refine pl_loopm (σ := Nat) A (dC, dI) cs ty gm L [ρ + 28] F 55 4 (fun k => [(2, .int (nI k)), (1, .int (nI jf)), (0, .ref h0)]) (fun k => []) (fun k _ => gm 1 jf ≤ k ∧ k < gm 2 jf ∧ lsc (TC gl mm) 64 (gm 2 jf) = lsc (TC gl mm) 64 (k + 1)) (fun k => k) ?_ ((gm 2 jf) - 1) F_31 (⟨by omega, by omega, by rw [show gm 2 jf - 1 + 1 = gm 2 jf by omega]⟩) hO hR _ _ hP hD hS ls (lv_sub hl [0, 1, 2] rfl)
      rintro k F_68 hv_72 hO hR ih_73 H locs hP hD hS ls hl
      have hl : lv_has ls 4 [(2, .int (nI k)), (1, .int (nI jf)), (0, .ref h0)] := hl
      have hv_72 : gm 1 jf ≤ k ∧ k < gm 2 jf ∧ lsc (TC gl mm) 64 (gm 2 jf) = lsc (TC gl mm) 64 (k + 1) := hv_72
      refine W.eq (g2 := F0 m 55 ls []) rfl ?_
      have hF_74 : F_68 ml = .inl (cs 17, 3000, .inl gl) := (hR ml (by rw [ht_39]; simp)).trans hF_69
      have hF_75 : F_68 h0 = .inr (15, (.ref ta) :: (.int (nI zt)) :: (.int (nI zo)) :: (.int (nI ze)) :: (.ref ou) :: (.ref so) :: (.ref ad) :: (.ref na) :: (.ref va) :: (.ref lc) :: (.ref dm) :: (.int (nI fm)) :: (.int (nI sn)) :: (.ref tg) :: (.int v14_40) :: (.int v15_41) :: (.ref pe) :: (.int v17_42) :: (.int v18_43) :: (.int v19_44) :: (.int v20_45) :: (.int v21_46) :: (.int v22_47) :: (.ref ml) :: (.ref bg) :: (.ref co) :: (.ref sp) :: (.ref nb0) :: (.ref nb1) :: (.ref nb2) :: (.int (nI nf)) :: (.int (nI bd)) :: (.int (nI mm)) :: (.int v33_48) :: (.ref pl) :: (.ref se) :: (.ref ke) :: (.ref wi) :: (.ref hs) :: (.ref mo) :: (.ref po) :: (.ref nu) :: (.ref pr) :: (.ref sq) :: (.ref xa) :: (.ref sa) :: (.ref n64) :: (.ref m64) :: (.ref ex) :: (.ref wh) :: (.ref sd) :: (.ref tk) :: (.int v52_49) :: (.int v53_50) :: (.int v54_51) :: (.ref hd) :: (.ref ak) :: (.ref ho) :: (.ref ot) :: []) := (hR h0 (by rw [hT_h0]; simp)).trans hF_70
      have hF_76 : F_68 sp = .inl (cs 16, 21, .inl f_63) := (hR sp (by rw [ht_62]; simp)).trans hF_71
      obtain ⟨hk1a, hk2a, hk3a⟩ := id hv_72
      refine lv_iload_n hx hb dX15_isSeen_55 rfl (lv_at hl 0 rfl) ?_
      refine lv_aload_n hx hb dX15_isSeen_56 rfl (lv_at hl 2 rfl) ?_
      refine pg_get (ci := 15) (v := .ref co) (C := RX15) (T := TX15) (N := 59) hx hb hts it_15 hown hK hP hL_h0 hF_75 rfl 25 (by decide) (hts _ kt_889) (fun _ h9 => h9) rfl dX15_isSeen_57 ?_
      refine lv_iload_n hx hb dX15_isSeen_60 rfl (lv_at hl 1 rfl) ?_
      obtain ⟨hi_77, ht_78⟩ := hW.f_co hL_h0 hT_h0
      obtain ⟨f_79, hF_80, hq_81⟩ := hO.pos hi_77 ht_78
      refine pg_iald hx hb hK hP hi_77 0 hF_80 rfl (vp_in_nI (by omega) (by omega)) dX15_isSeen_61 ?_
      refine lv_topi (fun x_82 ex_82 => ?_)
      obtain rfl : x_82 = (nI (gm 1 jf)) := ex_82.trans (by rw [show ((nI jf) : Int32) = nI jf from rfl, nI_clamp (by omega)]; exact hq_81 jf (by omega))
      have hgbx_82 := hgB 1 jf
      refine lv_icmp_le (tgt := 82) hx hb dX15_isSeen_62 (by decide) (fun c_83 => ?_) (fun c_83 => ?_)
      ·
        have hi_84 : k ≤ (gm 1 jf) := (nI_leI (a := k) (b := (gm 1 jf)) (by omega) (by omega)).mp c_83
        refine lv_iload_n hx hb dX15_isSeen_82 rfl (lv_at hl 0 rfl) ?_
        refine lv_aload_n hx hb dX15_isSeen_83 rfl (lv_at hl 2 rfl) ?_
        refine pg_get (ci := 15) (v := .ref co) (C := RX15) (T := TX15) (N := 59) hx hb hts it_15 hown hK hP hL_h0 hF_75 rfl 25 (by decide) (hts _ kt_889) (fun _ h9 => h9) rfl dX15_isSeen_84 ?_
        refine lv_iload_n hx hb dX15_isSeen_87 rfl (lv_at hl 1 rfl) ?_
        refine pg_iald hx hb hK hP hi_77 0 hF_80 rfl (vp_in_nI (by omega) (by omega)) dX15_isSeen_88 ?_
        refine lv_topi (fun x_85 ex_85 => ?_)
        obtain rfl : x_85 = (nI (gm 1 jf)) := ex_85.trans (by rw [show ((nI jf) : Int32) = nI jf from rfl, nI_clamp (by omega)]; exact hq_81 jf (by omega))
        have hgbx_85 := hgB 1 jf
        refine lv_icmp_ne (tgt := 94) hx hb dX15_isSeen_89 (by decide) (fun c_86 => ?_) (fun c_86 => ?_)
        ·
          have hi_87 : k ≠ (gm 1 jf) := fun q => c_86 (by rw [q])
          exact absurd (show nI k = nI (gm 1 jf) by rw [show k = gm 1 jf by omega]) c_86
        ·
          have hi_88 : k = (gm 1 jf) := (nI_eq (a := k) (b := (gm 1 jf)) (by omega) (by omega)).mp c_86
          refine lv_iconst (v := 0) hx hb dX15_isSeen_92 (by decide) ?_
          refine W.widen (k := 0) (n := 0) (by omega) (by omega) ?_
          exact W.zret (v := 0) (ty := .boolean) hx hb hr (by decide) (fun t ht hWm => ⟨⟨0, none, rfl, (snr_n hc1 hjf hp1 hf1 (if_neg (fun q => by have h8 := q.1; have h9 := lsc_le (T := (TC gl mm)) (x := 64) (k + 1); omega))), ⟨F_68, QTm.mk ht hP hD hO hR, (fun V hV => nomatch hV)⟩⟩, hS.F ht⟩) hS.2.2 dX15_isSeen_93
      ·
        have hi_89 : (gm 1 jf) < k := Nat.not_le.mp (fun q => c_83 ((nI_leI (a := k) (b := (gm 1 jf)) (by omega) (by omega)).mpr q))
        refine lv_aload_n hx hb dX15_isSeen_65 rfl (lv_at hl 2 rfl) ?_
        refine pg_get (ci := 15) (v := .ref ml) (C := RX15) (T := TX15) (N := 59) hx hb hts it_15 hown hK hP hL_h0 hF_75 rfl 23 (by decide) (hts _ kt_887) (fun _ h9 => h9) rfl dX15_isSeen_66 ?_
        refine lv_iload_n hx hb dX15_isSeen_69 rfl (lv_at hl 0 rfl) ?_
        obtain ⟨hq_90, hq_91⟩ := hW.octs hi_38 ht_39
        refine pg_bald hx hb hK hP hi_38 1 hF_74 rfl (vp_in_nI (by omega) (by omega)) dX15_isSeen_70 ?_
        refine lv_topi (fun x_92 ex_92 => ?_)
        obtain rfl : x_92 = gl k := ex_92.trans (congrArg gl (show ((nI k) : Int32).toNatClampNeg = k from nI_clamp (by omega)))
        refine lv_bipush (v := 64) hx hb dX15_isSeen_71 (by decide) ?_
        refine lv_icmp_eq (tgt := 82) hx hb dX15_isSeen_73 (by decide) (fun c_93 => ?_) (fun c_93 => ?_)
        ·
          have hy64 : (TC gl mm) k = 64 := (tcc (show k < mm by omega) 64 (by omega)).mpr c_93
          have hLS : (lsc (TC gl mm) 64 (gm 2 jf)) = k + 1 := hk3a.trans (lsc_y hy64)
          refine lv_iload_n hx hb dX15_isSeen_82 rfl (lv_at hl 0 rfl) ?_
          refine lv_aload_n hx hb dX15_isSeen_83 rfl (lv_at hl 2 rfl) ?_
          refine pg_get (ci := 15) (v := .ref co) (C := RX15) (T := TX15) (N := 59) hx hb hts it_15 hown hK hP hL_h0 hF_75 rfl 25 (by decide) (hts _ kt_889) (fun _ h9 => h9) rfl dX15_isSeen_84 ?_
          refine lv_iload_n hx hb dX15_isSeen_87 rfl (lv_at hl 1 rfl) ?_
          refine pg_iald hx hb hK hP hi_77 0 hF_80 rfl (vp_in_nI (by omega) (by omega)) dX15_isSeen_88 ?_
          refine lv_topi (fun x_94 ex_94 => ?_)
          obtain rfl : x_94 = (nI (gm 1 jf)) := ex_94.trans (by rw [show ((nI jf) : Int32) = nI jf from rfl, nI_clamp (by omega)]; exact hq_81 jf (by omega))
          have hgbx_94 := hgB 1 jf
          refine lv_icmp_ne (tgt := 94) hx hb dX15_isSeen_89 (by decide) (fun c_95 => ?_) (fun c_95 => ?_)
          ·
            have hi_96 : k ≠ (gm 1 jf) := fun q => c_95 (by rw [q])
            refine lv_aload_n hx hb dX15_isSeen_94 rfl (lv_at hl 2 rfl) ?_
            refine pg_get (ci := 15) (v := .ref ak) (C := RX15) (T := TX15) (N := 59) hx hb hts it_15 hown hK hP hL_h0 hF_75 rfl 56 (by decide) (hts _ kt_993) (fun _ h9 => h9) rfl dX15_isSeen_95 ?_
            refine lv_iconst (v := 0) hx hb dX15_isSeen_98 (by decide) ?_
            obtain ⟨z_97, hF_98, hq_99⟩ := hO.txt hL_ak hT_ak
            refine pg_put (ci := 14) (v := .int 0) (ty := .int) (C := RX14) (T := TX14) (N := 2) hx hb hts it_14 tyX14 tyX14_ok nmX14 hown hK hP hD hS hL_ak hF_98 rfl 1 (by decide) (hts _ kt_709) (fun _ h9 => h9) rfl (by decide +kernel) (rfl) (rfl) (Nat.le_of_ble_eq_true rfl) dX15_isSeen_99 (fun H locs hP hD hS => ?_)
            obtain ⟨F_100, he_101, hP, hD, hO, hR⟩ : ∃ G, G = va_up F_68 ak (.inr (14, [.ref rak, .int 0])) ∧ va_P (dC, dI) vwCl (va_pl L G) H ∧ va_D A (va_pl L G) ∧ OKm cs ty gm L G ∧ FR ty [ρ + 28] F G := ⟨_, rfl, hP, hD, hO.up (shm.txt hT_ak ⟨0, rfl, (by first | omega | assumption | exact Or.inl rfl | exact Or.inr rfl)⟩), hR.up hT_ak (by simp)⟩
            have hF_102 : F_100 ak = .inr (14, [.ref rak, .int 0]) := by rw [he_101]; exact up_self
            have hF_103 : F_100 ml = .inl (cs 17, 3000, .inl gl) := by rw [he_101, up_ne (ne_ty ht_39 hT_ak (by simp))]; exact hF_74
            have hF_104 : F_100 h0 = .inr (15, (.ref ta) :: (.int (nI zt)) :: (.int (nI zo)) :: (.int (nI ze)) :: (.ref ou) :: (.ref so) :: (.ref ad) :: (.ref na) :: (.ref va) :: (.ref lc) :: (.ref dm) :: (.int (nI fm)) :: (.int (nI sn)) :: (.ref tg) :: (.int v14_40) :: (.int v15_41) :: (.ref pe) :: (.int v17_42) :: (.int v18_43) :: (.int v19_44) :: (.int v20_45) :: (.int v21_46) :: (.int v22_47) :: (.ref ml) :: (.ref bg) :: (.ref co) :: (.ref sp) :: (.ref nb0) :: (.ref nb1) :: (.ref nb2) :: (.int (nI nf)) :: (.int (nI bd)) :: (.int (nI mm)) :: (.int v33_48) :: (.ref pl) :: (.ref se) :: (.ref ke) :: (.ref wi) :: (.ref hs) :: (.ref mo) :: (.ref po) :: (.ref nu) :: (.ref pr) :: (.ref sq) :: (.ref xa) :: (.ref sa) :: (.ref n64) :: (.ref m64) :: (.ref ex) :: (.ref wh) :: (.ref sd) :: (.ref tk) :: (.int v52_49) :: (.int v53_50) :: (.int v54_51) :: (.ref hd) :: (.ref ak) :: (.ref ho) :: (.ref ot) :: []) := by rw [he_101, up_ne (ne_ty hT_h0 hT_ak (by simp))]; exact hF_75
            have hF_105 : F_100 sp = .inl (cs 16, 21, .inl f_63) := by rw [he_101, up_ne (ne_ty ht_62 hT_ak (by simp))]; exact hF_76
            have hF_106 : F_100 co = .inl (cs 16, 21, .inl f_79) := by rw [he_101, up_ne (ne_ty ht_78 hT_ak (by simp))]; exact hF_80
            refine lv_iload_n hx hb dX15_isSeen_102 rfl (lv_at hl 0 rfl) ?_
            refine lv_iconst (v := 1) hx hb dX15_isSeen_103 (by decide) ?_
            refine lv_iadd hx hb dX15_isSeen_104 ?_
            refine lv_topi (fun x_107 ex_107 => ?_)
            obtain rfl : x_107 = (nI (k + 1)) := ex_107.trans (nI_add k 1)
            refine lv_istore_n (lv' := [(3, .int (nI (k + 1))), (2, .int (nI k)), (1, .int (nI jf)), (0, .ref h0)]) hx hb dX15_isSeen_105 rfl hl (by decide) rfl (fun ls hl => ?_)
            obtain ⟨hq_108, hq_109⟩ := hW.octs hi_28 ht_29
            obtain ⟨f_110, hF_111, hq_112⟩ := hO.octs hi_28 ht_29
            refine W.widen (k := 0) (n := 0) (by omega) (by omega) ?_
            have hF_114 : F ml = .inl (cs 17, 3000, .inl gl) := (hR ml (by rw [ht_39]; simp)).symm.trans hF_103
            have hF_115 : F h0 = .inr (15, (.ref ta) :: (.int (nI zt)) :: (.int (nI zo)) :: (.int (nI ze)) :: (.ref ou) :: (.ref so) :: (.ref ad) :: (.ref na) :: (.ref va) :: (.ref lc) :: (.ref dm) :: (.int (nI fm)) :: (.int (nI sn)) :: (.ref tg) :: (.int v14_40) :: (.int v15_41) :: (.ref pe) :: (.int v17_42) :: (.int v18_43) :: (.int v19_44) :: (.int v20_45) :: (.int v21_46) :: (.int v22_47) :: (.ref ml) :: (.ref bg) :: (.ref co) :: (.ref sp) :: (.ref nb0) :: (.ref nb1) :: (.ref nb2) :: (.int (nI nf)) :: (.int (nI bd)) :: (.int (nI mm)) :: (.int v33_48) :: (.ref pl) :: (.ref se) :: (.ref ke) :: (.ref wi) :: (.ref hs) :: (.ref mo) :: (.ref po) :: (.ref nu) :: (.ref pr) :: (.ref sq) :: (.ref xa) :: (.ref sa) :: (.ref n64) :: (.ref m64) :: (.ref ex) :: (.ref wh) :: (.ref sd) :: (.ref tk) :: (.int v52_49) :: (.int v53_50) :: (.int v54_51) :: (.ref hd) :: (.ref ak) :: (.ref ho) :: (.ref ot) :: []) := (hR h0 (by rw [hT_h0]; simp)).symm.trans hF_104
            have hF_116 : F sp = .inl (cs 16, 21, .inl f_63) := (hR sp (by rw [ht_62]; simp)).symm.trans hF_105
            have hF_117 : F co = .inl (cs 16, 21, .inl f_79) := (hR co (by rw [ht_78]; simp)).symm.trans hF_106
            refine pl_loopm (σ := Nat × (Nat → Int32)) A (dC, dI) cs ty gm L [ρ + 28] F 106 4 (fun (i, fq) => [(3, .int (nI i)), (2, .int (nI k)), (1, .int (nI jf)), (0, .ref h0)]) (fun (i, fq) => []) (fun (i, fq) FF => k + 1 ≤ i ∧ i ≤ gm 2 jf ∧ FF ak = .inr (14, [.ref rak, .int (nI (i - (k + 1)))]) ∧ FF rak = .inl (cs 17, 6000, .inl fq) ∧ SMA gl (k + 1) (i - (k + 1)) fq ∧ (∀ q9, k + 1 ≤ q9 → q9 < i → ¬ STC4 ((TC gl mm) q9))) (fun (i, fq) => gm 2 jf - i) ?_ ((k + 1), f_110) F_100 (⟨Nat.le_refl _, by omega, by rw [Nat.sub_self]; exact hF_102, hF_111, by rw [Nat.sub_self]; exact SMA.nil, fun q9 h1 h2 => absurd h2 (by omega)⟩) hO hR _ _ hP hD hS ls (lv_sub hl [0, 1, 2, 3] rfl)
            rintro ⟨i, fq⟩ F_113 hv_118 hO hR ih_119 H locs hP hD hS ls hl
            have hl : lv_has ls 4 [(3, .int (nI i)), (2, .int (nI k)), (1, .int (nI jf)), (0, .ref h0)] := hl
            have hv_118 : k + 1 ≤ i ∧ i ≤ gm 2 jf ∧ F_113 ak = .inr (14, [.ref rak, .int (nI (i - (k + 1)))]) ∧ F_113 rak = .inl (cs 17, 6000, .inl fq) ∧ SMA gl (k + 1) (i - (k + 1)) fq ∧ (∀ q9, k + 1 ≤ q9 → q9 < i → ¬ STC4 ((TC gl mm) q9)) := hv_118
            refine W.eq (g2 := F0 m 106 ls []) rfl ?_
            have hF_120 : F_113 ml = .inl (cs 17, 3000, .inl gl) := (hR ml (by rw [ht_39]; simp)).trans hF_114
            have hF_121 : F_113 h0 = .inr (15, (.ref ta) :: (.int (nI zt)) :: (.int (nI zo)) :: (.int (nI ze)) :: (.ref ou) :: (.ref so) :: (.ref ad) :: (.ref na) :: (.ref va) :: (.ref lc) :: (.ref dm) :: (.int (nI fm)) :: (.int (nI sn)) :: (.ref tg) :: (.int v14_40) :: (.int v15_41) :: (.ref pe) :: (.int v17_42) :: (.int v18_43) :: (.int v19_44) :: (.int v20_45) :: (.int v21_46) :: (.int v22_47) :: (.ref ml) :: (.ref bg) :: (.ref co) :: (.ref sp) :: (.ref nb0) :: (.ref nb1) :: (.ref nb2) :: (.int (nI nf)) :: (.int (nI bd)) :: (.int (nI mm)) :: (.int v33_48) :: (.ref pl) :: (.ref se) :: (.ref ke) :: (.ref wi) :: (.ref hs) :: (.ref mo) :: (.ref po) :: (.ref nu) :: (.ref pr) :: (.ref sq) :: (.ref xa) :: (.ref sa) :: (.ref n64) :: (.ref m64) :: (.ref ex) :: (.ref wh) :: (.ref sd) :: (.ref tk) :: (.int v52_49) :: (.int v53_50) :: (.int v54_51) :: (.ref hd) :: (.ref ak) :: (.ref ho) :: (.ref ot) :: []) := (hR h0 (by rw [hT_h0]; simp)).trans hF_115
            have hF_122 : F_113 sp = .inl (cs 16, 21, .inl f_63) := (hR sp (by rw [ht_62]; simp)).trans hF_116
            have hF_123 : F_113 co = .inl (cs 16, 21, .inl f_79) := (hR co (by rw [ht_78]; simp)).trans hF_117
            obtain ⟨hi1, hi2, hi3, hi4, hi5, hi6⟩ := id hv_118
            refine lv_iload_n hx hb dX15_isSeen_106 rfl (lv_at hl 0 rfl) ?_
            refine lv_aload_n hx hb dX15_isSeen_107 rfl (lv_at hl 3 rfl) ?_
            refine pg_get (ci := 15) (v := .ref sp) (C := RX15) (T := TX15) (N := 59) hx hb hts it_15 hown hK hP hL_h0 hF_121 rfl 26 (by decide) (hts _ kt_890) (fun _ h9 => h9) rfl dX15_isSeen_108 ?_
            refine lv_iload_n hx hb dX15_isSeen_111 rfl (lv_at hl 2 rfl) ?_
            refine pg_iald hx hb hK hP hi_61 0 hF_122 rfl (vp_in_nI (by omega) (by omega)) dX15_isSeen_112 ?_
            refine lv_topi (fun x_124 ex_124 => ?_)
            obtain rfl : x_124 = (nI (gm 2 jf)) := ex_124.trans (by rw [show ((nI jf) : Int32) = nI jf from rfl, nI_clamp (by omega)]; exact hq_65 jf (by omega))
            have hgbx_124 := hgB 2 jf
            refine lv_icmp_ge (tgt := 172) hx hb dX15_isSeen_113 (by decide) (fun c_125 => ?_) (fun c_125 => ?_)
            ·
              have hi_126 : (gm 2 jf) ≤ i := leN (N := (gm 2 jf)) c_125
              have hie : i = gm 2 jf := by have h9 : gm 2 jf ≤ i := (nI_leI (by omega) (by omega)).mp c_125; omega
              refine lv_aload_n hx hb dX15_isSeen_172 rfl (lv_at hl 3 rfl) ?_
              refine pg_get (ci := 15) (v := .ref ak) (C := RX15) (T := TX15) (N := 59) hx hb hts it_15 hown hK hP hL_h0 hF_121 rfl 56 (by decide) (hts _ kt_993) (fun _ h9 => h9) rfl dX15_isSeen_173 ?_
              have hFc := pg_free hD hS hA
              refine va_calli (va_runV (As := []) (rest := []) ⟨hx, hb, hml, hown, hts⟩ (s_X14_isName_x l dC dI cs ty gm L H.size F_113 ak (ρ + 28) rak 6000 (i - (k + 1)) fq hW hL_ak hT_ak hi3 hi4 (by omega)) ⟨callB_of 0 hts (gi kt_994) rfl rfl rfl (hts _ kt_676) (hts _ kt_995) (by decide +kernel) ⟨Nat.le_of_ble_eq_true rfl, Nat.le_of_ble_eq_true rfl⟩, (hts _ kt_996), (hts _ kt_997)⟩ ⟨fun a U g mk q => ⟨q.1, PTm.calling q.2⟩, pg_recv hK hP hL_ak hi3 (q := (RX14, TX14, 2)) rfl, fun U hU hWm => ⟨rfl, PTm.mk hU hWm hP hK hD hE hO⟩⟩ rfl rfl hl.1 rfl (lv_room (Nat.le_of_ble_eq_true rfl)) dX15_isSeen_176 ⟨by show _ + 0 ≤ 0; omega, by show _ + 0 ≤ 0; omega⟩) hS (fun q _ h => hFc q h) hFc (fun r_127 u t H1 locs ht hvm hw hB hz1 hk1 hS => ?_)
              obtain ⟨F_128, hB1⟩ := hB
              obtain rfl : F_113 = F_128 := (funext (fun a => hB1.2.2.2 a List.not_mem_nil)).symm
              obtain ⟨hP, hD, hO, hR⟩ := QTm.back hB1 ht hFc hR (fun q h => absurd h List.not_mem_nil)
              generalize H1 = H at hP hS ⊢
              have hw : r_127 = (if NM fq 0 (i - (k + 1)) = true then 1 else 0) := hw
              have hw_129 := hw
              refine W.widen (k := 0) (n := 0) (by omega) (by omega) ?_
              exact W.zret (v := r_127) (ty := .boolean) hx hb hr (bitN (nmb hw_129)) (fun t ht hWm => ⟨⟨r_127, (dmW (TC gl mm) (gm 1 jf) (gm 2 jf)), rfl, ((snr_e (Z := (fun j9 => dmW (TC gl mm) (gm 1 j9) (gm 2 j9))) hc1 hjf hp1 hf1 rfl (show gm 1 jf + 1 < (lsc (TC gl mm) 64 (gm 2 jf)) by rw [hLS]; omega) (show gm 2 jf ≤ mm by omega) (show (lsc (TC gl mm) 64 (gm 2 jf)) ≤ i by rw [hLS]; exact hi1) hi2 (by rw [hLS]; exact dmE_of hi1 hi2 hi6 (Or.inl hie)) (by rw [hLS]) (by rw [hLS]; exact hi5) hw_129).1), ⟨F_113, QTm.mk ht hP hD hO hR, (fun V hV => by obtain ⟨h8, h9⟩ := (snr_e (Z := (fun j9 => dmW (TC gl mm) (gm 1 j9) (gm 2 j9))) hc1 hjf hp1 hf1 rfl (show gm 1 jf + 1 < (lsc (TC gl mm) 64 (gm 2 jf)) by rw [hLS]; omega) (show gm 2 jf ≤ mm by omega) (show (lsc (TC gl mm) 64 (gm 2 jf)) ≤ i by rw [hLS]; exact hi1) hi2 (by rw [hLS]; exact dmE_of hi1 hi2 hi6 (Or.inl hie)) (by rw [hLS]) (by rw [hLS]; exact hi5) hw_129).2 V hV; exact ⟨⟨_, _, _, hi3, hi4, h8, by omega⟩, nm_src h8 h9⟩)⟩⟩, hS.F ht⟩) hS.2.2 dX15_isSeen_179
            ·
              have hi_130 : i < (gm 2 jf) := ltN (N := (gm 2 jf)) c_125
              have hie : i < gm 2 jf := Nat.not_le.mp (fun q => c_125 ((nI_leI (by omega) (by omega)).mpr q))
              have him : i < mm := by omega
              refine lv_aload_n hx hb dX15_isSeen_116 rfl (lv_at hl 3 rfl) ?_
              refine pg_get (ci := 15) (v := .ref ml) (C := RX15) (T := TX15) (N := 59) hx hb hts it_15 hown hK hP hL_h0 hF_121 rfl 23 (by decide) (hts _ kt_887) (fun _ h9 => h9) rfl dX15_isSeen_117 ?_
              refine lv_iload_n hx hb dX15_isSeen_120 rfl (lv_at hl 0 rfl) ?_
              refine pg_bald hx hb hK hP hi_38 1 hF_120 rfl (vp_in_nI (by omega) (by omega)) dX15_isSeen_121 ?_
              refine lv_topi (fun x_131 ex_131 => ?_)
              obtain rfl : x_131 = gl i := ex_131.trans (congrArg gl (show ((nI i) : Int32).toNatClampNeg = i from nI_clamp (by omega)))
              have hFc := pg_free hD hS hA
              refine va_calli (va_runS (As := [.int (gl i)]) (rest := []) ⟨hx, hb, hml, hown, hts⟩ (s_X15_isWhite_e l dC dI cs ty gm L H.size F_113 (gl i) hW ) ⟨callB_of 1 hts (gi kt_715) rfl rfl rfl (hts _ kt_669) (hts _ kt_716) (by decide +kernel) ⟨Nat.le_of_ble_eq_true rfl, Nat.le_of_ble_eq_true rfl⟩, (hts _ kt_717)⟩ ⟨fun a U g mk q => ⟨q.1, PTm.calling q.2⟩, fun U hU hWm => ⟨rfl, PTm.mk hU hWm hP hK hD hE hO⟩⟩ rfl rfl hl.1 rfl (lv_room (Nat.le_of_ble_eq_true rfl)) dX15_isSeen_122 ⟨by show _ + 0 ≤ 0; omega, by show _ + 0 ≤ 0; omega⟩) hS (fun q _ h => hFc q h) hFc (fun r_132 u t H1 locs ht hvm hw hB hz1 hk1 hS => ?_)
              obtain ⟨F_133, hB1⟩ := hB
              obtain rfl : F_113 = F_133 := (funext (fun a => hB1.2.2.2 a List.not_mem_nil)).symm
              obtain ⟨hP, hD, hO, hR⟩ := QTm.back hB1 ht hFc hR (fun q h => absurd h List.not_mem_nil)
              generalize H1 = H at hP hS ⊢
              have hw : r_132 = (if (gl i) = 32 ∨ (gl i) = 9 then 1 else 0) := hw
              have hw_134 := hw
              refine lv_if_ne (tgt := 172) hx hb dX15_isSeen_125 (by decide) (fun c_135 => ?_) (fun c_135 => ?_)
              ·
                refine lv_aload_n hx hb dX15_isSeen_172 rfl (lv_at hl 3 rfl) ?_
                refine pg_get (ci := 15) (v := .ref ak) (C := RX15) (T := TX15) (N := 59) hx hb hts it_15 hown hK hP hL_h0 hF_121 rfl 56 (by decide) (hts _ kt_993) (fun _ h9 => h9) rfl dX15_isSeen_173 ?_
                have hFc := pg_free hD hS hA
                refine va_calli (va_runV (As := []) (rest := []) ⟨hx, hb, hml, hown, hts⟩ (s_X14_isName_x l dC dI cs ty gm L H.size F_113 ak (ρ + 28) rak 6000 (i - (k + 1)) fq hW hL_ak hT_ak hi3 hi4 (by omega)) ⟨callB_of 0 hts (gi kt_994) rfl rfl rfl (hts _ kt_676) (hts _ kt_995) (by decide +kernel) ⟨Nat.le_of_ble_eq_true rfl, Nat.le_of_ble_eq_true rfl⟩, (hts _ kt_996), (hts _ kt_997)⟩ ⟨fun a U g mk q => ⟨q.1, PTm.calling q.2⟩, pg_recv hK hP hL_ak hi3 (q := (RX14, TX14, 2)) rfl, fun U hU hWm => ⟨rfl, PTm.mk hU hWm hP hK hD hE hO⟩⟩ rfl rfl hl.1 rfl (lv_room (Nat.le_of_ble_eq_true rfl)) dX15_isSeen_176 ⟨by show _ + 0 ≤ 0; omega, by show _ + 0 ≤ 0; omega⟩) hS (fun q _ h => hFc q h) hFc (fun r_136 u t H1 locs ht hvm hw hB hz1 hk1 hS => ?_)
                obtain ⟨F_137, hB1⟩ := hB
                obtain rfl : F_113 = F_137 := (funext (fun a => hB1.2.2.2 a List.not_mem_nil)).symm
                obtain ⟨hP, hD, hO, hR⟩ := QTm.back hB1 ht hFc hR (fun q h => absurd h List.not_mem_nil)
                generalize H1 = H at hP hS ⊢
                have hw : r_136 = (if NM fq 0 (i - (k + 1)) = true then 1 else 0) := hw
                have hw_138 := hw
                refine W.widen (k := 0) (n := 0) (by omega) (by omega) ?_
                exact W.zret (v := r_136) (ty := .boolean) hx hb hr (bitN (nmb hw_138)) (fun t ht hWm => ⟨⟨r_136, (dmW (TC gl mm) (gm 1 jf) (gm 2 jf)), rfl, ((snr_e (Z := (fun j9 => dmW (TC gl mm) (gm 1 j9) (gm 2 j9))) hc1 hjf hp1 hf1 rfl (show gm 1 jf + 1 < (lsc (TC gl mm) 64 (gm 2 jf)) by rw [hLS]; omega) (show gm 2 jf ≤ mm by omega) (show (lsc (TC gl mm) 64 (gm 2 jf)) ≤ i by rw [hLS]; exact hi1) hi2 (by rw [hLS]; exact dmE_of hi1 hi2 hi6 (Or.inr ((ifb1 hw_134 c_135).imp (fun q => (tcc him 32 (by omega)).mpr q) (fun q => Or.inl ((tcc him 9 (by omega)).mpr q))))) (by rw [hLS]) (by rw [hLS]; exact hi5) hw_138).1), ⟨F_113, QTm.mk ht hP hD hO hR, (fun V hV => by obtain ⟨h8, h9⟩ := (snr_e (Z := (fun j9 => dmW (TC gl mm) (gm 1 j9) (gm 2 j9))) hc1 hjf hp1 hf1 rfl (show gm 1 jf + 1 < (lsc (TC gl mm) 64 (gm 2 jf)) by rw [hLS]; omega) (show gm 2 jf ≤ mm by omega) (show (lsc (TC gl mm) 64 (gm 2 jf)) ≤ i by rw [hLS]; exact hi1) hi2 (by rw [hLS]; exact dmE_of hi1 hi2 hi6 (Or.inr ((ifb1 hw_134 c_135).imp (fun q => (tcc him 32 (by omega)).mpr q) (fun q => Or.inl ((tcc him 9 (by omega)).mpr q))))) (by rw [hLS]) (by rw [hLS]; exact hi5) hw_138).2 V hV; exact ⟨⟨_, _, _, hi3, hi4, h8, by omega⟩, nm_src h8 h9⟩)⟩⟩, hS.F ht⟩) hS.2.2 dX15_isSeen_179
              ·
                refine lv_aload_n hx hb dX15_isSeen_128 rfl (lv_at hl 3 rfl) ?_
                refine pg_get (ci := 15) (v := .ref ml) (C := RX15) (T := TX15) (N := 59) hx hb hts it_15 hown hK hP hL_h0 hF_121 rfl 23 (by decide) (hts _ kt_887) (fun _ h9 => h9) rfl dX15_isSeen_129 ?_
                refine lv_iload_n hx hb dX15_isSeen_132 rfl (lv_at hl 0 rfl) ?_
                refine pg_bald hx hb hK hP hi_38 1 hF_120 rfl (vp_in_nI (by omega) (by omega)) dX15_isSeen_133 ?_
                refine lv_topi (fun x_139 ex_139 => ?_)
                obtain rfl : x_139 = gl i := ex_139.trans (congrArg gl (show ((nI i) : Int32).toNatClampNeg = i from nI_clamp (by omega)))
                refine lv_bipush (v := 62) hx hb dX15_isSeen_134 (by decide) ?_
                refine lv_icmp_eq (tgt := 172) hx hb dX15_isSeen_136 (by decide) (fun c_140 => ?_) (fun c_140 => ?_)
                ·
                  refine lv_aload_n hx hb dX15_isSeen_172 rfl (lv_at hl 3 rfl) ?_
                  refine pg_get (ci := 15) (v := .ref ak) (C := RX15) (T := TX15) (N := 59) hx hb hts it_15 hown hK hP hL_h0 hF_121 rfl 56 (by decide) (hts _ kt_993) (fun _ h9 => h9) rfl dX15_isSeen_173 ?_
                  have hFc := pg_free hD hS hA
                  refine va_calli (va_runV (As := []) (rest := []) ⟨hx, hb, hml, hown, hts⟩ (s_X14_isName_x l dC dI cs ty gm L H.size F_113 ak (ρ + 28) rak 6000 (i - (k + 1)) fq hW hL_ak hT_ak hi3 hi4 (by omega)) ⟨callB_of 0 hts (gi kt_994) rfl rfl rfl (hts _ kt_676) (hts _ kt_995) (by decide +kernel) ⟨Nat.le_of_ble_eq_true rfl, Nat.le_of_ble_eq_true rfl⟩, (hts _ kt_996), (hts _ kt_997)⟩ ⟨fun a U g mk q => ⟨q.1, PTm.calling q.2⟩, pg_recv hK hP hL_ak hi3 (q := (RX14, TX14, 2)) rfl, fun U hU hWm => ⟨rfl, PTm.mk hU hWm hP hK hD hE hO⟩⟩ rfl rfl hl.1 rfl (lv_room (Nat.le_of_ble_eq_true rfl)) dX15_isSeen_176 ⟨by show _ + 0 ≤ 0; omega, by show _ + 0 ≤ 0; omega⟩) hS (fun q _ h => hFc q h) hFc (fun r_141 u t H1 locs ht hvm hw hB hz1 hk1 hS => ?_)
                  obtain ⟨F_142, hB1⟩ := hB
                  obtain rfl : F_113 = F_142 := (funext (fun a => hB1.2.2.2 a List.not_mem_nil)).symm
                  obtain ⟨hP, hD, hO, hR⟩ := QTm.back hB1 ht hFc hR (fun q h => absurd h List.not_mem_nil)
                  generalize H1 = H at hP hS ⊢
                  have hw : r_141 = (if NM fq 0 (i - (k + 1)) = true then 1 else 0) := hw
                  have hw_143 := hw
                  refine W.widen (k := 0) (n := 0) (by omega) (by omega) ?_
                  exact W.zret (v := r_141) (ty := .boolean) hx hb hr (bitN (nmb hw_143)) (fun t ht hWm => ⟨⟨r_141, (dmW (TC gl mm) (gm 1 jf) (gm 2 jf)), rfl, ((snr_e (Z := (fun j9 => dmW (TC gl mm) (gm 1 j9) (gm 2 j9))) hc1 hjf hp1 hf1 rfl (show gm 1 jf + 1 < (lsc (TC gl mm) 64 (gm 2 jf)) by rw [hLS]; omega) (show gm 2 jf ≤ mm by omega) (show (lsc (TC gl mm) 64 (gm 2 jf)) ≤ i by rw [hLS]; exact hi1) hi2 (by rw [hLS]; exact dmE_of hi1 hi2 hi6 (Or.inr (Or.inr (Or.inr (Or.inl ((tcc him 62 (by omega)).mpr c_140)))))) (by rw [hLS]) (by rw [hLS]; exact hi5) hw_143).1), ⟨F_113, QTm.mk ht hP hD hO hR, (fun V hV => by obtain ⟨h8, h9⟩ := (snr_e (Z := (fun j9 => dmW (TC gl mm) (gm 1 j9) (gm 2 j9))) hc1 hjf hp1 hf1 rfl (show gm 1 jf + 1 < (lsc (TC gl mm) 64 (gm 2 jf)) by rw [hLS]; omega) (show gm 2 jf ≤ mm by omega) (show (lsc (TC gl mm) 64 (gm 2 jf)) ≤ i by rw [hLS]; exact hi1) hi2 (by rw [hLS]; exact dmE_of hi1 hi2 hi6 (Or.inr (Or.inr (Or.inr (Or.inl ((tcc him 62 (by omega)).mpr c_140)))))) (by rw [hLS]) (by rw [hLS]; exact hi5) hw_143).2 V hV; exact ⟨⟨_, _, _, hi3, hi4, h8, by omega⟩, nm_src h8 h9⟩)⟩⟩, hS.F ht⟩) hS.2.2 dX15_isSeen_179
                ·
                  refine lv_aload_n hx hb dX15_isSeen_139 rfl (lv_at hl 3 rfl) ?_
                  refine pg_get (ci := 15) (v := .ref ml) (C := RX15) (T := TX15) (N := 59) hx hb hts it_15 hown hK hP hL_h0 hF_121 rfl 23 (by decide) (hts _ kt_887) (fun _ h9 => h9) rfl dX15_isSeen_140 ?_
                  refine lv_iload_n hx hb dX15_isSeen_143 rfl (lv_at hl 0 rfl) ?_
                  refine pg_bald hx hb hK hP hi_38 1 hF_120 rfl (vp_in_nI (by omega) (by omega)) dX15_isSeen_144 ?_
                  refine lv_topi (fun x_144 ex_144 => ?_)
                  obtain rfl : x_144 = gl i := ex_144.trans (congrArg gl (show ((nI i) : Int32).toNatClampNeg = i from nI_clamp (by omega)))
                  refine lv_bipush (v := 10) hx hb dX15_isSeen_145 (by decide) ?_
                  refine lv_icmp_eq (tgt := 172) hx hb dX15_isSeen_147 (by decide) (fun c_145 => ?_) (fun c_145 => ?_)
                  ·
                    refine lv_aload_n hx hb dX15_isSeen_172 rfl (lv_at hl 3 rfl) ?_
                    refine pg_get (ci := 15) (v := .ref ak) (C := RX15) (T := TX15) (N := 59) hx hb hts it_15 hown hK hP hL_h0 hF_121 rfl 56 (by decide) (hts _ kt_993) (fun _ h9 => h9) rfl dX15_isSeen_173 ?_
                    have hFc := pg_free hD hS hA
                    refine va_calli (va_runV (As := []) (rest := []) ⟨hx, hb, hml, hown, hts⟩ (s_X14_isName_x l dC dI cs ty gm L H.size F_113 ak (ρ + 28) rak 6000 (i - (k + 1)) fq hW hL_ak hT_ak hi3 hi4 (by omega)) ⟨callB_of 0 hts (gi kt_994) rfl rfl rfl (hts _ kt_676) (hts _ kt_995) (by decide +kernel) ⟨Nat.le_of_ble_eq_true rfl, Nat.le_of_ble_eq_true rfl⟩, (hts _ kt_996), (hts _ kt_997)⟩ ⟨fun a U g mk q => ⟨q.1, PTm.calling q.2⟩, pg_recv hK hP hL_ak hi3 (q := (RX14, TX14, 2)) rfl, fun U hU hWm => ⟨rfl, PTm.mk hU hWm hP hK hD hE hO⟩⟩ rfl rfl hl.1 rfl (lv_room (Nat.le_of_ble_eq_true rfl)) dX15_isSeen_176 ⟨by show _ + 0 ≤ 0; omega, by show _ + 0 ≤ 0; omega⟩) hS (fun q _ h => hFc q h) hFc (fun r_146 u t H1 locs ht hvm hw hB hz1 hk1 hS => ?_)
                    obtain ⟨F_147, hB1⟩ := hB
                    obtain rfl : F_113 = F_147 := (funext (fun a => hB1.2.2.2 a List.not_mem_nil)).symm
                    obtain ⟨hP, hD, hO, hR⟩ := QTm.back hB1 ht hFc hR (fun q h => absurd h List.not_mem_nil)
                    generalize H1 = H at hP hS ⊢
                    have hw : r_146 = (if NM fq 0 (i - (k + 1)) = true then 1 else 0) := hw
                    have hw_148 := hw
                    refine W.widen (k := 0) (n := 0) (by omega) (by omega) ?_
                    exact W.zret (v := r_146) (ty := .boolean) hx hb hr (bitN (nmb hw_148)) (fun t ht hWm => ⟨⟨r_146, (dmW (TC gl mm) (gm 1 jf) (gm 2 jf)), rfl, ((snr_e (Z := (fun j9 => dmW (TC gl mm) (gm 1 j9) (gm 2 j9))) hc1 hjf hp1 hf1 rfl (show gm 1 jf + 1 < (lsc (TC gl mm) 64 (gm 2 jf)) by rw [hLS]; omega) (show gm 2 jf ≤ mm by omega) (show (lsc (TC gl mm) 64 (gm 2 jf)) ≤ i by rw [hLS]; exact hi1) hi2 (by rw [hLS]; exact dmE_of hi1 hi2 hi6 (Or.inr (Or.inr (Or.inr (Or.inr ((tcc him 10 (by omega)).mpr c_145)))))) (by rw [hLS]) (by rw [hLS]; exact hi5) hw_148).1), ⟨F_113, QTm.mk ht hP hD hO hR, (fun V hV => by obtain ⟨h8, h9⟩ := (snr_e (Z := (fun j9 => dmW (TC gl mm) (gm 1 j9) (gm 2 j9))) hc1 hjf hp1 hf1 rfl (show gm 1 jf + 1 < (lsc (TC gl mm) 64 (gm 2 jf)) by rw [hLS]; omega) (show gm 2 jf ≤ mm by omega) (show (lsc (TC gl mm) 64 (gm 2 jf)) ≤ i by rw [hLS]; exact hi1) hi2 (by rw [hLS]; exact dmE_of hi1 hi2 hi6 (Or.inr (Or.inr (Or.inr (Or.inr ((tcc him 10 (by omega)).mpr c_145)))))) (by rw [hLS]) (by rw [hLS]; exact hi5) hw_148).2 V hV; exact ⟨⟨_, _, _, hi3, hi4, h8, by omega⟩, nm_src h8 h9⟩)⟩⟩, hS.F ht⟩) hS.2.2 dX15_isSeen_179
                  ·
                    refine lv_aload_n hx hb dX15_isSeen_150 rfl (lv_at hl 3 rfl) ?_
                    refine pg_get (ci := 15) (v := .ref ak) (C := RX15) (T := TX15) (N := 59) hx hb hts it_15 hown hK hP hL_h0 hF_121 rfl 56 (by decide) (hts _ kt_993) (fun _ h9 => h9) rfl dX15_isSeen_151 ?_
                    refine lv_aload_n hx hb dX15_isSeen_154 rfl (lv_at hl 3 rfl) ?_
                    refine pg_get (ci := 15) (v := .ref ml) (C := RX15) (T := TX15) (N := 59) hx hb hts it_15 hown hK hP hL_h0 hF_121 rfl 23 (by decide) (hts _ kt_887) (fun _ h9 => h9) rfl dX15_isSeen_155 ?_
                    refine lv_iload_n hx hb dX15_isSeen_158 rfl (lv_at hl 0 rfl) ?_
                    refine pg_bald hx hb hK hP hi_38 1 hF_120 rfl (vp_in_nI (by omega) (by omega)) dX15_isSeen_159 ?_
                    refine lv_topi (fun x_149 ex_149 => ?_)
                    obtain rfl : x_149 = gl i := ex_149.trans (congrArg gl (show ((nI i) : Int32).toNatClampNeg = i from nI_clamp (by omega)))
                    have hFc := pg_free hD hS hA
                    refine va_calli (va_runS (As := [.int (gl i)]) (rest := [.ref ak]) ⟨hx, hb, hml, hown, hts⟩ (s_X15_small_e l dC dI cs ty gm L H.size F_113 (gl i) hW ) ⟨callB_of 1 hts (gi kt_697) rfl rfl rfl (hts _ kt_669) (hts _ kt_698) (by decide +kernel) ⟨Nat.le_of_ble_eq_true rfl, Nat.le_of_ble_eq_true rfl⟩, (hts _ kt_699)⟩ ⟨fun a U g mk q => ⟨q.1, PTm.calling q.2⟩, fun U hU hWm => ⟨rfl, PTm.mk hU hWm hP hK hD hE hO⟩⟩ rfl rfl hl.1 rfl (lv_room (Nat.le_of_ble_eq_true rfl)) dX15_isSeen_160 ⟨by show _ + 0 ≤ 0; omega, by show _ + 0 ≤ 0; omega⟩) hS (fun q _ h => hFc q h) hFc (fun r_150 u t H1 locs ht hvm hw hB hz1 hk1 hS => ?_)
                    obtain ⟨F_151, hB1⟩ := hB
                    obtain rfl : F_113 = F_151 := (funext (fun a => hB1.2.2.2 a List.not_mem_nil)).symm
                    obtain ⟨hP, hD, hO, hR⟩ := QTm.back hB1 ht hFc hR (fun q h => absurd h List.not_mem_nil)
                    generalize H1 = H at hP hS ⊢
                    have hw : r_150 = smv (gl i) := hw
                    subst hw
                    have hFc := pg_free hD hS hA
                    refine va_callv (va_runV (As := [.int (smv (gl i))]) (rest := []) ⟨hx, hb, hml, hown, hts⟩ (s_X14_add_b l dC dI cs ty gm L H.size F_113 ak (ρ + 28) rak 6000 (i - (k + 1)) fq (smv (gl i)) hW hL_ak hT_ak hi3 hi4 (by omega) (byq_2 (hby i him))) ⟨callB_of 1 hts (gi kt_711) rfl rfl rfl (hts _ kt_676) (hts _ kt_712) (by decide +kernel) ⟨Nat.le_of_ble_eq_true rfl, Nat.le_of_ble_eq_true rfl⟩, (hts _ kt_713), (hts _ kt_714)⟩ ⟨fun a U g mk q => ⟨q.1, PTm.calling q.2⟩, pg_recv hK hP hL_ak hi3 (q := (RX14, TX14, 2)) rfl, fun U hU hWm => ⟨rfl, PTm.mk hU hWm hP hK hD hE hO⟩⟩ rfl rfl hl.1 rfl (lv_room (Nat.le_of_ble_eq_true rfl)) dX15_isSeen_163 ⟨by show _ + 0 ≤ 0; omega, by show _ + 0 ≤ 0; omega⟩) hS (fun q _ h => hFc q h) hFc (fun u t H1 locs ht hvm hw hB hz1 hk1 hS => ?_)
                    obtain ⟨F_153, hB1, hq_154, hq_155⟩ := hB
                    obtain ⟨hP, hD, hO, hR⟩ := QTm.back hB1 ht hFc hR (fun q h => by simp only [List.mem_cons, List.not_mem_nil, or_false] at h ⊢; omega)
                    have hF_156 : F_153 ml = .inl (cs 17, 3000, .inl gl) := (hB1.2.2.2 ml (by rw [ht_39]; simp)).trans hF_120
                    have hF_157 : F_153 h0 = .inr (15, (.ref ta) :: (.int (nI zt)) :: (.int (nI zo)) :: (.int (nI ze)) :: (.ref ou) :: (.ref so) :: (.ref ad) :: (.ref na) :: (.ref va) :: (.ref lc) :: (.ref dm) :: (.int (nI fm)) :: (.int (nI sn)) :: (.ref tg) :: (.int v14_40) :: (.int v15_41) :: (.ref pe) :: (.int v17_42) :: (.int v18_43) :: (.int v19_44) :: (.int v20_45) :: (.int v21_46) :: (.int v22_47) :: (.ref ml) :: (.ref bg) :: (.ref co) :: (.ref sp) :: (.ref nb0) :: (.ref nb1) :: (.ref nb2) :: (.int (nI nf)) :: (.int (nI bd)) :: (.int (nI mm)) :: (.int v33_48) :: (.ref pl) :: (.ref se) :: (.ref ke) :: (.ref wi) :: (.ref hs) :: (.ref mo) :: (.ref po) :: (.ref nu) :: (.ref pr) :: (.ref sq) :: (.ref xa) :: (.ref sa) :: (.ref n64) :: (.ref m64) :: (.ref ex) :: (.ref wh) :: (.ref sd) :: (.ref tk) :: (.int v52_49) :: (.int v53_50) :: (.int v54_51) :: (.ref hd) :: (.ref ak) :: (.ref ho) :: (.ref ot) :: []) := (hB1.2.2.2 h0 (by rw [hT_h0]; simp)).trans hF_121
                    have hF_158 : F_153 sp = .inl (cs 16, 21, .inl f_63) := (hB1.2.2.2 sp (by rw [ht_62]; simp)).trans hF_122
                    have hF_159 : F_153 co = .inl (cs 16, 21, .inl f_79) := (hB1.2.2.2 co (by rw [ht_78]; simp)).trans hF_123
                    generalize H1 = H at hP hS ⊢
                    refine lv_iinc (v := (nI (i + 1))) (lv' := [(3, .int (nI (i + 1))), (2, .int (nI k)), (1, .int (nI jf)), (0, .ref h0)]) hx hb dX15_isSeen_166 hl (k := 0) rfl (nI_1 _) (by decide) rfl (fun ls hl => ?_)
                    refine lv_goto (tgt := 106) hx hb dX15_isSeen_169 (by decide) ?_
                    refine W.widen (k := 0) (n := 0) (by omega) (by omega) ?_
                    exact ih_119 ((i + 1), (upd fq (i - (k + 1)) (smv (gl i)))) F_153 (⟨by omega, by omega, by rw [show i + 1 - (k + 1) = i - (k + 1) + 1 by omega]; exact hq_154, hq_155, by have h9 := hi5.add; rw [show k + 1 + (i - (k + 1)) = i by omega] at h9; rw [show i + 1 - (k + 1) = i - (k + 1) + 1 by omega]; exact h9, fun q9 h1 h2 => by rcases Nat.lt_or_ge q9 i with w9 | w9; exact hi6 q9 h1 w9; rw [show q9 = i by omega]; exact (fun q => by rcases q with q | q | q | q; exact ifb0 hw_134 c_135 (Or.inl ((tcc him 32 (by omega)).mp q)); exact ifb0 hw_134 c_135 (Or.inr ((tcc him 9 (by omega)).mp q)); exact c_140 ((tcc him 62 (by omega)).mp q); exact c_145 ((tcc him 10 (by omega)).mp q))⟩) (by show gm 2 jf - (i + 1) < gm 2 jf - i; omega) hO hR _ _ hP hD hS ls (lv_sub hl [0, 1, 2, 3] rfl)
          ·
            have hi_160 : k = (gm 1 jf) := (nI_eq (a := k) (b := (gm 1 jf)) (by omega) (by omega)).mp c_95
            exact absurd ((nI_eq (by omega) (by omega)).mp c_95) (by omega)
        ·
          have hn64 : ¬ (TC gl mm) k = 64 := fun q => c_93 ((tcc (show k < mm by omega) 64 (by omega)).mp q)
          refine lv_iinc (v := (nI (k - 1))) (lv' := [(2, .int (nI (k - 1))), (1, .int (nI jf)), (0, .ref h0)]) hx hb dX15_isSeen_76 hl (k := 0) rfl (m1N (by omega)) (by decide) rfl (fun ls hl => ?_)
          refine lv_goto (tgt := 55) hx hb dX15_isSeen_79 (by decide) ?_
          refine W.widen (k := 0) (n := 0) (by omega) (by omega) ?_
          exact ih_73 (k - 1) F_68 (⟨by omega, by omega, by rw [hk3a, show k - 1 + 1 = k by omega]; exact lsc_n hn64⟩) (by show (k - 1) < k; omega) hO hR _ _ hP hD hS ls (lv_sub hl [0, 1, 2] rfl)
    ·
      have hv0 := hv2.resolve_right (fun q => by obtain ⟨i9, a1, a2, -⟩ := q; have h9 := Int32.not_le.mp c_60; rw [a2] at h9; exact absurd h9 (nI_pos (by omega)))
      have hjn : j = nf := by omega
      refine lv_iconst (v := 0) hx hb dX15_isSeen_44 (by decide) ?_
      refine W.widen (k := 0) (n := 0) (by omega) (by omega) ?_
      exact W.zret (v := 0) (ty := .boolean) hx hb hr (by decide) (fun t ht hWm => ⟨⟨0, none, rfl, (snr_0 (w := 0) (by rw [← hjn]; exact hv0.2.1) (by decide)), ⟨F_31, QTm.mk ht hP hD hO hR, (fun V hV => nomatch hV)⟩⟩, hS.F ht⟩) hS.2.2 dX15_isSeen_45
  ·
    have hi_161 : j < nf := ltN (N := nf) c_58
    refine lv_aload_n hx hb dX15_isSeen_12 rfl (lv_at hl 2 rfl) ?_
    refine lv_iload_n hx hb dX15_isSeen_13 rfl (lv_at hl 0 rfl) ?_
    obtain ⟨q_162, v_163, hr_q_162, hX_q_162⟩ := hG.2.2 ("PostGateModel", 488, "from", [102, 114, 111, 109]) (by decide +kernel)
    have hX_q_162 : SXc q_162 v_163 4 (cct [102, 114, 111, 109]) A s s.heap := hX_q_162
    obtain ⟨xo_q_162, xc_q_162, xv_q_162, xt_q_162, xn_q_162⟩ := id hX_q_162
    have hr_q_162 : vk_R "PostGateModel" 488 "from" q_162 s := hr_q_162
    refine va_ldcwS hx hb hown hr_q_162 dX15_isSeen_14 ?_
    obtain ⟨hq_164, hq_165⟩ := hW.octs hi_38 ht_39
    have hFc := pg_free hD hS hA
    refine va_calli (va_runV (As := [.int (nI j), .ref q_162]) (rest := []) ⟨hx, hb, hml, hown, hts⟩ (s_X15_isNamed_e l dC dI cs ty gm L H.size F_31 h0 ρ ta ou so ad na va lc dm tg pe ml bg co sp nb0 nb1 nb2 pl se ke wi hs mo po nu pr sq xa sa n64 m64 ex wh sd tk hd ak ho ot sx s0 s1 s2 nf bd mm zo fm sn hg gc gv ze zt j q_162 v_163 4 (cct [102, 114, 111, 109]) gl hW hL_h0 hT_h0 hF_37 (by omega)) ⟨callB_of 2 hts (gi kt_893) rfl rfl rfl (hts _ kt_669) (hts _ kt_894) (by decide +kernel) ⟨Nat.le_of_ble_eq_true rfl, Nat.le_of_ble_eq_true rfl⟩, (hts _ kt_895), (hts _ kt_896)⟩ ⟨fun a U g mk q => ⟨q.1, PTEm.calling q.2⟩, pg_recv hK hP hL_h0 hF_52 (q := (RX15, TX15, 59)) rfl, fun U hU hWm => ⟨rfl, PTEm.mk hU hWm hP hK hD hE hO hG (fun x hx => by rw [List.mem_singleton] at hx; subst hx; exact hX_q_162) hS hFc⟩⟩ rfl rfl hl.1 rfl (lv_room (Nat.le_of_ble_eq_true rfl)) dX15_isSeen_17 ⟨by show _ + 0 ≤ 0; omega, by show _ + 0 ≤ 0; omega⟩) hS (fun q _ h => hFc q h) hFc (fun r_166 u t H1 locs ht hvm hw hB hz1 hk1 hS => ?_)
    obtain ⟨F_167, hB1⟩ := hB
    obtain rfl : F_31 = F_167 := (funext (fun a => hB1.2.2.2 a List.not_mem_nil)).symm
    obtain ⟨hP, hD, hO, hR⟩ := QTm.back hB1 ht hFc hR (fun q h => absurd h List.not_mem_nil)
    generalize H1 = H at hP hS ⊢
    have hw : ((r_166 = 1 ∧ alP gl (gm 0 j) (gm 1 j) (cct [102, 114, 111, 109]) 4) ∨ (r_166 = 0 ∧ ¬ alP gl (gm 0 j) (gm 1 j) (cct [102, 114, 111, 109]) 4)) := hw
    have hw_168 := hw
    refine lv_if_ne (tgt := 26) hx hb dX15_isSeen_20 (by decide) (fun c_169 => ?_) (fun c_169 => ?_)
    ·
      refine lv_iload_n hx hb dX15_isSeen_26 rfl (lv_at hl 1 rfl) ?_
      refine lv_if_lt (tgt := 32) hx hb dX15_isSeen_27 (by decide) (fun c_170 => ?_) (fun c_170 => ?_)
      ·
        have hv0 := hv2.resolve_right (fun q => by obtain ⟨i9, a1, a2, -⟩ := q; have h9 := c_170; rw [a2] at h9; exact absurd h9 (nI_pos (by omega)))
        refine lv_iload_n hx hb dX15_isSeen_32 rfl (lv_at hl 0 rfl) ?_
        refine lv_istore_n (lv' := [(1, .int (nI j)), (2, .int (nI j)), (0, .ref h0)]) hx hb dX15_isSeen_33 rfl hl (by decide) rfl (fun ls hl => ?_)
        refine lv_iinc (v := (nI (j + 1))) (lv' := [(2, .int (nI (j + 1))), (1, .int (nI j)), (0, .ref h0)]) hx hb dX15_isSeen_34 hl (k := 1) rfl (nI_1 _) (by decide) rfl (fun ls hl => ?_)
        refine lv_goto (tgt := 4) hx hb dX15_isSeen_37 (by decide) ?_
        refine W.widen (k := 0) (n := 0) (by omega) (by omega) ?_
        exact ih_36 ((j + 1), (nI j)) F_31 (⟨by omega, Or.inr ⟨j, by omega, rfl, hv0.2.1.y (nm1 hw_168 c_169), nm1 hw_168 c_169, hv0.2.2⟩⟩) (by show nf - (j + 1) < nf - j; omega) hO hR _ _ hP hD hS ls (lv_sub hl [0, 1, 2] rfl)
      ·
        obtain ⟨i9, hi9, -, hcn9, -⟩ := hv2.resolve_left (fun q => c_170 (by rw [q.1]; decide))
        refine lv_iconst (v := 0) hx hb dX15_isSeen_30 (by decide) ?_
        refine W.widen (k := 0) (n := 0) (by omega) (by omega) ?_
        exact W.zret (v := 0) (ty := .boolean) hx hb hr (by decide) (fun t ht hWm => ⟨⟨0, none, rfl, (snr_2 hcn9 (nm1 hw_168 c_169) (by omega)), ⟨F_31, QTm.mk ht hP hD hO hR, (fun V hV => nomatch hV)⟩⟩, hS.F ht⟩) hS.2.2 dX15_isSeen_31
    ·
      refine lv_goto (tgt := 34) hx hb dX15_isSeen_23 (by decide) ?_
      refine lv_iinc (v := (nI (j + 1))) (lv' := [(2, .int (nI (j + 1))), (1, .int w1), (0, .ref h0)]) hx hb dX15_isSeen_34 hl (k := 0) rfl (nI_1 _) (by decide) rfl (fun ls hl => ?_)
      refine lv_goto (tgt := 4) hx hb dX15_isSeen_37 (by decide) ?_
      refine W.widen (k := 0) (n := 0) (by omega) (by omega) ?_
      exact ih_36 ((j + 1), w1) F_31 (⟨by omega, hv2.imp (fun q => ⟨q.1, q.2.1.n (nm0 hw_168 c_169), all_step q.2.2 (nm0 hw_168 c_169)⟩) (fun q => by obtain ⟨i9, a1, a2, a3, a4⟩ := q; exact ⟨i9, by omega, a2, a3.n (nm0 hw_168 c_169), a4⟩)⟩) (by show nf - (j + 1) < nf - j; omega) hO hR _ _ hP hD hS ls (lv_sub hl [0, 1, 2] rfl)
set_option maxHeartbeats 4000000 in
set_option maxRecDepth 100000 in
theorem s_X15_wanted_x (l : Launch) (dC : Nat → ClassId) (dI : Nat → Nat → Nat) (cs : Nat → ClassId) (ty : TyM) (gm : Nat → Nat → Nat) (L : List Nat) (sz : Nat) (F : Nat → va_E) (g0 : Nat) (σ : Nat) (tx : Nat) (n : Nat) (Bn : Nat) (y0 : Nat) (y1 : Nat) (y2 : Nat) (tbx : Nat) (zx : Nat) (nn : Nat) (fb : Nat → Int32) (e0 : Nat → Int32) (e1 : Nat → Int32) (e2 : Nat → Int32) (gq : Nat → Nat → Nat) (q : Nat) (v : Nat) (k0 : Nat) (C : Nat → Int32) (ll : List Nat) (hW : WTm ty gm L) (hL_g0 : g0 ∈ L) (hT_g0 : ty g0 = (13, σ, [tx, n, Bn, y0, y1, y2])) (hL_tx : tx ∈ L) (hT_tx : ty tx = (14, σ + 1, [tbx, n])) (hFx : F tx = .inr (14, [.ref tbx, .int (nI zx)])) (hFb : F tbx = .inl (cs 17, n, .inl fb)) (hxn : zx ≤ n) (hF0 : F g0 = .inr (13, [.ref tx, .ref y0, .ref y1, .ref y2, .int (nI nn)])) (hFy0 : F y0 = .inl (cs 16, 40, .inl e0)) (hFy1 : F y1 = .inl (cs 16, 40, .inl e1)) (hFy2 : F y2 = .inl (cs 16, 40, .inl e2)) (hcn : nn ≤ 40) (hhl : HLD e0 e1 e2 nn gq) (hTG : TGI zx nn gq) (hn3 : n ≤ 3000) (hCL : CLI C k0 ll) : Met l yX15_wanted (.code yX15_wanted cX15_wanted 2 (some .int) :: tb) ({ frames := 7, cells := 0, slots := 0, locals := 154 }) (va_Pc [.ref g0, .ref q] (PTEm (dC, dI) cs ty gm L F sz [(q, v, k0, C)])) (va_Qi (fun (r : Int32) (_ : Unit) => r = nI (wnW (TC fb zx) gq nn ll)) (fun _ T9 => ∃ F2 : Nat → va_E, QTm (dC, dI) cs ty gm L [] F F2 (va_A (va_pl L F) sz) T9) (va_A (va_pl L F) sz)) 0 0 (va_A (va_pl L F) sz) := by
  refine Met.ofW (cc := cX15_wanted) (maxL := 2) (ret := (some .int)) (by decide) rfl ?_
  intro p e s m args below meth c s₁ B hml hv
  obtain ⟨rfl, ⟨hsz, hP, hK, hD0, hE, hO⟩, hG, hX⟩ := hv
  have hx := B.exec
  have hb := B.bytes
  have hr := B.returns
  have hts : ∀ w ∈ tb, w.before _ s = true := fun w h => atoms_spec (ws := .code yX15_wanted cX15_wanted 2 (some .int) :: tb) B.pre w (List.mem_cons_of_mem _ h)
  have hown : s.vm.findClass RX15 = some m.cls := findClass_of_methodNamed B.named
  have hlocks := B.notSynchronized
  subst hsz
  have hD := hD0.self (sz := s.heap.size)
  generalize hAe : va_A (va_pl L F) s.heap.size = A at hD hG hX ⊢
  have hX_q : SXc q v k0 C A s s.heap := hX (q, v, k0, C) (by simp)
  obtain ⟨xo_q, xc_q, xv_q, xt_q, xn_q⟩ := id hX_q
  have hA : ∀ q : Nat, s.heap.size ≤ q → A q := fun q h => by rw [← hAe]; exact Or.inr h
  have hS : va_S A s.heap s.heap [] := va_S.rf
  have hR : FR ty [] F F := FR.refl
  have hl := lv_entry ([.ref g0, .ref q]) (n := 2) (Nat.le_of_ble_eq_true rfl)
  rw [lg_entry_eq]
  generalize (lg_sl ([.ref g0, .ref q]) ++ List.replicate (2 - (lg_sl ([.ref g0, .ref q])).length) Slot.unset).toArray = ls at hl ⊢
  have hl : lv_has ls 2 [(0, .ref g0), (1, .ref q)] := hl
  obtain ⟨_, hi_1, hi_2, hi_3, _, ht_4, ht_5, ht_6, hq_7, hq_8⟩ := hW.tags hL_g0 hT_g0
  obtain ⟨hi_9, ht_10, hq_11⟩ := hW.txt hL_tx hT_tx
  refine lv_aload_n hx hb dX15_wanted_0 rfl (lv_at hl 0 rfl) ?_
  refine lv_aload_n hx hb dX15_wanted_1 rfl (lv_at hl 1 rfl) ?_
  obtain ⟨q_12, v_13, hr_q_12, hX_q_12⟩ := hG.2.2 ("PostGateModel", 573, "none", [110, 111, 110, 101]) (by decide +kernel)
  have hX_q_12 : SXc q_12 v_13 4 (cct [110, 111, 110, 101]) A s s.heap := hX_q_12
  obtain ⟨xo_q_12, xc_q_12, xv_q_12, xt_q_12, xn_q_12⟩ := id hX_q_12
  have hr_q_12 : vk_R "PostGateModel" 573 "none" q_12 s := hr_q_12
  refine va_ldcwS hx hb hown hr_q_12 dX15_wanted_2 ?_
  obtain ⟨hq_14, hq_15⟩ := hW.octs hi_9 ht_10
  have hFc := pg_free hD hS hA
  refine va_calli (va_runV (As := [.ref q, .ref q_12]) (rest := []) ⟨hx, hb, hml, hown, hts⟩ (s_X13_has_x l dC dI cs ty gm L s.heap.size F g0 σ tx n Bn y0 y1 y2 tbx zx nn fb e0 e1 e2 gq q v k0 C q_12 v_13 4 (cct [110, 111, 110, 101]) ll LNO hW hL_g0 hT_g0 hL_tx hT_tx hFx hFb (hxn) hF0 hFy0 hFy1 hFy2 (hcn) (hhl) (hTG) (hn3) (hCL) (⟨rfl, by decide +kernel⟩)) ⟨callB_of 2 hts (gi kt_863) rfl rfl rfl (hts _ kt_829) (hts _ kt_864) (by decide +kernel) ⟨Nat.le_of_ble_eq_true rfl, Nat.le_of_ble_eq_true rfl⟩, (hts _ kt_865), (hts _ kt_866)⟩ ⟨fun a U g mk q => ⟨q.1, PTEm.calling q.2⟩, pg_recv hK hP hL_g0 hF0 (q := (RX13, TX13, 5)) rfl, fun U hU hWm => ⟨rfl, PTEm.mk hU hWm hP hK hD hE hO hG (fun x hx => by simp only [List.mem_cons, List.not_mem_nil, or_false] at hx; rcases hx with hx | hx <;> subst hx <;> first | exact hX_q | exact hX_q_12) hS hFc⟩⟩ rfl rfl hl.1 rfl (lv_room (Nat.le_of_ble_eq_true rfl)) dX15_wanted_5 ⟨by show _ + 0 ≤ 0; omega, by show _ + 0 ≤ 0; omega⟩) hS (fun q _ h => hFc q h) hFc (fun r_16 u t H1 locs ht hvm hw hB hz1 hk1 hS => ?_)
  obtain ⟨F_17, hB1⟩ := hB
  obtain rfl : F = F_17 := (funext (fun a => hB1.2.2.2 a List.not_mem_nil)).symm
  obtain ⟨hP, hD, hO, hR⟩ := QTm.back hB1 ht hFc hR (fun q h => absurd h List.not_mem_nil)
  generalize H1 = H at hP hS ⊢
  have hw : ((r_16 = 1 ∧ TGV (TC fb zx) gq nn ll LNO) ∨ (r_16 = 0 ∧ ¬ TGV (TC fb zx) gq nn ll LNO)) := hw
  have hw_18 := hw
  refine lv_if_eq (tgt := 16) hx hb dX15_wanted_8 (by decide) (fun c_19 => ?_) (fun c_19 => ?_)
  ·
    refine lv_aload_n hx hb dX15_wanted_16 rfl (lv_at hl 0 rfl) ?_
    refine lv_aload_n hx hb dX15_wanted_17 rfl (lv_at hl 1 rfl) ?_
    obtain ⟨q_20, v_21, hr_q_20, hX_q_20⟩ := hG.2.2 ("PostGateModel", 575, "quarantine", [113, 117, 97, 114, 97, 110, 116, 105, 110, 101]) (by decide +kernel)
    have hX_q_20 : SXc q_20 v_21 10 (cct [113, 117, 97, 114, 97, 110, 116, 105, 110, 101]) A s s.heap := hX_q_20
    obtain ⟨xo_q_20, xc_q_20, xv_q_20, xt_q_20, xn_q_20⟩ := id hX_q_20
    have hr_q_20 : vk_R "PostGateModel" 575 "quarantine" q_20 s := hr_q_20
    refine va_ldcwS hx hb hown hr_q_20 dX15_wanted_18 ?_
    have hFc := pg_free hD hS hA
    refine va_calli (va_runV (As := [.ref q, .ref q_20]) (rest := []) ⟨hx, hb, hml, hown, hts⟩ (s_X13_has_x l dC dI cs ty gm L H.size F g0 σ tx n Bn y0 y1 y2 tbx zx nn fb e0 e1 e2 gq q v k0 C q_20 v_21 10 (cct [113, 117, 97, 114, 97, 110, 116, 105, 110, 101]) ll LQU hW hL_g0 hT_g0 hL_tx hT_tx hFx hFb (hxn) hF0 hFy0 hFy1 hFy2 (hcn) (hhl) (hTG) (hn3) (hCL) (⟨rfl, by decide +kernel⟩)) ⟨callB_of 2 hts (gi kt_863) rfl rfl rfl (hts _ kt_829) (hts _ kt_864) (by decide +kernel) ⟨Nat.le_of_ble_eq_true rfl, Nat.le_of_ble_eq_true rfl⟩, (hts _ kt_865), (hts _ kt_866)⟩ ⟨fun a U g mk q => ⟨q.1, PTEm.calling q.2⟩, pg_recv hK hP hL_g0 hF0 (q := (RX13, TX13, 5)) rfl, fun U hU hWm => ⟨rfl, PTEm.mk hU hWm hP hK hD hE hO hG (fun x hx => by simp only [List.mem_cons, List.not_mem_nil, or_false] at hx; rcases hx with hx | hx <;> subst hx <;> first | exact hX_q | exact hX_q_20) hS hFc⟩⟩ rfl rfl hl.1 rfl (lv_room (Nat.le_of_ble_eq_true rfl)) dX15_wanted_21 ⟨by show _ + 0 ≤ 0; omega, by show _ + 0 ≤ 0; omega⟩) hS (fun q _ h => hFc q h) hFc (fun r_22 u t H1 locs ht hvm hw hB hz1 hk1 hS => ?_)
    obtain ⟨F_23, hB1⟩ := hB
    obtain rfl : F = F_23 := (funext (fun a => hB1.2.2.2 a List.not_mem_nil)).symm
    obtain ⟨hP, hD, hO, hR⟩ := QTm.back hB1 ht hFc hR (fun q h => absurd h List.not_mem_nil)
    generalize H1 = H at hP hS ⊢
    have hw : ((r_22 = 1 ∧ TGV (TC fb zx) gq nn ll LQU) ∨ (r_22 = 0 ∧ ¬ TGV (TC fb zx) gq nn ll LQU)) := hw
    have hw_24 := hw
    refine lv_if_eq (tgt := 32) hx hb dX15_wanted_24 (by decide) (fun c_25 => ?_) (fun c_25 => ?_)
    ·
      refine lv_aload_n hx hb dX15_wanted_32 rfl (lv_at hl 0 rfl) ?_
      refine lv_aload_n hx hb dX15_wanted_33 rfl (lv_at hl 1 rfl) ?_
      obtain ⟨q_26, v_27, hr_q_26, hX_q_26⟩ := hG.2.2 ("PostGateModel", 577, "reject", [114, 101, 106, 101, 99, 116]) (by decide +kernel)
      have hX_q_26 : SXc q_26 v_27 6 (cct [114, 101, 106, 101, 99, 116]) A s s.heap := hX_q_26
      obtain ⟨xo_q_26, xc_q_26, xv_q_26, xt_q_26, xn_q_26⟩ := id hX_q_26
      have hr_q_26 : vk_R "PostGateModel" 577 "reject" q_26 s := hr_q_26
      refine va_ldcwS hx hb hown hr_q_26 dX15_wanted_34 ?_
      have hFc := pg_free hD hS hA
      refine va_calli (va_runV (As := [.ref q, .ref q_26]) (rest := []) ⟨hx, hb, hml, hown, hts⟩ (s_X13_has_x l dC dI cs ty gm L H.size F g0 σ tx n Bn y0 y1 y2 tbx zx nn fb e0 e1 e2 gq q v k0 C q_26 v_27 6 (cct [114, 101, 106, 101, 99, 116]) ll LRJ hW hL_g0 hT_g0 hL_tx hT_tx hFx hFb (hxn) hF0 hFy0 hFy1 hFy2 (hcn) (hhl) (hTG) (hn3) (hCL) (⟨rfl, by decide +kernel⟩)) ⟨callB_of 2 hts (gi kt_863) rfl rfl rfl (hts _ kt_829) (hts _ kt_864) (by decide +kernel) ⟨Nat.le_of_ble_eq_true rfl, Nat.le_of_ble_eq_true rfl⟩, (hts _ kt_865), (hts _ kt_866)⟩ ⟨fun a U g mk q => ⟨q.1, PTEm.calling q.2⟩, pg_recv hK hP hL_g0 hF0 (q := (RX13, TX13, 5)) rfl, fun U hU hWm => ⟨rfl, PTEm.mk hU hWm hP hK hD hE hO hG (fun x hx => by simp only [List.mem_cons, List.not_mem_nil, or_false] at hx; rcases hx with hx | hx <;> subst hx <;> first | exact hX_q | exact hX_q_26) hS hFc⟩⟩ rfl rfl hl.1 rfl (lv_room (Nat.le_of_ble_eq_true rfl)) dX15_wanted_37 ⟨by show _ + 0 ≤ 0; omega, by show _ + 0 ≤ 0; omega⟩) hS (fun q _ h => hFc q h) hFc (fun r_28 u t H1 locs ht hvm hw hB hz1 hk1 hS => ?_)
      obtain ⟨F_29, hB1⟩ := hB
      obtain rfl : F = F_29 := (funext (fun a => hB1.2.2.2 a List.not_mem_nil)).symm
      obtain ⟨hP, hD, hO, hR⟩ := QTm.back hB1 ht hFc hR (fun q h => absurd h List.not_mem_nil)
      generalize H1 = H at hP hS ⊢
      have hw : ((r_28 = 1 ∧ TGV (TC fb zx) gq nn ll LRJ) ∨ (r_28 = 0 ∧ ¬ TGV (TC fb zx) gq nn ll LRJ)) := hw
      have hw_30 := hw
      refine lv_if_eq (tgt := 48) hx hb dX15_wanted_40 (by decide) (fun c_31 => ?_) (fun c_31 => ?_)
      ·
        refine lv_bipush (v := 6) hx hb dX15_wanted_48 (by decide) ?_
        refine W.widen (k := 0) (n := 0) (by omega) (by omega) ?_
        exact W.iret (v := 6) hx hb hr (fun t ht hWm => ⟨⟨6, (), rfl, (by unfold wnW; rw [if_neg (orp0 hw_18 c_19), if_neg (orp0 hw_24 c_25), if_neg (orp0 hw_30 c_31)]; rfl), ⟨F, QTm.mk ht hP hD hO hR⟩⟩, hS.F ht⟩) hS.2.2 dX15_wanted_50
      ·
        refine lv_bipush (v := 9) hx hb dX15_wanted_43 (by decide) ?_
        refine lv_goto (tgt := 50) hx hb dX15_wanted_45 (by decide) ?_
        refine W.widen (k := 0) (n := 0) (by omega) (by omega) ?_
        exact W.iret (v := 9) hx hb hr (fun t ht hWm => ⟨⟨9, (), rfl, (by unfold wnW; rw [if_neg (orp0 hw_18 c_19), if_neg (orp0 hw_24 c_25), if_pos (orp1 hw_30 c_31)]; rfl), ⟨F, QTm.mk ht hP hD hO hR⟩⟩, hS.F ht⟩) hS.2.2 dX15_wanted_50
    ·
      refine lv_bipush (v := 8) hx hb dX15_wanted_27 (by decide) ?_
      refine lv_goto (tgt := 50) hx hb dX15_wanted_29 (by decide) ?_
      refine W.widen (k := 0) (n := 0) (by omega) (by omega) ?_
      exact W.iret (v := 8) hx hb hr (fun t ht hWm => ⟨⟨8, (), rfl, (by unfold wnW; rw [if_neg (orp0 hw_18 c_19), if_pos (orp1 hw_24 c_25)]; rfl), ⟨F, QTm.mk ht hP hD hO hR⟩⟩, hS.F ht⟩) hS.2.2 dX15_wanted_50
  ·
    refine lv_bipush (v := 7) hx hb dX15_wanted_11 (by decide) ?_
    refine lv_goto (tgt := 50) hx hb dX15_wanted_13 (by decide) ?_
    refine W.widen (k := 0) (n := 0) (by omega) (by omega) ?_
    exact W.iret (v := 7) hx hb hr (fun t ht hWm => ⟨⟨7, (), rfl, (by unfold wnW; rw [if_pos (orp1 hw_18 c_19)]; rfl), ⟨F, QTm.mk ht hP hD hO hR⟩⟩, hS.F ht⟩) hS.2.2 dX15_wanted_50
