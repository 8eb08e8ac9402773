def pdd (w : Int32) : List (Nat × Nat) := if w = 0 then [] else [(2, 32)]
theorem pd_0 : pdd 0 = [] := rfl
theorem pd_1 : pdd 1 = [(2, 32)] := rfl
theorem bl_sk {T : Nat → Nat} {x : Int32} (hx : ¬ x = 0) {z : Nat} {A Z : List (Nat × Nat)} : ∀ (d i : Nat) (w : Int32), i + d ≤ z → (∀ j, i ≤ j → j < i + d → T j = 1) → Z = A ++ blx T x (z - i) i w → ∃ v : Int32, Z = A ++ blx T x (z - (i + d)) (i + d) v := by
  intro d
  induction d with
  | zero => intro i w _ _ h; exact ⟨w, h⟩
  | succ d ih =>
    intro i w h1 h2 h3
    have h4 := bl_1 h3 (by omega) hx (h2 i (Nat.le_refl _) (by omega))
    obtain ⟨v, hv⟩ := ih (i + 1) 1 (by omega) (fun j a1 a2 => h2 j (by omega) (by omega)) h4
    exact ⟨v, by rw [show i + (d + 1) = i + 1 + d by omega]; exact hv⟩
theorem bl_end {T : Nat → Nat} {x : Int32} {z k e : Nat} {A Z : List (Nat × Nat)} (hk : k ≤ e) (he : e ≤ z) (h : Z = A ++ blx T x (z - k) k 0) (hs : k = e ∨ (¬ x = 0 ∧ ∀ j, k ≤ j → j < e → T j = 1)) : ∃ v : Int32, Z = A ++ blx T x (z - e) e v := by
  rcases hs with c | ⟨c1, c2⟩
  · exact ⟨0, by rw [← c]; exact h⟩
  · obtain ⟨v, hv⟩ := bl_sk c1 (e - k) k 0 (by omega) (fun j a1 a2 => c2 j a1 (by omega)) h
    rw [show k + (e - k) = e by omega] at hv
    exact ⟨v, hv⟩
theorem bl_nx {T : Nat → Nat} {x : Int32} {z k e w : Nat} {A Z : List (Nat × Nat)} (hk : k ≤ e) (he : FSF T 0 k z e) (hw : w = min z (e + 1)) (h : ∃ v : Int32, Z = A ++ blx T x (z - e) e v) : (Z = (A ++ [(2, 10)]) ++ blx T x (z - w) w 0) ∨ (w = z ∧ A ++ [(2, 10)] = Z ++ [(2, 10)]) := by
  obtain ⟨v, hv⟩ := h
  rcases Nat.lt_or_ge e z with c | c
  · have h0 : T e = 0 := he.2.2.2.resolve_left (by omega)
    rw [show w = e + 1 by omega]
    exact Or.inl (bl_0 hv c h0)
  · exact Or.inr ⟨by have h1 := he.2.1; omega, by rw [bl_e hv c]⟩
theorem bl_fin {T : Nat → Nat} {x : Int32} {z k q : Nat} {A Z : List (Nat × Nat)} (hk : z ≤ k) (h : (Z = A ++ blx T x (z - k) k 0) ∨ (k = z ∧ A = Z ++ [(2, 10)])) (hs : STL A q) : STL (Z ++ [(2, 10)]) q := by
  rcases h with c | ⟨c1, c2⟩
  · rw [bl_e c hk]
    exact hs.nl
  · rw [← c2]
    exact hs
theorem len_pd {A : List (Nat × Nat)} : (A ++ pdd 1).length = A.length + 1 := len1
set_option maxHeartbeats 4000000 in
set_option maxRecDepth 100000 in
theorem s_X15_bodyPlain_e (l : Launch) (dC : Nat → ClassId) (dI : Nat → Nat → Nat) (cs : Nat → ClassId) (ty : TyM) (gm : Nat → Nat → Nat) (L : List Nat) (sz : Nat) (F : Nat → va_E) (h0 : Nat) (ρ : Nat) (ta : Nat) (ou : Nat) (so : Nat) (ad : Nat) (na : Nat) (va : Nat) (lc : Nat) (dm : Nat) (tg : Nat) (pe : Nat) (ml : Nat) (bg : Nat) (co : Nat) (sp : Nat) (nb0 : Nat) (nb1 : Nat) (nb2 : Nat) (pl : Nat) (se : Nat) (ke : Nat) (wi : Nat) (hs : Nat) (mo : Nat) (po : Nat) (nu : Nat) (pr : Nat) (sq : Nat) (xa : Nat) (sa : Nat) (n64 : Nat) (m64 : Nat) (ex : Nat) (wh : Nat) (sd : Nat) (tk : Nat) (hd : Nat) (ak : Nat) (ho : Nat) (ot : Nat) (sx : Nat) (s0 : Nat) (s1 : Nat) (s2 : Nat) (nf : Nat) (bd : Nat) (mm : Nat) (zo : Nat) (fm : Nat) (sn : Nat) (hg : Nat) (gc : Nat) (gv : Nat) (ze : Nat) (zt : Nat) (rl : Nat) (gl : Nat → Int32) (x1 : Int32) (hW : WTm ty gm L) (hL_h0 : h0 ∈ L) (hT_h0 : ty h0 = (15, ρ, [ta, ou, so, ad, na, va, lc, dm, tg, pe, ml, bg, co, sp, nb0, nb1, nb2, pl, se, ke, wi, hs, mo, po, nu, pr, sq, xa, sa, n64, m64, ex, wh, sd, tk, hd, ak, ho, ot, sx, s0, s1, s2, nf, bd, mm, zo, fm, sn, hg, gc, gv, ze, zt])) (hL_pl : pl ∈ L) (hT_pl : ty pl = (14, ρ + 10, [rl, 6000])) (hFml : F ml = .inl (cs 17, 3000, .inl gl)) (hbd : 1 ≤ bd) : Met l yX15_bodyPlain (.code yX15_bodyPlain cX15_bodyPlain 9 none :: tb) ({ frames := 2, cells := 0, slots := 0, locals := 44 }) (va_Pc [.ref h0, .int x1] (PTm (dC, dI) cs ty gm L F sz)) (va_Qv (fun _ : Unit => True) (fun _ T9 => ∃ F2 : Nat → va_E, ∃ NN : Nat, QTm (dC, dI) cs ty gm L [ρ + 10] F F2 (va_A (va_pl L F) sz) T9 ∧ F2 pl = .inr (14, [.ref rl, .int (nI NN)]) ∧ BDN (clr gl) x1 bd mm (nI NN) ∧ NN ≤ 6000) (va_A (va_pl L F) sz)) 0 0 (va_A (va_pl L F) sz) := by
  refine Met.ofW (cc := cX15_bodyPlain) (maxL := 9) (ret := none) (by decide) rfl ?_
  intro p e s m args below meth c s₁ B hml hv
  obtain ⟨rfl, hsz, hP, hK, hD0, hE, hO⟩ := hv
  have hx := B.exec
  have hb := B.bytes
  have hr := B.returns
  have hts : ∀ w ∈ tb, w.before _ s = true := fun w h => atoms_spec (ws := .code yX15_bodyPlain cX15_bodyPlain 9 none :: tb) B.pre w (List.mem_cons_of_mem _ h)
  have hown : s.vm.findClass RX15 = some m.cls := findClass_of_methodNamed B.named
  have hlocks := B.notSynchronized
  subst hsz
  have hD := hD0.self (sz := s.heap.size)
  generalize hAe : va_A (va_pl L F) s.heap.size = A at hD ⊢
  have hA : ∀ q : Nat, s.heap.size ≤ q → A q := fun q h => by rw [← hAe]; exact Or.inr h
  have hS : va_S A s.heap s.heap [] := va_S.rf
  have hR : FR ty [ρ + 10] F F := FR.refl
  have hl := lv_entry ([.ref h0, .int x1]) (n := 9) (Nat.le_of_ble_eq_true rfl)
  rw [lg_entry_eq]
  generalize (lg_sl ([.ref h0, .int x1]) ++ List.replicate (9 - (lg_sl ([.ref h0, .int x1])).length) Slot.unset).toArray = ls at hl ⊢
  have hl : lv_has ls 9 [(0, .ref h0), (1, .int x1)] := hl
  obtain ⟨hq_22, hq_23, hq_24, hq_25, hq_26, hgO, hgA, hgB, hq_27⟩ := hW.sc hL_h0 hT_h0
  obtain ⟨hi_28, ht_29, hq_30⟩ := hW.txt hL_pl hT_pl
  obtain ⟨hi_31, ht_32⟩ := hW.f_ml hL_h0 hT_h0
  obtain ⟨hq_33, hq_34⟩ := hW.octs hi_31 ht_32
  obtain ⟨TT, hTT⟩ : ∃ w, w = (blx (clr gl) x1 (mm - bd) bd 0) := ⟨_, rfl⟩
  refine lv_aload_n hx hb dX15_bodyPlain_0 rfl (lv_at hl 0 rfl) ?_
  obtain ⟨v14_35, v15_36, v17_37, v18_38, v19_39, v20_40, v21_41, v22_42, v33_43, v52_44, v53_45, v54_46, hF_47, hq_48, hq_49, hq_50, hq_51, hq_52⟩ := hO.mod hL_h0 hT_h0
  refine pg_get (ci := 15) (v := .ref pl) (C := RX15) (T := TX15) (N := 59) hx hb hts it_15 hown hK hP hL_h0 hF_47 rfl 34 (by decide) (hts _ kt_901) (fun _ h9 => h9) rfl dX15_bodyPlain_1 ?_
  refine lv_iconst (v := 0) hx hb dX15_bodyPlain_4 (by decide) ?_
  obtain ⟨z_53, hF_54, hq_55⟩ := hO.txt hL_pl hT_pl
  refine pg_put (ci := 14) (v := .int 0) (ty := .int) (C := RX14) (T := TX14) (N := 2) hx hb hts it_14 tyX14 tyX14_ok nmX14 hown hK hP hD hS hL_pl hF_54 rfl 1 (by decide) (hts _ kt_709) (fun _ h9 => h9) rfl (by decide +kernel) (rfl) (rfl) (Nat.le_of_ble_eq_true rfl) dX15_bodyPlain_5 (fun H locs hP hD hS => ?_)
  obtain ⟨F_56, he_57, hP, hD, hO, hR⟩ : ∃ G, G = va_up F pl (.inr (14, [.ref rl, .int 0])) ∧ va_P (dC, dI) vwCl (va_pl L G) H ∧ va_D A (va_pl L G) ∧ OKm cs ty gm L G ∧ FR ty [ρ + 10] F G := ⟨_, rfl, hP, hD, hO.up (shm.txt hT_pl ⟨0, rfl, (by first | omega | assumption | exact Or.inl rfl | exact Or.inr rfl)⟩), hR.up hT_pl (by simp)⟩
  have hF_58 : F_56 pl = .inr (14, [.ref rl, .int 0]) := by rw [he_57]; exact up_self
  have hF_59 : F_56 ml = .inl (cs 17, 3000, .inl gl) := by rw [he_57, up_ne (ne_ty ht_32 hT_pl (by simp))]; exact hFml
  have hF_60 : F_56 h0 = .inr (15, (.ref ta) :: (.int (nI zt)) :: (.int (nI zo)) :: (.int (nI ze)) :: (.ref ou) :: (.ref so) :: (.ref ad) :: (.ref na) :: (.ref va) :: (.ref lc) :: (.ref dm) :: (.int (nI fm)) :: (.int (nI sn)) :: (.ref tg) :: (.int v14_35) :: (.int v15_36) :: (.ref pe) :: (.int v17_37) :: (.int v18_38) :: (.int v19_39) :: (.int v20_40) :: (.int v21_41) :: (.int v22_42) :: (.ref ml) :: (.ref bg) :: (.ref co) :: (.ref sp) :: (.ref nb0) :: (.ref nb1) :: (.ref nb2) :: (.int (nI nf)) :: (.int (nI bd)) :: (.int (nI mm)) :: (.int v33_43) :: (.ref pl) :: (.ref se) :: (.ref ke) :: (.ref wi) :: (.ref hs) :: (.ref mo) :: (.ref po) :: (.ref nu) :: (.ref pr) :: (.ref sq) :: (.ref xa) :: (.ref sa) :: (.ref n64) :: (.ref m64) :: (.ref ex) :: (.ref wh) :: (.ref sd) :: (.ref tk) :: (.int v52_44) :: (.int v53_45) :: (.int v54_46) :: (.ref hd) :: (.ref ak) :: (.ref ho) :: (.ref ot) :: []) := by rw [he_57, up_ne (ne_ty hT_h0 hT_pl (by simp))]; exact hF_47
  refine lv_iconst (v := 0) hx hb dX15_bodyPlain_8 (by decide) ?_
  refine lv_istore_n (lv' := [(2, .int 0), (0, .ref h0), (1, .int x1)]) hx hb dX15_bodyPlain_9 rfl hl (by decide) rfl (fun ls hl => ?_)
  refine lv_aload_n hx hb dX15_bodyPlain_10 rfl (lv_at hl 1 rfl) ?_
  refine pg_get (ci := 15) (v := .int (nI bd)) (C := RX15) (T := TX15) (N := 59) hx hb hts it_15 hown hK hP hL_h0 hF_60 rfl 31 (by decide) (hts _ kt_902) (fun _ h9 => h9) rfl dX15_bodyPlain_11 ?_
  refine lv_istore_n (lv' := [(3, .int (nI bd)), (2, .int 0), (0, .ref h0), (1, .int x1)]) hx hb dX15_bodyPlain_14 rfl hl (by decide) rfl (fun ls hl => ?_)
  refine W.widen (k := 0) (n := 0) (by omega) (by omega) ?_
  have hF_62 : F ml = .inl (cs 17, 3000, .inl gl) := (hR ml (by rw [ht_32]; simp)).symm.trans hF_59
  have hF_63 : F h0 = .inr (15, (.ref ta) :: (.int (nI zt)) :: (.int (nI zo)) :: (.int (nI ze)) :: (.ref ou) :: (.ref so) :: (.ref ad) :: (.ref na) :: (.ref va) :: (.ref lc) :: (.ref dm) :: (.int (nI fm)) :: (.int (nI sn)) :: (.ref tg) :: (.int v14_35) :: (.int v15_36) :: (.ref pe) :: (.int v17_37) :: (.int v18_38) :: (.int v19_39) :: (.int v20_40) :: (.int v21_41) :: (.int v22_42) :: (.ref ml) :: (.ref bg) :: (.ref co) :: (.ref sp) :: (.ref nb0) :: (.ref nb1) :: (.ref nb2) :: (.int (nI nf)) :: (.int (nI bd)) :: (.int (nI mm)) :: (.int v33_43) :: (.ref pl) :: (.ref se) :: (.ref ke) :: (.ref wi) :: (.ref hs) :: (.ref mo) :: (.ref po) :: (.ref nu) :: (.ref pr) :: (.ref sq) :: (.ref xa) :: (.ref sa) :: (.ref n64) :: (.ref m64) :: (.ref ex) :: (.ref wh) :: (.ref sd) :: (.ref tk) :: (.int v52_44) :: (.int v53_45) :: (.int v54_46) :: (.ref hd) :: (.ref ak) :: (.ref ho) :: (.ref ot) :: []) := (hR h0 (by rw [hT_h0]; simp)).symm.trans hF_60
  refine pl_loopm (σ := Nat × Nat × (List (Nat × Nat))) A (dC, dI) cs ty gm L [ρ + 10] F 15 9 (fun (j, w2, aa) => [(3, .int (nI j)), (2, .int (nI w2)), (0, .ref h0), (1, .int x1)]) (fun (j, w2, aa) => []) (fun (j, w2, aa) FF => (bd ≤ j ∧ j ≤ mm) ∧ ((TT = aa ++ blx (clr gl) x1 (mm - j) j 0) ∨ (j = mm ∧ aa = TT ++ [(2, 10)])) ∧ STL aa w2 ∧ (j = mm ∨ aa.length ≤ j - bd) ∧ aa.length ≤ j - bd + 1 ∧ FF pl = .inr (14, [.ref rl, .int (nI aa.length)])) (fun (j, w2, aa) => mm - j) ?_ (bd, 0, []) F_56 (⟨⟨by omega, by omega⟩, Or.inl hTT, STL.nil, Or.inr (Nat.zero_le _), Nat.zero_le _, hF_58⟩) hO hR _ _ hP hD hS ls (lv_sub hl [0, 1, 2, 3] rfl)
  rintro ⟨j, w2, aa⟩ F_61 hv_64 hO hR ih_65 H locs hP hD hS ls hl
  have hl : lv_has ls 9 [(3, .int (nI j)), (2, .int (nI w2)), (0, .ref h0), (1, .int x1)] := hl
  have hv_64 : (bd ≤ j ∧ j ≤ mm) ∧ ((TT = aa ++ blx (clr gl) x1 (mm - j) j 0) ∨ (j = mm ∧ aa = TT ++ [(2, 10)])) ∧ STL aa w2 ∧ (j = mm ∨ aa.length ≤ j - bd) ∧ aa.length ≤ j - bd + 1 ∧ F_61 pl = .inr (14, [.ref rl, .int (nI aa.length)]) := hv_64
  refine W.eq (g2 := F0 m 15 ls []) rfl ?_
  have hF_66 : F_61 ml = .inl (cs 17, 3000, .inl gl) := (hR ml (by rw [ht_32]; simp)).trans hF_62
  have hF_67 : F_61 h0 = .inr (15, (.ref ta) :: (.int (nI zt)) :: (.int (nI zo)) :: (.int (nI ze)) :: (.ref ou) :: (.ref so) :: (.ref ad) :: (.ref na) :: (.ref va) :: (.ref lc) :: (.ref dm) :: (.int (nI fm)) :: (.int (nI sn)) :: (.ref tg) :: (.int v14_35) :: (.int v15_36) :: (.ref pe) :: (.int v17_37) :: (.int v18_38) :: (.int v19_39) :: (.int v20_40) :: (.int v21_41) :: (.int v22_42) :: (.ref ml) :: (.ref bg) :: (.ref co) :: (.ref sp) :: (.ref nb0) :: (.ref nb1) :: (.ref nb2) :: (.int (nI nf)) :: (.int (nI bd)) :: (.int (nI mm)) :: (.int v33_43) :: (.ref pl) :: (.ref se) :: (.ref ke) :: (.ref wi) :: (.ref hs) :: (.ref mo) :: (.ref po) :: (.ref nu) :: (.ref pr) :: (.ref sq) :: (.ref xa) :: (.ref sa) :: (.ref n64) :: (.ref m64) :: (.ref ex) :: (.ref wh) :: (.ref sd) :: (.ref tk) :: (.int v52_44) :: (.int v53_45) :: (.int v54_46) :: (.ref hd) :: (.ref ak) :: (.ref ho) :: (.ref ot) :: []) := (hR h0 (by rw [hT_h0]; simp)).trans hF_63
  obtain ⟨ha1, ha2, ha3, ha5, ha6, ha4⟩ := id hv_64
  refine lv_iload_n hx hb dX15_bodyPlain_15 rfl (lv_at hl 0 rfl) ?_
  refine lv_aload_n hx hb dX15_bodyPlain_16 rfl (lv_at hl 2 rfl) ?_
  refine pg_get (ci := 15) (v := .int (nI mm)) (C := RX15) (T := TX15) (N := 59) hx hb hts it_15 hown hK hP hL_h0 hF_67 rfl 32 (by decide) (hts _ kt_903) (fun _ h9 => h9) rfl dX15_bodyPlain_17 ?_
  refine lv_icmp_ge (tgt := 218) hx hb dX15_bodyPlain_20 (by decide) (fun c_68 => ?_) (fun c_68 => ?_)
  ·
    have hi_69 : mm ≤ j := leN (N := mm) c_68
    have hw6 := ha3.1
    have hfi : STL ((blx (clr gl) x1 (mm - bd) bd 0) ++ [(2, 10)]) w2 := by rw [← hTT]; exact bl_fin (by omega) ha2 ha3
    refine lv_aload_n hx hb dX15_bodyPlain_218 rfl (lv_at hl 2 rfl) ?_
    refine pg_get (ci := 15) (v := .ref pl) (C := RX15) (T := TX15) (N := 59) hx hb hts it_15 hown hK hP hL_h0 hF_67 rfl 34 (by decide) (hts _ kt_901) (fun _ h9 => h9) rfl dX15_bodyPlain_219 ?_
    refine lv_iload_n hx hb dX15_bodyPlain_222 rfl (lv_at hl 1 rfl) ?_
    refine pg_put (ci := 14) (v := .int (nI w2)) (ty := .int) (C := RX14) (T := TX14) (N := 2) hx hb hts it_14 tyX14 tyX14_ok nmX14 hown hK hP hD hS hL_pl ha4 rfl 1 (by decide) (hts _ kt_709) (fun _ h9 => h9) rfl (by decide +kernel) (rfl) (rfl) (Nat.le_of_ble_eq_true rfl) dX15_bodyPlain_223 (fun H locs hP hD hS => ?_)
    obtain ⟨F_70, he_71, hP, hD, hO, hR⟩ : ∃ G, G = va_up F_61 pl (.inr (14, [.ref rl, .int (nI w2)])) ∧ va_P (dC, dI) vwCl (va_pl L G) H ∧ va_D A (va_pl L G) ∧ OKm cs ty gm L G ∧ FR ty [ρ + 10] F G := ⟨_, rfl, hP, hD, hO.up (shm.txt hT_pl ⟨w2, rfl, (by first | omega | assumption | exact Or.inl rfl | exact Or.inr rfl)⟩), hR.up hT_pl (by simp)⟩
    have hF_72 : F_70 pl = .inr (14, [.ref rl, .int (nI w2)]) := by rw [he_71]; exact up_self
    have hF_73 : F_70 ml = .inl (cs 17, 3000, .inl gl) := by rw [he_71, up_ne (ne_ty ht_32 hT_pl (by simp))]; exact hF_66
    have hF_74 : F_70 h0 = .inr (15, (.ref ta) :: (.int (nI zt)) :: (.int (nI zo)) :: (.int (nI ze)) :: (.ref ou) :: (.ref so) :: (.ref ad) :: (.ref na) :: (.ref va) :: (.ref lc) :: (.ref dm) :: (.int (nI fm)) :: (.int (nI sn)) :: (.ref tg) :: (.int v14_35) :: (.int v15_36) :: (.ref pe) :: (.int v17_37) :: (.int v18_38) :: (.int v19_39) :: (.int v20_40) :: (.int v21_41) :: (.int v22_42) :: (.ref ml) :: (.ref bg) :: (.ref co) :: (.ref sp) :: (.ref nb0) :: (.ref nb1) :: (.ref nb2) :: (.int (nI nf)) :: (.int (nI bd)) :: (.int (nI mm)) :: (.int v33_43) :: (.ref pl) :: (.ref se) :: (.ref ke) :: (.ref wi) :: (.ref hs) :: (.ref mo) :: (.ref po) :: (.ref nu) :: (.ref pr) :: (.ref sq) :: (.ref xa) :: (.ref sa) :: (.ref n64) :: (.ref m64) :: (.ref ex) :: (.ref wh) :: (.ref sd) :: (.ref tk) :: (.int v52_44) :: (.int v53_45) :: (.int v54_46) :: (.ref hd) :: (.ref ak) :: (.ref ho) :: (.ref ot) :: []) := by rw [he_71, up_ne (ne_ty hT_h0 hT_pl (by simp))]; exact hF_67
    refine lv_iload_n hx hb dX15_bodyPlain_226 rfl (lv_at hl 1 rfl) ?_
    refine lv_if_ne (tgt := 243) hx hb dX15_bodyPlain_227 (by decide) (fun c_75 => ?_) (fun c_75 => ?_)
    ·
      have hi_76 : w2 ≠ 0 := fun q => c_75 (by rw [q]; rfl)
      have hw0 : w2 ≠ 0 := by omega
      refine W.widen (k := 0) (n := 0) (by omega) (by omega) ?_
      exact W.vret hx hb hr (fun t ht hWm => ⟨⟨(), rfl, trivial, ⟨F_70, w2, QTm.mk ht hP hD hO hR, hF_72, (bdn_n hfi (fun q => hw0 q.1)), (by have h9 := hfi.1; rw [len1] at h9; have h8 := blx_len (clr gl) x1 (mm - bd) bd 0; rw [if_pos rfl] at h8; omega)⟩⟩, hS.F ht⟩) hS.2.2 dX15_bodyPlain_243
    ·
      have hi_77 : w2 = 0 := (nI_eq (a := w2) (b := 0) (by omega) (by omega)).mp c_75
      have hw0 : w2 = 0 := by omega
      refine lv_iload_n hx hb dX15_bodyPlain_230 rfl (lv_at hl 3 rfl) ?_
      refine lv_if_ne (tgt := 243) hx hb dX15_bodyPlain_231 (by decide) (fun c_78 => ?_) (fun c_78 => ?_)
      ·
        refine W.widen (k := 0) (n := 0) (by omega) (by omega) ?_
        exact W.vret hx hb hr (fun t ht hWm => ⟨⟨(), rfl, trivial, ⟨F_70, w2, QTm.mk ht hP hD hO hR, hF_72, (bdn_n hfi (fun q => c_78 q.2)), (by have h9 := hfi.1; rw [len1] at h9; have h8 := blx_len (clr gl) x1 (mm - bd) bd 0; rw [if_pos rfl] at h8; omega)⟩⟩, hS.F ht⟩) hS.2.2 dX15_bodyPlain_243
      ·
        refine lv_aload_n hx hb dX15_bodyPlain_234 rfl (lv_at hl 2 rfl) ?_
        refine pg_get (ci := 15) (v := .ref pl) (C := RX15) (T := TX15) (N := 59) hx hb hts it_15 hown hK hP hL_h0 hF_74 rfl 34 (by decide) (hts _ kt_901) (fun _ h9 => h9) rfl dX15_bodyPlain_235 ?_
        refine lv_bipush (v := 10) hx hb dX15_bodyPlain_238 (by decide) ?_
        have hFc := pg_free hD hS hA
        refine va_callv (va_runV (As := [.int 10]) (rest := []) ⟨hx, hb, hml, hown, hts⟩ (s_X14_add l dC dI cs ty gm L H.size F_70 pl (ρ + 10) rl 6000 w2 10 hW hL_pl hT_pl hF_72 (by first | omega | assumption | exact Or.inl rfl)) ⟨callB_of 1 hts (gi kt_711) rfl rfl rfl (hts _ kt_676) (hts _ kt_712) (by decide +kernel) ⟨Nat.le_of_ble_eq_true rfl, Nat.le_of_ble_eq_true rfl⟩, (hts _ kt_713), (hts _ kt_714)⟩ ⟨fun a U g mk q => ⟨q.1, PTm.calling q.2⟩, pg_recv hK hP hL_pl hF_72 (q := (RX14, TX14, 2)) rfl, fun U hU hWm => ⟨rfl, PTm.mk hU hWm hP hK hD hE hO⟩⟩ rfl rfl hl.1 rfl (lv_room (Nat.le_of_ble_eq_true rfl)) dX15_bodyPlain_240 ⟨by show _ + 0 ≤ 0; omega, by show _ + 0 ≤ 0; omega⟩) hS (fun q _ h => hFc q h) hFc (fun u t H1 locs ht hvm hw hB hz1 hk1 hS => ?_)
        obtain ⟨F_80, hB1, hq_81⟩ := hB
        obtain ⟨hP, hD, hO, hR⟩ := QTm.back hB1 ht hFc hR (fun q h => by simp only [List.mem_cons, List.not_mem_nil, or_false] at h ⊢; omega)
        have hF_82 : F_80 ml = .inl (cs 17, 3000, .inl gl) := (hB1.2.2.2 ml (by rw [ht_32]; simp)).trans hF_73
        have hF_83 : F_80 h0 = .inr (15, (.ref ta) :: (.int (nI zt)) :: (.int (nI zo)) :: (.int (nI ze)) :: (.ref ou) :: (.ref so) :: (.ref ad) :: (.ref na) :: (.ref va) :: (.ref lc) :: (.ref dm) :: (.int (nI fm)) :: (.int (nI sn)) :: (.ref tg) :: (.int v14_35) :: (.int v15_36) :: (.ref pe) :: (.int v17_37) :: (.int v18_38) :: (.int v19_39) :: (.int v20_40) :: (.int v21_41) :: (.int v22_42) :: (.ref ml) :: (.ref bg) :: (.ref co) :: (.ref sp) :: (.ref nb0) :: (.ref nb1) :: (.ref nb2) :: (.int (nI nf)) :: (.int (nI bd)) :: (.int (nI mm)) :: (.int v33_43) :: (.ref pl) :: (.ref se) :: (.ref ke) :: (.ref wi) :: (.ref hs) :: (.ref mo) :: (.ref po) :: (.ref nu) :: (.ref pr) :: (.ref sq) :: (.ref xa) :: (.ref sa) :: (.ref n64) :: (.ref m64) :: (.ref ex) :: (.ref wh) :: (.ref sd) :: (.ref tk) :: (.int v52_44) :: (.int v53_45) :: (.int v54_46) :: (.ref hd) :: (.ref ak) :: (.ref ho) :: (.ref ot) :: []) := (hB1.2.2.2 h0 (by rw [hT_h0]; simp)).trans hF_74
        generalize H1 = H at hP hS ⊢
        refine W.widen (k := 0) (n := 0) (by omega) (by omega) ?_
        exact W.vret hx hb hr (fun t ht hWm => ⟨⟨(), rfl, trivial, ⟨F_80, 1, QTm.mk ht hP hD hO hR, (by have h9 := hq_81; rw [hw0] at h9; exact h9), (bdn_0 hfi hw0 c_78), (by omega)⟩⟩, hS.F ht⟩) hS.2.2 dX15_bodyPlain_243
  ·
    have hi_84 : j < mm := ltN (N := mm) c_68
    have hjm : j < mm := by omega
    have hT5 := ha2.resolve_right (fun q => absurd q.1 (by omega))
    have ha7 : aa.length ≤ j - bd := ha5.resolve_left (by omega)
    refine lv_aload_n hx hb dX15_bodyPlain_23 rfl (lv_at hl 2 rfl) ?_
    refine pg_get (ci := 15) (v := .ref ml) (C := RX15) (T := TX15) (N := 59) hx hb hts it_15 hown hK hP hL_h0 hF_67 rfl 23 (by decide) (hts _ kt_887) (fun _ h9 => h9) rfl dX15_bodyPlain_24 ?_
    refine lv_iload_n hx hb dX15_bodyPlain_27 rfl (lv_at hl 0 rfl) ?_
    refine lv_aload_n hx hb dX15_bodyPlain_28 rfl (lv_at hl 2 rfl) ?_
    refine pg_get (ci := 15) (v := .int (nI mm)) (C := RX15) (T := TX15) (N := 59) hx hb hts it_15 hown hK hP hL_h0 hF_67 rfl 32 (by decide) (hts _ kt_903) (fun _ h9 => h9) rfl dX15_bodyPlain_29 ?_
    have hFc := pg_free hD hS hA
    refine va_calli (va_runS (As := [.ref ml, .int (nI j), .int (nI mm)]) (rest := []) ⟨hx, hb, hml, hown, hts⟩ (s_X15_lineEnd_e l dC dI cs ty gm L H.size F_61 ml (ρ + 8) 3000 j mm gl hW hi_31 ht_32 hF_66 (by first | omega | assumption | exact Or.inl rfl) (by first | omega | assumption | exact Or.inl rfl)) ⟨callB_of 3 hts (gi kt_904) rfl rfl rfl (hts _ kt_669) (hts _ kt_905) (by decide +kernel) ⟨Nat.le_of_ble_eq_true rfl, Nat.le_of_ble_eq_true rfl⟩, (hts _ kt_906)⟩ ⟨fun a U g mk q => ⟨q.1, PTm.calling q.2⟩, fun U hU hWm => ⟨rfl, PTm.mk hU hWm hP hK hD hE hO⟩⟩ rfl rfl hl.1 rfl (lv_room (Nat.le_of_ble_eq_true rfl)) dX15_bodyPlain_32 ⟨by show _ + 0 ≤ 0; omega, by show _ + 0 ≤ 0; omega⟩) hS (fun q _ h => hFc q h) hFc (fun r_85 u t H1 locs ht hvm hw hB hz1 hk1 hS => ?_)
    obtain ⟨F_86, hB1⟩ := hB
    obtain rfl : F_61 = F_86 := (funext (fun a => hB1.2.2.2 a List.not_mem_nil)).symm
    obtain ⟨hP, hD, hO, hR⟩ := QTm.back hB1 ht hFc hR (fun q h => absurd h List.not_mem_nil)
    generalize H1 = H at hP hS ⊢
    have hw : (∃ e9 : Nat, r_85 = nI (min mm (e9 + 1)) ∧ FSF (clr gl) 0 j mm e9) := hw
    have hw_87 := hw
    obtain ⟨e9, eke, hfe⟩ := hw_87
    obtain ⟨kend, hkd⟩ : ∃ k, k = min mm (e9 + 1) := ⟨_, rfl⟩
    rw [← hkd] at eke
    subst eke
    have hfe1 := hfe.1
    have hfe2 := hfe.2.1
    refine lv_istore (lv' := [(4, .int (nI kend)), (3, .int (nI j)), (2, .int (nI w2)), (0, .ref h0), (1, .int x1)]) hx hb dX15_bodyPlain_35 hl (by decide) rfl (fun ls hl => ?_)
    have hF_90 : F ml = .inl (cs 17, 3000, .inl gl) := (hR ml (by rw [ht_32]; simp)).symm.trans hF_66
    have hF_91 : F h0 = .inr (15, (.ref ta) :: (.int (nI zt)) :: (.int (nI zo)) :: (.int (nI ze)) :: (.ref ou) :: (.ref so) :: (.ref ad) :: (.ref na) :: (.ref va) :: (.ref lc) :: (.ref dm) :: (.int (nI fm)) :: (.int (nI sn)) :: (.ref tg) :: (.int v14_35) :: (.int v15_36) :: (.ref pe) :: (.int v17_37) :: (.int v18_38) :: (.int v19_39) :: (.int v20_40) :: (.int v21_41) :: (.int v22_42) :: (.ref ml) :: (.ref bg) :: (.ref co) :: (.ref sp) :: (.ref nb0) :: (.ref nb1) :: (.ref nb2) :: (.int (nI nf)) :: (.int (nI bd)) :: (.int (nI mm)) :: (.int v33_43) :: (.ref pl) :: (.ref se) :: (.ref ke) :: (.ref wi) :: (.ref hs) :: (.ref mo) :: (.ref po) :: (.ref nu) :: (.ref pr) :: (.ref sq) :: (.ref xa) :: (.ref sa) :: (.ref n64) :: (.ref m64) :: (.ref ex) :: (.ref wh) :: (.ref sd) :: (.ref tk) :: (.int v52_44) :: (.int v53_45) :: (.int v54_46) :: (.ref hd) :: (.ref ak) :: (.ref ho) :: (.ref ot) :: []) := (hR h0 (by rw [hT_h0]; simp)).symm.trans hF_67
    refine W.widen (k := 0) (n := 0) (by omega) (by omega) ?_
    refine pl_cutm (σ := Int32) A (dC, dI) cs ty gm L [ρ + 10] F 60 9 (fun s5 => [(4, .int (nI kend)), (3, .int (nI j)), (2, .int (nI w2)), (0, .ref h0), (1, .int x1)]) (fun s5 => [.int s5]) (fun s5 FF => s5 = nI e9 ∧ FF pl = .inr (14, [.ref rl, .int (nI aa.length)])) ?_ (fun jn_88 => ?_)
    ·
      rintro s5 F_89 hv_92 hO hR H locs hP hD hS ls hl
      have hl : lv_has ls 9 [(4, .int (nI kend)), (3, .int (nI j)), (2, .int (nI w2)), (0, .ref h0), (1, .int x1)] := hl
      have hv_92 : s5 = nI e9 ∧ F_89 pl = .inr (14, [.ref rl, .int (nI aa.length)]) := hv_92
      refine W.eq (g2 := F0 m 60 ls [.int s5]) rfl ?_
      have hF_93 : F_89 ml = .inl (cs 17, 3000, .inl gl) := (hR ml (by rw [ht_32]; simp)).trans hF_90
      have hF_94 : F_89 h0 = .inr (15, (.ref ta) :: (.int (nI zt)) :: (.int (nI zo)) :: (.int (nI ze)) :: (.ref ou) :: (.ref so) :: (.ref ad) :: (.ref na) :: (.ref va) :: (.ref lc) :: (.ref dm) :: (.int (nI fm)) :: (.int (nI sn)) :: (.ref tg) :: (.int v14_35) :: (.int v15_36) :: (.ref pe) :: (.int v17_37) :: (.int v18_38) :: (.int v19_39) :: (.int v20_40) :: (.int v21_41) :: (.int v22_42) :: (.ref ml) :: (.ref bg) :: (.ref co) :: (.ref sp) :: (.ref nb0) :: (.ref nb1) :: (.ref nb2) :: (.int (nI nf)) :: (.int (nI bd)) :: (.int (nI mm)) :: (.int v33_43) :: (.ref pl) :: (.ref se) :: (.ref ke) :: (.ref wi) :: (.ref hs) :: (.ref mo) :: (.ref po) :: (.ref nu) :: (.ref pr) :: (.ref sq) :: (.ref xa) :: (.ref sa) :: (.ref n64) :: (.ref m64) :: (.ref ex) :: (.ref wh) :: (.ref sd) :: (.ref tk) :: (.int v52_44) :: (.int v53_45) :: (.int v54_46) :: (.ref hd) :: (.ref ak) :: (.ref ho) :: (.ref ot) :: []) := (hR h0 (by rw [hT_h0]; simp)).trans hF_91
      obtain ⟨es5, hks3⟩ := id hv_92
      subst es5
      refine W.eq (g2 := F0 m 60 ls [.int (nI e9)]) rfl ?_
      refine lv_istore (lv' := [(5, .int (nI e9)), (4, .int (nI kend)), (3, .int (nI j)), (2, .int (nI w2)), (0, .ref h0), (1, .int x1)]) hx hb dX15_bodyPlain_60 hl (by decide) rfl (fun ls hl => ?_)
      have hF_97 : F ml = .inl (cs 17, 3000, .inl gl) := (hR ml (by rw [ht_32]; simp)).symm.trans hF_93
      have hF_98 : F h0 = .inr (15, (.ref ta) :: (.int (nI zt)) :: (.int (nI zo)) :: (.int (nI ze)) :: (.ref ou) :: (.ref so) :: (.ref ad) :: (.ref na) :: (.ref va) :: (.ref lc) :: (.ref dm) :: (.int (nI fm)) :: (.int (nI sn)) :: (.ref tg) :: (.int v14_35) :: (.int v15_36) :: (.ref pe) :: (.int v17_37) :: (.int v18_38) :: (.int v19_39) :: (.int v20_40) :: (.int v21_41) :: (.int v22_42) :: (.ref ml) :: (.ref bg) :: (.ref co) :: (.ref sp) :: (.ref nb0) :: (.ref nb1) :: (.ref nb2) :: (.int (nI nf)) :: (.int (nI bd)) :: (.int (nI mm)) :: (.int v33_43) :: (.ref pl) :: (.ref se) :: (.ref ke) :: (.ref wi) :: (.ref hs) :: (.ref mo) :: (.ref po) :: (.ref nu) :: (.ref pr) :: (.ref sq) :: (.ref xa) :: (.ref sa) :: (.ref n64) :: (.ref m64) :: (.ref ex) :: (.ref wh) :: (.ref sd) :: (.ref tk) :: (.int v52_44) :: (.int v53_45) :: (.int v54_46) :: (.ref hd) :: (.ref ak) :: (.ref ho) :: (.ref ot) :: []) := (hR h0 (by rw [hT_h0]; simp)).symm.trans hF_94
      refine W.widen (k := 0) (n := 0) (by omega) (by omega) ?_
      refine pl_cutm (σ := Int32) A (dC, dI) cs ty gm L [ρ + 10] F 93 9 (fun s6 => [(5, .int s6), (4, .int (nI kend)), (3, .int (nI j)), (2, .int (nI w2)), (0, .ref h0), (1, .int x1)]) (fun s6 => []) (fun s6 FF => (∃ k : Nat, j ≤ k ∧ k ≤ e9 ∧ s6 = nI k ∧ (k = e9 ∨ (¬ x1 = 0 ∧ ∀ i, k ≤ i → i < e9 → clr gl i = 1)) ∧ (x1 = 0 ∨ k = j ∨ ¬ clr gl (k - 1) = 1)) ∧ FF pl = .inr (14, [.ref rl, .int (nI aa.length)])) ?_ (fun jn_95 => ?_)
      ·
        rintro s6 F_96 hv_99 hO hR H locs hP hD hS ls hl
        have hl : lv_has ls 9 [(5, .int s6), (4, .int (nI kend)), (3, .int (nI j)), (2, .int (nI w2)), (0, .ref h0), (1, .int x1)] := hl
        have hv_99 : (∃ k : Nat, j ≤ k ∧ k ≤ e9 ∧ s6 = nI k ∧ (k = e9 ∨ (¬ x1 = 0 ∧ ∀ i, k ≤ i → i < e9 → clr gl i = 1)) ∧ (x1 = 0 ∨ k = j ∨ ¬ clr gl (k - 1) = 1)) ∧ F_96 pl = .inr (14, [.ref rl, .int (nI aa.length)]) := hv_99
        refine W.eq (g2 := F0 m 93 ls []) rfl ?_
        have hF_100 : F_96 ml = .inl (cs 17, 3000, .inl gl) := (hR ml (by rw [ht_32]; simp)).trans hF_97
        have hF_101 : F_96 h0 = .inr (15, (.ref ta) :: (.int (nI zt)) :: (.int (nI zo)) :: (.int (nI ze)) :: (.ref ou) :: (.ref so) :: (.ref ad) :: (.ref na) :: (.ref va) :: (.ref lc) :: (.ref dm) :: (.int (nI fm)) :: (.int (nI sn)) :: (.ref tg) :: (.int v14_35) :: (.int v15_36) :: (.ref pe) :: (.int v17_37) :: (.int v18_38) :: (.int v19_39) :: (.int v20_40) :: (.int v21_41) :: (.int v22_42) :: (.ref ml) :: (.ref bg) :: (.ref co) :: (.ref sp) :: (.ref nb0) :: (.ref nb1) :: (.ref nb2) :: (.int (nI nf)) :: (.int (nI bd)) :: (.int (nI mm)) :: (.int v33_43) :: (.ref pl) :: (.ref se) :: (.ref ke) :: (.ref wi) :: (.ref hs) :: (.ref mo) :: (.ref po) :: (.ref nu) :: (.ref pr) :: (.ref sq) :: (.ref xa) :: (.ref sa) :: (.ref n64) :: (.ref m64) :: (.ref ex) :: (.ref wh) :: (.ref sd) :: (.ref tk) :: (.int v52_44) :: (.int v53_45) :: (.int v54_46) :: (.ref hd) :: (.ref ak) :: (.ref ho) :: (.ref ot) :: []) := (hR h0 (by rw [hT_h0]; simp)).trans hF_98
        obtain ⟨⟨kt, hkt1, hkt2, ekt, hsk, hk5⟩, hkt3⟩ := id hv_99
        subst ekt
        have hF_104 : F ml = .inl (cs 17, 3000, .inl gl) := (hR ml (by rw [ht_32]; simp)).symm.trans hF_100
        have hF_105 : F h0 = .inr (15, (.ref ta) :: (.int (nI zt)) :: (.int (nI zo)) :: (.int (nI ze)) :: (.ref ou) :: (.ref so) :: (.ref ad) :: (.ref na) :: (.ref va) :: (.ref lc) :: (.ref dm) :: (.int (nI fm)) :: (.int (nI sn)) :: (.ref tg) :: (.int v14_35) :: (.int v15_36) :: (.ref pe) :: (.int v17_37) :: (.int v18_38) :: (.int v19_39) :: (.int v20_40) :: (.int v21_41) :: (.int v22_42) :: (.ref ml) :: (.ref bg) :: (.ref co) :: (.ref sp) :: (.ref nb0) :: (.ref nb1) :: (.ref nb2) :: (.int (nI nf)) :: (.int (nI bd)) :: (.int (nI mm)) :: (.int v33_43) :: (.ref pl) :: (.ref se) :: (.ref ke) :: (.ref wi) :: (.ref hs) :: (.ref mo) :: (.ref po) :: (.ref nu) :: (.ref pr) :: (.ref sq) :: (.ref xa) :: (.ref sa) :: (.ref n64) :: (.ref m64) :: (.ref ex) :: (.ref wh) :: (.ref sd) :: (.ref tk) :: (.int v52_44) :: (.int v53_45) :: (.int v54_46) :: (.ref hd) :: (.ref ak) :: (.ref ho) :: (.ref ot) :: []) := (hR h0 (by rw [hT_h0]; simp)).symm.trans hF_101
        refine W.widen (k := 0) (n := 0) (by omega) (by omega) ?_
        refine pl_cutm (σ := Int32) A (dC, dI) cs ty gm L [ρ + 10] F 104 9 (fun s7 => [(5, .int (nI kt)), (4, .int (nI kend)), (3, .int (nI j)), (2, .int (nI w2)), (0, .ref h0), (1, .int x1)]) (fun s7 => [.int s7]) (fun s7 FF => ((s7 = 0 ∧ kt = j) ∨ (s7 = 1 ∧ j < kt)) ∧ FF pl = .inr (14, [.ref rl, .int (nI aa.length)])) ?_ (fun jn_102 => ?_)
        ·
          rintro s7 F_103 hv_106 hO hR H locs hP hD hS ls hl
          have hl : lv_has ls 9 [(5, .int (nI kt)), (4, .int (nI kend)), (3, .int (nI j)), (2, .int (nI w2)), (0, .ref h0), (1, .int x1)] := hl
          have hv_106 : ((s7 = 0 ∧ kt = j) ∨ (s7 = 1 ∧ j < kt)) ∧ F_103 pl = .inr (14, [.ref rl, .int (nI aa.length)]) := hv_106
          refine W.eq (g2 := F0 m 104 ls [.int s7]) rfl ?_
          have hF_107 : F_103 ml = .inl (cs 17, 3000, .inl gl) := (hR ml (by rw [ht_32]; simp)).trans hF_104
          have hF_108 : F_103 h0 = .inr (15, (.ref ta) :: (.int (nI zt)) :: (.int (nI zo)) :: (.int (nI ze)) :: (.ref ou) :: (.ref so) :: (.ref ad) :: (.ref na) :: (.ref va) :: (.ref lc) :: (.ref dm) :: (.int (nI fm)) :: (.int (nI sn)) :: (.ref tg) :: (.int v14_35) :: (.int v15_36) :: (.ref pe) :: (.int v17_37) :: (.int v18_38) :: (.int v19_39) :: (.int v20_40) :: (.int v21_41) :: (.int v22_42) :: (.ref ml) :: (.ref bg) :: (.ref co) :: (.ref sp) :: (.ref nb0) :: (.ref nb1) :: (.ref nb2) :: (.int (nI nf)) :: (.int (nI bd)) :: (.int (nI mm)) :: (.int v33_43) :: (.ref pl) :: (.ref se) :: (.ref ke) :: (.ref wi) :: (.ref hs) :: (.ref mo) :: (.ref po) :: (.ref nu) :: (.ref pr) :: (.ref sq) :: (.ref xa) :: (.ref sa) :: (.ref n64) :: (.ref m64) :: (.ref ex) :: (.ref wh) :: (.ref sd) :: (.ref tk) :: (.int v52_44) :: (.int v53_45) :: (.int v54_46) :: (.ref hd) :: (.ref ak) :: (.ref ho) :: (.ref ot) :: []) := (hR h0 (by rw [hT_h0]; simp)).trans hF_105
          obtain ⟨hs7, hsk4⟩ := id hv_106
          refine lv_istore (lv' := [(6, .int s7), (5, .int (nI kt)), (4, .int (nI kend)), (3, .int (nI j)), (2, .int (nI w2)), (0, .ref h0), (1, .int x1)]) hx hb dX15_bodyPlain_104 hl (by decide) rfl (fun ls hl => ?_)
          refine lv_iload_n hx hb dX15_bodyPlain_106 rfl (lv_at hl 3 rfl) ?_
          refine lv_istore (lv' := [(7, .int (nI j)), (6, .int s7), (5, .int (nI kt)), (4, .int (nI kend)), (3, .int (nI j)), (2, .int (nI w2)), (0, .ref h0), (1, .int x1)]) hx hb dX15_bodyPlain_107 hl (by decide) rfl (fun ls hl => ?_)
          refine W.widen (k := 0) (n := 0) (by omega) (by omega) ?_
          have hF_110 : F ml = .inl (cs 17, 3000, .inl gl) := (hR ml (by rw [ht_32]; simp)).symm.trans hF_107
          have hF_111 : F h0 = .inr (15, (.ref ta) :: (.int (nI zt)) :: (.int (nI zo)) :: (.int (nI ze)) :: (.ref ou) :: (.ref so) :: (.ref ad) :: (.ref na) :: (.ref va) :: (.ref lc) :: (.ref dm) :: (.int (nI fm)) :: (.int (nI sn)) :: (.ref tg) :: (.int v14_35) :: (.int v15_36) :: (.ref pe) :: (.int v17_37) :: (.int v18_38) :: (.int v19_39) :: (.int v20_40) :: (.int v21_41) :: (.int v22_42) :: (.ref ml) :: (.ref bg) :: (.ref co) :: (.ref sp) :: (.ref nb0) :: (.ref nb1) :: (.ref nb2) :: (.int (nI nf)) :: (.int (nI bd)) :: (.int (nI mm)) :: (.int v33_43) :: (.ref pl) :: (.ref se) :: (.ref ke) :: (.ref wi) :: (.ref hs) :: (.ref mo) :: (.ref po) :: (.ref nu) :: (.ref pr) :: (.ref sq) :: (.ref xa) :: (.ref sa) :: (.ref n64) :: (.ref m64) :: (.ref ex) :: (.ref wh) :: (.ref sd) :: (.ref tk) :: (.int v52_44) :: (.int v53_45) :: (.int v54_46) :: (.ref hd) :: (.ref ak) :: (.ref ho) :: (.ref ot) :: []) := (hR h0 (by rw [hT_h0]; simp)).symm.trans hF_108
          refine pl_loopm (σ := Nat × (List (Nat × Nat)) × Int32) A (dC, dI) cs ty gm L [ρ + 10] F 109 9 (fun (i, a2, ww) => [(7, .int (nI i)), (6, .int s7), (5, .int (nI kt)), (4, .int (nI kend)), (3, .int (nI j)), (2, .int (nI w2)), (0, .ref h0), (1, .int x1)]) (fun (i, a2, ww) => []) (fun (i, a2, ww) FF => (j ≤ i ∧ i ≤ kt) ∧ TT = a2 ++ blx (clr gl) x1 (mm - i) i ww ∧ a2.length ≤ i - bd ∧ (ww = 0 ∨ a2.length + 1 ≤ i - bd) ∧ ((ww = 0 ∧ (x1 = 0 ∨ i = j ∨ ¬ clr gl (i - 1) = 1)) ∨ (ww = 1 ∧ j < i ∧ clr gl (i - 1) = 1 ∧ ¬ x1 = 0)) ∧ ((i = j ∧ a2 = aa) ∨ ww = 1 ∨ (j < i ∧ ∃ B, a2 = B ++ [(0, i - 1)])) ∧ FF pl = .inr (14, [.ref rl, .int (nI (a2 ++ pdd ww).length)])) (fun (i, a2, ww) => kt - i) ?_ (j, aa, 0) F_103 (⟨⟨by omega, by omega⟩, hT5, by omega, Or.inl rfl, Or.inl ⟨rfl, Or.inr (Or.inl rfl)⟩, Or.inl ⟨rfl, rfl⟩, (by rw [pd_0, List.append_nil]; exact hsk4)⟩) hO hR _ _ hP hD hS ls (lv_sub hl [0, 1, 2, 3, 4, 5, 6, 7] rfl)
          rintro ⟨i, a2, ww⟩ F_109 hv_112 hO hR ih_113 H locs hP hD hS ls hl
          have hl : lv_has ls 9 [(7, .int (nI i)), (6, .int s7), (5, .int (nI kt)), (4, .int (nI kend)), (3, .int (nI j)), (2, .int (nI w2)), (0, .ref h0), (1, .int x1)] := hl
          have hv_112 : (j ≤ i ∧ i ≤ kt) ∧ TT = a2 ++ blx (clr gl) x1 (mm - i) i ww ∧ a2.length ≤ i - bd ∧ (ww = 0 ∨ a2.length + 1 ≤ i - bd) ∧ ((ww = 0 ∧ (x1 = 0 ∨ i = j ∨ ¬ clr gl (i - 1) = 1)) ∨ (ww = 1 ∧ j < i ∧ clr gl (i - 1) = 1 ∧ ¬ x1 = 0)) ∧ ((i = j ∧ a2 = aa) ∨ ww = 1 ∨ (j < i ∧ ∃ B, a2 = B ++ [(0, i - 1)])) ∧ F_109 pl = .inr (14, [.ref rl, .int (nI (a2 ++ pdd ww).length)]) := hv_112
          refine W.eq (g2 := F0 m 109 ls []) rfl ?_
          have hF_114 : F_109 ml = .inl (cs 17, 3000, .inl gl) := (hR ml (by rw [ht_32]; simp)).trans hF_110
          have hF_115 : F_109 h0 = .inr (15, (.ref ta) :: (.int (nI zt)) :: (.int (nI zo)) :: (.int (nI ze)) :: (.ref ou) :: (.ref so) :: (.ref ad) :: (.ref na) :: (.ref va) :: (.ref lc) :: (.ref dm) :: (.int (nI fm)) :: (.int (nI sn)) :: (.ref tg) :: (.int v14_35) :: (.int v15_36) :: (.ref pe) :: (.int v17_37) :: (.int v18_38) :: (.int v19_39) :: (.int v20_40) :: (.int v21_41) :: (.int v22_42) :: (.ref ml) :: (.ref bg) :: (.ref co) :: (.ref sp) :: (.ref nb0) :: (.ref nb1) :: (.ref nb2) :: (.int (nI nf)) :: (.int (nI bd)) :: (.int (nI mm)) :: (.int v33_43) :: (.ref pl) :: (.ref se) :: (.ref ke) :: (.ref wi) :: (.ref hs) :: (.ref mo) :: (.ref po) :: (.ref nu) :: (.ref pr) :: (.ref sq) :: (.ref xa) :: (.ref sa) :: (.ref n64) :: (.ref m64) :: (.ref ex) :: (.ref wh) :: (.ref sd) :: (.ref tk) :: (.int v52_44) :: (.int v53_45) :: (.int v54_46) :: (.ref hd) :: (.ref ak) :: (.ref ho) :: (.ref ot) :: []) := (hR h0 (by rw [hT_h0]; simp)).trans hF_111
          obtain ⟨hc1, hc2, hc3, hc4, hc5, hc6, hc7⟩ := id hv_112
          rcases hc5 with ⟨ew, hc8⟩ | ⟨ew, hc8, hc9, hcx⟩
          ·
            subst ew
            have hz7 : F_109 pl = .inr (14, [.ref rl, .int (nI a2.length)]) := by have h9 := hc7; rw [pd_0, List.append_nil] at h9; exact h9
            refine lv_iload hx hb dX15_bodyPlain_109 (lv_at hl 0 rfl) ?_
            refine lv_iload hx hb dX15_bodyPlain_111 (lv_at hl 2 rfl) ?_
            refine lv_icmp_ge (tgt := 190) hx hb dX15_bodyPlain_113 (by decide) (fun c_116 => ?_) (fun c_116 => ?_)
            ·
              have hi_117 : kt ≤ i := leN (N := kt) c_116
              have hik : i = kt := by omega
              refine lv_aload_n hx hb dX15_bodyPlain_190 rfl (lv_at hl 6 rfl) ?_
              refine pg_get (ci := 15) (v := .ref pl) (C := RX15) (T := TX15) (N := 59) hx hb hts it_15 hown hK hP hL_h0 hF_115 rfl 34 (by decide) (hts _ kt_901) (fun _ h9 => h9) rfl dX15_bodyPlain_191 ?_
              refine lv_bipush (v := 10) hx hb dX15_bodyPlain_194 (by decide) ?_
              have hFc := pg_free hD hS hA
              refine va_callv (va_runV (As := [.int 10]) (rest := []) ⟨hx, hb, hml, hown, hts⟩ (s_X14_add l dC dI cs ty gm L H.size F_109 pl (ρ + 10) rl 6000 a2.length 10 hW hL_pl hT_pl hz7 (by first | omega | assumption | exact Or.inl rfl)) ⟨callB_of 1 hts (gi kt_711) rfl rfl rfl (hts _ kt_676) (hts _ kt_712) (by decide +kernel) ⟨Nat.le_of_ble_eq_true rfl, Nat.le_of_ble_eq_true rfl⟩, (hts _ kt_713), (hts _ kt_714)⟩ ⟨fun a U g mk q => ⟨q.1, PTm.calling q.2⟩, pg_recv hK hP hL_pl hz7 (q := (RX14, TX14, 2)) rfl, fun U hU hWm => ⟨rfl, PTm.mk hU hWm hP hK hD hE hO⟩⟩ rfl rfl hl.1 rfl (lv_room (Nat.le_of_ble_eq_true rfl)) dX15_bodyPlain_196 ⟨by show _ + 0 ≤ 0; omega, by show _ + 0 ≤ 0; omega⟩) hS (fun q _ h => hFc q h) hFc (fun u t H1 locs ht hvm hw hB hz1 hk1 hS => ?_)
              obtain ⟨F_119, hB1, hq_120⟩ := hB
              obtain ⟨hP, hD, hO, hR⟩ := QTm.back hB1 ht hFc hR (fun q h => by simp only [List.mem_cons, List.not_mem_nil, or_false] at h ⊢; omega)
              have hF_121 : F_119 ml = .inl (cs 17, 3000, .inl gl) := (hB1.2.2.2 ml (by rw [ht_32]; simp)).trans hF_114
              have hF_122 : F_119 h0 = .inr (15, (.ref ta) :: (.int (nI zt)) :: (.int (nI zo)) :: (.int (nI ze)) :: (.ref ou) :: (.ref so) :: (.ref ad) :: (.ref na) :: (.ref va) :: (.ref lc) :: (.ref dm) :: (.int (nI fm)) :: (.int (nI sn)) :: (.ref tg) :: (.int v14_35) :: (.int v15_36) :: (.ref pe) :: (.int v17_37) :: (.int v18_38) :: (.int v19_39) :: (.int v20_40) :: (.int v21_41) :: (.int v22_42) :: (.ref ml) :: (.ref bg) :: (.ref co) :: (.ref sp) :: (.ref nb0) :: (.ref nb1) :: (.ref nb2) :: (.int (nI nf)) :: (.int (nI bd)) :: (.int (nI mm)) :: (.int v33_43) :: (.ref pl) :: (.ref se) :: (.ref ke) :: (.ref wi) :: (.ref hs) :: (.ref mo) :: (.ref po) :: (.ref nu) :: (.ref pr) :: (.ref sq) :: (.ref xa) :: (.ref sa) :: (.ref n64) :: (.ref m64) :: (.ref ex) :: (.ref wh) :: (.ref sd) :: (.ref tk) :: (.int v52_44) :: (.int v53_45) :: (.int v54_46) :: (.ref hd) :: (.ref ak) :: (.ref ho) :: (.ref ot) :: []) := (hB1.2.2.2 h0 (by rw [hT_h0]; simp)).trans hF_115
              generalize H1 = H at hP hS ⊢
              have hnx := bl_nx hfe1 hfe hkd (bl_end (k := i) (by omega) hfe2 hc2 (by rw [hik]; exact hsk))
              refine lv_iload hx hb dX15_bodyPlain_199 (lv_at hl 1 rfl) ?_
              refine lv_if_eq (tgt := 212) hx hb dX15_bodyPlain_201 (by decide) (fun c_123 => ?_) (fun c_123 => ?_)
              ·
                have hs8 : kt = j := (hs7.resolve_right (fun q => absurd (q.1.symm.trans c_123) (by decide))).2
                have ha9 : a2 = aa := by
                  rcases hc6 with q | q | ⟨q9, B, q⟩
                  · exact q.2
                  · exact absurd q (by decide)
                  · omega
                refine lv_iload hx hb dX15_bodyPlain_212 (lv_at hl 3 rfl) ?_
                refine lv_istore_n (lv' := [(3, .int (nI kend)), (7, .int (nI i)), (6, .int s7), (5, .int (nI kt)), (4, .int (nI kend)), (2, .int (nI w2)), (0, .ref h0), (1, .int x1)]) hx hb dX15_bodyPlain_214 rfl hl (by decide) rfl (fun ls hl => ?_)
                refine lv_goto (tgt := 15) hx hb dX15_bodyPlain_215 (by decide) ?_
                refine W.widen (k := 0) (n := 0) (by omega) (by omega) ?_
                exact ih_65 (kend, w2, (a2 ++ [(2, 10)])) F_119 (⟨⟨by omega, by omega⟩, hnx, (by rw [ha9]; exact ha3.nl), by rw [len1]; omega, by rw [len1]; omega, (by rw [len1]; exact hq_120)⟩) (by show mm - kend < mm - j; omega) hO hR _ _ hP hD hS ls (lv_sub hl [0, 5, 6, 7] rfl)
              ·
                have hs8 : j < kt := (hs7.resolve_left (fun q => c_123 q.1)).2
                have hsl : STL (a2 ++ [(2, 10)]) (a2.length + 1) := by
                  rcases hc6 with q | q | ⟨q9, B, q⟩
                  · omega
                  · exact absurd q (by decide)
                  · rw [q, len1]
                    exact STL.line (fun w => absurd (congrArg Prod.fst w) (show ¬ (0 : Nat) = 2 by decide))
                refine lv_aload_n hx hb dX15_bodyPlain_204 rfl (lv_at hl 6 rfl) ?_
                refine pg_get (ci := 15) (v := .ref pl) (C := RX15) (T := TX15) (N := 59) hx hb hts it_15 hown hK hP hL_h0 hF_122 rfl 34 (by decide) (hts _ kt_901) (fun _ h9 => h9) rfl dX15_bodyPlain_205 ?_
                refine pg_get (ci := 14) (v := .int (nI (a2.length + 1))) (C := RX14) (T := TX14) (N := 2) hx hb hts it_14 hown hK hP hL_pl hq_120 rfl 1 (by decide) (hts _ kt_709) (fun _ h9 => h9) rfl dX15_bodyPlain_208 ?_
                refine lv_istore_n (lv' := [(2, .int (nI (a2.length + 1))), (7, .int (nI i)), (6, .int s7), (5, .int (nI kt)), (4, .int (nI kend)), (3, .int (nI j)), (0, .ref h0), (1, .int x1)]) hx hb dX15_bodyPlain_211 rfl hl (by decide) rfl (fun ls hl => ?_)
                refine lv_iload hx hb dX15_bodyPlain_212 (lv_at hl 4 rfl) ?_
                refine lv_istore_n (lv' := [(3, .int (nI kend)), (2, .int (nI (a2.length + 1))), (7, .int (nI i)), (6, .int s7), (5, .int (nI kt)), (4, .int (nI kend)), (0, .ref h0), (1, .int x1)]) hx hb dX15_bodyPlain_214 rfl hl (by decide) rfl (fun ls hl => ?_)
                refine lv_goto (tgt := 15) hx hb dX15_bodyPlain_215 (by decide) ?_
                refine W.widen (k := 0) (n := 0) (by omega) (by omega) ?_
                exact ih_65 (kend, (a2.length + 1), (a2 ++ [(2, 10)])) F_119 (⟨⟨by omega, by omega⟩, hnx, hsl, by rw [len1]; omega, by rw [len1]; omega, (by rw [len1]; exact hq_120)⟩) (by show mm - kend < mm - j; omega) hO hR _ _ hP hD hS ls (lv_sub hl [0, 1, 6, 7] rfl)
            ·
              have hi_124 : i < kt := ltN (N := kt) c_116
              refine lv_aload_n hx hb dX15_bodyPlain_116 rfl (lv_at hl 6 rfl) ?_
              refine pg_get (ci := 15) (v := .ref ml) (C := RX15) (T := TX15) (N := 59) hx hb hts it_15 hown hK hP hL_h0 hF_115 rfl 23 (by decide) (hts _ kt_887) (fun _ h9 => h9) rfl dX15_bodyPlain_117 ?_
              refine lv_iload hx hb dX15_bodyPlain_120 (lv_at hl 0 rfl) ?_
              refine pg_bald hx hb hK hP hi_31 1 hF_114 rfl (vp_in_nI (by omega) (by omega)) dX15_bodyPlain_122 ?_
              refine lv_topi (fun x_125 ex_125 => ?_)
              obtain rfl : x_125 = gl i := ex_125.trans (congrArg gl (show ((nI i) : Int32).toNatClampNeg = i from nI_clamp (by omega)))
              have hFc := pg_free hD hS hA
              refine va_calli (va_runS (As := [.int (gl i)]) (rest := []) ⟨hx, hb, hml, hown, hts⟩ (s_X15_isWhite_e l dC dI cs ty gm L H.size F_109 (gl i) hW ) ⟨callB_of 1 hts (gi kt_715) rfl rfl rfl (hts _ kt_669) (hts _ kt_716) (by decide +kernel) ⟨Nat.le_of_ble_eq_true rfl, Nat.le_of_ble_eq_true rfl⟩, (hts _ kt_717)⟩ ⟨fun a U g mk q => ⟨q.1, PTm.calling q.2⟩, fun U hU hWm => ⟨rfl, PTm.mk hU hWm hP hK hD hE hO⟩⟩ rfl rfl hl.1 rfl (lv_room (Nat.le_of_ble_eq_true rfl)) dX15_bodyPlain_123 ⟨by show _ + 0 ≤ 0; omega, by show _ + 0 ≤ 0; omega⟩) hS (fun q _ h => hFc q h) hFc (fun r_126 u t H1 locs ht hvm hw hB hz1 hk1 hS => ?_)
              obtain ⟨F_127, hB1⟩ := hB
              obtain rfl : F_109 = F_127 := (funext (fun a => hB1.2.2.2 a List.not_mem_nil)).symm
              obtain ⟨hP, hD, hO, hR⟩ := QTm.back hB1 ht hFc hR (fun q h => absurd h List.not_mem_nil)
              generalize H1 = H at hP hS ⊢
              have hw : r_126 = (if (gl i) = 32 ∨ (gl i) = 9 then 1 else 0) := hw
              have hw_128 := hw
              refine lv_istore (lv' := [(8, .int r_126), (7, .int (nI i)), (6, .int s7), (5, .int (nI kt)), (4, .int (nI kend)), (3, .int (nI j)), (2, .int (nI w2)), (0, .ref h0), (1, .int x1)]) hx hb dX15_bodyPlain_126 hl (by decide) rfl (fun ls hl => ?_)
              refine lv_iload_n hx hb dX15_bodyPlain_128 rfl (lv_at hl 8 rfl) ?_
              refine lv_if_eq (tgt := 137) hx hb dX15_bodyPlain_129 (by decide) (fun c_129 => ?_) (fun c_129 => ?_)
              ·
                refine lv_aload_n hx hb dX15_bodyPlain_137 rfl (lv_at hl 7 rfl) ?_
                refine pg_get (ci := 15) (v := .ref pl) (C := RX15) (T := TX15) (N := 59) hx hb hts it_15 hown hK hP hL_h0 hF_115 rfl 34 (by decide) (hts _ kt_901) (fun _ h9 => h9) rfl dX15_bodyPlain_138 ?_
                refine lv_aload_n hx hb dX15_bodyPlain_141 rfl (lv_at hl 7 rfl) ?_
                refine pg_get (ci := 15) (v := .ref ml) (C := RX15) (T := TX15) (N := 59) hx hb hts it_15 hown hK hP hL_h0 hF_115 rfl 23 (by decide) (hts _ kt_887) (fun _ h9 => h9) rfl dX15_bodyPlain_142 ?_
                refine lv_iload hx hb dX15_bodyPlain_145 (lv_at hl 1 rfl) ?_
                refine pg_bald hx hb hK hP hi_31 1 hF_114 rfl (vp_in_nI (by omega) (by omega)) dX15_bodyPlain_147 ?_
                refine lv_topi (fun x_130 ex_130 => ?_)
                obtain rfl : x_130 = gl i := ex_130.trans (congrArg gl (show ((nI i) : Int32).toNatClampNeg = i from nI_clamp (by omega)))
                have hFc := pg_free hD hS hA
                refine va_callv (va_runV (As := [.int (gl i)]) (rest := []) ⟨hx, hb, hml, hown, hts⟩ (s_X14_add l dC dI cs ty gm L H.size F_109 pl (ρ + 10) rl 6000 a2.length (gl i) hW hL_pl hT_pl hz7 (by first | omega | assumption | exact Or.inl rfl)) ⟨callB_of 1 hts (gi kt_711) rfl rfl rfl (hts _ kt_676) (hts _ kt_712) (by decide +kernel) ⟨Nat.le_of_ble_eq_true rfl, Nat.le_of_ble_eq_true rfl⟩, (hts _ kt_713), (hts _ kt_714)⟩ ⟨fun a U g mk q => ⟨q.1, PTm.calling q.2⟩, pg_recv hK hP hL_pl hz7 (q := (RX14, TX14, 2)) rfl, fun U hU hWm => ⟨rfl, PTm.mk hU hWm hP hK hD hE hO⟩⟩ rfl rfl hl.1 rfl (lv_room (Nat.le_of_ble_eq_true rfl)) dX15_bodyPlain_148 ⟨by show _ + 0 ≤ 0; omega, by show _ + 0 ≤ 0; omega⟩) hS (fun q _ h => hFc q h) hFc (fun u t H1 locs ht hvm hw hB hz1 hk1 hS => ?_)
                obtain ⟨F_132, hB1, hq_133⟩ := hB
                obtain ⟨hP, hD, hO, hR⟩ := QTm.back hB1 ht hFc hR (fun q h => by simp only [List.mem_cons, List.not_mem_nil, or_false] at h ⊢; omega)
                have hF_134 : F_132 ml = .inl (cs 17, 3000, .inl gl) := (hB1.2.2.2 ml (by rw [ht_32]; simp)).trans hF_114
                have hF_135 : F_132 h0 = .inr (15, (.ref ta) :: (.int (nI zt)) :: (.int (nI zo)) :: (.int (nI ze)) :: (.ref ou) :: (.ref so) :: (.ref ad) :: (.ref na) :: (.ref va) :: (.ref lc) :: (.ref dm) :: (.int (nI fm)) :: (.int (nI sn)) :: (.ref tg) :: (.int v14_35) :: (.int v15_36) :: (.ref pe) :: (.int v17_37) :: (.int v18_38) :: (.int v19_39) :: (.int v20_40) :: (.int v21_41) :: (.int v22_42) :: (.ref ml) :: (.ref bg) :: (.ref co) :: (.ref sp) :: (.ref nb0) :: (.ref nb1) :: (.ref nb2) :: (.int (nI nf)) :: (.int (nI bd)) :: (.int (nI mm)) :: (.int v33_43) :: (.ref pl) :: (.ref se) :: (.ref ke) :: (.ref wi) :: (.ref hs) :: (.ref mo) :: (.ref po) :: (.ref nu) :: (.ref pr) :: (.ref sq) :: (.ref xa) :: (.ref sa) :: (.ref n64) :: (.ref m64) :: (.ref ex) :: (.ref wh) :: (.ref sd) :: (.ref tk) :: (.int v52_44) :: (.int v53_45) :: (.int v54_46) :: (.ref hd) :: (.ref ak) :: (.ref ho) :: (.ref ot) :: []) := (hB1.2.2.2 h0 (by rw [hT_h0]; simp)).trans hF_115
                generalize H1 = H at hP hS ⊢
                refine lv_goto (tgt := 184) hx hb dX15_bodyPlain_151 (by decide) ?_
                refine lv_iinc (v := (nI (i + 1))) (lv' := [(7, .int (nI (i + 1))), (8, .int r_126), (6, .int s7), (5, .int (nI kt)), (4, .int (nI kend)), (3, .int (nI j)), (2, .int (nI w2)), (0, .ref h0), (1, .int x1)]) hx hb dX15_bodyPlain_184 hl (k := 1) rfl (nI_1 _) (by decide) rfl (fun ls hl => ?_)
                refine lv_goto (tgt := 109) hx hb dX15_bodyPlain_187 (by decide) ?_
                refine W.widen (k := 0) (n := 0) (by omega) (by omega) ?_
                exact ih_113 ((i + 1), (a2 ++ [(0, i)]), 0) F_132 (⟨⟨by omega, by omega⟩, bl_a hc2 (by omega) (hfe.2.2.1 i (by omega) (by omega)) (fun q => q.1 c_129) rfl, by rw [len1]; omega, Or.inl rfl, Or.inl ⟨rfl, Or.inl c_129⟩, Or.inr (Or.inr ⟨by omega, a2, by rw [Nat.add_sub_cancel]⟩), (by rw [pd_0, List.append_nil, len1]; exact hq_133)⟩) (by show kt - (i + 1) < kt - i; omega) hO hR _ _ hP hD hS ls (lv_sub hl [0, 2, 3, 4, 5, 6, 7, 8] rfl)
              ·
                refine lv_iload hx hb dX15_bodyPlain_132 (lv_at hl 0 rfl) ?_
                refine lv_if_ne (tgt := 154) hx hb dX15_bodyPlain_134 (by decide) (fun c_136 => ?_) (fun c_136 => ?_)
                ·
                  refine lv_aload_n hx hb dX15_bodyPlain_154 rfl (lv_at hl 7 rfl) ?_
                  refine pg_get (ci := 15) (v := .ref ml) (C := RX15) (T := TX15) (N := 59) hx hb hts it_15 hown hK hP hL_h0 hF_115 rfl 23 (by decide) (hts _ kt_887) (fun _ h9 => h9) rfl dX15_bodyPlain_155 ?_
                  refine lv_iload hx hb dX15_bodyPlain_158 (lv_at hl 1 rfl) ?_
                  refine lv_iconst (v := 1) hx hb dX15_bodyPlain_160 (by decide) ?_
                  refine lv_isub hx hb dX15_bodyPlain_161 ?_
                  refine lv_topi (fun x_137 ex_137 => ?_)
                  obtain rfl : x_137 = (nI (i - 1)) := ex_137.trans (pk_sub (a := i) (b := 1) (by omega))
                  refine pg_bald hx hb hK hP hi_31 1 hF_114 rfl (vp_in_nI (by omega) (by omega)) dX15_bodyPlain_162 ?_
                  refine lv_topi (fun x_138 ex_138 => ?_)
                  obtain rfl : x_138 = gl (i - 1) := ex_138.trans (congrArg gl (show ((nI (i - 1)) : Int32).toNatClampNeg = (i - 1) from nI_clamp (by omega)))
                  have hFc := pg_free hD hS hA
                  refine va_calli (va_runS (As := [.int (gl (i - 1))]) (rest := []) ⟨hx, hb, hml, hown, hts⟩ (s_X15_isWhite_e l dC dI cs ty gm L H.size F_109 (gl (i - 1)) hW ) ⟨callB_of 1 hts (gi kt_715) rfl rfl rfl (hts _ kt_669) (hts _ kt_716) (by decide +kernel) ⟨Nat.le_of_ble_eq_true rfl, Nat.le_of_ble_eq_true rfl⟩, (hts _ kt_717)⟩ ⟨fun a U g mk q => ⟨q.1, PTm.calling q.2⟩, fun U hU hWm => ⟨rfl, PTm.mk hU hWm hP hK hD hE hO⟩⟩ rfl rfl hl.1 rfl (lv_room (Nat.le_of_ble_eq_true rfl)) dX15_bodyPlain_163 ⟨by show _ + 0 ≤ 0; omega, by show _ + 0 ≤ 0; omega⟩) hS (fun q _ h => hFc q h) hFc (fun r_139 u t H1 locs ht hvm hw hB hz1 hk1 hS => ?_)
                  obtain ⟨F_140, hB1⟩ := hB
                  obtain rfl : F_109 = F_140 := (funext (fun a => hB1.2.2.2 a List.not_mem_nil)).symm
                  obtain ⟨hP, hD, hO, hR⟩ := QTm.back hB1 ht hFc hR (fun q h => absurd h List.not_mem_nil)
                  generalize H1 = H at hP hS ⊢
                  have hw : r_139 = (if (gl (i - 1)) = 32 ∨ (gl (i - 1)) = 9 then 1 else 0) := hw
                  have hw_141 := hw
                  refine lv_if_eq (tgt := 175) hx hb dX15_bodyPlain_166 (by decide) (fun c_142 => ?_) (fun c_142 => ?_)
                  ·
                    refine lv_aload_n hx hb dX15_bodyPlain_175 rfl (lv_at hl 7 rfl) ?_
                    refine pg_get (ci := 15) (v := .ref pl) (C := RX15) (T := TX15) (N := 59) hx hb hts it_15 hown hK hP hL_h0 hF_115 rfl 34 (by decide) (hts _ kt_901) (fun _ h9 => h9) rfl dX15_bodyPlain_176 ?_
                    refine lv_bipush (v := 32) hx hb dX15_bodyPlain_179 (by decide) ?_
                    have hFc := pg_free hD hS hA
                    refine va_callv (va_runV (As := [.int 32]) (rest := []) ⟨hx, hb, hml, hown, hts⟩ (s_X14_add l dC dI cs ty gm L H.size F_109 pl (ρ + 10) rl 6000 a2.length 32 hW hL_pl hT_pl hz7 (by first | omega | assumption | exact Or.inl rfl)) ⟨callB_of 1 hts (gi kt_711) rfl rfl rfl (hts _ kt_676) (hts _ kt_712) (by decide +kernel) ⟨Nat.le_of_ble_eq_true rfl, Nat.le_of_ble_eq_true rfl⟩, (hts _ kt_713), (hts _ kt_714)⟩ ⟨fun a U g mk q => ⟨q.1, PTm.calling q.2⟩, pg_recv hK hP hL_pl hz7 (q := (RX14, TX14, 2)) rfl, fun U hU hWm => ⟨rfl, PTm.mk hU hWm hP hK hD hE hO⟩⟩ rfl rfl hl.1 rfl (lv_room (Nat.le_of_ble_eq_true rfl)) dX15_bodyPlain_181 ⟨by show _ + 0 ≤ 0; omega, by show _ + 0 ≤ 0; omega⟩) hS (fun q _ h => hFc q h) hFc (fun u t H1 locs ht hvm hw hB hz1 hk1 hS => ?_)
                    obtain ⟨F_144, hB1, hq_145⟩ := hB
                    obtain ⟨hP, hD, hO, hR⟩ := QTm.back hB1 ht hFc hR (fun q h => by simp only [List.mem_cons, List.not_mem_nil, or_false] at h ⊢; omega)
                    have hF_146 : F_144 ml = .inl (cs 17, 3000, .inl gl) := (hB1.2.2.2 ml (by rw [ht_32]; simp)).trans hF_114
                    have hF_147 : F_144 h0 = .inr (15, (.ref ta) :: (.int (nI zt)) :: (.int (nI zo)) :: (.int (nI ze)) :: (.ref ou) :: (.ref so) :: (.ref ad) :: (.ref na) :: (.ref va) :: (.ref lc) :: (.ref dm) :: (.int (nI fm)) :: (.int (nI sn)) :: (.ref tg) :: (.int v14_35) :: (.int v15_36) :: (.ref pe) :: (.int v17_37) :: (.int v18_38) :: (.int v19_39) :: (.int v20_40) :: (.int v21_41) :: (.int v22_42) :: (.ref ml) :: (.ref bg) :: (.ref co) :: (.ref sp) :: (.ref nb0) :: (.ref nb1) :: (.ref nb2) :: (.int (nI nf)) :: (.int (nI bd)) :: (.int (nI mm)) :: (.int v33_43) :: (.ref pl) :: (.ref se) :: (.ref ke) :: (.ref wi) :: (.ref hs) :: (.ref mo) :: (.ref po) :: (.ref nu) :: (.ref pr) :: (.ref sq) :: (.ref xa) :: (.ref sa) :: (.ref n64) :: (.ref m64) :: (.ref ex) :: (.ref wh) :: (.ref sd) :: (.ref tk) :: (.int v52_44) :: (.int v53_45) :: (.int v54_46) :: (.ref hd) :: (.ref ak) :: (.ref ho) :: (.ref ot) :: []) := (hB1.2.2.2 h0 (by rw [hT_h0]; simp)).trans hF_115
                    generalize H1 = H at hP hS ⊢
                    refine lv_iinc (v := (nI (i + 1))) (lv' := [(7, .int (nI (i + 1))), (8, .int r_126), (6, .int s7), (5, .int (nI kt)), (4, .int (nI kend)), (3, .int (nI j)), (2, .int (nI w2)), (0, .ref h0), (1, .int x1)]) hx hb dX15_bodyPlain_184 hl (k := 1) rfl (nI_1 _) (by decide) rfl (fun ls hl => ?_)
                    refine lv_goto (tgt := 109) hx hb dX15_bodyPlain_187 (by decide) ?_
                    refine W.widen (k := 0) (n := 0) (by omega) (by omega) ?_
                    exact ih_113 ((i + 1), a2, 1) F_144 (⟨⟨by omega, by omega⟩, bl_1 hc2 (by omega) c_129 (clg1 (ifb1 hw_128 c_136)), by omega, Or.inr (by omega), Or.inr ⟨rfl, by omega, by rw [Nat.add_sub_cancel]; exact clg1 (ifb1 hw_128 c_136), c_129⟩, Or.inr (Or.inl rfl), (by rw [len_pd]; exact hq_145)⟩) (by show kt - (i + 1) < kt - i; omega) hO hR _ _ hP hD hS ls (lv_sub hl [0, 2, 3, 4, 5, 6, 7, 8] rfl)
                  ·
                    refine lv_iload hx hb dX15_bodyPlain_169 (lv_at hl 1 rfl) ?_
                    refine lv_iload_n hx hb dX15_bodyPlain_171 rfl (lv_at hl 5 rfl) ?_
                    refine lv_icmp_ne (tgt := 184) hx hb dX15_bodyPlain_172 (by decide) (fun c_148 => ?_) (fun c_148 => ?_)
                    ·
                      have hi_149 : i ≠ j := fun q => c_148 (by rw [q])
                      rcases hc8 with q | q | q; exact absurd q c_129; omega; exact absurd (clg1 (ifb1 hw_141 c_142)) q
                    ·
                      have hi_150 : i = j := (nI_eq (a := i) (b := j) (by omega) (by omega)).mp c_148
                      refine lv_aload_n hx hb dX15_bodyPlain_175 rfl (lv_at hl 7 rfl) ?_
                      refine pg_get (ci := 15) (v := .ref pl) (C := RX15) (T := TX15) (N := 59) hx hb hts it_15 hown hK hP hL_h0 hF_115 rfl 34 (by decide) (hts _ kt_901) (fun _ h9 => h9) rfl dX15_bodyPlain_176 ?_
                      refine lv_bipush (v := 32) hx hb dX15_bodyPlain_179 (by decide) ?_
                      have hFc := pg_free hD hS hA
                      refine va_callv (va_runV (As := [.int 32]) (rest := []) ⟨hx, hb, hml, hown, hts⟩ (s_X14_add l dC dI cs ty gm L H.size F_109 pl (ρ + 10) rl 6000 a2.length 32 hW hL_pl hT_pl hz7 (by first | omega | assumption | exact Or.inl rfl)) ⟨callB_of 1 hts (gi kt_711) rfl rfl rfl (hts _ kt_676) (hts _ kt_712) (by decide +kernel) ⟨Nat.le_of_ble_eq_true rfl, Nat.le_of_ble_eq_true rfl⟩, (hts _ kt_713), (hts _ kt_714)⟩ ⟨fun a U g mk q => ⟨q.1, PTm.calling q.2⟩, pg_recv hK hP hL_pl hz7 (q := (RX14, TX14, 2)) rfl, fun U hU hWm => ⟨rfl, PTm.mk hU hWm hP hK hD hE hO⟩⟩ rfl rfl hl.1 rfl (lv_room (Nat.le_of_ble_eq_true rfl)) dX15_bodyPlain_181 ⟨by show _ + 0 ≤ 0; omega, by show _ + 0 ≤ 0; omega⟩) hS (fun q _ h => hFc q h) hFc (fun u t H1 locs ht hvm hw hB hz1 hk1 hS => ?_)
                      obtain ⟨F_152, hB1, hq_153⟩ := hB
                      obtain ⟨hP, hD, hO, hR⟩ := QTm.back hB1 ht hFc hR (fun q h => by simp only [List.mem_cons, List.not_mem_nil, or_false] at h ⊢; omega)
                      have hF_154 : F_152 ml = .inl (cs 17, 3000, .inl gl) := (hB1.2.2.2 ml (by rw [ht_32]; simp)).trans hF_114
                      have hF_155 : F_152 h0 = .inr (15, (.ref ta) :: (.int (nI zt)) :: (.int (nI zo)) :: (.int (nI ze)) :: (.ref ou) :: (.ref so) :: (.ref ad) :: (.ref na) :: (.ref va) :: (.ref lc) :: (.ref dm) :: (.int (nI fm)) :: (.int (nI sn)) :: (.ref tg) :: (.int v14_35) :: (.int v15_36) :: (.ref pe) :: (.int v17_37) :: (.int v18_38) :: (.int v19_39) :: (.int v20_40) :: (.int v21_41) :: (.int v22_42) :: (.ref ml) :: (.ref bg) :: (.ref co) :: (.ref sp) :: (.ref nb0) :: (.ref nb1) :: (.ref nb2) :: (.int (nI nf)) :: (.int (nI bd)) :: (.int (nI mm)) :: (.int v33_43) :: (.ref pl) :: (.ref se) :: (.ref ke) :: (.ref wi) :: (.ref hs) :: (.ref mo) :: (.ref po) :: (.ref nu) :: (.ref pr) :: (.ref sq) :: (.ref xa) :: (.ref sa) :: (.ref n64) :: (.ref m64) :: (.ref ex) :: (.ref wh) :: (.ref sd) :: (.ref tk) :: (.int v52_44) :: (.int v53_45) :: (.int v54_46) :: (.ref hd) :: (.ref ak) :: (.ref ho) :: (.ref ot) :: []) := (hB1.2.2.2 h0 (by rw [hT_h0]; simp)).trans hF_115
                      generalize H1 = H at hP hS ⊢
                      refine lv_iinc (v := (nI (i + 1))) (lv' := [(7, .int (nI (i + 1))), (8, .int r_126), (6, .int s7), (5, .int (nI kt)), (4, .int (nI kend)), (3, .int (nI j)), (2, .int (nI w2)), (0, .ref h0), (1, .int x1)]) hx hb dX15_bodyPlain_184 hl (k := 1) rfl (nI_1 _) (by decide) rfl (fun ls hl => ?_)
                      refine lv_goto (tgt := 109) hx hb dX15_bodyPlain_187 (by decide) ?_
                      refine W.widen (k := 0) (n := 0) (by omega) (by omega) ?_
                      exact ih_113 ((i + 1), a2, 1) F_152 (⟨⟨by omega, by omega⟩, bl_1 hc2 (by omega) c_129 (clg1 (ifb1 hw_128 c_136)), by omega, Or.inr (by omega), Or.inr ⟨rfl, by omega, by rw [Nat.add_sub_cancel]; exact clg1 (ifb1 hw_128 c_136), c_129⟩, Or.inr (Or.inl rfl), (by rw [len_pd]; exact hq_153)⟩) (by show kt - (i + 1) < kt - i; omega) hO hR _ _ hP hD hS ls (lv_sub hl [0, 2, 3, 4, 5, 6, 7, 8] rfl)
                ·
                  refine lv_aload_n hx hb dX15_bodyPlain_137 rfl (lv_at hl 7 rfl) ?_
                  refine pg_get (ci := 15) (v := .ref pl) (C := RX15) (T := TX15) (N := 59) hx hb hts it_15 hown hK hP hL_h0 hF_115 rfl 34 (by decide) (hts _ kt_901) (fun _ h9 => h9) rfl dX15_bodyPlain_138 ?_
                  refine lv_aload_n hx hb dX15_bodyPlain_141 rfl (lv_at hl 7 rfl) ?_
                  refine pg_get (ci := 15) (v := .ref ml) (C := RX15) (T := TX15) (N := 59) hx hb hts it_15 hown hK hP hL_h0 hF_115 rfl 23 (by decide) (hts _ kt_887) (fun _ h9 => h9) rfl dX15_bodyPlain_142 ?_
                  refine lv_iload hx hb dX15_bodyPlain_145 (lv_at hl 1 rfl) ?_
                  refine pg_bald hx hb hK hP hi_31 1 hF_114 rfl (vp_in_nI (by omega) (by omega)) dX15_bodyPlain_147 ?_
                  refine lv_topi (fun x_156 ex_156 => ?_)
                  obtain rfl : x_156 = gl i := ex_156.trans (congrArg gl (show ((nI i) : Int32).toNatClampNeg = i from nI_clamp (by omega)))
                  have hFc := pg_free hD hS hA
                  refine va_callv (va_runV (As := [.int (gl i)]) (rest := []) ⟨hx, hb, hml, hown, hts⟩ (s_X14_add l dC dI cs ty gm L H.size F_109 pl (ρ + 10) rl 6000 a2.length (gl i) hW hL_pl hT_pl hz7 (by first | omega | assumption | exact Or.inl rfl)) ⟨callB_of 1 hts (gi kt_711) rfl rfl rfl (hts _ kt_676) (hts _ kt_712) (by decide +kernel) ⟨Nat.le_of_ble_eq_true rfl, Nat.le_of_ble_eq_true rfl⟩, (hts _ kt_713), (hts _ kt_714)⟩ ⟨fun a U g mk q => ⟨q.1, PTm.calling q.2⟩, pg_recv hK hP hL_pl hz7 (q := (RX14, TX14, 2)) rfl, fun U hU hWm => ⟨rfl, PTm.mk hU hWm hP hK hD hE hO⟩⟩ rfl rfl hl.1 rfl (lv_room (Nat.le_of_ble_eq_true rfl)) dX15_bodyPlain_148 ⟨by show _ + 0 ≤ 0; omega, by show _ + 0 ≤ 0; omega⟩) hS (fun q _ h => hFc q h) hFc (fun u t H1 locs ht hvm hw hB hz1 hk1 hS => ?_)
                  obtain ⟨F_158, hB1, hq_159⟩ := hB
                  obtain ⟨hP, hD, hO, hR⟩ := QTm.back hB1 ht hFc hR (fun q h => by simp only [List.mem_cons, List.not_mem_nil, or_false] at h ⊢; omega)
                  have hF_160 : F_158 ml = .inl (cs 17, 3000, .inl gl) := (hB1.2.2.2 ml (by rw [ht_32]; simp)).trans hF_114
                  have hF_161 : F_158 h0 = .inr (15, (.ref ta) :: (.int (nI zt)) :: (.int (nI zo)) :: (.int (nI ze)) :: (.ref ou) :: (.ref so) :: (.ref ad) :: (.ref na) :: (.ref va) :: (.ref lc) :: (.ref dm) :: (.int (nI fm)) :: (.int (nI sn)) :: (.ref tg) :: (.int v14_35) :: (.int v15_36) :: (.ref pe) :: (.int v17_37) :: (.int v18_38) :: (.int v19_39) :: (.int v20_40) :: (.int v21_41) :: (.int v22_42) :: (.ref ml) :: (.ref bg) :: (.ref co) :: (.ref sp) :: (.ref nb0) :: (.ref nb1) :: (.ref nb2) :: (.int (nI nf)) :: (.int (nI bd)) :: (.int (nI mm)) :: (.int v33_43) :: (.ref pl) :: (.ref se) :: (.ref ke) :: (.ref wi) :: (.ref hs) :: (.ref mo) :: (.ref po) :: (.ref nu) :: (.ref pr) :: (.ref sq) :: (.ref xa) :: (.ref sa) :: (.ref n64) :: (.ref m64) :: (.ref ex) :: (.ref wh) :: (.ref sd) :: (.ref tk) :: (.int v52_44) :: (.int v53_45) :: (.int v54_46) :: (.ref hd) :: (.ref ak) :: (.ref ho) :: (.ref ot) :: []) := (hB1.2.2.2 h0 (by rw [hT_h0]; simp)).trans hF_115
                  generalize H1 = H at hP hS ⊢
                  refine lv_goto (tgt := 184) hx hb dX15_bodyPlain_151 (by decide) ?_
                  refine lv_iinc (v := (nI (i + 1))) (lv' := [(7, .int (nI (i + 1))), (8, .int r_126), (6, .int s7), (5, .int (nI kt)), (4, .int (nI kend)), (3, .int (nI j)), (2, .int (nI w2)), (0, .ref h0), (1, .int x1)]) hx hb dX15_bodyPlain_184 hl (k := 1) rfl (nI_1 _) (by decide) rfl (fun ls hl => ?_)
                  refine lv_goto (tgt := 109) hx hb dX15_bodyPlain_187 (by decide) ?_
                  refine W.widen (k := 0) (n := 0) (by omega) (by omega) ?_
                  exact ih_113 ((i + 1), (a2 ++ [(0, i)]), 0) F_158 (⟨⟨by omega, by omega⟩, bl_a hc2 (by omega) (hfe.2.2.1 i (by omega) (by omega)) (fun q => clg1n (ifb0 hw_128 c_136) q.2) rfl, by rw [len1]; omega, Or.inl rfl, Or.inl ⟨rfl, Or.inr (Or.inr (by rw [Nat.add_sub_cancel]; exact clg1n (ifb0 hw_128 c_136)))⟩, Or.inr (Or.inr ⟨by omega, a2, by rw [Nat.add_sub_cancel]⟩), (by rw [pd_0, List.append_nil, len1]; exact hq_159)⟩) (by show kt - (i + 1) < kt - i; omega) hO hR _ _ hP hD hS ls (lv_sub hl [0, 2, 3, 4, 5, 6, 7, 8] rfl)
          ·
            subst ew
            have hz7 : F_109 pl = .inr (14, [.ref rl, .int (nI (a2.length + 1))]) := by have h9 := hc7; rw [len_pd] at h9; exact h9
            have hcy : a2.length + 1 ≤ i - bd := hc4.resolve_left (by decide)
            refine lv_iload hx hb dX15_bodyPlain_109 (lv_at hl 0 rfl) ?_
            refine lv_iload hx hb dX15_bodyPlain_111 (lv_at hl 2 rfl) ?_
            refine lv_icmp_ge (tgt := 190) hx hb dX15_bodyPlain_113 (by decide) (fun c_162 => ?_) (fun c_162 => ?_)
            ·
              have hi_163 : kt ≤ i := leN (N := kt) c_162
              rcases hk5 with q | q | q; exact absurd q hcx; omega; exact absurd hc9 (by rw [show i - 1 = kt - 1 by omega]; exact q)
            ·
              have hi_164 : i < kt := ltN (N := kt) c_162
              refine lv_aload_n hx hb dX15_bodyPlain_116 rfl (lv_at hl 6 rfl) ?_
              refine pg_get (ci := 15) (v := .ref ml) (C := RX15) (T := TX15) (N := 59) hx hb hts it_15 hown hK hP hL_h0 hF_115 rfl 23 (by decide) (hts _ kt_887) (fun _ h9 => h9) rfl dX15_bodyPlain_117 ?_
              refine lv_iload hx hb dX15_bodyPlain_120 (lv_at hl 0 rfl) ?_
              refine pg_bald hx hb hK hP hi_31 1 hF_114 rfl (vp_in_nI (by omega) (by omega)) dX15_bodyPlain_122 ?_
              refine lv_topi (fun x_165 ex_165 => ?_)
              obtain rfl : x_165 = gl i := ex_165.trans (congrArg gl (show ((nI i) : Int32).toNatClampNeg = i from nI_clamp (by omega)))
              have hFc := pg_free hD hS hA
              refine va_calli (va_runS (As := [.int (gl i)]) (rest := []) ⟨hx, hb, hml, hown, hts⟩ (s_X15_isWhite_e l dC dI cs ty gm L H.size F_109 (gl i) hW ) ⟨callB_of 1 hts (gi kt_715) rfl rfl rfl (hts _ kt_669) (hts _ kt_716) (by decide +kernel) ⟨Nat.le_of_ble_eq_true rfl, Nat.le_of_ble_eq_true rfl⟩, (hts _ kt_717)⟩ ⟨fun a U g mk q => ⟨q.1, PTm.calling q.2⟩, fun U hU hWm => ⟨rfl, PTm.mk hU hWm hP hK hD hE hO⟩⟩ rfl rfl hl.1 rfl (lv_room (Nat.le_of_ble_eq_true rfl)) dX15_bodyPlain_123 ⟨by show _ + 0 ≤ 0; omega, by show _ + 0 ≤ 0; omega⟩) hS (fun q _ h => hFc q h) hFc (fun r_166 u t H1 locs ht hvm hw hB hz1 hk1 hS => ?_)
              obtain ⟨F_167, hB1⟩ := hB
              obtain rfl : F_109 = F_167 := (funext (fun a => hB1.2.2.2 a List.not_mem_nil)).symm
              obtain ⟨hP, hD, hO, hR⟩ := QTm.back hB1 ht hFc hR (fun q h => absurd h List.not_mem_nil)
              generalize H1 = H at hP hS ⊢
              have hw : r_166 = (if (gl i) = 32 ∨ (gl i) = 9 then 1 else 0) := hw
              have hw_168 := hw
              refine lv_istore (lv' := [(8, .int r_166), (7, .int (nI i)), (6, .int s7), (5, .int (nI kt)), (4, .int (nI kend)), (3, .int (nI j)), (2, .int (nI w2)), (0, .ref h0), (1, .int x1)]) hx hb dX15_bodyPlain_126 hl (by decide) rfl (fun ls hl => ?_)
              refine lv_iload_n hx hb dX15_bodyPlain_128 rfl (lv_at hl 8 rfl) ?_
              refine lv_if_eq (tgt := 137) hx hb dX15_bodyPlain_129 (by decide) (fun c_169 => ?_) (fun c_169 => ?_)
              ·
                refine lv_aload_n hx hb dX15_bodyPlain_137 rfl (lv_at hl 7 rfl) ?_
                refine pg_get (ci := 15) (v := .ref pl) (C := RX15) (T := TX15) (N := 59) hx hb hts it_15 hown hK hP hL_h0 hF_115 rfl 34 (by decide) (hts _ kt_901) (fun _ h9 => h9) rfl dX15_bodyPlain_138 ?_
                refine lv_aload_n hx hb dX15_bodyPlain_141 rfl (lv_at hl 7 rfl) ?_
                refine pg_get (ci := 15) (v := .ref ml) (C := RX15) (T := TX15) (N := 59) hx hb hts it_15 hown hK hP hL_h0 hF_115 rfl 23 (by decide) (hts _ kt_887) (fun _ h9 => h9) rfl dX15_bodyPlain_142 ?_
                refine lv_iload hx hb dX15_bodyPlain_145 (lv_at hl 1 rfl) ?_
                refine pg_bald hx hb hK hP hi_31 1 hF_114 rfl (vp_in_nI (by omega) (by omega)) dX15_bodyPlain_147 ?_
                refine lv_topi (fun x_170 ex_170 => ?_)
                obtain rfl : x_170 = gl i := ex_170.trans (congrArg gl (show ((nI i) : Int32).toNatClampNeg = i from nI_clamp (by omega)))
                have hFc := pg_free hD hS hA
                refine va_callv (va_runV (As := [.int (gl i)]) (rest := []) ⟨hx, hb, hml, hown, hts⟩ (s_X14_add l dC dI cs ty gm L H.size F_109 pl (ρ + 10) rl 6000 (a2.length + 1) (gl i) hW hL_pl hT_pl hz7 (by first | omega | assumption | exact Or.inl rfl)) ⟨callB_of 1 hts (gi kt_711) rfl rfl rfl (hts _ kt_676) (hts _ kt_712) (by decide +kernel) ⟨Nat.le_of_ble_eq_true rfl, Nat.le_of_ble_eq_true rfl⟩, (hts _ kt_713), (hts _ kt_714)⟩ ⟨fun a U g mk q => ⟨q.1, PTm.calling q.2⟩, pg_recv hK hP hL_pl hz7 (q := (RX14, TX14, 2)) rfl, fun U hU hWm => ⟨rfl, PTm.mk hU hWm hP hK hD hE hO⟩⟩ rfl rfl hl.1 rfl (lv_room (Nat.le_of_ble_eq_true rfl)) dX15_bodyPlain_148 ⟨by show _ + 0 ≤ 0; omega, by show _ + 0 ≤ 0; omega⟩) hS (fun q _ h => hFc q h) hFc (fun u t H1 locs ht hvm hw hB hz1 hk1 hS => ?_)
                obtain ⟨F_172, hB1, hq_173⟩ := hB
                obtain ⟨hP, hD, hO, hR⟩ := QTm.back hB1 ht hFc hR (fun q h => by simp only [List.mem_cons, List.not_mem_nil, or_false] at h ⊢; omega)
                have hF_174 : F_172 ml = .inl (cs 17, 3000, .inl gl) := (hB1.2.2.2 ml (by rw [ht_32]; simp)).trans hF_114
                have hF_175 : F_172 h0 = .inr (15, (.ref ta) :: (.int (nI zt)) :: (.int (nI zo)) :: (.int (nI ze)) :: (.ref ou) :: (.ref so) :: (.ref ad) :: (.ref na) :: (.ref va) :: (.ref lc) :: (.ref dm) :: (.int (nI fm)) :: (.int (nI sn)) :: (.ref tg) :: (.int v14_35) :: (.int v15_36) :: (.ref pe) :: (.int v17_37) :: (.int v18_38) :: (.int v19_39) :: (.int v20_40) :: (.int v21_41) :: (.int v22_42) :: (.ref ml) :: (.ref bg) :: (.ref co) :: (.ref sp) :: (.ref nb0) :: (.ref nb1) :: (.ref nb2) :: (.int (nI nf)) :: (.int (nI bd)) :: (.int (nI mm)) :: (.int v33_43) :: (.ref pl) :: (.ref se) :: (.ref ke) :: (.ref wi) :: (.ref hs) :: (.ref mo) :: (.ref po) :: (.ref nu) :: (.ref pr) :: (.ref sq) :: (.ref xa) :: (.ref sa) :: (.ref n64) :: (.ref m64) :: (.ref ex) :: (.ref wh) :: (.ref sd) :: (.ref tk) :: (.int v52_44) :: (.int v53_45) :: (.int v54_46) :: (.ref hd) :: (.ref ak) :: (.ref ho) :: (.ref ot) :: []) := (hB1.2.2.2 h0 (by rw [hT_h0]; simp)).trans hF_115
                generalize H1 = H at hP hS ⊢
                refine lv_goto (tgt := 184) hx hb dX15_bodyPlain_151 (by decide) ?_
                refine lv_iinc (v := (nI (i + 1))) (lv' := [(7, .int (nI (i + 1))), (8, .int r_166), (6, .int s7), (5, .int (nI kt)), (4, .int (nI kend)), (3, .int (nI j)), (2, .int (nI w2)), (0, .ref h0), (1, .int x1)]) hx hb dX15_bodyPlain_184 hl (k := 1) rfl (nI_1 _) (by decide) rfl (fun ls hl => ?_)
                refine lv_goto (tgt := 109) hx hb dX15_bodyPlain_187 (by decide) ?_
                refine W.widen (k := 0) (n := 0) (by omega) (by omega) ?_
                exact ih_113 ((i + 1), (a2 ++ [(2, 32)] ++ [(0, i)]), 0) F_172 (⟨⟨by omega, by omega⟩, bl_b hc2 (by omega) (hfe.2.2.1 i (by omega) (by omega)) (fun q => q.1 c_169) (by decide), by rw [len1, len1]; omega, Or.inl rfl, Or.inl ⟨rfl, Or.inl c_169⟩, Or.inr (Or.inr ⟨by omega, a2 ++ [(2, 32)], by rw [Nat.add_sub_cancel]⟩), (by rw [pd_0, List.append_nil, len1, len1]; exact hq_173)⟩) (by show kt - (i + 1) < kt - i; omega) hO hR _ _ hP hD hS ls (lv_sub hl [0, 2, 3, 4, 5, 6, 7, 8] rfl)
              ·
                refine lv_iload hx hb dX15_bodyPlain_132 (lv_at hl 0 rfl) ?_
                refine lv_if_ne (tgt := 154) hx hb dX15_bodyPlain_134 (by decide) (fun c_176 => ?_) (fun c_176 => ?_)
                ·
                  refine lv_aload_n hx hb dX15_bodyPlain_154 rfl (lv_at hl 7 rfl) ?_
                  refine pg_get (ci := 15) (v := .ref ml) (C := RX15) (T := TX15) (N := 59) hx hb hts it_15 hown hK hP hL_h0 hF_115 rfl 23 (by decide) (hts _ kt_887) (fun _ h9 => h9) rfl dX15_bodyPlain_155 ?_
                  refine lv_iload hx hb dX15_bodyPlain_158 (lv_at hl 1 rfl) ?_
                  refine lv_iconst (v := 1) hx hb dX15_bodyPlain_160 (by decide) ?_
                  refine lv_isub hx hb dX15_bodyPlain_161 ?_
                  refine lv_topi (fun x_177 ex_177 => ?_)
                  obtain rfl : x_177 = (nI (i - 1)) := ex_177.trans (pk_sub (a := i) (b := 1) (by omega))
                  refine pg_bald hx hb hK hP hi_31 1 hF_114 rfl (vp_in_nI (by omega) (by omega)) dX15_bodyPlain_162 ?_
                  refine lv_topi (fun x_178 ex_178 => ?_)
                  obtain rfl : x_178 = gl (i - 1) := ex_178.trans (congrArg gl (show ((nI (i - 1)) : Int32).toNatClampNeg = (i - 1) from nI_clamp (by omega)))
                  have hFc := pg_free hD hS hA
                  refine va_calli (va_runS (As := [.int (gl (i - 1))]) (rest := []) ⟨hx, hb, hml, hown, hts⟩ (s_X15_isWhite_e l dC dI cs ty gm L H.size F_109 (gl (i - 1)) hW ) ⟨callB_of 1 hts (gi kt_715) rfl rfl rfl (hts _ kt_669) (hts _ kt_716) (by decide +kernel) ⟨Nat.le_of_ble_eq_true rfl, Nat.le_of_ble_eq_true rfl⟩, (hts _ kt_717)⟩ ⟨fun a U g mk q => ⟨q.1, PTm.calling q.2⟩, fun U hU hWm => ⟨rfl, PTm.mk hU hWm hP hK hD hE hO⟩⟩ rfl rfl hl.1 rfl (lv_room (Nat.le_of_ble_eq_true rfl)) dX15_bodyPlain_163 ⟨by show _ + 0 ≤ 0; omega, by show _ + 0 ≤ 0; omega⟩) hS (fun q _ h => hFc q h) hFc (fun r_179 u t H1 locs ht hvm hw hB hz1 hk1 hS => ?_)
                  obtain ⟨F_180, hB1⟩ := hB
                  obtain rfl : F_109 = F_180 := (funext (fun a => hB1.2.2.2 a List.not_mem_nil)).symm
                  obtain ⟨hP, hD, hO, hR⟩ := QTm.back hB1 ht hFc hR (fun q h => absurd h List.not_mem_nil)
                  generalize H1 = H at hP hS ⊢
                  have hw : r_179 = (if (gl (i - 1)) = 32 ∨ (gl (i - 1)) = 9 then 1 else 0) := hw
                  have hw_181 := hw
                  refine lv_if_eq (tgt := 175) hx hb dX15_bodyPlain_166 (by decide) (fun c_182 => ?_) (fun c_182 => ?_)
                  ·
                    exact absurd hc9 (clg1n (ifb0 hw_181 c_182))
                  ·
                    refine lv_iload hx hb dX15_bodyPlain_169 (lv_at hl 1 rfl) ?_
                    refine lv_iload_n hx hb dX15_bodyPlain_171 rfl (lv_at hl 5 rfl) ?_
                    refine lv_icmp_ne (tgt := 184) hx hb dX15_bodyPlain_172 (by decide) (fun c_183 => ?_) (fun c_183 => ?_)
                    ·
                      have hi_184 : i ≠ j := fun q => c_183 (by rw [q])
                      refine lv_iinc (v := (nI (i + 1))) (lv' := [(7, .int (nI (i + 1))), (8, .int r_166), (6, .int s7), (5, .int (nI kt)), (4, .int (nI kend)), (3, .int (nI j)), (2, .int (nI w2)), (0, .ref h0), (1, .int x1)]) hx hb dX15_bodyPlain_184 hl (k := 1) rfl (nI_1 _) (by decide) rfl (fun ls hl => ?_)
                      refine lv_goto (tgt := 109) hx hb dX15_bodyPlain_187 (by decide) ?_
                      refine W.widen (k := 0) (n := 0) (by omega) (by omega) ?_
                      exact ih_113 ((i + 1), a2, 1) F_109 (⟨⟨by omega, by omega⟩, bl_1 hc2 (by omega) c_169 (clg1 (ifb1 hw_168 c_176)), by omega, Or.inr (by omega), Or.inr ⟨rfl, by omega, by rw [Nat.add_sub_cancel]; exact clg1 (ifb1 hw_168 c_176), c_169⟩, Or.inr (Or.inl rfl), (by rw [len_pd]; exact hz7)⟩) (by show kt - (i + 1) < kt - i; omega) hO hR _ _ hP hD hS ls (lv_sub hl [0, 2, 3, 4, 5, 6, 7, 8] rfl)
                    ·
                      have hi_185 : i = j := (nI_eq (a := i) (b := j) (by omega) (by omega)).mp c_183
                      exact absurd hc8 (by omega)
                ·
                  refine lv_aload_n hx hb dX15_bodyPlain_137 rfl (lv_at hl 7 rfl) ?_
                  refine pg_get (ci := 15) (v := .ref pl) (C := RX15) (T := TX15) (N := 59) hx hb hts it_15 hown hK hP hL_h0 hF_115 rfl 34 (by decide) (hts _ kt_901) (fun _ h9 => h9) rfl dX15_bodyPlain_138 ?_
                  refine lv_aload_n hx hb dX15_bodyPlain_141 rfl (lv_at hl 7 rfl) ?_
                  refine pg_get (ci := 15) (v := .ref ml) (C := RX15) (T := TX15) (N := 59) hx hb hts it_15 hown hK hP hL_h0 hF_115 rfl 23 (by decide) (hts _ kt_887) (fun _ h9 => h9) rfl dX15_bodyPlain_142 ?_
                  refine lv_iload hx hb dX15_bodyPlain_145 (lv_at hl 1 rfl) ?_
                  refine pg_bald hx hb hK hP hi_31 1 hF_114 rfl (vp_in_nI (by omega) (by omega)) dX15_bodyPlain_147 ?_
                  refine lv_topi (fun x_186 ex_186 => ?_)
                  obtain rfl : x_186 = gl i := ex_186.trans (congrArg gl (show ((nI i) : Int32).toNatClampNeg = i from nI_clamp (by omega)))
                  have hFc := pg_free hD hS hA
                  refine va_callv (va_runV (As := [.int (gl i)]) (rest := []) ⟨hx, hb, hml, hown, hts⟩ (s_X14_add l dC dI cs ty gm L H.size F_109 pl (ρ + 10) rl 6000 (a2.length + 1) (gl i) hW hL_pl hT_pl hz7 (by first | omega | assumption | exact Or.inl rfl)) ⟨callB_of 1 hts (gi kt_711) rfl rfl rfl (hts _ kt_676) (hts _ kt_712) (by decide +kernel) ⟨Nat.le_of_ble_eq_true rfl, Nat.le_of_ble_eq_true rfl⟩, (hts _ kt_713), (hts _ kt_714)⟩ ⟨fun a U g mk q => ⟨q.1, PTm.calling q.2⟩, pg_recv hK hP hL_pl hz7 (q := (RX14, TX14, 2)) rfl, fun U hU hWm => ⟨rfl, PTm.mk hU hWm hP hK hD hE hO⟩⟩ rfl rfl hl.1 rfl (lv_room (Nat.le_of_ble_eq_true rfl)) dX15_bodyPlain_148 ⟨by show _ + 0 ≤ 0; omega, by show _ + 0 ≤ 0; omega⟩) hS (fun q _ h => hFc q h) hFc (fun u t H1 locs ht hvm hw hB hz1 hk1 hS => ?_)
                  obtain ⟨F_188, hB1, hq_189⟩ := hB
                  obtain ⟨hP, hD, hO, hR⟩ := QTm.back hB1 ht hFc hR (fun q h => by simp only [List.mem_cons, List.not_mem_nil, or_false] at h ⊢; omega)
                  have hF_190 : F_188 ml = .inl (cs 17, 3000, .inl gl) := (hB1.2.2.2 ml (by rw [ht_32]; simp)).trans hF_114
                  have hF_191 : F_188 h0 = .inr (15, (.ref ta) :: (.int (nI zt)) :: (.int (nI zo)) :: (.int (nI ze)) :: (.ref ou) :: (.ref so) :: (.ref ad) :: (.ref na) :: (.ref va) :: (.ref lc) :: (.ref dm) :: (.int (nI fm)) :: (.int (nI sn)) :: (.ref tg) :: (.int v14_35) :: (.int v15_36) :: (.ref pe) :: (.int v17_37) :: (.int v18_38) :: (.int v19_39) :: (.int v20_40) :: (.int v21_41) :: (.int v22_42) :: (.ref ml) :: (.ref bg) :: (.ref co) :: (.ref sp) :: (.ref nb0) :: (.ref nb1) :: (.ref nb2) :: (.int (nI nf)) :: (.int (nI bd)) :: (.int (nI mm)) :: (.int v33_43) :: (.ref pl) :: (.ref se) :: (.ref ke) :: (.ref wi) :: (.ref hs) :: (.ref mo) :: (.ref po) :: (.ref nu) :: (.ref pr) :: (.ref sq) :: (.ref xa) :: (.ref sa) :: (.ref n64) :: (.ref m64) :: (.ref ex) :: (.ref wh) :: (.ref sd) :: (.ref tk) :: (.int v52_44) :: (.int v53_45) :: (.int v54_46) :: (.ref hd) :: (.ref ak) :: (.ref ho) :: (.ref ot) :: []) := (hB1.2.2.2 h0 (by rw [hT_h0]; simp)).trans hF_115
                  generalize H1 = H at hP hS ⊢
                  refine lv_goto (tgt := 184) hx hb dX15_bodyPlain_151 (by decide) ?_
                  refine lv_iinc (v := (nI (i + 1))) (lv' := [(7, .int (nI (i + 1))), (8, .int r_166), (6, .int s7), (5, .int (nI kt)), (4, .int (nI kend)), (3, .int (nI j)), (2, .int (nI w2)), (0, .ref h0), (1, .int x1)]) hx hb dX15_bodyPlain_184 hl (k := 1) rfl (nI_1 _) (by decide) rfl (fun ls hl => ?_)
                  refine lv_goto (tgt := 109) hx hb dX15_bodyPlain_187 (by decide) ?_
                  refine W.widen (k := 0) (n := 0) (by omega) (by omega) ?_
                  exact ih_113 ((i + 1), (a2 ++ [(2, 32)] ++ [(0, i)]), 0) F_188 (⟨⟨by omega, by omega⟩, bl_b hc2 (by omega) (hfe.2.2.1 i (by omega) (by omega)) (fun q => clg1n (ifb0 hw_168 c_176) q.2) (by decide), by rw [len1, len1]; omega, Or.inl rfl, Or.inl ⟨rfl, Or.inr (Or.inr (by rw [Nat.add_sub_cancel]; exact clg1n (ifb0 hw_168 c_176)))⟩, Or.inr (Or.inr ⟨by omega, a2 ++ [(2, 32)], by rw [Nat.add_sub_cancel]⟩), (by rw [pd_0, List.append_nil, len1, len1]; exact hq_189)⟩) (by show kt - (i + 1) < kt - i; omega) hO hR _ _ hP hD hS ls (lv_sub hl [0, 2, 3, 4, 5, 6, 7, 8] rfl)
        ·
          refine lv_iload hx hb dX15_bodyPlain_93 (lv_at hl 0 rfl) ?_
          refine lv_iload_n hx hb dX15_bodyPlain_95 rfl (lv_at hl 2 rfl) ?_
          refine lv_icmp_le (tgt := 103) hx hb dX15_bodyPlain_96 (by decide) (fun c_192 => ?_) (fun c_192 => ?_)
          ·
            have hi_193 : kt ≤ j := (nI_leI (a := kt) (b := j) (by omega) (by omega)).mp c_192
            refine lv_iconst (v := 0) hx hb dX15_bodyPlain_103 (by decide) ?_
            refine W.widen (k := 0) (n := 0) (by omega) (by omega) ?_
            exact jn_102 0 F_96 (⟨Or.inl ⟨rfl, by omega⟩, hkt3⟩) hO hR _ _ hP hD hS ls (lv_sub hl [0, 1, 2, 3, 4, 5] rfl)
          ·
            have hi_194 : j < kt := Nat.not_le.mp (fun q => c_192 ((nI_leI (a := kt) (b := j) (by omega) (by omega)).mpr q))
            refine lv_iconst (v := 1) hx hb dX15_bodyPlain_99 (by decide) ?_
            refine lv_goto (tgt := 104) hx hb dX15_bodyPlain_100 (by decide) ?_
            refine W.widen (k := 0) (n := 0) (by omega) (by omega) ?_
            exact jn_102 1 F_96 (⟨Or.inr ⟨rfl, by omega⟩, hkt3⟩) hO hR _ _ hP hD hS ls (lv_sub hl [0, 1, 2, 3, 4, 5] rfl)
      ·
        refine lv_iload_n hx hb dX15_bodyPlain_62 rfl (lv_at hl 5 rfl) ?_
        refine lv_if_eq (tgt := 93) hx hb dX15_bodyPlain_63 (by decide) (fun c_195 => ?_) (fun c_195 => ?_)
        ·
          refine W.widen (k := 0) (n := 0) (by omega) (by omega) ?_
          exact jn_95 (nI e9) F_89 (⟨⟨e9, hfe1, Nat.le_refl _, rfl, Or.inl rfl, Or.inl c_195⟩, hks3⟩) hO hR _ _ hP hD hS ls (lv_sub hl [0, 1, 2, 3, 4, 5] rfl)
        ·
          refine W.widen (k := 0) (n := 0) (by omega) (by omega) ?_
          have hF_197 : F ml = .inl (cs 17, 3000, .inl gl) := (hR ml (by rw [ht_32]; simp)).symm.trans hF_93
          have hF_198 : F h0 = .inr (15, (.ref ta) :: (.int (nI zt)) :: (.int (nI zo)) :: (.int (nI ze)) :: (.ref ou) :: (.ref so) :: (.ref ad) :: (.ref na) :: (.ref va) :: (.ref lc) :: (.ref dm) :: (.int (nI fm)) :: (.int (nI sn)) :: (.ref tg) :: (.int v14_35) :: (.int v15_36) :: (.ref pe) :: (.int v17_37) :: (.int v18_38) :: (.int v19_39) :: (.int v20_40) :: (.int v21_41) :: (.int v22_42) :: (.ref ml) :: (.ref bg) :: (.ref co) :: (.ref sp) :: (.ref nb0) :: (.ref nb1) :: (.ref nb2) :: (.int (nI nf)) :: (.int (nI bd)) :: (.int (nI mm)) :: (.int v33_43) :: (.ref pl) :: (.ref se) :: (.ref ke) :: (.ref wi) :: (.ref hs) :: (.ref mo) :: (.ref po) :: (.ref nu) :: (.ref pr) :: (.ref sq) :: (.ref xa) :: (.ref sa) :: (.ref n64) :: (.ref m64) :: (.ref ex) :: (.ref wh) :: (.ref sd) :: (.ref tk) :: (.int v52_44) :: (.int v53_45) :: (.int v54_46) :: (.ref hd) :: (.ref ak) :: (.ref ho) :: (.ref ot) :: []) := (hR h0 (by rw [hT_h0]; simp)).symm.trans hF_94
          refine pl_loopm (σ := Nat) A (dC, dI) cs ty gm L [ρ + 10] F 66 9 (fun kx => [(5, .int (nI kx)), (4, .int (nI kend)), (3, .int (nI j)), (2, .int (nI w2)), (0, .ref h0), (1, .int x1)]) (fun kx => []) (fun kx FF => j ≤ kx ∧ kx ≤ e9 ∧ (∀ i, kx ≤ i → i < e9 → clr gl i = 1) ∧ FF pl = .inr (14, [.ref rl, .int (nI aa.length)])) (fun kx => kx) ?_ e9 F_89 (⟨by omega, by omega, fun i h1 h2 => absurd h2 (by omega), hks3⟩) hO hR _ _ hP hD hS ls (lv_sub hl [0, 1, 2, 3, 4, 5] rfl)
          rintro kx F_196 hv_199 hO hR ih_200 H locs hP hD hS ls hl
          have hl : lv_has ls 9 [(5, .int (nI kx)), (4, .int (nI kend)), (3, .int (nI j)), (2, .int (nI w2)), (0, .ref h0), (1, .int x1)] := hl
          have hv_199 : j ≤ kx ∧ kx ≤ e9 ∧ (∀ i, kx ≤ i → i < e9 → clr gl i = 1) ∧ F_196 pl = .inr (14, [.ref rl, .int (nI aa.length)]) := hv_199
          refine W.eq (g2 := F0 m 66 ls []) rfl ?_
          have hF_201 : F_196 ml = .inl (cs 17, 3000, .inl gl) := (hR ml (by rw [ht_32]; simp)).trans hF_197
          have hF_202 : F_196 h0 = .inr (15, (.ref ta) :: (.int (nI zt)) :: (.int (nI zo)) :: (.int (nI ze)) :: (.ref ou) :: (.ref so) :: (.ref ad) :: (.ref na) :: (.ref va) :: (.ref lc) :: (.ref dm) :: (.int (nI fm)) :: (.int (nI sn)) :: (.ref tg) :: (.int v14_35) :: (.int v15_36) :: (.ref pe) :: (.int v17_37) :: (.int v18_38) :: (.int v19_39) :: (.int v20_40) :: (.int v21_41) :: (.int v22_42) :: (.ref ml) :: (.ref bg) :: (.ref co) :: (.ref sp) :: (.ref nb0) :: (.ref nb1) :: (.ref nb2) :: (.int (nI nf)) :: (.int (nI bd)) :: (.int (nI mm)) :: (.int v33_43) :: (.ref pl) :: (.ref se) :: (.ref ke) :: (.ref wi) :: (.ref hs) :: (.ref mo) :: (.ref po) :: (.ref nu) :: (.ref pr) :: (.ref sq) :: (.ref xa) :: (.ref sa) :: (.ref n64) :: (.ref m64) :: (.ref ex) :: (.ref wh) :: (.ref sd) :: (.ref tk) :: (.int v52_44) :: (.int v53_45) :: (.int v54_46) :: (.ref hd) :: (.ref ak) :: (.ref ho) :: (.ref ot) :: []) := (hR h0 (by rw [hT_h0]; simp)).trans hF_198
          obtain ⟨hb1, hb2, hb3, hb4⟩ := id hv_199
          refine lv_iload hx hb dX15_bodyPlain_66 (lv_at hl 0 rfl) ?_
          refine lv_iload_n hx hb dX15_bodyPlain_68 rfl (lv_at hl 2 rfl) ?_
          refine lv_icmp_le (tgt := 93) hx hb dX15_bodyPlain_69 (by decide) (fun c_203 => ?_) (fun c_203 => ?_)
          ·
            have hi_204 : kx ≤ j := (nI_leI (a := kx) (b := j) (by omega) (by omega)).mp c_203
            refine W.widen (k := 0) (n := 0) (by omega) (by omega) ?_
            exact jn_95 (nI kx) F_196 (⟨⟨kx, by omega, by omega, rfl, Or.inr ⟨c_195, hb3⟩, Or.inr (Or.inl (by omega))⟩, hb4⟩) hO hR _ _ hP hD hS ls (lv_sub hl [0, 1, 2, 3, 4, 5] rfl)
          ·
            have hi_205 : j < kx := Nat.not_le.mp (fun q => c_203 ((nI_leI (a := kx) (b := j) (by omega) (by omega)).mpr q))
            refine lv_aload_n hx hb dX15_bodyPlain_72 rfl (lv_at hl 4 rfl) ?_
            refine pg_get (ci := 15) (v := .ref ml) (C := RX15) (T := TX15) (N := 59) hx hb hts it_15 hown hK hP hL_h0 hF_202 rfl 23 (by decide) (hts _ kt_887) (fun _ h9 => h9) rfl dX15_bodyPlain_73 ?_
            refine lv_iload hx hb dX15_bodyPlain_76 (lv_at hl 0 rfl) ?_
            refine lv_iconst (v := 1) hx hb dX15_bodyPlain_78 (by decide) ?_
            refine lv_isub hx hb dX15_bodyPlain_79 ?_
            refine lv_topi (fun x_206 ex_206 => ?_)
            obtain rfl : x_206 = (nI (kx - 1)) := ex_206.trans (pk_sub (a := kx) (b := 1) (by omega))
            refine pg_bald hx hb hK hP hi_31 1 hF_201 rfl (vp_in_nI (by omega) (by omega)) dX15_bodyPlain_80 ?_
            refine lv_topi (fun x_207 ex_207 => ?_)
            obtain rfl : x_207 = gl (kx - 1) := ex_207.trans (congrArg gl (show ((nI (kx - 1)) : Int32).toNatClampNeg = (kx - 1) from nI_clamp (by omega)))
            have hFc := pg_free hD hS hA
            refine va_calli (va_runS (As := [.int (gl (kx - 1))]) (rest := []) ⟨hx, hb, hml, hown, hts⟩ (s_X15_isWhite_e l dC dI cs ty gm L H.size F_196 (gl (kx - 1)) hW ) ⟨callB_of 1 hts (gi kt_715) rfl rfl rfl (hts _ kt_669) (hts _ kt_716) (by decide +kernel) ⟨Nat.le_of_ble_eq_true rfl, Nat.le_of_ble_eq_true rfl⟩, (hts _ kt_717)⟩ ⟨fun a U g mk q => ⟨q.1, PTm.calling q.2⟩, fun U hU hWm => ⟨rfl, PTm.mk hU hWm hP hK hD hE hO⟩⟩ rfl rfl hl.1 rfl (lv_room (Nat.le_of_ble_eq_true rfl)) dX15_bodyPlain_81 ⟨by show _ + 0 ≤ 0; omega, by show _ + 0 ≤ 0; omega⟩) hS (fun q _ h => hFc q h) hFc (fun r_208 u t H1 locs ht hvm hw hB hz1 hk1 hS => ?_)
            obtain ⟨F_209, hB1⟩ := hB
            obtain rfl : F_196 = F_209 := (funext (fun a => hB1.2.2.2 a List.not_mem_nil)).symm
            obtain ⟨hP, hD, hO, hR⟩ := QTm.back hB1 ht hFc hR (fun q h => absurd h List.not_mem_nil)
            generalize H1 = H at hP hS ⊢
            have hw : r_208 = (if (gl (kx - 1)) = 32 ∨ (gl (kx - 1)) = 9 then 1 else 0) := hw
            have hw_210 := hw
            refine lv_if_eq (tgt := 93) hx hb dX15_bodyPlain_84 (by decide) (fun c_211 => ?_) (fun c_211 => ?_)
            ·
              refine W.widen (k := 0) (n := 0) (by omega) (by omega) ?_
              exact jn_95 (nI kx) F_196 (⟨⟨kx, by omega, by omega, rfl, Or.inr ⟨c_195, hb3⟩, Or.inr (Or.inr (clg1n (ifb0 hw_210 c_211)))⟩, hb4⟩) hO hR _ _ hP hD hS ls (lv_sub hl [0, 1, 2, 3, 4, 5] rfl)
            ·
              refine lv_iinc (v := (nI (kx - 1))) (lv' := [(5, .int (nI (kx - 1))), (4, .int (nI kend)), (3, .int (nI j)), (2, .int (nI w2)), (0, .ref h0), (1, .int x1)]) hx hb dX15_bodyPlain_87 hl (k := 0) rfl (m1N (by omega)) (by decide) rfl (fun ls hl => ?_)
              refine lv_goto (tgt := 66) hx hb dX15_bodyPlain_90 (by decide) ?_
              refine W.widen (k := 0) (n := 0) (by omega) (by omega) ?_
              exact ih_200 (kx - 1) F_196 (⟨by omega, by omega, fun i h1 h2 => by rcases Nat.lt_or_ge i kx with q | q; rw [show i = kx - 1 by omega]; exact clg1 (ifb1 hw_210 c_211); exact hb3 i q h2, hb4⟩) (by show (kx - 1) < kx; omega) hO hR _ _ hP hD hS ls (lv_sub hl [0, 1, 2, 3, 4, 5] rfl)
    ·
      refine lv_aload_n hx hb dX15_bodyPlain_37 rfl (lv_at hl 3 rfl) ?_
      refine pg_get (ci := 15) (v := .ref ml) (C := RX15) (T := TX15) (N := 59) hx hb hts it_15 hown hK hP hL_h0 hF_67 rfl 23 (by decide) (hts _ kt_887) (fun _ h9 => h9) rfl dX15_bodyPlain_38 ?_
      refine lv_iload hx hb dX15_bodyPlain_41 (lv_at hl 0 rfl) ?_
      refine lv_iconst (v := 1) hx hb dX15_bodyPlain_43 (by decide) ?_
      refine lv_isub hx hb dX15_bodyPlain_44 ?_
      refine lv_topi (fun x_212 ex_212 => ?_)
      obtain rfl : x_212 = (nI (kend - 1)) := ex_212.trans (pk_sub (a := kend) (b := 1) (by omega))
      refine pg_bald hx hb hK hP hi_31 1 hF_66 rfl (vp_in_nI (by omega) (by omega)) dX15_bodyPlain_45 ?_
      refine lv_topi (fun x_213 ex_213 => ?_)
      obtain rfl : x_213 = gl (kend - 1) := ex_213.trans (congrArg gl (show ((nI (kend - 1)) : Int32).toNatClampNeg = (kend - 1) from nI_clamp (by omega)))
      refine lv_bipush (v := 10) hx hb dX15_bodyPlain_46 (by decide) ?_
      refine lv_icmp_ne (tgt := 58) hx hb dX15_bodyPlain_48 (by decide) (fun c_214 => ?_) (fun c_214 => ?_)
      ·
        refine lv_iload hx hb dX15_bodyPlain_58 (lv_at hl 0 rfl) ?_
        refine W.widen (k := 0) (n := 0) (by omega) (by omega) ?_
        exact jn_88 (nI kend) F_61 (⟨by rw [show kend = e9 by (rcases Nat.lt_or_ge e9 mm with q | q; exact absurd (clg_0 (hfe.2.2.2.resolve_left (by omega))) (by rw [show e9 = kend - 1 by omega]; exact c_214); omega)], ha4⟩) hO hR _ _ hP hD hS ls (lv_sub hl [0, 1, 2, 3, 4] rfl)
      ·
        refine lv_iload hx hb dX15_bodyPlain_51 (lv_at hl 0 rfl) ?_
        refine lv_iconst (v := 1) hx hb dX15_bodyPlain_53 (by decide) ?_
        refine lv_isub hx hb dX15_bodyPlain_54 ?_
        refine lv_topi (fun x_215 ex_215 => ?_)
        obtain rfl : x_215 = (nI (kend - 1)) := ex_215.trans (pk_sub (a := kend) (b := 1) (by omega))
        refine lv_goto (tgt := 60) hx hb dX15_bodyPlain_55 (by decide) ?_
        refine W.widen (k := 0) (n := 0) (by omega) (by omega) ?_
        exact jn_88 (nI (kend - 1)) F_61 (⟨by rw [show kend - 1 = e9 by (rcases Nat.lt_or_ge e9 mm with q | q; omega; exact absurd (clg0 (S := FSR) c_214) (hfe.2.2.1 (kend - 1) (by omega) (by omega)))], ha4⟩) hO hR _ _ hP hD hS ls (lv_sub hl [0, 1, 2, 3, 4] rfl)
