def RTX (X : Option TRA) (u17 u18 u19 u20 u21 u22 : Int32) : Prop := (X = none ∧ u17 = 8) ∨ ∃ (k g st q w : Nat) (y : Int32), X = some (k, g, st, q, w, y) ∧ (1 ≤ k ∧ k ≤ 8) ∧ u17 = nI (k - 1) ∧ u18 = nI g ∧ ((k = 2 ∨ k = 6 ∨ k = 7) → u19 = nI st ∧ u20 = nI q) ∧ ((k = 3 ∨ k = 4) → (st = q ∧ u19 = (-1)) ∨ (st < q ∧ u19 = nI st ∧ u20 = nI q)) ∧ ((k = 3 ∨ k = 4 ∨ k = 5) → w ≤ 32 ∧ u21 = nI w) ∧ (k = 5 → u22 = y)
theorem rtx_no {X : Option TRA} {u17 u18 u19 u20 u21 u22 : Int32} (h : X = none) (h8 : u17 = 8) : RTX X u17 u18 u19 u20 u21 u22 := Or.inl ⟨h, h8⟩
theorem rtx_all {X : Option TRA} {g b : Nat} {u19 u20 u21 u22 : Int32} (h : X = some (1, g, b, b, 32, 0)) : RTX X 0 (nI g) u19 u20 u21 u22 := Or.inr ⟨1, g, b, b, 32, 0, h, by omega, rfl, rfl, fun q => by omega, fun q => by omega, fun q => by omega, fun q => by omega⟩
theorem rtx_d {X : Option TRA} {k g st b : Nat} {u17 u21 u22 : Int32} (hk : k = 2 ∨ k = 6 ∨ k = 7) (h : X = some (k, g, st, b, 32, 0)) (h17 : u17 = nI (k - 1)) : RTX X u17 (nI g) (nI st) (nI b) u21 u22 := Or.inr ⟨k, g, st, b, 32, 0, h, by omega, h17, rfl, fun _ => ⟨rfl, rfl⟩, fun q => by omega, fun q => by omega, fun q => by omega⟩
theorem rtx_o {X : Option TRA} {b : Nat} {u18 u19 u20 u21 u22 : Int32} (h : X = some (8, 43, b, b, 32, 0)) (h18 : u18 = nI 43) : RTX X 7 u18 u19 u20 u21 u22 := Or.inr ⟨8, 43, b, b, 32, 0, h, by omega, rfl, h18, fun q => by omega, fun q => by omega, fun q => by omega, fun q => by omega⟩
theorem rhp_rtx {T : Nat → Nat} {k g h b : Nat} {x4 u17 u19 u20 u21 u22 : Int32} (hp : RHP T h b x4 u17 u19 u20 u21) (hb : h ≤ b) (hx : x4 = nI (k - 1)) (hk : k = 3 ∨ k = 4) : RTX (hoW T k g h b) u17 (nI g) u19 u20 u21 u22 := by
  have hq : h ≤ fdT T 47 h b := (fdT_le (T := T) (c := 47) (b - h) h).1
  rcases hp with ⟨p1, p2⟩ | ⟨p1, p2, ⟨w, p3, p4, p5⟩, p6⟩
  · refine rtx_no ?_ p1
    unfold hoW
    cases e : btT T b (fdT T 47 h b) with
    | none => rfl
    | some w =>
      show (if 32 < w then none else if fdT T 47 h b = h then _ else _) = none
      by_cases c1 : 32 < w
      · rw [if_pos c1]
      · rw [if_neg c1]
        by_cases c2 : fdT T 47 h b = h
        · exact absurd ⟨⟨w, by omega, e⟩, fun q => by omega⟩ p2
        · rw [if_neg c2, if_neg (fun q => p2 ⟨⟨w, by omega, e⟩, fun _ => q⟩)]
  · have e9 : hoW T k g h b = (if fdT T 47 h b = h then some (k, g, h, h, w, 0) else @ite (Option TRA) (T h = 58 ∧ HSW T (h + 1) (fdT T 47 h b)) (Classical.propDecidable _) (some (k, g, h + 1, fdT T 47 h b, w, 0)) none) := by
      unfold hoW
      rw [p4]
      exact if_neg (by omega)
    rcases p6 with ⟨q1, q2⟩ | ⟨q1, q2, q3⟩
    · rw [if_pos q1] at e9
      exact Or.inr ⟨k, g, h, h, w, 0, e9, by omega, p1.trans hx, rfl, fun q => by omega, fun _ => Or.inl ⟨rfl, q2⟩, fun _ => ⟨p3, p5⟩, fun q => by omega⟩
    · have r1 := p2.2 q1
      rw [if_neg (by omega), if_pos r1] at e9
      exact Or.inr ⟨k, g, h + 1, fdT T 47 h b, w, 0, e9, by omega, p1.trans hx, rfl, fun q => by omega, fun _ => Or.inr ⟨r1.2.1, q2, q3⟩, fun _ => ⟨p3, p5⟩, fun q => by omega⟩
theorem ip4_fd {T : Nat → Nat} {w b : Nat} (h : BGW T w b 4 [105, 112, 52, 58]) : fdT T 47 w b = fdT T 47 (w + 4) b := by
  have h0 : T (w + 0) = 105 := h.2 0 (by decide)
  have h1 : T (w + 1) = 112 := h.2 1 (by decide)
  have h2 : T (w + 1 + 1) = 52 := h.2 2 (by decide)
  have h3 : T (w + 1 + 1 + 1) = 58 := h.2 3 (by decide)
  have hb := h.1
  have h4 : T w = 105 := h0
  rw [fdT_s (a := w) (by omega) (by omega), fdT_s (a := w + 1) (by omega) (by omega), fdT_s (a := w + 1 + 1) (by omega) (by omega), fdT_s (a := w + 1 + 1 + 1) (by omega) (by omega)]
theorem ip_y {T : Nat → Nat} {g st b q : Nat} {x u19 u20 uq : Int32} (hw : WDT T b q x) (c : ¬ x < 0) (hq : qdT T st q = some (4, uq)) : RTX (tnN T 5 g st q (btT T b q)) 4 (nI g) u19 u20 x uq := by
  obtain ⟨w, w1, w2, w3⟩ := wdt_y hw (Int32.not_lt.mp c)
  have e9 : tnN T 5 g st q (btT T b q) = some (5, g, st, q, w, uq) := by
    rw [w2]
    show (if 32 < w then none else if (5 : Nat) = 5 then tnQ 5 g st q w (qdT T st q) else _) = _
    rw [if_neg (by omega), if_pos rfl, hq]
    exact (if_pos rfl : (if (4 : Nat) = 4 then some ((5 : Nat), g, st, q, w, uq) else none) = some ((5 : Nat), g, st, q, w, uq))
  exact Or.inr ⟨5, g, st, q, w, uq, e9, by omega, rfl, rfl, fun h => by omega, fun h => by omega, fun _ => ⟨w1, w3⟩, fun _ => rfl⟩
theorem ip_n {T : Nat → Nat} {g st b q : Nat} (h : (∀ w, btT T b q = some w → 32 < w) ∨ ∀ y, ¬ qdT T st q = some (4, y)) : tnN T 5 g st q (btT T b q) = none := by
  cases e : btT T b q with
  | none => rfl
  | some w =>
    show (if 32 < w then none else if (5 : Nat) = 5 then tnQ 5 g st q w (qdT T st q) else _) = none
    by_cases c : 32 < w
    · rw [if_pos c]
    · rw [if_neg c, if_pos rfl]
      have h9 := h.resolve_left (fun q2 => c (q2 w e))
      cases e2 : qdT T st q with
      | none => rfl
      | some y =>
        by_cases d : y.1 = 4
        · exact absurd (show qdT T st q = some (4, y.2) by rw [e2, ← d]) (h9 y.2)
        · exact if_neg d
theorem rtx_me {T : Nat → Nat} {a b : Nat} {u17 u18 u19 u20 u21 u22 : Int32} (h : RTX (meW T (wdS T a) b (sgS T a)) u17 u18 u19 u20 u21 u22) (h8 : ¬ u17 = 8) : RTX (trT T a b) u17 u18 u19 u20 u21 u22 := by
  rcases h with h | ⟨k, g, st, q, w, y, h, hr⟩
  · exact absurd h.2 h8
  · refine Or.inr ⟨k, g, st, q, w, y, ?_, hr⟩
    rw [← rm_tr]
    unfold rmT
    rw [h]
    rfl
theorem me_none {T : Nat → Nat} {a b : Nat} {u17 u18 u19 u20 u21 u22 : Int32} (h : RTX (meW T (wdS T a) b (sgS T a)) u17 u18 u19 u20 u21 u22) (h8 : u17 = 8) : meW T (wdS T a) b (sgS T a) = none := by
  rcases h with h | ⟨k, g, st, q, w, y, h, h1, h2, -⟩
  · exact h.1
  · have h9 : nI (k - 1) = nI 8 := h2.symm.trans h8
    have h7 := (nI_eq (by omega) (by omega)).mp h9
    omega
theorem tr_sg {T : Nat → Nat} {a b : Nat} (hm : meW T (wdS T a) b (sgS T a) = none) (hS : SGN (T a)) : trT T a b = none := by
  rw [← rm_tr]
  unfold rmT
  rw [hm]
  exact if_pos hS
theorem tr_tl {T : Nat → Nat} {a b : Nat} (hm : meW T (wdS T a) b (sgS T a) = none) (hS : ¬ SGN (T a)) : trT T a b = tlW T a b := by
  rw [← rm_tr]
  unfold rmT
  rw [hm]
  exact if_neg hS
def OKX (T : Nat → Nat) (w j : Nat) : Prop := OKO (T j) ∧ (j = w → SML (T j))
theorem oth_lp {T : Nat → Nat} {w b j : Nat} (hw : w ≤ j) (hj : j ≤ b) (h : ∀ i, w ≤ i → i < j → OKX T w i) (hs : b ≤ j ∨ ¬ OKX T w j) : OTH T w b ↔ (w < j ∧ j < b ∧ T j = 61) := by
  have no61 : ¬ OKO 61 := by
    unfold OKO SML
    omega
  constructor
  · intro q
    obtain ⟨e1, e2⟩ := oth_e q
    have e3 := q.1
    have ej : j = fdT T 61 w b := by
      rcases Nat.lt_trichotomy j (fdT T 61 w b) with c | c | c
      · exact absurd ⟨q.2.2 j hw c, fun d => by rw [d]; exact q.2.1⟩ (hs.resolve_left (by omega))
      · exact c
      · have h9 := (h (fdT T 61 w b) e2 c).1
        rw [e1] at h9
        exact absurd h9 no61
    rw [← ej] at e1 e3
    refine ⟨?_, e3, e1⟩
    rcases Nat.lt_or_ge w j with c | c
    · exact c
    · have h9 := q.2.1
      rw [show w = j by omega, e1] at h9
      unfold SML at h9
      omega
  · rintro ⟨q1, q2, q3⟩
    have ej : fdT T 61 w b = j := fdw_of (b - w) w hw (by omega) (fun i h1 h2 q => by have h9 := (h i h1 h2).1; rw [q] at h9; exact no61 h9) (Or.inr q3)
    refine ⟨by omega, (h w (Nat.le_refl _) q1).2 rfl, fun i h1 h2 => (h i h1 (by omega)).1⟩
set_option maxHeartbeats 4000000 in
set_option maxRecDepth 100000 in
theorem s_X15_readTerm_x (l : Launch) (dC : Nat → ClassId) (dI : Nat → Nat → Nat) (cs : Nat → ClassId) (ty : TyM) (gm : Nat → Nat → Nat) (L : List Nat) (sz : Nat) (F : Nat → va_E) (h0 : Nat) (ρ : Nat) (ta : Nat) (ou : Nat) (so : Nat) (ad : Nat) (na : Nat) (va : Nat) (lc : Nat) (dm : Nat) (tg : Nat) (pe : Nat) (ml : Nat) (bg : Nat) (co : Nat) (sp : Nat) (nb0 : Nat) (nb1 : Nat) (nb2 : Nat) (pl : Nat) (se : Nat) (ke : Nat) (wi : Nat) (hs : Nat) (mo : Nat) (po : Nat) (nu : Nat) (pr : Nat) (sq : Nat) (xa : Nat) (sa : Nat) (n64 : Nat) (m64 : Nat) (ex : Nat) (wh : Nat) (sd : Nat) (tk : Nat) (hd : Nat) (ak : Nat) (ho : Nat) (ot : Nat) (sx : Nat) (s0 : Nat) (s1 : Nat) (s2 : Nat) (nf : Nat) (bd : Nat) (mm : Nat) (zo : Nat) (fm : Nat) (sn : Nat) (hg : Nat) (gc : Nat) (gv : Nat) (ze : Nat) (zt : Nat) (v14 : Int32) (v15 : Int32) (v17 : Int32) (v18 : Int32) (v19 : Int32) (v20 : Int32) (v21 : Int32) (v22 : Int32) (v33 : Int32) (v52 : Int32) (v53 : Int32) (v54 : Int32) (g1 : Nat) (μ : Nat) (fv : Nat → Int32) (z : Nat) (a : Nat) (tt : Nat) (hW : WTm ty gm L) (hL_h0 : h0 ∈ L) (hT_h0 : ty h0 = (15, ρ, [ta, ou, so, ad, na, va, lc, dm, tg, pe, ml, bg, co, sp, nb0, nb1, nb2, pl, se, ke, wi, hs, mo, po, nu, pr, sq, xa, sa, n64, m64, ex, wh, sd, tk, hd, ak, ho, ot, sx, s0, s1, s2, nf, bd, mm, zo, fm, sn, hg, gc, gv, ze, zt])) (hL_g1 : g1 ∈ L) (hT_g1 : ty g1 = (17, μ, [700])) (hF0 : F h0 = .inr (15, (.ref ta) :: (.int (nI zt)) :: (.int (nI zo)) :: (.int (nI ze)) :: (.ref ou) :: (.ref so) :: (.ref ad) :: (.ref na) :: (.ref va) :: (.ref lc) :: (.ref dm) :: (.int (nI fm)) :: (.int (nI sn)) :: (.ref tg) :: (.int v14) :: (.int v15) :: (.ref pe) :: (.int v17) :: (.int v18) :: (.int v19) :: (.int v20) :: (.int v21) :: (.int v22) :: (.ref ml) :: (.ref bg) :: (.ref co) :: (.ref sp) :: (.ref nb0) :: (.ref nb1) :: (.ref nb2) :: (.int (nI nf)) :: (.int (nI bd)) :: (.int (nI mm)) :: (.int v33) :: (.ref pl) :: (.ref se) :: (.ref ke) :: (.ref wi) :: (.ref hs) :: (.ref mo) :: (.ref po) :: (.ref nu) :: (.ref pr) :: (.ref sq) :: (.ref xa) :: (.ref sa) :: (.ref n64) :: (.ref m64) :: (.ref ex) :: (.ref wh) :: (.ref sd) :: (.ref tk) :: (.int v52) :: (.int v53) :: (.int v54) :: (.ref hd) :: (.ref ak) :: (.ref ho) :: (.ref ot) :: [])) (hzo : zo ≤ 6000) (hze : ze ≤ 40) (h33 : ((v33 = 0 ∧ nf = 0) ∨ (v33 = 1 ∧ 1 ≤ nf))) (h54 : (v54 = 0 ∨ v54 = 1)) (hgf : (hg = 0 ∨ (v14 = nI gc ∧ v15 = nI gv))) (hFg : F g1 = .inl (cs 17, 700, .inl fv)) (hmu : ρ + 100 ≤ μ) (htz : tt ≤ z) (hzn : z ≤ 700) (hat : a < tt) : Met l yX15_readTerm (.code yX15_readTerm cX15_readTerm 7 none :: tb) ({ frames := 6, cells := 0, slots := 0, locals := 132 }) (va_Pc [.ref h0, .ref g1, .int (nI a), .int (nI tt)] (PTEm (dC, dI) cs ty gm L F sz [])) (va_Qv (fun _ : Unit => True) (fun _ T9 => ∃ F2 : Nat → va_E, ∃ u17 : Int32, ∃ u18 : Int32, ∃ u19 : Int32, ∃ u20 : Int32, ∃ u21 : Int32, ∃ u22 : Int32, QTm (dC, dI) cs ty gm L [ρ] F F2 (va_A (va_pl L F) sz) T9 ∧ F2 h0 = .inr (15, (.ref ta) :: (.int (nI zt)) :: (.int (nI zo)) :: (.int (nI ze)) :: (.ref ou) :: (.ref so) :: (.ref ad) :: (.ref na) :: (.ref va) :: (.ref lc) :: (.ref dm) :: (.int (nI fm)) :: (.int (nI sn)) :: (.ref tg) :: (.int v14) :: (.int v15) :: (.ref pe) :: (.int u17) :: (.int u18) :: (.int u19) :: (.int u20) :: (.int u21) :: (.int u22) :: (.ref ml) :: (.ref bg) :: (.ref co) :: (.ref sp) :: (.ref nb0) :: (.ref nb1) :: (.ref nb2) :: (.int (nI nf)) :: (.int (nI bd)) :: (.int (nI mm)) :: (.int v33) :: (.ref pl) :: (.ref se) :: (.ref ke) :: (.ref wi) :: (.ref hs) :: (.ref mo) :: (.ref po) :: (.ref nu) :: (.ref pr) :: (.ref sq) :: (.ref xa) :: (.ref sa) :: (.ref n64) :: (.ref m64) :: (.ref ex) :: (.ref wh) :: (.ref sd) :: (.ref tk) :: (.int v52) :: (.int v53) :: (.int v54) :: (.ref hd) :: (.ref ak) :: (.ref ho) :: (.ref ot) :: []) ∧ RTX (trT (TC fv z) a tt) u17 u18 u19 u20 u21 u22) (va_A (va_pl L F) sz)) 0 0 (va_A (va_pl L F) sz) := by
  refine Met.ofW (cc := cX15_readTerm) (maxL := 7) (ret := none) (by decide) rfl ?_
  intro p e s m args below meth c s₁ B hml hv
  obtain ⟨rfl, ⟨hsz, hP, hK, hD0, hE, hO⟩, hG, hX⟩ := hv
  have hx := B.exec
  have hb := B.bytes
  have hr := B.returns
  have hts : ∀ w ∈ tb, w.before _ s = true := fun w h => atoms_spec (ws := .code yX15_readTerm cX15_readTerm 7 none :: tb) B.pre w (List.mem_cons_of_mem _ h)
  have hown : s.vm.findClass RX15 = some m.cls := findClass_of_methodNamed B.named
  have hlocks := B.notSynchronized
  subst hsz
  have hD := hD0.self (sz := s.heap.size)
  generalize hAe : va_A (va_pl L F) s.heap.size = A at hD hG hX ⊢
  have hA : ∀ q : Nat, s.heap.size ≤ q → A q := fun q h => by rw [← hAe]; exact Or.inr h
  have hS : va_S A s.heap s.heap [] := va_S.rf
  have hR : FR ty [ρ] F F := FR.refl
  have hl := lv_entry ([.ref h0, .ref g1, .int (nI a), .int (nI tt)]) (n := 7) (Nat.le_of_ble_eq_true rfl)
  rw [lg_entry_eq]
  generalize (lg_sl ([.ref h0, .ref g1, .int (nI a), .int (nI tt)]) ++ List.replicate (7 - (lg_sl ([.ref h0, .ref g1, .int (nI a), .int (nI tt)])).length) Slot.unset).toArray = ls at hl ⊢
  have hl : lv_has ls 7 [(0, .ref h0), (1, .ref g1), (2, .int (nI a)), (3, .int (nI tt))] := hl
  obtain ⟨hq_1, hq_2⟩ := hW.octs hL_g1 hT_g1
  refine lv_iload_n hx hb dX15_readTerm_0 rfl (lv_at hl 2 rfl) ?_
  refine lv_istore (lv' := [(4, .int (nI a)), (0, .ref h0), (1, .ref g1), (2, .int (nI a)), (3, .int (nI tt))]) hx hb dX15_readTerm_1 hl (by decide) rfl (fun ls hl => ?_)
  refine lv_aload_n hx hb dX15_readTerm_3 rfl (lv_at hl 1 rfl) ?_
  refine lv_bipush (v := 43) hx hb dX15_readTerm_4 (by decide) ?_
  obtain ⟨hq_25, hq_26, hq_27, hq_28, hq_29, hgO, hgA, hgB, hq_30⟩ := hW.sc hL_h0 hT_h0
  refine pg_put (ci := 15) (v := .int 43) (ty := .int) (C := RX15) (T := TX15) (N := 59) hx hb hts it_15 tyX15 tyX15_ok nmX15 hown hK hP hD hS hL_h0 hF0 rfl 18 (by decide) (hts _ kt_759) (fun _ h9 => h9) rfl (by decide +kernel) (rfl) (rfl) (Nat.le_of_ble_eq_true rfl) dX15_readTerm_6 (fun H locs hP hD hS => ?_)
  obtain ⟨F_31, he_32, hP, hD, hO, hR⟩ : ∃ G, G = va_up F h0 (.inr (15, (.ref ta) :: (.int (nI zt)) :: (.int (nI zo)) :: (.int (nI ze)) :: (.ref ou) :: (.ref so) :: (.ref ad) :: (.ref na) :: (.ref va) :: (.ref lc) :: (.ref dm) :: (.int (nI fm)) :: (.int (nI sn)) :: (.ref tg) :: (.int v14) :: (.int v15) :: (.ref pe) :: (.int v17) :: (.int 43) :: (.int v19) :: (.int v20) :: (.int v21) :: (.int v22) :: (.ref ml) :: (.ref bg) :: (.ref co) :: (.ref sp) :: (.ref nb0) :: (.ref nb1) :: (.ref nb2) :: (.int (nI nf)) :: (.int (nI bd)) :: (.int (nI mm)) :: (.int v33) :: (.ref pl) :: (.ref se) :: (.ref ke) :: (.ref wi) :: (.ref hs) :: (.ref mo) :: (.ref po) :: (.ref nu) :: (.ref pr) :: (.ref sq) :: (.ref xa) :: (.ref sa) :: (.ref n64) :: (.ref m64) :: (.ref ex) :: (.ref wh) :: (.ref sd) :: (.ref tk) :: (.int v52) :: (.int v53) :: (.int v54) :: (.ref hd) :: (.ref ak) :: (.ref ho) :: (.ref ot) :: [])) ∧ va_P (dC, dI) vwCl (va_pl L G) H ∧ va_D A (va_pl L G) ∧ OKm cs ty gm L G ∧ FR ty [ρ] F G := ⟨_, rfl, hP, hD, hO.up (shm.mod hT_h0 ⟨v14, v15, v17, 43, v19, v20, v21, v22, v33, v52, v53, v54, rfl, (by first | omega | assumption | exact Or.inl rfl | exact Or.inr rfl), (by first | omega | assumption | exact Or.inl rfl | exact Or.inr rfl), (by first | omega | assumption | exact Or.inl rfl | exact Or.inr rfl), (by first | omega | assumption | exact Or.inl rfl | exact Or.inr rfl), (by first | omega | assumption | exact Or.inl rfl | exact Or.inr rfl)⟩), hR.up hT_h0 (by simp)⟩
  have hF_33 : F_31 h0 = .inr (15, (.ref ta) :: (.int (nI zt)) :: (.int (nI zo)) :: (.int (nI ze)) :: (.ref ou) :: (.ref so) :: (.ref ad) :: (.ref na) :: (.ref va) :: (.ref lc) :: (.ref dm) :: (.int (nI fm)) :: (.int (nI sn)) :: (.ref tg) :: (.int v14) :: (.int v15) :: (.ref pe) :: (.int v17) :: (.int 43) :: (.int v19) :: (.int v20) :: (.int v21) :: (.int v22) :: (.ref ml) :: (.ref bg) :: (.ref co) :: (.ref sp) :: (.ref nb0) :: (.ref nb1) :: (.ref nb2) :: (.int (nI nf)) :: (.int (nI bd)) :: (.int (nI mm)) :: (.int v33) :: (.ref pl) :: (.ref se) :: (.ref ke) :: (.ref wi) :: (.ref hs) :: (.ref mo) :: (.ref po) :: (.ref nu) :: (.ref pr) :: (.ref sq) :: (.ref xa) :: (.ref sa) :: (.ref n64) :: (.ref m64) :: (.ref ex) :: (.ref wh) :: (.ref sd) :: (.ref tk) :: (.int v52) :: (.int v53) :: (.int v54) :: (.ref hd) :: (.ref ak) :: (.ref ho) :: (.ref ot) :: []) := by rw [he_32]; exact up_self
  have hF_34 : F_31 g1 = .inl (cs 17, 700, .inl fv) := by rw [he_32, up_ne (ne_ty hT_g1 hT_h0 (by simp))]; exact hFg
  refine lv_aload_n hx hb dX15_readTerm_9 rfl (lv_at hl 1 rfl) ?_
  refine lv_bipush (v := 8) hx hb dX15_readTerm_10 (by decide) ?_
  refine pg_put (ci := 15) (v := .int 8) (ty := .int) (C := RX15) (T := TX15) (N := 59) hx hb hts it_15 tyX15 tyX15_ok nmX15 hown hK hP hD hS hL_h0 hF_33 rfl 17 (by decide) (hts _ kt_750) (fun _ h9 => h9) rfl (by decide +kernel) (rfl) (rfl) (Nat.le_of_ble_eq_true rfl) dX15_readTerm_12 (fun H locs hP hD hS => ?_)
  obtain ⟨F_35, he_36, hP, hD, hO, hR⟩ : ∃ G, G = va_up F_31 h0 (.inr (15, (.ref ta) :: (.int (nI zt)) :: (.int (nI zo)) :: (.int (nI ze)) :: (.ref ou) :: (.ref so) :: (.ref ad) :: (.ref na) :: (.ref va) :: (.ref lc) :: (.ref dm) :: (.int (nI fm)) :: (.int (nI sn)) :: (.ref tg) :: (.int v14) :: (.int v15) :: (.ref pe) :: (.int 8) :: (.int 43) :: (.int v19) :: (.int v20) :: (.int v21) :: (.int v22) :: (.ref ml) :: (.ref bg) :: (.ref co) :: (.ref sp) :: (.ref nb0) :: (.ref nb1) :: (.ref nb2) :: (.int (nI nf)) :: (.int (nI bd)) :: (.int (nI mm)) :: (.int v33) :: (.ref pl) :: (.ref se) :: (.ref ke) :: (.ref wi) :: (.ref hs) :: (.ref mo) :: (.ref po) :: (.ref nu) :: (.ref pr) :: (.ref sq) :: (.ref xa) :: (.ref sa) :: (.ref n64) :: (.ref m64) :: (.ref ex) :: (.ref wh) :: (.ref sd) :: (.ref tk) :: (.int v52) :: (.int v53) :: (.int v54) :: (.ref hd) :: (.ref ak) :: (.ref ho) :: (.ref ot) :: [])) ∧ va_P (dC, dI) vwCl (va_pl L G) H ∧ va_D A (va_pl L G) ∧ OKm cs ty gm L G ∧ FR ty [ρ] F G := ⟨_, rfl, hP, hD, hO.up (shm.mod hT_h0 ⟨v14, v15, 8, 43, v19, v20, v21, v22, v33, v52, v53, v54, rfl, (by first | omega | assumption | exact Or.inl rfl | exact Or.inr rfl), (by first | omega | assumption | exact Or.inl rfl | exact Or.inr rfl), (by first | omega | assumption | exact Or.inl rfl | exact Or.inr rfl), (by first | omega | assumption | exact Or.inl rfl | exact Or.inr rfl), (by first | omega | assumption | exact Or.inl rfl | exact Or.inr rfl)⟩), hR.up hT_h0 (by simp)⟩
  have hF_37 : F_35 h0 = .inr (15, (.ref ta) :: (.int (nI zt)) :: (.int (nI zo)) :: (.int (nI ze)) :: (.ref ou) :: (.ref so) :: (.ref ad) :: (.ref na) :: (.ref va) :: (.ref lc) :: (.ref dm) :: (.int (nI fm)) :: (.int (nI sn)) :: (.ref tg) :: (.int v14) :: (.int v15) :: (.ref pe) :: (.int 8) :: (.int 43) :: (.int v19) :: (.int v20) :: (.int v21) :: (.int v22) :: (.ref ml) :: (.ref bg) :: (.ref co) :: (.ref sp) :: (.ref nb0) :: (.ref nb1) :: (.ref nb2) :: (.int (nI nf)) :: (.int (nI bd)) :: (.int (nI mm)) :: (.int v33) :: (.ref pl) :: (.ref se) :: (.ref ke) :: (.ref wi) :: (.ref hs) :: (.ref mo) :: (.ref po) :: (.ref nu) :: (.ref pr) :: (.ref sq) :: (.ref xa) :: (.ref sa) :: (.ref n64) :: (.ref m64) :: (.ref ex) :: (.ref wh) :: (.ref sd) :: (.ref tk) :: (.int v52) :: (.int v53) :: (.int v54) :: (.ref hd) :: (.ref ak) :: (.ref ho) :: (.ref ot) :: []) := by rw [he_36]; exact up_self
  have hF_38 : F_35 g1 = .inl (cs 17, 700, .inl fv) := by rw [he_36, up_ne (ne_ty hT_g1 hT_h0 (by simp))]; exact hF_34
  refine lv_aload_n hx hb dX15_readTerm_15 rfl (lv_at hl 1 rfl) ?_
  refine lv_iconst (v := (-1)) hx hb dX15_readTerm_16 (by decide) ?_
  refine pg_put (ci := 15) (v := .int (-1)) (ty := .int) (C := RX15) (T := TX15) (N := 59) hx hb hts it_15 tyX15 tyX15_ok nmX15 hown hK hP hD hS hL_h0 hF_37 rfl 19 (by decide) (hts _ kt_751) (fun _ h9 => h9) rfl (by decide +kernel) (rfl) (rfl) (Nat.le_of_ble_eq_true rfl) dX15_readTerm_17 (fun H locs hP hD hS => ?_)
  obtain ⟨F_39, he_40, hP, hD, hO, hR⟩ : ∃ G, G = va_up F_35 h0 (.inr (15, (.ref ta) :: (.int (nI zt)) :: (.int (nI zo)) :: (.int (nI ze)) :: (.ref ou) :: (.ref so) :: (.ref ad) :: (.ref na) :: (.ref va) :: (.ref lc) :: (.ref dm) :: (.int (nI fm)) :: (.int (nI sn)) :: (.ref tg) :: (.int v14) :: (.int v15) :: (.ref pe) :: (.int 8) :: (.int 43) :: (.int (-1)) :: (.int v20) :: (.int v21) :: (.int v22) :: (.ref ml) :: (.ref bg) :: (.ref co) :: (.ref sp) :: (.ref nb0) :: (.ref nb1) :: (.ref nb2) :: (.int (nI nf)) :: (.int (nI bd)) :: (.int (nI mm)) :: (.int v33) :: (.ref pl) :: (.ref se) :: (.ref ke) :: (.ref wi) :: (.ref hs) :: (.ref mo) :: (.ref po) :: (.ref nu) :: (.ref pr) :: (.ref sq) :: (.ref xa) :: (.ref sa) :: (.ref n64) :: (.ref m64) :: (.ref ex) :: (.ref wh) :: (.ref sd) :: (.ref tk) :: (.int v52) :: (.int v53) :: (.int v54) :: (.ref hd) :: (.ref ak) :: (.ref ho) :: (.ref ot) :: [])) ∧ va_P (dC, dI) vwCl (va_pl L G) H ∧ va_D A (va_pl L G) ∧ OKm cs ty gm L G ∧ FR ty [ρ] F G := ⟨_, rfl, hP, hD, hO.up (shm.mod hT_h0 ⟨v14, v15, 8, 43, (-1), v20, v21, v22, v33, v52, v53, v54, rfl, (by first | omega | assumption | exact Or.inl rfl | exact Or.inr rfl), (by first | omega | assumption | exact Or.inl rfl | exact Or.inr rfl), (by first | omega | assumption | exact Or.inl rfl | exact Or.inr rfl), (by first | omega | assumption | exact Or.inl rfl | exact Or.inr rfl), (by first | omega | assumption | exact Or.inl rfl | exact Or.inr rfl)⟩), hR.up hT_h0 (by simp)⟩
  have hF_41 : F_39 h0 = .inr (15, (.ref ta) :: (.int (nI zt)) :: (.int (nI zo)) :: (.int (nI ze)) :: (.ref ou) :: (.ref so) :: (.ref ad) :: (.ref na) :: (.ref va) :: (.ref lc) :: (.ref dm) :: (.int (nI fm)) :: (.int (nI sn)) :: (.ref tg) :: (.int v14) :: (.int v15) :: (.ref pe) :: (.int 8) :: (.int 43) :: (.int (-1)) :: (.int v20) :: (.int v21) :: (.int v22) :: (.ref ml) :: (.ref bg) :: (.ref co) :: (.ref sp) :: (.ref nb0) :: (.ref nb1) :: (.ref nb2) :: (.int (nI nf)) :: (.int (nI bd)) :: (.int (nI mm)) :: (.int v33) :: (.ref pl) :: (.ref se) :: (.ref ke) :: (.ref wi) :: (.ref hs) :: (.ref mo) :: (.ref po) :: (.ref nu) :: (.ref pr) :: (.ref sq) :: (.ref xa) :: (.ref sa) :: (.ref n64) :: (.ref m64) :: (.ref ex) :: (.ref wh) :: (.ref sd) :: (.ref tk) :: (.int v52) :: (.int v53) :: (.int v54) :: (.ref hd) :: (.ref ak) :: (.ref ho) :: (.ref ot) :: []) := by rw [he_40]; exact up_self
  have hF_42 : F_39 g1 = .inl (cs 17, 700, .inl fv) := by rw [he_40, up_ne (ne_ty hT_g1 hT_h0 (by simp))]; exact hF_38
  refine lv_aload_n hx hb dX15_readTerm_20 rfl (lv_at hl 1 rfl) ?_
  refine lv_iconst (v := (-1)) hx hb dX15_readTerm_21 (by decide) ?_
  refine pg_put (ci := 15) (v := .int (-1)) (ty := .int) (C := RX15) (T := TX15) (N := 59) hx hb hts it_15 tyX15 tyX15_ok nmX15 hown hK hP hD hS hL_h0 hF_41 rfl 20 (by decide) (hts _ kt_752) (fun _ h9 => h9) rfl (by decide +kernel) (rfl) (rfl) (Nat.le_of_ble_eq_true rfl) dX15_readTerm_22 (fun H locs hP hD hS => ?_)
  obtain ⟨F_43, he_44, hP, hD, hO, hR⟩ : ∃ G, G = va_up F_39 h0 (.inr (15, (.ref ta) :: (.int (nI zt)) :: (.int (nI zo)) :: (.int (nI ze)) :: (.ref ou) :: (.ref so) :: (.ref ad) :: (.ref na) :: (.ref va) :: (.ref lc) :: (.ref dm) :: (.int (nI fm)) :: (.int (nI sn)) :: (.ref tg) :: (.int v14) :: (.int v15) :: (.ref pe) :: (.int 8) :: (.int 43) :: (.int (-1)) :: (.int (-1)) :: (.int v21) :: (.int v22) :: (.ref ml) :: (.ref bg) :: (.ref co) :: (.ref sp) :: (.ref nb0) :: (.ref nb1) :: (.ref nb2) :: (.int (nI nf)) :: (.int (nI bd)) :: (.int (nI mm)) :: (.int v33) :: (.ref pl) :: (.ref se) :: (.ref ke) :: (.ref wi) :: (.ref hs) :: (.ref mo) :: (.ref po) :: (.ref nu) :: (.ref pr) :: (.ref sq) :: (.ref xa) :: (.ref sa) :: (.ref n64) :: (.ref m64) :: (.ref ex) :: (.ref wh) :: (.ref sd) :: (.ref tk) :: (.int v52) :: (.int v53) :: (.int v54) :: (.ref hd) :: (.ref ak) :: (.ref ho) :: (.ref ot) :: [])) ∧ va_P (dC, dI) vwCl (va_pl L G) H ∧ va_D A (va_pl L G) ∧ OKm cs ty gm L G ∧ FR ty [ρ] F G := ⟨_, rfl, hP, hD, hO.up (shm.mod hT_h0 ⟨v14, v15, 8, 43, (-1), (-1), v21, v22, v33, v52, v53, v54, rfl, (by first | omega | assumption | exact Or.inl rfl | exact Or.inr rfl), (by first | omega | assumption | exact Or.inl rfl | exact Or.inr rfl), (by first | omega | assumption | exact Or.inl rfl | exact Or.inr rfl), (by first | omega | assumption | exact Or.inl rfl | exact Or.inr rfl), (by first | omega | assumption | exact Or.inl rfl | exact Or.inr rfl)⟩), hR.up hT_h0 (by simp)⟩
  have hF_45 : F_43 h0 = .inr (15, (.ref ta) :: (.int (nI zt)) :: (.int (nI zo)) :: (.int (nI ze)) :: (.ref ou) :: (.ref so) :: (.ref ad) :: (.ref na) :: (.ref va) :: (.ref lc) :: (.ref dm) :: (.int (nI fm)) :: (.int (nI sn)) :: (.ref tg) :: (.int v14) :: (.int v15) :: (.ref pe) :: (.int 8) :: (.int 43) :: (.int (-1)) :: (.int (-1)) :: (.int v21) :: (.int v22) :: (.ref ml) :: (.ref bg) :: (.ref co) :: (.ref sp) :: (.ref nb0) :: (.ref nb1) :: (.ref nb2) :: (.int (nI nf)) :: (.int (nI bd)) :: (.int (nI mm)) :: (.int v33) :: (.ref pl) :: (.ref se) :: (.ref ke) :: (.ref wi) :: (.ref hs) :: (.ref mo) :: (.ref po) :: (.ref nu) :: (.ref pr) :: (.ref sq) :: (.ref xa) :: (.ref sa) :: (.ref n64) :: (.ref m64) :: (.ref ex) :: (.ref wh) :: (.ref sd) :: (.ref tk) :: (.int v52) :: (.int v53) :: (.int v54) :: (.ref hd) :: (.ref ak) :: (.ref ho) :: (.ref ot) :: []) := by rw [he_44]; exact up_self
  have hF_46 : F_43 g1 = .inl (cs 17, 700, .inl fv) := by rw [he_44, up_ne (ne_ty hT_g1 hT_h0 (by simp))]; exact hF_42
  refine lv_aload_n hx hb dX15_readTerm_25 rfl (lv_at hl 1 rfl) ?_
  refine lv_bipush (v := 32) hx hb dX15_readTerm_26 (by decide) ?_
  refine pg_put (ci := 15) (v := .int 32) (ty := .int) (C := RX15) (T := TX15) (N := 59) hx hb hts it_15 tyX15 tyX15_ok nmX15 hown hK hP hD hS hL_h0 hF_45 rfl 21 (by decide) (hts _ kt_749) (fun _ h9 => h9) rfl (by decide +kernel) (rfl) (rfl) (Nat.le_of_ble_eq_true rfl) dX15_readTerm_28 (fun H locs hP hD hS => ?_)
  obtain ⟨F_47, he_48, hP, hD, hO, hR⟩ : ∃ G, G = va_up F_43 h0 (.inr (15, (.ref ta) :: (.int (nI zt)) :: (.int (nI zo)) :: (.int (nI ze)) :: (.ref ou) :: (.ref so) :: (.ref ad) :: (.ref na) :: (.ref va) :: (.ref lc) :: (.ref dm) :: (.int (nI fm)) :: (.int (nI sn)) :: (.ref tg) :: (.int v14) :: (.int v15) :: (.ref pe) :: (.int 8) :: (.int 43) :: (.int (-1)) :: (.int (-1)) :: (.int 32) :: (.int v22) :: (.ref ml) :: (.ref bg) :: (.ref co) :: (.ref sp) :: (.ref nb0) :: (.ref nb1) :: (.ref nb2) :: (.int (nI nf)) :: (.int (nI bd)) :: (.int (nI mm)) :: (.int v33) :: (.ref pl) :: (.ref se) :: (.ref ke) :: (.ref wi) :: (.ref hs) :: (.ref mo) :: (.ref po) :: (.ref nu) :: (.ref pr) :: (.ref sq) :: (.ref xa) :: (.ref sa) :: (.ref n64) :: (.ref m64) :: (.ref ex) :: (.ref wh) :: (.ref sd) :: (.ref tk) :: (.int v52) :: (.int v53) :: (.int v54) :: (.ref hd) :: (.ref ak) :: (.ref ho) :: (.ref ot) :: [])) ∧ va_P (dC, dI) vwCl (va_pl L G) H ∧ va_D A (va_pl L G) ∧ OKm cs ty gm L G ∧ FR ty [ρ] F G := ⟨_, rfl, hP, hD, hO.up (shm.mod hT_h0 ⟨v14, v15, 8, 43, (-1), (-1), 32, v22, v33, v52, v53, v54, rfl, (by first | omega | assumption | exact Or.inl rfl | exact Or.inr rfl), (by first | omega | assumption | exact Or.inl rfl | exact Or.inr rfl), (by first | omega | assumption | exact Or.inl rfl | exact Or.inr rfl), (by first | omega | assumption | exact Or.inl rfl | exact Or.inr rfl), (by first | omega | assumption | exact Or.inl rfl | exact Or.inr rfl)⟩), hR.up hT_h0 (by simp)⟩
  have hF_49 : F_47 h0 = .inr (15, (.ref ta) :: (.int (nI zt)) :: (.int (nI zo)) :: (.int (nI ze)) :: (.ref ou) :: (.ref so) :: (.ref ad) :: (.ref na) :: (.ref va) :: (.ref lc) :: (.ref dm) :: (.int (nI fm)) :: (.int (nI sn)) :: (.ref tg) :: (.int v14) :: (.int v15) :: (.ref pe) :: (.int 8) :: (.int 43) :: (.int (-1)) :: (.int (-1)) :: (.int 32) :: (.int v22) :: (.ref ml) :: (.ref bg) :: (.ref co) :: (.ref sp) :: (.ref nb0) :: (.ref nb1) :: (.ref nb2) :: (.int (nI nf)) :: (.int (nI bd)) :: (.int (nI mm)) :: (.int v33) :: (.ref pl) :: (.ref se) :: (.ref ke) :: (.ref wi) :: (.ref hs) :: (.ref mo) :: (.ref po) :: (.ref nu) :: (.ref pr) :: (.ref sq) :: (.ref xa) :: (.ref sa) :: (.ref n64) :: (.ref m64) :: (.ref ex) :: (.ref wh) :: (.ref sd) :: (.ref tk) :: (.int v52) :: (.int v53) :: (.int v54) :: (.ref hd) :: (.ref ak) :: (.ref ho) :: (.ref ot) :: []) := by rw [he_48]; exact up_self
  have hF_50 : F_47 g1 = .inl (cs 17, 700, .inl fv) := by rw [he_48, up_ne (ne_ty hT_g1 hT_h0 (by simp))]; exact hF_46
  have hF_53 : F g1 = .inl (cs 17, 700, .inl fv) := (hR g1 (by rw [hT_g1]; simp only [List.mem_cons, List.not_mem_nil, or_false]; omega)).symm.trans hF_50
  refine W.widen (k := 0) (n := 0) (by omega) (by omega) ?_
  refine pl_cutm (σ := Int32) A (dC, dI) cs ty gm L [ρ] F 72 7 (fun s5 => [(4, .int (nI a)), (0, .ref h0), (1, .ref g1), (2, .int (nI a)), (3, .int (nI tt))]) (fun s5 => [.int s5]) (fun s5 FF => ((s5 = 1 ∧ SGN ((TC fv z) a)) ∨ (s5 = 0 ∧ ¬ SGN ((TC fv z) a))) ∧ FF h0 = .inr (15, (.ref ta) :: (.int (nI zt)) :: (.int (nI zo)) :: (.int (nI ze)) :: (.ref ou) :: (.ref so) :: (.ref ad) :: (.ref na) :: (.ref va) :: (.ref lc) :: (.ref dm) :: (.int (nI fm)) :: (.int (nI sn)) :: (.ref tg) :: (.int v14) :: (.int v15) :: (.ref pe) :: (.int 8) :: (.int 43) :: (.int (-1)) :: (.int (-1)) :: (.int 32) :: (.int v22) :: (.ref ml) :: (.ref bg) :: (.ref co) :: (.ref sp) :: (.ref nb0) :: (.ref nb1) :: (.ref nb2) :: (.int (nI nf)) :: (.int (nI bd)) :: (.int (nI mm)) :: (.int v33) :: (.ref pl) :: (.ref se) :: (.ref ke) :: (.ref wi) :: (.ref hs) :: (.ref mo) :: (.ref po) :: (.ref nu) :: (.ref pr) :: (.ref sq) :: (.ref xa) :: (.ref sa) :: (.ref n64) :: (.ref m64) :: (.ref ex) :: (.ref wh) :: (.ref sd) :: (.ref tk) :: (.int v52) :: (.int v53) :: (.int v54) :: (.ref hd) :: (.ref ak) :: (.ref ho) :: (.ref ot) :: [])) ?_ (fun jn_51 => ?_)
  ·
    rintro s5 F_52 hv_54 hO hR H locs hP hD hS ls hl
    have hl : lv_has ls 7 [(4, .int (nI a)), (0, .ref h0), (1, .ref g1), (2, .int (nI a)), (3, .int (nI tt))] := hl
    have hv_54 : ((s5 = 1 ∧ SGN ((TC fv z) a)) ∨ (s5 = 0 ∧ ¬ SGN ((TC fv z) a))) ∧ F_52 h0 = .inr (15, (.ref ta) :: (.int (nI zt)) :: (.int (nI zo)) :: (.int (nI ze)) :: (.ref ou) :: (.ref so) :: (.ref ad) :: (.ref na) :: (.ref va) :: (.ref lc) :: (.ref dm) :: (.int (nI fm)) :: (.int (nI sn)) :: (.ref tg) :: (.int v14) :: (.int v15) :: (.ref pe) :: (.int 8) :: (.int 43) :: (.int (-1)) :: (.int (-1)) :: (.int 32) :: (.int v22) :: (.ref ml) :: (.ref bg) :: (.ref co) :: (.ref sp) :: (.ref nb0) :: (.ref nb1) :: (.ref nb2) :: (.int (nI nf)) :: (.int (nI bd)) :: (.int (nI mm)) :: (.int v33) :: (.ref pl) :: (.ref se) :: (.ref ke) :: (.ref wi) :: (.ref hs) :: (.ref mo) :: (.ref po) :: (.ref nu) :: (.ref pr) :: (.ref sq) :: (.ref xa) :: (.ref sa) :: (.ref n64) :: (.ref m64) :: (.ref ex) :: (.ref wh) :: (.ref sd) :: (.ref tk) :: (.int v52) :: (.int v53) :: (.int v54) :: (.ref hd) :: (.ref ak) :: (.ref ho) :: (.ref ot) :: []) := hv_54
    refine W.eq (g2 := F0 m 72 ls [.int s5]) rfl ?_
    have hF_55 : F_52 g1 = .inl (cs 17, 700, .inl fv) := (hR g1 (by rw [hT_g1]; simp only [List.mem_cons, List.not_mem_nil, or_false]; omega)).trans hF_53
    obtain ⟨hs5, hs5h⟩ := hv_54
    refine lv_istore (lv' := [(5, .int s5), (4, .int (nI a)), (0, .ref h0), (1, .ref g1), (2, .int (nI a)), (3, .int (nI tt))]) hx hb dX15_readTerm_72 hl (by decide) rfl (fun ls hl => ?_)
    have hF_58 : F g1 = .inl (cs 17, 700, .inl fv) := (hR g1 (by rw [hT_g1]; simp only [List.mem_cons, List.not_mem_nil, or_false]; omega)).symm.trans hF_55
    refine W.widen (k := 0) (n := 0) (by omega) (by omega) ?_
    refine pl_cutm (σ := Int32 × Int32) A (dC, dI) cs ty gm L [ρ] F 90 7 (fun (k4, q18) => [(5, .int s5), (4, .int k4), (0, .ref h0), (1, .ref g1), (2, .int (nI a)), (3, .int (nI tt))]) (fun (k4, q18) => []) (fun (k4, q18) FF => k4 = nI (wdS (TC fv z) a) ∧ q18 = nI (sgS (TC fv z) a) ∧ FF h0 = .inr (15, (.ref ta) :: (.int (nI zt)) :: (.int (nI zo)) :: (.int (nI ze)) :: (.ref ou) :: (.ref so) :: (.ref ad) :: (.ref na) :: (.ref va) :: (.ref lc) :: (.ref dm) :: (.int (nI fm)) :: (.int (nI sn)) :: (.ref tg) :: (.int v14) :: (.int v15) :: (.ref pe) :: (.int 8) :: (.int q18) :: (.int (-1)) :: (.int (-1)) :: (.int 32) :: (.int v22) :: (.ref ml) :: (.ref bg) :: (.ref co) :: (.ref sp) :: (.ref nb0) :: (.ref nb1) :: (.ref nb2) :: (.int (nI nf)) :: (.int (nI bd)) :: (.int (nI mm)) :: (.int v33) :: (.ref pl) :: (.ref se) :: (.ref ke) :: (.ref wi) :: (.ref hs) :: (.ref mo) :: (.ref po) :: (.ref nu) :: (.ref pr) :: (.ref sq) :: (.ref xa) :: (.ref sa) :: (.ref n64) :: (.ref m64) :: (.ref ex) :: (.ref wh) :: (.ref sd) :: (.ref tk) :: (.int v52) :: (.int v53) :: (.int v54) :: (.ref hd) :: (.ref ak) :: (.ref ho) :: (.ref ot) :: [])) ?_ (fun jn_56 => ?_)
    ·
      rintro ⟨k4, q18⟩ F_57 hv_59 hO hR H locs hP hD hS ls hl
      have hl : lv_has ls 7 [(5, .int s5), (4, .int k4), (0, .ref h0), (1, .ref g1), (2, .int (nI a)), (3, .int (nI tt))] := hl
      have hv_59 : k4 = nI (wdS (TC fv z) a) ∧ q18 = nI (sgS (TC fv z) a) ∧ F_57 h0 = .inr (15, (.ref ta) :: (.int (nI zt)) :: (.int (nI zo)) :: (.int (nI ze)) :: (.ref ou) :: (.ref so) :: (.ref ad) :: (.ref na) :: (.ref va) :: (.ref lc) :: (.ref dm) :: (.int (nI fm)) :: (.int (nI sn)) :: (.ref tg) :: (.int v14) :: (.int v15) :: (.ref pe) :: (.int 8) :: (.int q18) :: (.int (-1)) :: (.int (-1)) :: (.int 32) :: (.int v22) :: (.ref ml) :: (.ref bg) :: (.ref co) :: (.ref sp) :: (.ref nb0) :: (.ref nb1) :: (.ref nb2) :: (.int (nI nf)) :: (.int (nI bd)) :: (.int (nI mm)) :: (.int v33) :: (.ref pl) :: (.ref se) :: (.ref ke) :: (.ref wi) :: (.ref hs) :: (.ref mo) :: (.ref po) :: (.ref nu) :: (.ref pr) :: (.ref sq) :: (.ref xa) :: (.ref sa) :: (.ref n64) :: (.ref m64) :: (.ref ex) :: (.ref wh) :: (.ref sd) :: (.ref tk) :: (.int v52) :: (.int v53) :: (.int v54) :: (.ref hd) :: (.ref ak) :: (.ref ho) :: (.ref ot) :: []) := hv_59
      refine W.eq (g2 := F0 m 90 ls []) rfl ?_
      have hF_60 : F_57 g1 = .inl (cs 17, 700, .inl fv) := (hR g1 (by rw [hT_g1]; simp only [List.mem_cons, List.not_mem_nil, or_false]; omega)).trans hF_58
      obtain ⟨hk4, hk18, hk4a⟩ := hv_59
      subst hk4
      subst hk18
      have hwd := wdS_le (TC fv z) a
      have hsg := sgS_le (TC fv z) a
      have hF_63 : F g1 = .inl (cs 17, 700, .inl fv) := (hR g1 (by rw [hT_g1]; simp only [List.mem_cons, List.not_mem_nil, or_false]; omega)).symm.trans hF_60
      refine W.widen (k := 0) (n := 0) (by omega) (by omega) ?_
      refine pl_cutm (σ := Int32 × Int32 × Int32 × Int32 × Int32) A (dC, dI) cs ty gm L [ρ] F 392 7 (fun (q17, q19, q20, q21, q22) => [(5, .int s5), (4, .int (nI (wdS (TC fv z) a))), (0, .ref h0), (1, .ref g1), (2, .int (nI a)), (3, .int (nI tt))]) (fun (q17, q19, q20, q21, q22) => []) (fun (q17, q19, q20, q21, q22) FF => FF h0 = .inr (15, (.ref ta) :: (.int (nI zt)) :: (.int (nI zo)) :: (.int (nI ze)) :: (.ref ou) :: (.ref so) :: (.ref ad) :: (.ref na) :: (.ref va) :: (.ref lc) :: (.ref dm) :: (.int (nI fm)) :: (.int (nI sn)) :: (.ref tg) :: (.int v14) :: (.int v15) :: (.ref pe) :: (.int q17) :: (.int (nI (sgS (TC fv z) a))) :: (.int q19) :: (.int q20) :: (.int q21) :: (.int q22) :: (.ref ml) :: (.ref bg) :: (.ref co) :: (.ref sp) :: (.ref nb0) :: (.ref nb1) :: (.ref nb2) :: (.int (nI nf)) :: (.int (nI bd)) :: (.int (nI mm)) :: (.int v33) :: (.ref pl) :: (.ref se) :: (.ref ke) :: (.ref wi) :: (.ref hs) :: (.ref mo) :: (.ref po) :: (.ref nu) :: (.ref pr) :: (.ref sq) :: (.ref xa) :: (.ref sa) :: (.ref n64) :: (.ref m64) :: (.ref ex) :: (.ref wh) :: (.ref sd) :: (.ref tk) :: (.int v52) :: (.int v53) :: (.int v54) :: (.ref hd) :: (.ref ak) :: (.ref ho) :: (.ref ot) :: []) ∧ RTX (meW (TC fv z) (wdS (TC fv z) a) tt (sgS (TC fv z) a)) q17 (nI (sgS (TC fv z) a)) q19 q20 q21 q22) ?_ (fun jn_61 => ?_)
      ·
        rintro ⟨q17, q19, q20, q21, q22⟩ F_62 hv_64 hO hR H locs hP hD hS ls hl
        have hl : lv_has ls 7 [(5, .int s5), (4, .int (nI (wdS (TC fv z) a))), (0, .ref h0), (1, .ref g1), (2, .int (nI a)), (3, .int (nI tt))] := hl
        have hv_64 : F_62 h0 = .inr (15, (.ref ta) :: (.int (nI zt)) :: (.int (nI zo)) :: (.int (nI ze)) :: (.ref ou) :: (.ref so) :: (.ref ad) :: (.ref na) :: (.ref va) :: (.ref lc) :: (.ref dm) :: (.int (nI fm)) :: (.int (nI sn)) :: (.ref tg) :: (.int v14) :: (.int v15) :: (.ref pe) :: (.int q17) :: (.int (nI (sgS (TC fv z) a))) :: (.int q19) :: (.int q20) :: (.int q21) :: (.int q22) :: (.ref ml) :: (.ref bg) :: (.ref co) :: (.ref sp) :: (.ref nb0) :: (.ref nb1) :: (.ref nb2) :: (.int (nI nf)) :: (.int (nI bd)) :: (.int (nI mm)) :: (.int v33) :: (.ref pl) :: (.ref se) :: (.ref ke) :: (.ref wi) :: (.ref hs) :: (.ref mo) :: (.ref po) :: (.ref nu) :: (.ref pr) :: (.ref sq) :: (.ref xa) :: (.ref sa) :: (.ref n64) :: (.ref m64) :: (.ref ex) :: (.ref wh) :: (.ref sd) :: (.ref tk) :: (.int v52) :: (.int v53) :: (.int v54) :: (.ref hd) :: (.ref ak) :: (.ref ho) :: (.ref ot) :: []) ∧ RTX (meW (TC fv z) (wdS (TC fv z) a) tt (sgS (TC fv z) a)) q17 (nI (sgS (TC fv z) a)) q19 q20 q21 q22 := hv_64
        refine W.eq (g2 := F0 m 392 ls []) rfl ?_
        have hF_65 : F_62 g1 = .inl (cs 17, 700, .inl fv) := (hR g1 (by rw [hT_g1]; simp only [List.mem_cons, List.not_mem_nil, or_false]; omega)).trans hF_63
        obtain ⟨hq1, hq2⟩ := hv_64
        refine lv_aload_n hx hb dX15_readTerm_392 rfl (lv_at hl 2 rfl) ?_
        refine pg_get (ci := 15) (v := .int q17) (C := RX15) (T := TX15) (N := 59) hx hb hts it_15 hown hK hP hL_h0 hq1 rfl 17 (by decide) (hts _ kt_750) (fun _ h9 => h9) rfl dX15_readTerm_393 ?_
        refine lv_bipush (v := 8) hx hb dX15_readTerm_396 (by decide) ?_
        refine lv_icmp_ne (tgt := 406) hx hb dX15_readTerm_398 (by decide) (fun c_66 => ?_) (fun c_66 => ?_)
        ·
          refine W.widen (k := 0) (n := 0) (by omega) (by omega) ?_
          exact W.vret hx hb hr (fun t ht hWm => ⟨⟨(), rfl, trivial, ⟨F_62, q17, (nI (sgS (TC fv z) a)), q19, q20, q21, q22, QTm.mk ht hP hD hO hR, hq1, (rtx_me hq2 c_66)⟩⟩, hS.F ht⟩) hS.2.2 dX15_readTerm_406
        ·
          refine lv_iload hx hb dX15_readTerm_401 (lv_at hl 0 rfl) ?_
          refine lv_if_eq (tgt := 407) hx hb dX15_readTerm_403 (by decide) (fun c_67 => ?_) (fun c_67 => ?_)
          ·
            have hS0 : ¬ SGN ((TC fv z) a) := orp0 hs5 c_67
            have hwa : (wdS (TC fv z) a) = a := if_neg hS0
            have hsa : (sgS (TC fv z) a) = 43 := if_neg hS0
            have hmn := me_none hq2 c_66
            have htl := tr_tl hmn hS0
            refine lv_aload_n hx hb dX15_readTerm_407 rfl (lv_at hl 3 rfl) ?_
            refine lv_iload hx hb dX15_readTerm_408 (lv_at hl 1 rfl) ?_
            refine lv_iload_n hx hb dX15_readTerm_410 rfl (lv_at hl 5 rfl) ?_
            obtain ⟨q_68, v_69, hr_q_68, hX_q_68⟩ := hG.2.2 ("PostGateModel", 282, "redirect=", [114, 101, 100, 105, 114, 101, 99, 116, 61]) (by decide +kernel)
            have hX_q_68 : SXc q_68 v_69 9 (cct [114, 101, 100, 105, 114, 101, 99, 116, 61]) A s s.heap := hX_q_68
            obtain ⟨xo_q_68, xc_q_68, xv_q_68, xt_q_68, xn_q_68⟩ := id hX_q_68
            have hr_q_68 : vk_R "PostGateModel" 282 "redirect=" q_68 s := hr_q_68
            refine va_ldcwS hx hb hown hr_q_68 dX15_readTerm_411 ?_
            have hFc := pg_free hD hS hA
            refine va_calli (va_runS (As := [.ref g1, .int (nI (wdS (TC fv z) a)), .int (nI tt), .ref q_68]) (rest := []) ⟨hx, hb, hml, hown, hts⟩ (s_X15_begins_x l dC dI cs ty gm L H.size F_62 g1 μ 700 q_68 v_69 9 (cct [114, 101, 100, 105, 114, 101, 99, 116, 61]) z (wdS (TC fv z) a) tt fv ([114, 101, 100, 105, 114, 101, 99, 116, 61]) hW hL_g1 hT_g1 hF_65 (htz) (by omega) (by first | omega | assumption | exact Or.inl rfl) (by omega) (⟨rfl, by decide +kernel⟩)) ⟨callB_of 4 hts (gi kt_733) rfl rfl rfl (hts _ kt_669) (hts _ kt_734) (by decide +kernel) ⟨Nat.le_of_ble_eq_true rfl, Nat.le_of_ble_eq_true rfl⟩, (hts _ kt_735)⟩ ⟨fun a U g mk q => ⟨q.1, PTEm.calling q.2⟩, fun U hU hWm => ⟨rfl, PTEm.mk hU hWm hP hK hD hE hO hG (fun x hx => by rw [List.mem_singleton] at hx; subst hx; exact hX_q_68) hS hFc⟩⟩ rfl rfl hl.1 rfl (lv_room (Nat.le_of_ble_eq_true rfl)) dX15_readTerm_414 ⟨by show _ + 0 ≤ 0; omega, by show _ + 0 ≤ 0; omega⟩) hS (fun q _ h => hFc q h) hFc (fun r_70 u t H1 locs ht hvm hw hB hz1 hk1 hS => ?_)
            obtain ⟨F_71, hB1⟩ := hB
            obtain rfl : F_62 = F_71 := (funext (fun a => hB1.2.2.2 a List.not_mem_nil)).symm
            obtain ⟨hP, hD, hO, hR⟩ := QTm.back hB1 ht hFc hR (fun q h => absurd h List.not_mem_nil)
            generalize H1 = H at hP hS ⊢
            have hw_72 : ORP r_70 (BGW (TC fv z) (wdS (TC fv z) a) tt 9 [114, 101, 100, 105, 114, 101, 99, 116, 61]) := hw
            clear hw
            refine lv_if_eq (tgt := 457) hx hb dX15_readTerm_417 (by decide) (fun c_73 => ?_) (fun c_73 => ?_)
            ·
              refine lv_iload hx hb dX15_readTerm_457 (lv_at hl 1 rfl) ?_
              refine lv_istore (lv' := [(6, .int (nI (wdS (TC fv z) a))), (5, .int s5), (4, .int (nI (wdS (TC fv z) a))), (0, .ref h0), (1, .ref g1), (2, .int (nI a)), (3, .int (nI tt))]) hx hb dX15_readTerm_459 hl (by decide) rfl (fun ls hl => ?_)
              refine W.widen (k := 0) (n := 0) (by omega) (by omega) ?_
              have hF_75 : F g1 = .inl (cs 17, 700, .inl fv) := (hR g1 (by rw [hT_g1]; simp only [List.mem_cons, List.not_mem_nil, or_false]; omega)).symm.trans hF_65
              refine pl_loopm (σ := Nat) A (dC, dI) cs ty gm L [ρ] F 461 7 (fun j => [(6, .int (nI j)), (5, .int s5), (4, .int (nI (wdS (TC fv z) a))), (0, .ref h0), (1, .ref g1), (2, .int (nI a)), (3, .int (nI tt))]) (fun j => []) (fun j FF => (wdS (TC fv z) a) ≤ j ∧ j ≤ tt ∧ (∀ i, (wdS (TC fv z) a) ≤ i → i < j → OKX (TC fv z) (wdS (TC fv z) a) i) ∧ FF h0 = .inr (15, (.ref ta) :: (.int (nI zt)) :: (.int (nI zo)) :: (.int (nI ze)) :: (.ref ou) :: (.ref so) :: (.ref ad) :: (.ref na) :: (.ref va) :: (.ref lc) :: (.ref dm) :: (.int (nI fm)) :: (.int (nI sn)) :: (.ref tg) :: (.int v14) :: (.int v15) :: (.ref pe) :: (.int q17) :: (.int (nI (sgS (TC fv z) a))) :: (.int q19) :: (.int q20) :: (.int q21) :: (.int q22) :: (.ref ml) :: (.ref bg) :: (.ref co) :: (.ref sp) :: (.ref nb0) :: (.ref nb1) :: (.ref nb2) :: (.int (nI nf)) :: (.int (nI bd)) :: (.int (nI mm)) :: (.int v33) :: (.ref pl) :: (.ref se) :: (.ref ke) :: (.ref wi) :: (.ref hs) :: (.ref mo) :: (.ref po) :: (.ref nu) :: (.ref pr) :: (.ref sq) :: (.ref xa) :: (.ref sa) :: (.ref n64) :: (.ref m64) :: (.ref ex) :: (.ref wh) :: (.ref sd) :: (.ref tk) :: (.int v52) :: (.int v53) :: (.int v54) :: (.ref hd) :: (.ref ak) :: (.ref ho) :: (.ref ot) :: [])) (fun j => tt - j) ?_ (wdS (TC fv z) a) F_62 (⟨Nat.le_refl _, by omega, fun i h1 h2 => absurd h2 (by omega), hq1⟩) hO hR _ _ hP hD hS ls (lv_sub hl [0, 1, 2, 3, 4, 5, 6] rfl)
              rintro j F_74 hv_76 hO hR ih_77 H locs hP hD hS ls hl
              have hl : lv_has ls 7 [(6, .int (nI j)), (5, .int s5), (4, .int (nI (wdS (TC fv z) a))), (0, .ref h0), (1, .ref g1), (2, .int (nI a)), (3, .int (nI tt))] := hl
              have hv_76 : (wdS (TC fv z) a) ≤ j ∧ j ≤ tt ∧ (∀ i, (wdS (TC fv z) a) ≤ i → i < j → OKX (TC fv z) (wdS (TC fv z) a) i) ∧ F_74 h0 = .inr (15, (.ref ta) :: (.int (nI zt)) :: (.int (nI zo)) :: (.int (nI ze)) :: (.ref ou) :: (.ref so) :: (.ref ad) :: (.ref na) :: (.ref va) :: (.ref lc) :: (.ref dm) :: (.int (nI fm)) :: (.int (nI sn)) :: (.ref tg) :: (.int v14) :: (.int v15) :: (.ref pe) :: (.int q17) :: (.int (nI (sgS (TC fv z) a))) :: (.int q19) :: (.int q20) :: (.int q21) :: (.int q22) :: (.ref ml) :: (.ref bg) :: (.ref co) :: (.ref sp) :: (.ref nb0) :: (.ref nb1) :: (.ref nb2) :: (.int (nI nf)) :: (.int (nI bd)) :: (.int (nI mm)) :: (.int v33) :: (.ref pl) :: (.ref se) :: (.ref ke) :: (.ref wi) :: (.ref hs) :: (.ref mo) :: (.ref po) :: (.ref nu) :: (.ref pr) :: (.ref sq) :: (.ref xa) :: (.ref sa) :: (.ref n64) :: (.ref m64) :: (.ref ex) :: (.ref wh) :: (.ref sd) :: (.ref tk) :: (.int v52) :: (.int v53) :: (.int v54) :: (.ref hd) :: (.ref ak) :: (.ref ho) :: (.ref ot) :: []) := hv_76
              refine W.eq (g2 := F0 m 461 ls []) rfl ?_
              have hF_78 : F_74 g1 = .inl (cs 17, 700, .inl fv) := (hR g1 (by rw [hT_g1]; simp only [List.mem_cons, List.not_mem_nil, or_false]; omega)).trans hF_75
              obtain ⟨hv1, hv2, hv3, hv4⟩ := hv_76
              refine lv_iload hx hb dX15_readTerm_461 (lv_at hl 0 rfl) ?_
              refine lv_iload_n hx hb dX15_readTerm_463 rfl (lv_at hl 6 rfl) ?_
              refine lv_icmp_ge (tgt := 527) hx hb dX15_readTerm_464 (by decide) (fun c_79 => ?_) (fun c_79 => ?_)
              ·
                have hi_80 : tt ≤ j := leN (N := tt) c_79
                have hoi := oth_lp hv1 hv2 hv3 (Or.inl (by omega))
                rw [hwa] at hoi
                refine lv_iload hx hb dX15_readTerm_527 (lv_at hl 0 rfl) ?_
                refine lv_iload hx hb dX15_readTerm_529 (lv_at hl 2 rfl) ?_
                refine lv_icmp_le (tgt := 555) hx hb dX15_readTerm_531 (by decide) (fun c_81 => ?_) (fun c_81 => ?_)
                ·
                  have hi_82 : j ≤ (wdS (TC fv z) a) := (nI_leI (a := j) (b := (wdS (TC fv z) a)) (by omega) (by omega)).mp c_81
                  refine W.widen (k := 0) (n := 0) (by omega) (by omega) ?_
                  exact W.vret hx hb hr (fun t ht hWm => ⟨⟨(), rfl, trivial, ⟨F_74, q17, (nI (sgS (TC fv z) a)), q19, q20, q21, q22, QTm.mk ht hP hD hO hR, hv4, (rtx_no (by rw [htl]; unfold tlW; rw [if_neg (show ¬ BGW (TC fv z) a tt 9 [114, 101, 100, 105, 114, 101, 99, 116, 61] by rw [← hwa]; exact (orp0 hw_72 c_73)), if_neg (show ¬ OTH (TC fv z) a tt from fun q => by have h9 := (hoi.mp q).1; omega)]) c_66)⟩⟩, hS.F ht⟩) hS.2.2 dX15_readTerm_555
                ·
                  have hi_83 : (wdS (TC fv z) a) < j := Nat.not_le.mp (fun q => c_81 ((nI_leI (a := j) (b := (wdS (TC fv z) a)) (by omega) (by omega)).mpr q))
                  refine lv_iload hx hb dX15_readTerm_534 (lv_at hl 0 rfl) ?_
                  refine lv_iload_n hx hb dX15_readTerm_536 rfl (lv_at hl 6 rfl) ?_
                  refine lv_icmp_ge (tgt := 555) hx hb dX15_readTerm_537 (by decide) (fun c_84 => ?_) (fun c_84 => ?_)
                  ·
                    have hi_85 : tt ≤ j := leN (N := tt) c_84
                    refine W.widen (k := 0) (n := 0) (by omega) (by omega) ?_
                    exact W.vret hx hb hr (fun t ht hWm => ⟨⟨(), rfl, trivial, ⟨F_74, q17, (nI (sgS (TC fv z) a)), q19, q20, q21, q22, QTm.mk ht hP hD hO hR, hv4, (rtx_no (by rw [htl]; unfold tlW; rw [if_neg (show ¬ BGW (TC fv z) a tt 9 [114, 101, 100, 105, 114, 101, 99, 116, 61] by rw [← hwa]; exact (orp0 hw_72 c_73)), if_neg (show ¬ OTH (TC fv z) a tt from fun q => by have h9 := (hoi.mp q).2.1; omega)]) c_66)⟩⟩, hS.F ht⟩) hS.2.2 dX15_readTerm_555
                  ·
                    have hi_86 : j < tt := ltN (N := tt) c_84
                    refine lv_aload_n hx hb dX15_readTerm_540 rfl (lv_at hl 4 rfl) ?_
                    refine lv_iload hx hb dX15_readTerm_541 (lv_at hl 0 rfl) ?_
                    refine pg_bald hx hb hK hP hL_g1 1 hF_78 rfl (vp_in_nI (by omega) (by omega)) dX15_readTerm_543 ?_
                    refine lv_topi (fun x_87 ex_87 => ?_)
                    obtain rfl : x_87 = fv j := ex_87.trans (congrArg fv (show ((nI j) : Int32).toNatClampNeg = j from nI_clamp (by omega)))
                    refine lv_bipush (v := 61) hx hb dX15_readTerm_544 (by decide) ?_
                    refine lv_icmp_ne (tgt := 555) hx hb dX15_readTerm_546 (by decide) (fun c_88 => ?_) (fun c_88 => ?_)
                    ·
                      refine W.widen (k := 0) (n := 0) (by omega) (by omega) ?_
                      exact W.vret hx hb hr (fun t ht hWm => ⟨⟨(), rfl, trivial, ⟨F_74, q17, (nI (sgS (TC fv z) a)), q19, q20, q21, q22, QTm.mk ht hP hD hO hR, hv4, (rtx_no (by rw [htl]; unfold tlW; rw [if_neg (show ¬ BGW (TC fv z) a tt 9 [114, 101, 100, 105, 114, 101, 99, 116, 61] by rw [← hwa]; exact (orp0 hw_72 c_73)), if_neg (show ¬ OTH (TC fv z) a tt from fun q => (fun q => c_88 ((tc_eq (z := z) (by omega) (by first | decide | omega)).mp q)) (hoi.mp q).2.2)]) c_66)⟩⟩, hS.F ht⟩) hS.2.2 dX15_readTerm_555
                    ·
                      refine lv_aload_n hx hb dX15_readTerm_549 rfl (lv_at hl 3 rfl) ?_
                      refine lv_bipush (v := 7) hx hb dX15_readTerm_550 (by decide) ?_
                      refine pg_put (ci := 15) (v := .int 7) (ty := .int) (C := RX15) (T := TX15) (N := 59) hx hb hts it_15 tyX15 tyX15_ok nmX15 hown hK hP hD hS hL_h0 hv4 rfl 17 (by decide) (hts _ kt_750) (fun _ h9 => h9) rfl (by decide +kernel) (rfl) (rfl) (Nat.le_of_ble_eq_true rfl) dX15_readTerm_552 (fun H locs hP hD hS => ?_)
                      obtain ⟨F_89, he_90, hP, hD, hO, hR⟩ : ∃ G, G = va_up F_74 h0 (.inr (15, (.ref ta) :: (.int (nI zt)) :: (.int (nI zo)) :: (.int (nI ze)) :: (.ref ou) :: (.ref so) :: (.ref ad) :: (.ref na) :: (.ref va) :: (.ref lc) :: (.ref dm) :: (.int (nI fm)) :: (.int (nI sn)) :: (.ref tg) :: (.int v14) :: (.int v15) :: (.ref pe) :: (.int 7) :: (.int (nI (sgS (TC fv z) a))) :: (.int q19) :: (.int q20) :: (.int q21) :: (.int q22) :: (.ref ml) :: (.ref bg) :: (.ref co) :: (.ref sp) :: (.ref nb0) :: (.ref nb1) :: (.ref nb2) :: (.int (nI nf)) :: (.int (nI bd)) :: (.int (nI mm)) :: (.int v33) :: (.ref pl) :: (.ref se) :: (.ref ke) :: (.ref wi) :: (.ref hs) :: (.ref mo) :: (.ref po) :: (.ref nu) :: (.ref pr) :: (.ref sq) :: (.ref xa) :: (.ref sa) :: (.ref n64) :: (.ref m64) :: (.ref ex) :: (.ref wh) :: (.ref sd) :: (.ref tk) :: (.int v52) :: (.int v53) :: (.int v54) :: (.ref hd) :: (.ref ak) :: (.ref ho) :: (.ref ot) :: [])) ∧ va_P (dC, dI) vwCl (va_pl L G) H ∧ va_D A (va_pl L G) ∧ OKm cs ty gm L G ∧ FR ty [ρ] F G := ⟨_, rfl, hP, hD, hO.up (shm.mod hT_h0 ⟨v14, v15, 7, (nI (sgS (TC fv z) a)), q19, q20, q21, q22, v33, v52, v53, v54, rfl, (by first | omega | assumption | exact Or.inl rfl | exact Or.inr rfl), (by first | omega | assumption | exact Or.inl rfl | exact Or.inr rfl), (by first | omega | assumption | exact Or.inl rfl | exact Or.inr rfl), (by first | omega | assumption | exact Or.inl rfl | exact Or.inr rfl), (by first | omega | assumption | exact Or.inl rfl | exact Or.inr rfl)⟩), hR.up hT_h0 (by simp)⟩
                      have hF_91 : F_89 h0 = .inr (15, (.ref ta) :: (.int (nI zt)) :: (.int (nI zo)) :: (.int (nI ze)) :: (.ref ou) :: (.ref so) :: (.ref ad) :: (.ref na) :: (.ref va) :: (.ref lc) :: (.ref dm) :: (.int (nI fm)) :: (.int (nI sn)) :: (.ref tg) :: (.int v14) :: (.int v15) :: (.ref pe) :: (.int 7) :: (.int (nI (sgS (TC fv z) a))) :: (.int q19) :: (.int q20) :: (.int q21) :: (.int q22) :: (.ref ml) :: (.ref bg) :: (.ref co) :: (.ref sp) :: (.ref nb0) :: (.ref nb1) :: (.ref nb2) :: (.int (nI nf)) :: (.int (nI bd)) :: (.int (nI mm)) :: (.int v33) :: (.ref pl) :: (.ref se) :: (.ref ke) :: (.ref wi) :: (.ref hs) :: (.ref mo) :: (.ref po) :: (.ref nu) :: (.ref pr) :: (.ref sq) :: (.ref xa) :: (.ref sa) :: (.ref n64) :: (.ref m64) :: (.ref ex) :: (.ref wh) :: (.ref sd) :: (.ref tk) :: (.int v52) :: (.int v53) :: (.int v54) :: (.ref hd) :: (.ref ak) :: (.ref ho) :: (.ref ot) :: []) := by rw [he_90]; exact up_self
                      have hF_92 : F_89 g1 = .inl (cs 17, 700, .inl fv) := by rw [he_90, up_ne (ne_ty hT_g1 hT_h0 (by simp))]; exact hF_78
                      refine W.widen (k := 0) (n := 0) (by omega) (by omega) ?_
                      exact W.vret hx hb hr (fun t ht hWm => ⟨⟨(), rfl, trivial, ⟨F_89, 7, (nI (sgS (TC fv z) a)), q19, q20, q21, q22, QTm.mk ht hP hD hO hR, hF_91, (rtx_o (by rw [htl]; unfold tlW; rw [if_neg (show ¬ BGW (TC fv z) a tt 9 [114, 101, 100, 105, 114, 101, 99, 116, 61] by rw [← hwa]; exact (orp0 hw_72 c_73)), if_pos (show OTH (TC fv z) a tt from hoi.mpr ⟨by omega, by omega, ((tc_eq (z := z) (by omega) (by first | decide | omega)).mpr c_88)⟩)]) (by rw [hsa]))⟩⟩, hS.F ht⟩) hS.2.2 dX15_readTerm_555
              ·
                have hi_93 : j < tt := ltN (N := tt) c_79
                have hF_96 : F g1 = .inl (cs 17, 700, .inl fv) := (hR g1 (by rw [hT_g1]; simp only [List.mem_cons, List.not_mem_nil, or_false]; omega)).symm.trans hF_78
                refine W.widen (k := 0) (n := 0) (by omega) (by omega) ?_
                refine pl_cutm (σ := Unit) A (dC, dI) cs ty gm L [ρ] F 521 7 (fun u0 => [(6, .int (nI j)), (5, .int s5), (4, .int (nI (wdS (TC fv z) a))), (0, .ref h0), (1, .ref g1), (2, .int (nI a)), (3, .int (nI tt))]) (fun u0 => []) (fun u0 FF => OKX (TC fv z) (wdS (TC fv z) a) j ∧ FF h0 = .inr (15, (.ref ta) :: (.int (nI zt)) :: (.int (nI zo)) :: (.int (nI ze)) :: (.ref ou) :: (.ref so) :: (.ref ad) :: (.ref na) :: (.ref va) :: (.ref lc) :: (.ref dm) :: (.int (nI fm)) :: (.int (nI sn)) :: (.ref tg) :: (.int v14) :: (.int v15) :: (.ref pe) :: (.int q17) :: (.int (nI (sgS (TC fv z) a))) :: (.int q19) :: (.int q20) :: (.int q21) :: (.int q22) :: (.ref ml) :: (.ref bg) :: (.ref co) :: (.ref sp) :: (.ref nb0) :: (.ref nb1) :: (.ref nb2) :: (.int (nI nf)) :: (.int (nI bd)) :: (.int (nI mm)) :: (.int v33) :: (.ref pl) :: (.ref se) :: (.ref ke) :: (.ref wi) :: (.ref hs) :: (.ref mo) :: (.ref po) :: (.ref nu) :: (.ref pr) :: (.ref sq) :: (.ref xa) :: (.ref sa) :: (.ref n64) :: (.ref m64) :: (.ref ex) :: (.ref wh) :: (.ref sd) :: (.ref tk) :: (.int v52) :: (.int v53) :: (.int v54) :: (.ref hd) :: (.ref ak) :: (.ref ho) :: (.ref ot) :: [])) ?_ (fun jn_94 => ?_)
                ·
                  rintro u0 F_95 hv_97 hO hR H locs hP hD hS ls hl
                  have hl : lv_has ls 7 [(6, .int (nI j)), (5, .int s5), (4, .int (nI (wdS (TC fv z) a))), (0, .ref h0), (1, .ref g1), (2, .int (nI a)), (3, .int (nI tt))] := hl
                  have hv_97 : OKX (TC fv z) (wdS (TC fv z) a) j ∧ F_95 h0 = .inr (15, (.ref ta) :: (.int (nI zt)) :: (.int (nI zo)) :: (.int (nI ze)) :: (.ref ou) :: (.ref so) :: (.ref ad) :: (.ref na) :: (.ref va) :: (.ref lc) :: (.ref dm) :: (.int (nI fm)) :: (.int (nI sn)) :: (.ref tg) :: (.int v14) :: (.int v15) :: (.ref pe) :: (.int q17) :: (.int (nI (sgS (TC fv z) a))) :: (.int q19) :: (.int q20) :: (.int q21) :: (.int q22) :: (.ref ml) :: (.ref bg) :: (.ref co) :: (.ref sp) :: (.ref nb0) :: (.ref nb1) :: (.ref nb2) :: (.int (nI nf)) :: (.int (nI bd)) :: (.int (nI mm)) :: (.int v33) :: (.ref pl) :: (.ref se) :: (.ref ke) :: (.ref wi) :: (.ref hs) :: (.ref mo) :: (.ref po) :: (.ref nu) :: (.ref pr) :: (.ref sq) :: (.ref xa) :: (.ref sa) :: (.ref n64) :: (.ref m64) :: (.ref ex) :: (.ref wh) :: (.ref sd) :: (.ref tk) :: (.int v52) :: (.int v53) :: (.int v54) :: (.ref hd) :: (.ref ak) :: (.ref ho) :: (.ref ot) :: []) := hv_97
                  refine W.eq (g2 := F0 m 521 ls []) rfl ?_
                  have hF_98 : F_95 g1 = .inl (cs 17, 700, .inl fv) := (hR g1 (by rw [hT_g1]; simp only [List.mem_cons, List.not_mem_nil, or_false]; omega)).trans hF_96
                  obtain ⟨hokx, hoh⟩ := hv_97
                  refine lv_iinc (v := (nI (j + 1))) (lv' := [(6, .int (nI (j + 1))), (5, .int s5), (4, .int (nI (wdS (TC fv z) a))), (0, .ref h0), (1, .ref g1), (2, .int (nI a)), (3, .int (nI tt))]) hx hb dX15_readTerm_521 hl (k := 0) rfl (nI_1 _) (by decide) rfl (fun ls hl => ?_)
                  refine lv_goto (tgt := 461) hx hb dX15_readTerm_524 (by decide) ?_
                  refine W.widen (k := 0) (n := 0) (by omega) (by omega) ?_
                  exact ih_77 (j + 1) F_95 (⟨by omega, by omega, fun i h1 h2 => by rcases Nat.lt_or_ge i j with q | q; exact hv3 i h1 q; rw [show i = j by omega]; exact hokx, hoh⟩) (by show tt - (j + 1) < tt - j; omega) hO hR _ _ hP hD hS ls (lv_sub hl [0, 1, 2, 3, 4, 5, 6] rfl)
                ·
                  refine lv_aload_n hx hb dX15_readTerm_467 rfl (lv_at hl 4 rfl) ?_
                  refine lv_iload hx hb dX15_readTerm_468 (lv_at hl 0 rfl) ?_
                  refine pg_bald hx hb hK hP hL_g1 1 hF_78 rfl (vp_in_nI (by omega) (by omega)) dX15_readTerm_470 ?_
                  refine lv_topi (fun x_99 ex_99 => ?_)
                  obtain rfl : x_99 = fv j := ex_99.trans (congrArg fv (show ((nI j) : Int32).toNatClampNeg = j from nI_clamp (by omega)))
                  have hFc := pg_free hD hS hA
                  refine va_calli (va_runS (As := [.int (fv j)]) (rest := []) ⟨hx, hb, hml, hown, hts⟩ (s_X15_isSmall_e l dC dI cs ty gm L H.size F_74 (fv j) hW ) ⟨callB_of 1 hts (gi kt_668) rfl rfl rfl (hts _ kt_669) (hts _ kt_670) (by decide +kernel) ⟨Nat.le_of_ble_eq_true rfl, Nat.le_of_ble_eq_true rfl⟩, (hts _ kt_671)⟩ ⟨fun a U g mk q => ⟨q.1, PTm.calling q.2⟩, fun U hU hWm => ⟨rfl, PTm.mk hU hWm hP hK hD hE hO⟩⟩ rfl rfl hl.1 rfl (lv_room (Nat.le_of_ble_eq_true rfl)) dX15_readTerm_471 ⟨by show _ + 0 ≤ 0; omega, by show _ + 0 ≤ 0; omega⟩) hS (fun q _ h => hFc q h) hFc (fun r_100 u t H1 locs ht hvm hw hB hz1 hk1 hS => ?_)
                  obtain ⟨F_101, hB1⟩ := hB
                  obtain rfl : F_74 = F_101 := (funext (fun a => hB1.2.2.2 a List.not_mem_nil)).symm
                  obtain ⟨hP, hD, hO, hR⟩ := QTm.back hB1 ht hFc hR (fun q h => absurd h List.not_mem_nil)
                  generalize H1 = H at hP hS ⊢
                  have hw : r_100 = (if 97 ≤ (fv j) ∧ (fv j) ≤ 122 then 1 else 0) := hw
                  have hw_102 := hw
                  refine lv_if_ne (tgt := 521) hx hb dX15_readTerm_474 (by decide) (fun c_103 => ?_) (fun c_103 => ?_)
                  ·
                    refine W.widen (k := 0) (n := 0) (by omega) (by omega) ?_
                    exact jn_94 () F_74 (⟨⟨Or.inl (by rw [tc_at (show j < z by omega)]; exact sms_d hw_102 c_103), fun _ => (by rw [tc_at (show j < z by omega)]; exact sms_d hw_102 c_103)⟩, hv4⟩) hO hR _ _ hP hD hS ls (lv_sub hl [0, 1, 2, 3, 4, 5, 6] rfl)
                  ·
                    refine lv_iload hx hb dX15_readTerm_477 (lv_at hl 0 rfl) ?_
                    refine lv_iload hx hb dX15_readTerm_479 (lv_at hl 2 rfl) ?_
                    refine lv_icmp_le (tgt := 527) hx hb dX15_readTerm_481 (by decide) (fun c_104 => ?_) (fun c_104 => ?_)
                    ·
                      have hi_105 : j ≤ (wdS (TC fv z) a) := (nI_leI (a := j) (b := (wdS (TC fv z) a)) (by omega) (by omega)).mp c_104
                      have hoi := oth_lp hv1 hv2 hv3 (Or.inr (fun q => absurd (q.2 (by omega)) (by rw [tc_at (show j < z by omega)]; exact sms_n hw_102 c_103)))
                      rw [hwa] at hoi
                      refine lv_iload hx hb dX15_readTerm_527 (lv_at hl 0 rfl) ?_
                      refine lv_iload hx hb dX15_readTerm_529 (lv_at hl 2 rfl) ?_
                      refine lv_icmp_le (tgt := 555) hx hb dX15_readTerm_531 (by decide) (fun c_106 => ?_) (fun c_106 => ?_)
                      ·
                        have hi_107 : j ≤ (wdS (TC fv z) a) := (nI_leI (a := j) (b := (wdS (TC fv z) a)) (by omega) (by omega)).mp c_106
                        refine W.widen (k := 0) (n := 0) (by omega) (by omega) ?_
                        exact W.vret hx hb hr (fun t ht hWm => ⟨⟨(), rfl, trivial, ⟨F_74, q17, (nI (sgS (TC fv z) a)), q19, q20, q21, q22, QTm.mk ht hP hD hO hR, hv4, (rtx_no (by rw [htl]; unfold tlW; rw [if_neg (show ¬ BGW (TC fv z) a tt 9 [114, 101, 100, 105, 114, 101, 99, 116, 61] by rw [← hwa]; exact (orp0 hw_72 c_73)), if_neg (show ¬ OTH (TC fv z) a tt from fun q => by have h9 := (hoi.mp q).1; omega)]) c_66)⟩⟩, hS.F ht⟩) hS.2.2 dX15_readTerm_555
                      ·
                        have hi_108 : (wdS (TC fv z) a) < j := Nat.not_le.mp (fun q => c_106 ((nI_leI (a := j) (b := (wdS (TC fv z) a)) (by omega) (by omega)).mpr q))
                        refine lv_iload hx hb dX15_readTerm_534 (lv_at hl 0 rfl) ?_
                        refine lv_iload_n hx hb dX15_readTerm_536 rfl (lv_at hl 6 rfl) ?_
                        refine lv_icmp_ge (tgt := 555) hx hb dX15_readTerm_537 (by decide) (fun c_109 => ?_) (fun c_109 => ?_)
                        ·
                          have hi_110 : tt ≤ j := leN (N := tt) c_109
                          refine W.widen (k := 0) (n := 0) (by omega) (by omega) ?_
                          exact W.vret hx hb hr (fun t ht hWm => ⟨⟨(), rfl, trivial, ⟨F_74, q17, (nI (sgS (TC fv z) a)), q19, q20, q21, q22, QTm.mk ht hP hD hO hR, hv4, (rtx_no (by rw [htl]; unfold tlW; rw [if_neg (show ¬ BGW (TC fv z) a tt 9 [114, 101, 100, 105, 114, 101, 99, 116, 61] by rw [← hwa]; exact (orp0 hw_72 c_73)), if_neg (show ¬ OTH (TC fv z) a tt from fun q => by have h9 := (hoi.mp q).2.1; omega)]) c_66)⟩⟩, hS.F ht⟩) hS.2.2 dX15_readTerm_555
                        ·
                          have hi_111 : j < tt := ltN (N := tt) c_109
                          refine lv_aload_n hx hb dX15_readTerm_540 rfl (lv_at hl 4 rfl) ?_
                          refine lv_iload hx hb dX15_readTerm_541 (lv_at hl 0 rfl) ?_
                          refine pg_bald hx hb hK hP hL_g1 1 hF_78 rfl (vp_in_nI (by omega) (by omega)) dX15_readTerm_543 ?_
                          refine lv_topi (fun x_112 ex_112 => ?_)
                          obtain rfl : x_112 = fv j := ex_112.trans (congrArg fv (show ((nI j) : Int32).toNatClampNeg = j from nI_clamp (by omega)))
                          refine lv_bipush (v := 61) hx hb dX15_readTerm_544 (by decide) ?_
                          refine lv_icmp_ne (tgt := 555) hx hb dX15_readTerm_546 (by decide) (fun c_113 => ?_) (fun c_113 => ?_)
                          ·
                            refine W.widen (k := 0) (n := 0) (by omega) (by omega) ?_
                            exact W.vret hx hb hr (fun t ht hWm => ⟨⟨(), rfl, trivial, ⟨F_74, q17, (nI (sgS (TC fv z) a)), q19, q20, q21, q22, QTm.mk ht hP hD hO hR, hv4, (rtx_no (by rw [htl]; unfold tlW; rw [if_neg (show ¬ BGW (TC fv z) a tt 9 [114, 101, 100, 105, 114, 101, 99, 116, 61] by rw [← hwa]; exact (orp0 hw_72 c_73)), if_neg (show ¬ OTH (TC fv z) a tt from fun q => (fun q => c_113 ((tc_eq (z := z) (by omega) (by first | decide | omega)).mp q)) (hoi.mp q).2.2)]) c_66)⟩⟩, hS.F ht⟩) hS.2.2 dX15_readTerm_555
                          ·
                            refine lv_aload_n hx hb dX15_readTerm_549 rfl (lv_at hl 3 rfl) ?_
                            refine lv_bipush (v := 7) hx hb dX15_readTerm_550 (by decide) ?_
                            refine pg_put (ci := 15) (v := .int 7) (ty := .int) (C := RX15) (T := TX15) (N := 59) hx hb hts it_15 tyX15 tyX15_ok nmX15 hown hK hP hD hS hL_h0 hv4 rfl 17 (by decide) (hts _ kt_750) (fun _ h9 => h9) rfl (by decide +kernel) (rfl) (rfl) (Nat.le_of_ble_eq_true rfl) dX15_readTerm_552 (fun H locs hP hD hS => ?_)
                            obtain ⟨F_114, he_115, hP, hD, hO, hR⟩ : ∃ G, G = va_up F_74 h0 (.inr (15, (.ref ta) :: (.int (nI zt)) :: (.int (nI zo)) :: (.int (nI ze)) :: (.ref ou) :: (.ref so) :: (.ref ad) :: (.ref na) :: (.ref va) :: (.ref lc) :: (.ref dm) :: (.int (nI fm)) :: (.int (nI sn)) :: (.ref tg) :: (.int v14) :: (.int v15) :: (.ref pe) :: (.int 7) :: (.int (nI (sgS (TC fv z) a))) :: (.int q19) :: (.int q20) :: (.int q21) :: (.int q22) :: (.ref ml) :: (.ref bg) :: (.ref co) :: (.ref sp) :: (.ref nb0) :: (.ref nb1) :: (.ref nb2) :: (.int (nI nf)) :: (.int (nI bd)) :: (.int (nI mm)) :: (.int v33) :: (.ref pl) :: (.ref se) :: (.ref ke) :: (.ref wi) :: (.ref hs) :: (.ref mo) :: (.ref po) :: (.ref nu) :: (.ref pr) :: (.ref sq) :: (.ref xa) :: (.ref sa) :: (.ref n64) :: (.ref m64) :: (.ref ex) :: (.ref wh) :: (.ref sd) :: (.ref tk) :: (.int v52) :: (.int v53) :: (.int v54) :: (.ref hd) :: (.ref ak) :: (.ref ho) :: (.ref ot) :: [])) ∧ va_P (dC, dI) vwCl (va_pl L G) H ∧ va_D A (va_pl L G) ∧ OKm cs ty gm L G ∧ FR ty [ρ] F G := ⟨_, rfl, hP, hD, hO.up (shm.mod hT_h0 ⟨v14, v15, 7, (nI (sgS (TC fv z) a)), q19, q20, q21, q22, v33, v52, v53, v54, rfl, (by first | omega | assumption | exact Or.inl rfl | exact Or.inr rfl), (by first | omega | assumption | exact Or.inl rfl | exact Or.inr rfl), (by first | omega | assumption | exact Or.inl rfl | exact Or.inr rfl), (by first | omega | assumption | exact Or.inl rfl | exact Or.inr rfl), (by first | omega | assumption | exact Or.inl rfl | exact Or.inr rfl)⟩), hR.up hT_h0 (by simp)⟩
                            have hF_116 : F_114 h0 = .inr (15, (.ref ta) :: (.int (nI zt)) :: (.int (nI zo)) :: (.int (nI ze)) :: (.ref ou) :: (.ref so) :: (.ref ad) :: (.ref na) :: (.ref va) :: (.ref lc) :: (.ref dm) :: (.int (nI fm)) :: (.int (nI sn)) :: (.ref tg) :: (.int v14) :: (.int v15) :: (.ref pe) :: (.int 7) :: (.int (nI (sgS (TC fv z) a))) :: (.int q19) :: (.int q20) :: (.int q21) :: (.int q22) :: (.ref ml) :: (.ref bg) :: (.ref co) :: (.ref sp) :: (.ref nb0) :: (.ref nb1) :: (.ref nb2) :: (.int (nI nf)) :: (.int (nI bd)) :: (.int (nI mm)) :: (.int v33) :: (.ref pl) :: (.ref se) :: (.ref ke) :: (.ref wi) :: (.ref hs) :: (.ref mo) :: (.ref po) :: (.ref nu) :: (.ref pr) :: (.ref sq) :: (.ref xa) :: (.ref sa) :: (.ref n64) :: (.ref m64) :: (.ref ex) :: (.ref wh) :: (.ref sd) :: (.ref tk) :: (.int v52) :: (.int v53) :: (.int v54) :: (.ref hd) :: (.ref ak) :: (.ref ho) :: (.ref ot) :: []) := by rw [he_115]; exact up_self
                            have hF_117 : F_114 g1 = .inl (cs 17, 700, .inl fv) := by rw [he_115, up_ne (ne_ty hT_g1 hT_h0 (by simp))]; exact hF_78
                            refine W.widen (k := 0) (n := 0) (by omega) (by omega) ?_
                            exact W.vret hx hb hr (fun t ht hWm => ⟨⟨(), rfl, trivial, ⟨F_114, 7, (nI (sgS (TC fv z) a)), q19, q20, q21, q22, QTm.mk ht hP hD hO hR, hF_116, (rtx_o (by rw [htl]; unfold tlW; rw [if_neg (show ¬ BGW (TC fv z) a tt 9 [114, 101, 100, 105, 114, 101, 99, 116, 61] by rw [← hwa]; exact (orp0 hw_72 c_73)), if_pos (show OTH (TC fv z) a tt from hoi.mpr ⟨by omega, by omega, ((tc_eq (z := z) (by omega) (by first | decide | omega)).mpr c_113)⟩)]) (by rw [hsa]))⟩⟩, hS.F ht⟩) hS.2.2 dX15_readTerm_555
                    ·
                      have hi_118 : (wdS (TC fv z) a) < j := Nat.not_le.mp (fun q => c_104 ((nI_leI (a := j) (b := (wdS (TC fv z) a)) (by omega) (by omega)).mpr q))
                      refine lv_aload_n hx hb dX15_readTerm_484 rfl (lv_at hl 4 rfl) ?_
                      refine lv_iload hx hb dX15_readTerm_485 (lv_at hl 0 rfl) ?_
                      refine pg_bald hx hb hK hP hL_g1 1 hF_78 rfl (vp_in_nI (by omega) (by omega)) dX15_readTerm_487 ?_
                      refine lv_topi (fun x_119 ex_119 => ?_)
                      obtain rfl : x_119 = fv j := ex_119.trans (congrArg fv (show ((nI j) : Int32).toNatClampNeg = j from nI_clamp (by omega)))
                      have hFc := pg_free hD hS hA
                      refine va_calli (va_runS (As := [.int (fv j)]) (rest := []) ⟨hx, hb, hml, hown, hts⟩ (s_X15_isDigit_e l dC dI cs ty gm L H.size F_74 (fv j) hW ) ⟨callB_of 1 hts (gi kt_687) rfl rfl rfl (hts _ kt_669) (hts _ kt_707) (by decide +kernel) ⟨Nat.le_of_ble_eq_true rfl, Nat.le_of_ble_eq_true rfl⟩, (hts _ kt_688)⟩ ⟨fun a U g mk q => ⟨q.1, PTm.calling q.2⟩, fun U hU hWm => ⟨rfl, PTm.mk hU hWm hP hK hD hE hO⟩⟩ rfl rfl hl.1 rfl (lv_room (Nat.le_of_ble_eq_true rfl)) dX15_readTerm_488 ⟨by show _ + 0 ≤ 0; omega, by show _ + 0 ≤ 0; omega⟩) hS (fun q _ h => hFc q h) hFc (fun r_120 u t H1 locs ht hvm hw hB hz1 hk1 hS => ?_)
                      obtain ⟨F_121, hB1⟩ := hB
                      obtain rfl : F_74 = F_121 := (funext (fun a => hB1.2.2.2 a List.not_mem_nil)).symm
                      obtain ⟨hP, hD, hO, hR⟩ := QTm.back hB1 ht hFc hR (fun q h => absurd h List.not_mem_nil)
                      generalize H1 = H at hP hS ⊢
                      have hw : r_120 = (if 48 ≤ (fv j) ∧ (fv j) ≤ 57 then 1 else 0) := hw
                      have hw_122 := hw
                      refine lv_if_ne (tgt := 521) hx hb dX15_readTerm_491 (by decide) (fun c_123 => ?_) (fun c_123 => ?_)
                      ·
                        refine W.widen (k := 0) (n := 0) (by omega) (by omega) ?_
                        exact jn_94 () F_74 (⟨⟨Or.inr (Or.inl (by rw [tc_at (show j < z by omega)]; exact sme_d hw_122 c_123)), fun q => by omega⟩, hv4⟩) hO hR _ _ hP hD hS ls (lv_sub hl [0, 1, 2, 3, 4, 5, 6] rfl)
                      ·
                        refine lv_aload_n hx hb dX15_readTerm_494 rfl (lv_at hl 4 rfl) ?_
                        refine lv_iload hx hb dX15_readTerm_495 (lv_at hl 0 rfl) ?_
                        refine pg_bald hx hb hK hP hL_g1 1 hF_78 rfl (vp_in_nI (by omega) (by omega)) dX15_readTerm_497 ?_
                        refine lv_topi (fun x_124 ex_124 => ?_)
                        obtain rfl : x_124 = fv j := ex_124.trans (congrArg fv (show ((nI j) : Int32).toNatClampNeg = j from nI_clamp (by omega)))
                        refine lv_bipush (v := 45) hx hb dX15_readTerm_498 (by decide) ?_
                        refine lv_icmp_eq (tgt := 521) hx hb dX15_readTerm_500 (by decide) (fun c_125 => ?_) (fun c_125 => ?_)
                        ·
                          refine W.widen (k := 0) (n := 0) (by omega) (by omega) ?_
                          exact jn_94 () F_74 (⟨⟨Or.inr (Or.inr (Or.inl ((tc_eq (z := z) (by omega) (by first | decide | omega)).mpr c_125))), fun q => by omega⟩, hv4⟩) hO hR _ _ hP hD hS ls (lv_sub hl [0, 1, 2, 3, 4, 5, 6] rfl)
                        ·
                          refine lv_aload_n hx hb dX15_readTerm_503 rfl (lv_at hl 4 rfl) ?_
                          refine lv_iload hx hb dX15_readTerm_504 (lv_at hl 0 rfl) ?_
                          refine pg_bald hx hb hK hP hL_g1 1 hF_78 rfl (vp_in_nI (by omega) (by omega)) dX15_readTerm_506 ?_
                          refine lv_topi (fun x_126 ex_126 => ?_)
                          obtain rfl : x_126 = fv j := ex_126.trans (congrArg fv (show ((nI j) : Int32).toNatClampNeg = j from nI_clamp (by omega)))
                          refine lv_bipush (v := 95) hx hb dX15_readTerm_507 (by decide) ?_
                          refine lv_icmp_eq (tgt := 521) hx hb dX15_readTerm_509 (by decide) (fun c_127 => ?_) (fun c_127 => ?_)
                          ·
                            refine W.widen (k := 0) (n := 0) (by omega) (by omega) ?_
                            exact jn_94 () F_74 (⟨⟨Or.inr (Or.inr (Or.inr (Or.inl ((tc_eq (z := z) (by omega) (by first | decide | omega)).mpr c_127)))), fun q => by omega⟩, hv4⟩) hO hR _ _ hP hD hS ls (lv_sub hl [0, 1, 2, 3, 4, 5, 6] rfl)
                          ·
                            refine lv_aload_n hx hb dX15_readTerm_512 rfl (lv_at hl 4 rfl) ?_
                            refine lv_iload hx hb dX15_readTerm_513 (lv_at hl 0 rfl) ?_
                            refine pg_bald hx hb hK hP hL_g1 1 hF_78 rfl (vp_in_nI (by omega) (by omega)) dX15_readTerm_515 ?_
                            refine lv_topi (fun x_128 ex_128 => ?_)
                            obtain rfl : x_128 = fv j := ex_128.trans (congrArg fv (show ((nI j) : Int32).toNatClampNeg = j from nI_clamp (by omega)))
                            refine lv_bipush (v := 46) hx hb dX15_readTerm_516 (by decide) ?_
                            refine lv_icmp_ne (tgt := 527) hx hb dX15_readTerm_518 (by decide) (fun c_129 => ?_) (fun c_129 => ?_)
                            ·
                              have hoi := oth_lp hv1 hv2 hv3 (Or.inr (fun q => by rcases q.1 with q | q | q | q | q; exact absurd q (by rw [tc_at (show j < z by omega)]; exact sms_n hw_102 c_103); exact absurd q (by rw [tc_at (show j < z by omega)]; exact sme_n hw_122 c_123); exact (fun q => c_125 ((tc_eq (z := z) (by omega) (by first | decide | omega)).mp q)) q; exact (fun q => c_127 ((tc_eq (z := z) (by omega) (by first | decide | omega)).mp q)) q; exact (fun q => c_129 ((tc_eq (z := z) (by omega) (by first | decide | omega)).mp q)) q))
                              rw [hwa] at hoi
                              refine lv_iload hx hb dX15_readTerm_527 (lv_at hl 0 rfl) ?_
                              refine lv_iload hx hb dX15_readTerm_529 (lv_at hl 2 rfl) ?_
                              refine lv_icmp_le (tgt := 555) hx hb dX15_readTerm_531 (by decide) (fun c_130 => ?_) (fun c_130 => ?_)
                              ·
                                have hi_131 : j ≤ (wdS (TC fv z) a) := (nI_leI (a := j) (b := (wdS (TC fv z) a)) (by omega) (by omega)).mp c_130
                                refine W.widen (k := 0) (n := 0) (by omega) (by omega) ?_
                                exact W.vret hx hb hr (fun t ht hWm => ⟨⟨(), rfl, trivial, ⟨F_74, q17, (nI (sgS (TC fv z) a)), q19, q20, q21, q22, QTm.mk ht hP hD hO hR, hv4, (rtx_no (by rw [htl]; unfold tlW; rw [if_neg (show ¬ BGW (TC fv z) a tt 9 [114, 101, 100, 105, 114, 101, 99, 116, 61] by rw [← hwa]; exact (orp0 hw_72 c_73)), if_neg (show ¬ OTH (TC fv z) a tt from fun q => by have h9 := (hoi.mp q).1; omega)]) c_66)⟩⟩, hS.F ht⟩) hS.2.2 dX15_readTerm_555
                              ·
                                have hi_132 : (wdS (TC fv z) a) < j := Nat.not_le.mp (fun q => c_130 ((nI_leI (a := j) (b := (wdS (TC fv z) a)) (by omega) (by omega)).mpr q))
                                refine lv_iload hx hb dX15_readTerm_534 (lv_at hl 0 rfl) ?_
                                refine lv_iload_n hx hb dX15_readTerm_536 rfl (lv_at hl 6 rfl) ?_
                                refine lv_icmp_ge (tgt := 555) hx hb dX15_readTerm_537 (by decide) (fun c_133 => ?_) (fun c_133 => ?_)
                                ·
                                  have hi_134 : tt ≤ j := leN (N := tt) c_133
                                  refine W.widen (k := 0) (n := 0) (by omega) (by omega) ?_
                                  exact W.vret hx hb hr (fun t ht hWm => ⟨⟨(), rfl, trivial, ⟨F_74, q17, (nI (sgS (TC fv z) a)), q19, q20, q21, q22, QTm.mk ht hP hD hO hR, hv4, (rtx_no (by rw [htl]; unfold tlW; rw [if_neg (show ¬ BGW (TC fv z) a tt 9 [114, 101, 100, 105, 114, 101, 99, 116, 61] by rw [← hwa]; exact (orp0 hw_72 c_73)), if_neg (show ¬ OTH (TC fv z) a tt from fun q => by have h9 := (hoi.mp q).2.1; omega)]) c_66)⟩⟩, hS.F ht⟩) hS.2.2 dX15_readTerm_555
                                ·
                                  have hi_135 : j < tt := ltN (N := tt) c_133
                                  refine lv_aload_n hx hb dX15_readTerm_540 rfl (lv_at hl 4 rfl) ?_
                                  refine lv_iload hx hb dX15_readTerm_541 (lv_at hl 0 rfl) ?_
                                  refine pg_bald hx hb hK hP hL_g1 1 hF_78 rfl (vp_in_nI (by omega) (by omega)) dX15_readTerm_543 ?_
                                  refine lv_topi (fun x_136 ex_136 => ?_)
                                  obtain rfl : x_136 = fv j := ex_136.trans (congrArg fv (show ((nI j) : Int32).toNatClampNeg = j from nI_clamp (by omega)))
                                  refine lv_bipush (v := 61) hx hb dX15_readTerm_544 (by decide) ?_
                                  refine lv_icmp_ne (tgt := 555) hx hb dX15_readTerm_546 (by decide) (fun c_137 => ?_) (fun c_137 => ?_)
                                  ·
                                    refine W.widen (k := 0) (n := 0) (by omega) (by omega) ?_
                                    exact W.vret hx hb hr (fun t ht hWm => ⟨⟨(), rfl, trivial, ⟨F_74, q17, (nI (sgS (TC fv z) a)), q19, q20, q21, q22, QTm.mk ht hP hD hO hR, hv4, (rtx_no (by rw [htl]; unfold tlW; rw [if_neg (show ¬ BGW (TC fv z) a tt 9 [114, 101, 100, 105, 114, 101, 99, 116, 61] by rw [← hwa]; exact (orp0 hw_72 c_73)), if_neg (show ¬ OTH (TC fv z) a tt from fun q => (fun q => c_137 ((tc_eq (z := z) (by omega) (by first | decide | omega)).mp q)) (hoi.mp q).2.2)]) c_66)⟩⟩, hS.F ht⟩) hS.2.2 dX15_readTerm_555
                                  ·
                                    refine lv_aload_n hx hb dX15_readTerm_549 rfl (lv_at hl 3 rfl) ?_
                                    refine lv_bipush (v := 7) hx hb dX15_readTerm_550 (by decide) ?_
                                    refine pg_put (ci := 15) (v := .int 7) (ty := .int) (C := RX15) (T := TX15) (N := 59) hx hb hts it_15 tyX15 tyX15_ok nmX15 hown hK hP hD hS hL_h0 hv4 rfl 17 (by decide) (hts _ kt_750) (fun _ h9 => h9) rfl (by decide +kernel) (rfl) (rfl) (Nat.le_of_ble_eq_true rfl) dX15_readTerm_552 (fun H locs hP hD hS => ?_)
                                    obtain ⟨F_138, he_139, hP, hD, hO, hR⟩ : ∃ G, G = va_up F_74 h0 (.inr (15, (.ref ta) :: (.int (nI zt)) :: (.int (nI zo)) :: (.int (nI ze)) :: (.ref ou) :: (.ref so) :: (.ref ad) :: (.ref na) :: (.ref va) :: (.ref lc) :: (.ref dm) :: (.int (nI fm)) :: (.int (nI sn)) :: (.ref tg) :: (.int v14) :: (.int v15) :: (.ref pe) :: (.int 7) :: (.int (nI (sgS (TC fv z) a))) :: (.int q19) :: (.int q20) :: (.int q21) :: (.int q22) :: (.ref ml) :: (.ref bg) :: (.ref co) :: (.ref sp) :: (.ref nb0) :: (.ref nb1) :: (.ref nb2) :: (.int (nI nf)) :: (.int (nI bd)) :: (.int (nI mm)) :: (.int v33) :: (.ref pl) :: (.ref se) :: (.ref ke) :: (.ref wi) :: (.ref hs) :: (.ref mo) :: (.ref po) :: (.ref nu) :: (.ref pr) :: (.ref sq) :: (.ref xa) :: (.ref sa) :: (.ref n64) :: (.ref m64) :: (.ref ex) :: (.ref wh) :: (.ref sd) :: (.ref tk) :: (.int v52) :: (.int v53) :: (.int v54) :: (.ref hd) :: (.ref ak) :: (.ref ho) :: (.ref ot) :: [])) ∧ va_P (dC, dI) vwCl (va_pl L G) H ∧ va_D A (va_pl L G) ∧ OKm cs ty gm L G ∧ FR ty [ρ] F G := ⟨_, rfl, hP, hD, hO.up (shm.mod hT_h0 ⟨v14, v15, 7, (nI (sgS (TC fv z) a)), q19, q20, q21, q22, v33, v52, v53, v54, rfl, (by first | omega | assumption | exact Or.inl rfl | exact Or.inr rfl), (by first | omega | assumption | exact Or.inl rfl | exact Or.inr rfl), (by first | omega | assumption | exact Or.inl rfl | exact Or.inr rfl), (by first | omega | assumption | exact Or.inl rfl | exact Or.inr rfl), (by first | omega | assumption | exact Or.inl rfl | exact Or.inr rfl)⟩), hR.up hT_h0 (by simp)⟩
                                    have hF_140 : F_138 h0 = .inr (15, (.ref ta) :: (.int (nI zt)) :: (.int (nI zo)) :: (.int (nI ze)) :: (.ref ou) :: (.ref so) :: (.ref ad) :: (.ref na) :: (.ref va) :: (.ref lc) :: (.ref dm) :: (.int (nI fm)) :: (.int (nI sn)) :: (.ref tg) :: (.int v14) :: (.int v15) :: (.ref pe) :: (.int 7) :: (.int (nI (sgS (TC fv z) a))) :: (.int q19) :: (.int q20) :: (.int q21) :: (.int q22) :: (.ref ml) :: (.ref bg) :: (.ref co) :: (.ref sp) :: (.ref nb0) :: (.ref nb1) :: (.ref nb2) :: (.int (nI nf)) :: (.int (nI bd)) :: (.int (nI mm)) :: (.int v33) :: (.ref pl) :: (.ref se) :: (.ref ke) :: (.ref wi) :: (.ref hs) :: (.ref mo) :: (.ref po) :: (.ref nu) :: (.ref pr) :: (.ref sq) :: (.ref xa) :: (.ref sa) :: (.ref n64) :: (.ref m64) :: (.ref ex) :: (.ref wh) :: (.ref sd) :: (.ref tk) :: (.int v52) :: (.int v53) :: (.int v54) :: (.ref hd) :: (.ref ak) :: (.ref ho) :: (.ref ot) :: []) := by rw [he_139]; exact up_self
                                    have hF_141 : F_138 g1 = .inl (cs 17, 700, .inl fv) := by rw [he_139, up_ne (ne_ty hT_g1 hT_h0 (by simp))]; exact hF_78
                                    refine W.widen (k := 0) (n := 0) (by omega) (by omega) ?_
                                    exact W.vret hx hb hr (fun t ht hWm => ⟨⟨(), rfl, trivial, ⟨F_138, 7, (nI (sgS (TC fv z) a)), q19, q20, q21, q22, QTm.mk ht hP hD hO hR, hF_140, (rtx_o (by rw [htl]; unfold tlW; rw [if_neg (show ¬ BGW (TC fv z) a tt 9 [114, 101, 100, 105, 114, 101, 99, 116, 61] by rw [← hwa]; exact (orp0 hw_72 c_73)), if_pos (show OTH (TC fv z) a tt from hoi.mpr ⟨by omega, by omega, ((tc_eq (z := z) (by omega) (by first | decide | omega)).mpr c_137)⟩)]) (by rw [hsa]))⟩⟩, hS.F ht⟩) hS.2.2 dX15_readTerm_555
                            ·
                              refine W.widen (k := 0) (n := 0) (by omega) (by omega) ?_
                              exact jn_94 () F_74 (⟨⟨Or.inr (Or.inr (Or.inr (Or.inr ((tc_eq (z := z) (by omega) (by first | decide | omega)).mpr c_129)))), fun q => by omega⟩, hv4⟩) hO hR _ _ hP hD hS ls (lv_sub hl [0, 1, 2, 3, 4, 5, 6] rfl)
            ·
              have hb414 := (orp1 hw_72 c_73).1
              refine lv_aload_n hx hb dX15_readTerm_420 rfl (lv_at hl 2 rfl) ?_
              refine lv_iload hx hb dX15_readTerm_421 (lv_at hl 1 rfl) ?_
              refine lv_bipush (v := 9) hx hb dX15_readTerm_423 (by decide) ?_
              refine lv_iadd hx hb dX15_readTerm_425 ?_
              refine lv_topi (fun x_142 ex_142 => ?_)
              obtain rfl : x_142 = (nI ((wdS (TC fv z) a) + 9)) := ex_142.trans (nI_add (wdS (TC fv z) a) 9)
              refine pg_put (ci := 15) (v := .int (nI ((wdS (TC fv z) a) + 9))) (ty := .int) (C := RX15) (T := TX15) (N := 59) hx hb hts it_15 tyX15 tyX15_ok nmX15 hown hK hP hD hS hL_h0 hq1 rfl 19 (by decide) (hts _ kt_751) (fun _ h9 => h9) rfl (by decide +kernel) (rfl) (rfl) (Nat.le_of_ble_eq_true rfl) dX15_readTerm_426 (fun H locs hP hD hS => ?_)
              obtain ⟨F_143, he_144, hP, hD, hO, hR⟩ : ∃ G, G = va_up F_62 h0 (.inr (15, (.ref ta) :: (.int (nI zt)) :: (.int (nI zo)) :: (.int (nI ze)) :: (.ref ou) :: (.ref so) :: (.ref ad) :: (.ref na) :: (.ref va) :: (.ref lc) :: (.ref dm) :: (.int (nI fm)) :: (.int (nI sn)) :: (.ref tg) :: (.int v14) :: (.int v15) :: (.ref pe) :: (.int q17) :: (.int (nI (sgS (TC fv z) a))) :: (.int (nI ((wdS (TC fv z) a) + 9))) :: (.int q20) :: (.int q21) :: (.int q22) :: (.ref ml) :: (.ref bg) :: (.ref co) :: (.ref sp) :: (.ref nb0) :: (.ref nb1) :: (.ref nb2) :: (.int (nI nf)) :: (.int (nI bd)) :: (.int (nI mm)) :: (.int v33) :: (.ref pl) :: (.ref se) :: (.ref ke) :: (.ref wi) :: (.ref hs) :: (.ref mo) :: (.ref po) :: (.ref nu) :: (.ref pr) :: (.ref sq) :: (.ref xa) :: (.ref sa) :: (.ref n64) :: (.ref m64) :: (.ref ex) :: (.ref wh) :: (.ref sd) :: (.ref tk) :: (.int v52) :: (.int v53) :: (.int v54) :: (.ref hd) :: (.ref ak) :: (.ref ho) :: (.ref ot) :: [])) ∧ va_P (dC, dI) vwCl (va_pl L G) H ∧ va_D A (va_pl L G) ∧ OKm cs ty gm L G ∧ FR ty [ρ] F G := ⟨_, rfl, hP, hD, hO.up (shm.mod hT_h0 ⟨v14, v15, q17, (nI (sgS (TC fv z) a)), (nI ((wdS (TC fv z) a) + 9)), q20, q21, q22, v33, v52, v53, v54, rfl, (by first | omega | assumption | exact Or.inl rfl | exact Or.inr rfl), (by first | omega | assumption | exact Or.inl rfl | exact Or.inr rfl), (by first | omega | assumption | exact Or.inl rfl | exact Or.inr rfl), (by first | omega | assumption | exact Or.inl rfl | exact Or.inr rfl), (by first | omega | assumption | exact Or.inl rfl | exact Or.inr rfl)⟩), hR.up hT_h0 (by simp)⟩
              have hF_145 : F_143 h0 = .inr (15, (.ref ta) :: (.int (nI zt)) :: (.int (nI zo)) :: (.int (nI ze)) :: (.ref ou) :: (.ref so) :: (.ref ad) :: (.ref na) :: (.ref va) :: (.ref lc) :: (.ref dm) :: (.int (nI fm)) :: (.int (nI sn)) :: (.ref tg) :: (.int v14) :: (.int v15) :: (.ref pe) :: (.int q17) :: (.int (nI (sgS (TC fv z) a))) :: (.int (nI ((wdS (TC fv z) a) + 9))) :: (.int q20) :: (.int q21) :: (.int q22) :: (.ref ml) :: (.ref bg) :: (.ref co) :: (.ref sp) :: (.ref nb0) :: (.ref nb1) :: (.ref nb2) :: (.int (nI nf)) :: (.int (nI bd)) :: (.int (nI mm)) :: (.int v33) :: (.ref pl) :: (.ref se) :: (.ref ke) :: (.ref wi) :: (.ref hs) :: (.ref mo) :: (.ref po) :: (.ref nu) :: (.ref pr) :: (.ref sq) :: (.ref xa) :: (.ref sa) :: (.ref n64) :: (.ref m64) :: (.ref ex) :: (.ref wh) :: (.ref sd) :: (.ref tk) :: (.int v52) :: (.int v53) :: (.int v54) :: (.ref hd) :: (.ref ak) :: (.ref ho) :: (.ref ot) :: []) := by rw [he_144]; exact up_self
              have hF_146 : F_143 g1 = .inl (cs 17, 700, .inl fv) := by rw [he_144, up_ne (ne_ty hT_g1 hT_h0 (by simp))]; exact hF_65
              refine lv_aload_n hx hb dX15_readTerm_429 rfl (lv_at hl 2 rfl) ?_
              refine lv_iload_n hx hb dX15_readTerm_430 rfl (lv_at hl 5 rfl) ?_
              refine pg_put (ci := 15) (v := .int (nI tt)) (ty := .int) (C := RX15) (T := TX15) (N := 59) hx hb hts it_15 tyX15 tyX15_ok nmX15 hown hK hP hD hS hL_h0 hF_145 rfl 20 (by decide) (hts _ kt_752) (fun _ h9 => h9) rfl (by decide +kernel) (rfl) (rfl) (Nat.le_of_ble_eq_true rfl) dX15_readTerm_431 (fun H locs hP hD hS => ?_)
              obtain ⟨F_147, he_148, hP, hD, hO, hR⟩ : ∃ G, G = va_up F_143 h0 (.inr (15, (.ref ta) :: (.int (nI zt)) :: (.int (nI zo)) :: (.int (nI ze)) :: (.ref ou) :: (.ref so) :: (.ref ad) :: (.ref na) :: (.ref va) :: (.ref lc) :: (.ref dm) :: (.int (nI fm)) :: (.int (nI sn)) :: (.ref tg) :: (.int v14) :: (.int v15) :: (.ref pe) :: (.int q17) :: (.int (nI (sgS (TC fv z) a))) :: (.int (nI ((wdS (TC fv z) a) + 9))) :: (.int (nI tt)) :: (.int q21) :: (.int q22) :: (.ref ml) :: (.ref bg) :: (.ref co) :: (.ref sp) :: (.ref nb0) :: (.ref nb1) :: (.ref nb2) :: (.int (nI nf)) :: (.int (nI bd)) :: (.int (nI mm)) :: (.int v33) :: (.ref pl) :: (.ref se) :: (.ref ke) :: (.ref wi) :: (.ref hs) :: (.ref mo) :: (.ref po) :: (.ref nu) :: (.ref pr) :: (.ref sq) :: (.ref xa) :: (.ref sa) :: (.ref n64) :: (.ref m64) :: (.ref ex) :: (.ref wh) :: (.ref sd) :: (.ref tk) :: (.int v52) :: (.int v53) :: (.int v54) :: (.ref hd) :: (.ref ak) :: (.ref ho) :: (.ref ot) :: [])) ∧ va_P (dC, dI) vwCl (va_pl L G) H ∧ va_D A (va_pl L G) ∧ OKm cs ty gm L G ∧ FR ty [ρ] F G := ⟨_, rfl, hP, hD, hO.up (shm.mod hT_h0 ⟨v14, v15, q17, (nI (sgS (TC fv z) a)), (nI ((wdS (TC fv z) a) + 9)), (nI tt), q21, q22, v33, v52, v53, v54, rfl, (by first | omega | assumption | exact Or.inl rfl | exact Or.inr rfl), (by first | omega | assumption | exact Or.inl rfl | exact Or.inr rfl), (by first | omega | assumption | exact Or.inl rfl | exact Or.inr rfl), (by first | omega | assumption | exact Or.inl rfl | exact Or.inr rfl), (by first | omega | assumption | exact Or.inl rfl | exact Or.inr rfl)⟩), hR.up hT_h0 (by simp)⟩
              have hF_149 : F_147 h0 = .inr (15, (.ref ta) :: (.int (nI zt)) :: (.int (nI zo)) :: (.int (nI ze)) :: (.ref ou) :: (.ref so) :: (.ref ad) :: (.ref na) :: (.ref va) :: (.ref lc) :: (.ref dm) :: (.int (nI fm)) :: (.int (nI sn)) :: (.ref tg) :: (.int v14) :: (.int v15) :: (.ref pe) :: (.int q17) :: (.int (nI (sgS (TC fv z) a))) :: (.int (nI ((wdS (TC fv z) a) + 9))) :: (.int (nI tt)) :: (.int q21) :: (.int q22) :: (.ref ml) :: (.ref bg) :: (.ref co) :: (.ref sp) :: (.ref nb0) :: (.ref nb1) :: (.ref nb2) :: (.int (nI nf)) :: (.int (nI bd)) :: (.int (nI mm)) :: (.int v33) :: (.ref pl) :: (.ref se) :: (.ref ke) :: (.ref wi) :: (.ref hs) :: (.ref mo) :: (.ref po) :: (.ref nu) :: (.ref pr) :: (.ref sq) :: (.ref xa) :: (.ref sa) :: (.ref n64) :: (.ref m64) :: (.ref ex) :: (.ref wh) :: (.ref sd) :: (.ref tk) :: (.int v52) :: (.int v53) :: (.int v54) :: (.ref hd) :: (.ref ak) :: (.ref ho) :: (.ref ot) :: []) := by rw [he_148]; exact up_self
              have hF_150 : F_147 g1 = .inl (cs 17, 700, .inl fv) := by rw [he_148, up_ne (ne_ty hT_g1 hT_h0 (by simp))]; exact hF_146
              refine lv_aload_n hx hb dX15_readTerm_434 rfl (lv_at hl 3 rfl) ?_
              refine lv_aload_n hx hb dX15_readTerm_435 rfl (lv_at hl 2 rfl) ?_
              refine pg_get (ci := 15) (v := .int (nI ((wdS (TC fv z) a) + 9))) (C := RX15) (T := TX15) (N := 59) hx hb hts it_15 hown hK hP hL_h0 hF_149 rfl 19 (by decide) (hts _ kt_751) (fun _ h9 => h9) rfl dX15_readTerm_436 ?_
              refine lv_aload_n hx hb dX15_readTerm_439 rfl (lv_at hl 2 rfl) ?_
              refine pg_get (ci := 15) (v := .int (nI tt)) (C := RX15) (T := TX15) (N := 59) hx hb hts it_15 hown hK hP hL_h0 hF_149 rfl 20 (by decide) (hts _ kt_752) (fun _ h9 => h9) rfl dX15_readTerm_440 ?_
              refine lv_iconst (v := 1) hx hb dX15_readTerm_443 (by decide) ?_
              have hFc := pg_free hD hS hA
              refine va_calli (va_runS (As := [.ref g1, .int (nI ((wdS (TC fv z) a) + 9)), .int (nI tt), .int 1]) (rest := []) ⟨hx, hb, hml, hown, hts⟩ (s_X15_isD_x l dC dI cs ty gm L H.size F_147 g1 μ 700 z ((wdS (TC fv z) a) + 9) tt fv 1 hW hL_g1 hT_g1 hF_150 (htz) (by omega) (by first | omega | assumption | exact Or.inl rfl) (by omega) (Or.inl (by decide))) ⟨callB_of 4 hts (gi kt_753) rfl rfl rfl (hts _ kt_669) (hts _ kt_754) (by decide +kernel) ⟨Nat.le_of_ble_eq_true rfl, Nat.le_of_ble_eq_true rfl⟩, (hts _ kt_755)⟩ ⟨fun a U g mk q => ⟨q.1, PTm.calling q.2⟩, fun U hU hWm => ⟨rfl, PTm.mk hU hWm hP hK hD hE hO⟩⟩ rfl rfl hl.1 rfl (lv_room (Nat.le_of_ble_eq_true rfl)) dX15_readTerm_444 ⟨by show _ + 0 ≤ 0; omega, by show _ + 0 ≤ 0; omega⟩) hS (fun q _ h => hFc q h) hFc (fun r_151 u t H1 locs ht hvm hw hB hz1 hk1 hS => ?_)
              obtain ⟨F_152, hB1⟩ := hB
              obtain rfl : F_147 = F_152 := (funext (fun a => hB1.2.2.2 a List.not_mem_nil)).symm
              obtain ⟨hP, hD, hO, hR⟩ := QTm.back hB1 ht hFc hR (fun q h => absurd h List.not_mem_nil)
              generalize H1 = H at hP hS ⊢
              have hw_153 : ORP r_151 (HSW (TC fv z) ((wdS (TC fv z) a) + 9) tt) := hw
              clear hw
              refine lv_if_eq (tgt := 456) hx hb dX15_readTerm_447 (by decide) (fun c_154 => ?_) (fun c_154 => ?_)
              ·
                refine W.widen (k := 0) (n := 0) (by omega) (by omega) ?_
                exact W.vret hx hb hr (fun t ht hWm => ⟨⟨(), rfl, trivial, ⟨F_147, q17, (nI (sgS (TC fv z) a)), (nI ((wdS (TC fv z) a) + 9)), (nI tt), q21, q22, QTm.mk ht hP hD hO hR, hF_149, (rtx_no (by rw [htl]; unfold tlW; rw [if_pos (show BGW (TC fv z) a tt 9 [114, 101, 100, 105, 114, 101, 99, 116, 61] by rw [← hwa]; exact (orp1 hw_72 c_73)), if_neg (show ¬ HSW (TC fv z) (a + 9) tt by rw [← hwa]; exact (orp0 hw_153 c_154))]) c_66)⟩⟩, hS.F ht⟩) hS.2.2 dX15_readTerm_456
              ·
                refine lv_aload_n hx hb dX15_readTerm_450 rfl (lv_at hl 2 rfl) ?_
                refine lv_bipush (v := 6) hx hb dX15_readTerm_451 (by decide) ?_
                refine pg_put (ci := 15) (v := .int 6) (ty := .int) (C := RX15) (T := TX15) (N := 59) hx hb hts it_15 tyX15 tyX15_ok nmX15 hown hK hP hD hS hL_h0 hF_149 rfl 17 (by decide) (hts _ kt_750) (fun _ h9 => h9) rfl (by decide +kernel) (rfl) (rfl) (Nat.le_of_ble_eq_true rfl) dX15_readTerm_453 (fun H locs hP hD hS => ?_)
                obtain ⟨F_155, he_156, hP, hD, hO, hR⟩ : ∃ G, G = va_up F_147 h0 (.inr (15, (.ref ta) :: (.int (nI zt)) :: (.int (nI zo)) :: (.int (nI ze)) :: (.ref ou) :: (.ref so) :: (.ref ad) :: (.ref na) :: (.ref va) :: (.ref lc) :: (.ref dm) :: (.int (nI fm)) :: (.int (nI sn)) :: (.ref tg) :: (.int v14) :: (.int v15) :: (.ref pe) :: (.int 6) :: (.int (nI (sgS (TC fv z) a))) :: (.int (nI ((wdS (TC fv z) a) + 9))) :: (.int (nI tt)) :: (.int q21) :: (.int q22) :: (.ref ml) :: (.ref bg) :: (.ref co) :: (.ref sp) :: (.ref nb0) :: (.ref nb1) :: (.ref nb2) :: (.int (nI nf)) :: (.int (nI bd)) :: (.int (nI mm)) :: (.int v33) :: (.ref pl) :: (.ref se) :: (.ref ke) :: (.ref wi) :: (.ref hs) :: (.ref mo) :: (.ref po) :: (.ref nu) :: (.ref pr) :: (.ref sq) :: (.ref xa) :: (.ref sa) :: (.ref n64) :: (.ref m64) :: (.ref ex) :: (.ref wh) :: (.ref sd) :: (.ref tk) :: (.int v52) :: (.int v53) :: (.int v54) :: (.ref hd) :: (.ref ak) :: (.ref ho) :: (.ref ot) :: [])) ∧ va_P (dC, dI) vwCl (va_pl L G) H ∧ va_D A (va_pl L G) ∧ OKm cs ty gm L G ∧ FR ty [ρ] F G := ⟨_, rfl, hP, hD, hO.up (shm.mod hT_h0 ⟨v14, v15, 6, (nI (sgS (TC fv z) a)), (nI ((wdS (TC fv z) a) + 9)), (nI tt), q21, q22, v33, v52, v53, v54, rfl, (by first | omega | assumption | exact Or.inl rfl | exact Or.inr rfl), (by first | omega | assumption | exact Or.inl rfl | exact Or.inr rfl), (by first | omega | assumption | exact Or.inl rfl | exact Or.inr rfl), (by first | omega | assumption | exact Or.inl rfl | exact Or.inr rfl), (by first | omega | assumption | exact Or.inl rfl | exact Or.inr rfl)⟩), hR.up hT_h0 (by simp)⟩
                have hF_157 : F_155 h0 = .inr (15, (.ref ta) :: (.int (nI zt)) :: (.int (nI zo)) :: (.int (nI ze)) :: (.ref ou) :: (.ref so) :: (.ref ad) :: (.ref na) :: (.ref va) :: (.ref lc) :: (.ref dm) :: (.int (nI fm)) :: (.int (nI sn)) :: (.ref tg) :: (.int v14) :: (.int v15) :: (.ref pe) :: (.int 6) :: (.int (nI (sgS (TC fv z) a))) :: (.int (nI ((wdS (TC fv z) a) + 9))) :: (.int (nI tt)) :: (.int q21) :: (.int q22) :: (.ref ml) :: (.ref bg) :: (.ref co) :: (.ref sp) :: (.ref nb0) :: (.ref nb1) :: (.ref nb2) :: (.int (nI nf)) :: (.int (nI bd)) :: (.int (nI mm)) :: (.int v33) :: (.ref pl) :: (.ref se) :: (.ref ke) :: (.ref wi) :: (.ref hs) :: (.ref mo) :: (.ref po) :: (.ref nu) :: (.ref pr) :: (.ref sq) :: (.ref xa) :: (.ref sa) :: (.ref n64) :: (.ref m64) :: (.ref ex) :: (.ref wh) :: (.ref sd) :: (.ref tk) :: (.int v52) :: (.int v53) :: (.int v54) :: (.ref hd) :: (.ref ak) :: (.ref ho) :: (.ref ot) :: []) := by rw [he_156]; exact up_self
                have hF_158 : F_155 g1 = .inl (cs 17, 700, .inl fv) := by rw [he_156, up_ne (ne_ty hT_g1 hT_h0 (by simp))]; exact hF_150
                refine W.widen (k := 0) (n := 0) (by omega) (by omega) ?_
                exact W.vret hx hb hr (fun t ht hWm => ⟨⟨(), rfl, trivial, ⟨F_155, 6, (nI (sgS (TC fv z) a)), (nI ((wdS (TC fv z) a) + 9)), (nI tt), q21, q22, QTm.mk ht hP hD hO hR, hF_157, (by rw [hsa, hwa]; exact rtx_d (k := 7) (by omega) (by rw [htl]; unfold tlW; rw [if_pos (show BGW (TC fv z) a tt 9 [114, 101, 100, 105, 114, 101, 99, 116, 61] by rw [← hwa]; exact (orp1 hw_72 c_73)), if_pos (show HSW (TC fv z) (a + 9) tt by rw [← hwa]; exact (orp1 hw_153 c_154))]) rfl)⟩⟩, hS.F ht⟩) hS.2.2 dX15_readTerm_456
          ·
            refine W.widen (k := 0) (n := 0) (by omega) (by omega) ?_
            exact W.vret hx hb hr (fun t ht hWm => ⟨⟨(), rfl, trivial, ⟨F_62, q17, (nI (sgS (TC fv z) a)), q19, q20, q21, q22, QTm.mk ht hP hD hO hR, hq1, (rtx_no (tr_sg (me_none hq2 c_66) (orp1 hs5 c_67)) c_66)⟩⟩, hS.F ht⟩) hS.2.2 dX15_readTerm_406
      ·
        refine lv_aload_n hx hb dX15_readTerm_90 rfl (lv_at hl 3 rfl) ?_
        refine lv_iload hx hb dX15_readTerm_91 (lv_at hl 1 rfl) ?_
        refine lv_iload_n hx hb dX15_readTerm_93 rfl (lv_at hl 5 rfl) ?_
        obtain ⟨q_159, v_160, hr_q_159, hX_q_159⟩ := hG.2.2 ("PostGateModel", 250, "all", [97, 108, 108]) (by decide +kernel)
        have hX_q_159 : SXc q_159 v_160 3 (cct [97, 108, 108]) A s s.heap := hX_q_159
        obtain ⟨xo_q_159, xc_q_159, xv_q_159, xt_q_159, xn_q_159⟩ := id hX_q_159
        have hr_q_159 : vk_R "PostGateModel" 250 "all" q_159 s := hr_q_159
        refine va_ldcS hx hb hown hr_q_159 dX15_readTerm_94 ?_
        have hFc := pg_free hD hS hA
        refine va_calli (va_runS (As := [.ref g1, .int (nI (wdS (TC fv z) a)), .int (nI tt), .ref q_159]) (rest := []) ⟨hx, hb, hml, hown, hts⟩ (s_X15_is_x l dC dI cs ty gm L H.size F_57 g1 μ 700 q_159 v_160 3 (cct [97, 108, 108]) z (wdS (TC fv z) a) tt fv ([97, 108, 108]) hW hL_g1 hT_g1 hF_60 (htz) (by omega) (by first | omega | assumption | exact Or.inl rfl) (by omega) (⟨rfl, by decide +kernel⟩)) ⟨callB_of 4 hts (gi kt_694) rfl rfl rfl (hts _ kt_669) (hts _ kt_695) (by decide +kernel) ⟨Nat.le_of_ble_eq_true rfl, Nat.le_of_ble_eq_true rfl⟩, (hts _ kt_696)⟩ ⟨fun a U g mk q => ⟨q.1, PTEm.calling q.2⟩, fun U hU hWm => ⟨rfl, PTEm.mk hU hWm hP hK hD hE hO hG (fun x hx => by rw [List.mem_singleton] at hx; subst hx; exact hX_q_159) hS hFc⟩⟩ rfl rfl hl.1 rfl (lv_room (Nat.le_of_ble_eq_true rfl)) dX15_readTerm_96 ⟨by show _ + 0 ≤ 0; omega, by show _ + 0 ≤ 0; omega⟩) hS (fun q _ h => hFc q h) hFc (fun r_161 u t H1 locs ht hvm hw hB hz1 hk1 hS => ?_)
        obtain ⟨F_162, hB1⟩ := hB
        obtain rfl : F_57 = F_162 := (funext (fun a => hB1.2.2.2 a List.not_mem_nil)).symm
        obtain ⟨hP, hD, hO, hR⟩ := QTm.back hB1 ht hFc hR (fun q h => absurd h List.not_mem_nil)
        generalize H1 = H at hP hS ⊢
        have hw_163 : ORP r_161 (ISW (TC fv z) (wdS (TC fv z) a) tt 3 [97, 108, 108]) := hw
        clear hw
        refine lv_if_eq (tgt := 110) hx hb dX15_readTerm_99 (by decide) (fun c_164 => ?_) (fun c_164 => ?_)
        ·
          refine lv_aload_n hx hb dX15_readTerm_110 rfl (lv_at hl 3 rfl) ?_
          refine lv_iload hx hb dX15_readTerm_111 (lv_at hl 1 rfl) ?_
          refine lv_iload_n hx hb dX15_readTerm_113 rfl (lv_at hl 5 rfl) ?_
          obtain ⟨q_165, v_166, hr_q_165, hX_q_165⟩ := hG.2.2 ("PostGateModel", 252, "include:", [105, 110, 99, 108, 117, 100, 101, 58]) (by decide +kernel)
          have hX_q_165 : SXc q_165 v_166 8 (cct [105, 110, 99, 108, 117, 100, 101, 58]) A s s.heap := hX_q_165
          obtain ⟨xo_q_165, xc_q_165, xv_q_165, xt_q_165, xn_q_165⟩ := id hX_q_165
          have hr_q_165 : vk_R "PostGateModel" 252 "include:" q_165 s := hr_q_165
          refine va_ldcS hx hb hown hr_q_165 dX15_readTerm_114 ?_
          have hFc := pg_free hD hS hA
          refine va_calli (va_runS (As := [.ref g1, .int (nI (wdS (TC fv z) a)), .int (nI tt), .ref q_165]) (rest := []) ⟨hx, hb, hml, hown, hts⟩ (s_X15_begins_x l dC dI cs ty gm L H.size F_57 g1 μ 700 q_165 v_166 8 (cct [105, 110, 99, 108, 117, 100, 101, 58]) z (wdS (TC fv z) a) tt fv ([105, 110, 99, 108, 117, 100, 101, 58]) hW hL_g1 hT_g1 hF_60 (htz) (by omega) (by first | omega | assumption | exact Or.inl rfl) (by omega) (⟨rfl, by decide +kernel⟩)) ⟨callB_of 4 hts (gi kt_733) rfl rfl rfl (hts _ kt_669) (hts _ kt_734) (by decide +kernel) ⟨Nat.le_of_ble_eq_true rfl, Nat.le_of_ble_eq_true rfl⟩, (hts _ kt_735)⟩ ⟨fun a U g mk q => ⟨q.1, PTEm.calling q.2⟩, fun U hU hWm => ⟨rfl, PTEm.mk hU hWm hP hK hD hE hO hG (fun x hx => by rw [List.mem_singleton] at hx; subst hx; exact hX_q_165) hS hFc⟩⟩ rfl rfl hl.1 rfl (lv_room (Nat.le_of_ble_eq_true rfl)) dX15_readTerm_116 ⟨by show _ + 0 ≤ 0; omega, by show _ + 0 ≤ 0; omega⟩) hS (fun q _ h => hFc q h) hFc (fun r_167 u t H1 locs ht hvm hw hB hz1 hk1 hS => ?_)
          obtain ⟨F_168, hB1⟩ := hB
          obtain rfl : F_57 = F_168 := (funext (fun a => hB1.2.2.2 a List.not_mem_nil)).symm
          obtain ⟨hP, hD, hO, hR⟩ := QTm.back hB1 ht hFc hR (fun q h => absurd h List.not_mem_nil)
          generalize H1 = H at hP hS ⊢
          have hw_169 : ORP r_167 (BGW (TC fv z) (wdS (TC fv z) a) tt 8 [105, 110, 99, 108, 117, 100, 101, 58]) := hw
          clear hw
          refine lv_if_eq (tgt := 160) hx hb dX15_readTerm_119 (by decide) (fun c_170 => ?_) (fun c_170 => ?_)
          ·
            refine lv_aload_n hx hb dX15_readTerm_160 rfl (lv_at hl 3 rfl) ?_
            refine lv_iload hx hb dX15_readTerm_161 (lv_at hl 1 rfl) ?_
            refine lv_iload_n hx hb dX15_readTerm_163 rfl (lv_at hl 5 rfl) ?_
            obtain ⟨q_171, v_172, hr_q_171, hX_q_171⟩ := hG.2.2 ("PostGateModel", 261, "exists:", [101, 120, 105, 115, 116, 115, 58]) (by decide +kernel)
            have hX_q_171 : SXc q_171 v_172 7 (cct [101, 120, 105, 115, 116, 115, 58]) A s s.heap := hX_q_171
            obtain ⟨xo_q_171, xc_q_171, xv_q_171, xt_q_171, xn_q_171⟩ := id hX_q_171
            have hr_q_171 : vk_R "PostGateModel" 261 "exists:" q_171 s := hr_q_171
            refine va_ldcwS hx hb hown hr_q_171 dX15_readTerm_164 ?_
            have hFc := pg_free hD hS hA
            refine va_calli (va_runS (As := [.ref g1, .int (nI (wdS (TC fv z) a)), .int (nI tt), .ref q_171]) (rest := []) ⟨hx, hb, hml, hown, hts⟩ (s_X15_begins_x l dC dI cs ty gm L H.size F_57 g1 μ 700 q_171 v_172 7 (cct [101, 120, 105, 115, 116, 115, 58]) z (wdS (TC fv z) a) tt fv ([101, 120, 105, 115, 116, 115, 58]) hW hL_g1 hT_g1 hF_60 (htz) (by omega) (by first | omega | assumption | exact Or.inl rfl) (by omega) (⟨rfl, by decide +kernel⟩)) ⟨callB_of 4 hts (gi kt_733) rfl rfl rfl (hts _ kt_669) (hts _ kt_734) (by decide +kernel) ⟨Nat.le_of_ble_eq_true rfl, Nat.le_of_ble_eq_true rfl⟩, (hts _ kt_735)⟩ ⟨fun a U g mk q => ⟨q.1, PTEm.calling q.2⟩, fun U hU hWm => ⟨rfl, PTEm.mk hU hWm hP hK hD hE hO hG (fun x hx => by rw [List.mem_singleton] at hx; subst hx; exact hX_q_171) hS hFc⟩⟩ rfl rfl hl.1 rfl (lv_room (Nat.le_of_ble_eq_true rfl)) dX15_readTerm_167 ⟨by show _ + 0 ≤ 0; omega, by show _ + 0 ≤ 0; omega⟩) hS (fun q _ h => hFc q h) hFc (fun r_173 u t H1 locs ht hvm hw hB hz1 hk1 hS => ?_)
            obtain ⟨F_174, hB1⟩ := hB
            obtain rfl : F_57 = F_174 := (funext (fun a => hB1.2.2.2 a List.not_mem_nil)).symm
            obtain ⟨hP, hD, hO, hR⟩ := QTm.back hB1 ht hFc hR (fun q h => absurd h List.not_mem_nil)
            generalize H1 = H at hP hS ⊢
            have hw_175 : ORP r_173 (BGW (TC fv z) (wdS (TC fv z) a) tt 7 [101, 120, 105, 115, 116, 115, 58]) := hw
            clear hw
            refine lv_if_eq (tgt := 211) hx hb dX15_readTerm_170 (by decide) (fun c_176 => ?_) (fun c_176 => ?_)
            ·
              refine lv_aload_n hx hb dX15_readTerm_211 rfl (lv_at hl 3 rfl) ?_
              refine lv_iload hx hb dX15_readTerm_212 (lv_at hl 1 rfl) ?_
              refine lv_iload_n hx hb dX15_readTerm_214 rfl (lv_at hl 5 rfl) ?_
              obtain ⟨q_177, v_178, hr_q_177, hX_q_177⟩ := hG.2.2 ("PostGateModel", 263, "ip4:", [105, 112, 52, 58]) (by decide +kernel)
              have hX_q_177 : SXc q_177 v_178 4 (cct [105, 112, 52, 58]) A s s.heap := hX_q_177
              obtain ⟨xo_q_177, xc_q_177, xv_q_177, xt_q_177, xn_q_177⟩ := id hX_q_177
              have hr_q_177 : vk_R "PostGateModel" 263 "ip4:" q_177 s := hr_q_177
              refine va_ldcwS hx hb hown hr_q_177 dX15_readTerm_215 ?_
              have hFc := pg_free hD hS hA
              refine va_calli (va_runS (As := [.ref g1, .int (nI (wdS (TC fv z) a)), .int (nI tt), .ref q_177]) (rest := []) ⟨hx, hb, hml, hown, hts⟩ (s_X15_begins_x l dC dI cs ty gm L H.size F_57 g1 μ 700 q_177 v_178 4 (cct [105, 112, 52, 58]) z (wdS (TC fv z) a) tt fv ([105, 112, 52, 58]) hW hL_g1 hT_g1 hF_60 (htz) (by omega) (by first | omega | assumption | exact Or.inl rfl) (by omega) (⟨rfl, by decide +kernel⟩)) ⟨callB_of 4 hts (gi kt_733) rfl rfl rfl (hts _ kt_669) (hts _ kt_734) (by decide +kernel) ⟨Nat.le_of_ble_eq_true rfl, Nat.le_of_ble_eq_true rfl⟩, (hts _ kt_735)⟩ ⟨fun a U g mk q => ⟨q.1, PTEm.calling q.2⟩, fun U hU hWm => ⟨rfl, PTEm.mk hU hWm hP hK hD hE hO hG (fun x hx => by rw [List.mem_singleton] at hx; subst hx; exact hX_q_177) hS hFc⟩⟩ rfl rfl hl.1 rfl (lv_room (Nat.le_of_ble_eq_true rfl)) dX15_readTerm_218 ⟨by show _ + 0 ≤ 0; omega, by show _ + 0 ≤ 0; omega⟩) hS (fun q _ h => hFc q h) hFc (fun r_179 u t H1 locs ht hvm hw hB hz1 hk1 hS => ?_)
              obtain ⟨F_180, hB1⟩ := hB
              obtain rfl : F_57 = F_180 := (funext (fun a => hB1.2.2.2 a List.not_mem_nil)).symm
              obtain ⟨hP, hD, hO, hR⟩ := QTm.back hB1 ht hFc hR (fun q h => absurd h List.not_mem_nil)
              generalize H1 = H at hP hS ⊢
              have hw_181 : ORP r_179 (BGW (TC fv z) (wdS (TC fv z) a) tt 4 [105, 112, 52, 58]) := hw
              clear hw
              refine lv_if_eq (tgt := 281) hx hb dX15_readTerm_221 (by decide) (fun c_182 => ?_) (fun c_182 => ?_)
              ·
                refine lv_aload_n hx hb dX15_readTerm_281 rfl (lv_at hl 3 rfl) ?_
                refine lv_iload hx hb dX15_readTerm_282 (lv_at hl 1 rfl) ?_
                refine lv_iload_n hx hb dX15_readTerm_284 rfl (lv_at hl 5 rfl) ?_
                obtain ⟨q_183, v_184, hr_q_183, hX_q_183⟩ := hG.2.2 ("PostGateModel", 274, "a", [97]) (by decide +kernel)
                have hX_q_183 : SXc q_183 v_184 1 (cct [97]) A s s.heap := hX_q_183
                obtain ⟨xo_q_183, xc_q_183, xv_q_183, xt_q_183, xn_q_183⟩ := id hX_q_183
                have hr_q_183 : vk_R "PostGateModel" 274 "a" q_183 s := hr_q_183
                refine va_ldcwS hx hb hown hr_q_183 dX15_readTerm_285 ?_
                have hFc := pg_free hD hS hA
                refine va_calli (va_runS (As := [.ref g1, .int (nI (wdS (TC fv z) a)), .int (nI tt), .ref q_183]) (rest := []) ⟨hx, hb, hml, hown, hts⟩ (s_X15_begins_x l dC dI cs ty gm L H.size F_57 g1 μ 700 q_183 v_184 1 (cct [97]) z (wdS (TC fv z) a) tt fv ([97]) hW hL_g1 hT_g1 hF_60 (htz) (by omega) (by first | omega | assumption | exact Or.inl rfl) (by omega) (⟨rfl, by decide +kernel⟩)) ⟨callB_of 4 hts (gi kt_733) rfl rfl rfl (hts _ kt_669) (hts _ kt_734) (by decide +kernel) ⟨Nat.le_of_ble_eq_true rfl, Nat.le_of_ble_eq_true rfl⟩, (hts _ kt_735)⟩ ⟨fun a U g mk q => ⟨q.1, PTEm.calling q.2⟩, fun U hU hWm => ⟨rfl, PTEm.mk hU hWm hP hK hD hE hO hG (fun x hx => by rw [List.mem_singleton] at hx; subst hx; exact hX_q_183) hS hFc⟩⟩ rfl rfl hl.1 rfl (lv_room (Nat.le_of_ble_eq_true rfl)) dX15_readTerm_288 ⟨by show _ + 0 ≤ 0; omega, by show _ + 0 ≤ 0; omega⟩) hS (fun q _ h => hFc q h) hFc (fun r_185 u t H1 locs ht hvm hw hB hz1 hk1 hS => ?_)
                obtain ⟨F_186, hB1⟩ := hB
                obtain rfl : F_57 = F_186 := (funext (fun a => hB1.2.2.2 a List.not_mem_nil)).symm
                obtain ⟨hP, hD, hO, hR⟩ := QTm.back hB1 ht hFc hR (fun q h => absurd h List.not_mem_nil)
                generalize H1 = H at hP hS ⊢
                have hw_187 : ORP r_185 (BGW (TC fv z) (wdS (TC fv z) a) tt 1 [97]) := hw
                clear hw
                refine lv_if_eq (tgt := 338) hx hb dX15_readTerm_291 (by decide) (fun c_188 => ?_) (fun c_188 => ?_)
                ·
                  refine lv_aload_n hx hb dX15_readTerm_338 rfl (lv_at hl 3 rfl) ?_
                  refine lv_iload hx hb dX15_readTerm_339 (lv_at hl 1 rfl) ?_
                  refine lv_iload_n hx hb dX15_readTerm_341 rfl (lv_at hl 5 rfl) ?_
                  obtain ⟨q_189, v_190, hr_q_189, hX_q_189⟩ := hG.2.2 ("PostGateModel", 280, "mx", [109, 120]) (by decide +kernel)
                  have hX_q_189 : SXc q_189 v_190 2 (cct [109, 120]) A s s.heap := hX_q_189
                  obtain ⟨xo_q_189, xc_q_189, xv_q_189, xt_q_189, xn_q_189⟩ := id hX_q_189
                  have hr_q_189 : vk_R "PostGateModel" 280 "mx" q_189 s := hr_q_189
                  refine va_ldcwS hx hb hown hr_q_189 dX15_readTerm_342 ?_
                  have hFc := pg_free hD hS hA
                  refine va_calli (va_runS (As := [.ref g1, .int (nI (wdS (TC fv z) a)), .int (nI tt), .ref q_189]) (rest := []) ⟨hx, hb, hml, hown, hts⟩ (s_X15_begins_x l dC dI cs ty gm L H.size F_57 g1 μ 700 q_189 v_190 2 (cct [109, 120]) z (wdS (TC fv z) a) tt fv ([109, 120]) hW hL_g1 hT_g1 hF_60 (htz) (by omega) (by first | omega | assumption | exact Or.inl rfl) (by omega) (⟨rfl, by decide +kernel⟩)) ⟨callB_of 4 hts (gi kt_733) rfl rfl rfl (hts _ kt_669) (hts _ kt_734) (by decide +kernel) ⟨Nat.le_of_ble_eq_true rfl, Nat.le_of_ble_eq_true rfl⟩, (hts _ kt_735)⟩ ⟨fun a U g mk q => ⟨q.1, PTEm.calling q.2⟩, fun U hU hWm => ⟨rfl, PTEm.mk hU hWm hP hK hD hE hO hG (fun x hx => by rw [List.mem_singleton] at hx; subst hx; exact hX_q_189) hS hFc⟩⟩ rfl rfl hl.1 rfl (lv_room (Nat.le_of_ble_eq_true rfl)) dX15_readTerm_345 ⟨by show _ + 0 ≤ 0; omega, by show _ + 0 ≤ 0; omega⟩) hS (fun q _ h => hFc q h) hFc (fun r_191 u t H1 locs ht hvm hw hB hz1 hk1 hS => ?_)
                  obtain ⟨F_192, hB1⟩ := hB
                  obtain rfl : F_57 = F_192 := (funext (fun a => hB1.2.2.2 a List.not_mem_nil)).symm
                  obtain ⟨hP, hD, hO, hR⟩ := QTm.back hB1 ht hFc hR (fun q h => absurd h List.not_mem_nil)
                  generalize H1 = H at hP hS ⊢
                  have hw_193 : ORP r_191 (BGW (TC fv z) (wdS (TC fv z) a) tt 2 [109, 120]) := hw
                  clear hw
                  refine lv_if_eq (tgt := 392) hx hb dX15_readTerm_348 (by decide) (fun c_194 => ?_) (fun c_194 => ?_)
                  ·
                    refine W.widen (k := 0) (n := 0) (by omega) (by omega) ?_
                    exact jn_61 (8, (-1), (-1), 32, v22) F_57 (⟨hk4a, rtx_no (by unfold meW; rw [if_neg (show ¬ ISW (TC fv z) (wdS (TC fv z) a) tt 3 [97, 108, 108] from (orp0 hw_163 c_164)), if_neg (show ¬ BGW (TC fv z) (wdS (TC fv z) a) tt 8 [105, 110, 99, 108, 117, 100, 101, 58] from (orp0 hw_169 c_170)), if_neg (show ¬ BGW (TC fv z) (wdS (TC fv z) a) tt 7 [101, 120, 105, 115, 116, 115, 58] from (orp0 hw_175 c_176)), if_neg (show ¬ BGW (TC fv z) (wdS (TC fv z) a) tt 4 [105, 112, 52, 58] from (orp0 hw_181 c_182)), if_neg (show ¬ (BGW (TC fv z) (wdS (TC fv z) a) tt 1 [97] ∧ AFT (TC fv z) ((wdS (TC fv z) a) + 1) tt) from fun q => (orp0 hw_187 c_188) q.1), if_neg (show ¬ (BGW (TC fv z) (wdS (TC fv z) a) tt 2 [109, 120] ∧ AFT (TC fv z) ((wdS (TC fv z) a) + 2) tt) from fun q => (orp0 hw_193 c_194) q.1)]) rfl⟩) hO hR _ _ hP hD hS ls (lv_sub hl [0, 1, 2, 3, 4, 5] rfl)
                  ·
                    have hb345 := (orp1 hw_193 c_194).1
                    refine lv_iload_n hx hb dX15_readTerm_351 rfl (lv_at hl 5 rfl) ?_
                    refine lv_iload hx hb dX15_readTerm_352 (lv_at hl 1 rfl) ?_
                    refine lv_iconst (v := 2) hx hb dX15_readTerm_354 (by decide) ?_
                    refine lv_iadd hx hb dX15_readTerm_355 ?_
                    refine lv_topi (fun x_195 ex_195 => ?_)
                    obtain rfl : x_195 = (nI ((wdS (TC fv z) a) + 2)) := ex_195.trans (nI_add (wdS (TC fv z) a) 2)
                    refine lv_icmp_eq (tgt := 381) hx hb dX15_readTerm_356 (by decide) (fun c_196 => ?_) (fun c_196 => ?_)
                    ·
                      have hi_197 : tt = ((wdS (TC fv z) a) + 2) := (nI_eq (a := tt) (b := ((wdS (TC fv z) a) + 2)) (by omega) (by omega)).mp c_196
                      refine lv_aload_n hx hb dX15_readTerm_381 rfl (lv_at hl 2 rfl) ?_
                      refine lv_aload_n hx hb dX15_readTerm_382 rfl (lv_at hl 3 rfl) ?_
                      refine lv_iload hx hb dX15_readTerm_383 (lv_at hl 1 rfl) ?_
                      refine lv_iconst (v := 2) hx hb dX15_readTerm_385 (by decide) ?_
                      refine lv_iadd hx hb dX15_readTerm_386 ?_
                      refine lv_topi (fun x_198 ex_198 => ?_)
                      obtain rfl : x_198 = (nI ((wdS (TC fv z) a) + 2)) := ex_198.trans (nI_add (wdS (TC fv z) a) 2)
                      refine lv_iload_n hx hb dX15_readTerm_387 rfl (lv_at hl 5 rfl) ?_
                      refine lv_iconst (v := 3) hx hb dX15_readTerm_388 (by decide) ?_
                      have hFc := pg_free hD hS hA
                      refine va_callv (va_runV (As := [.ref g1, .int (nI ((wdS (TC fv z) a) + 2)), .int (nI tt), .int 3]) (rest := []) ⟨hx, hb, hml, hown, hts⟩ (s_X15_readHost_x l dC dI cs ty gm L H.size F_57 h0 ρ ta ou so ad na va lc dm tg pe ml bg co sp nb0 nb1 nb2 pl se ke wi hs mo po nu pr sq xa sa n64 m64 ex wh sd tk hd ak ho ot sx s0 s1 s2 nf bd mm zo fm sn hg gc gv ze zt v14 v15 8 (nI (sgS (TC fv z) a)) (-1) (-1) 32 v22 v33 v52 v53 v54 g1 μ fv z ((wdS (TC fv z) a) + 2) tt 3 hW hL_h0 hT_h0 hL_g1 hT_g1 hk4a (by first | omega | assumption | exact Or.inl rfl) (by first | omega | assumption | exact Or.inl rfl) (by first | omega | assumption | exact Or.inl rfl) (by first | omega | assumption | exact Or.inl rfl) (by first | omega | assumption | exact Or.inl rfl) hF_60 (by first | omega | assumption | exact Or.inl rfl) (htz) (hzn) (by omega) (rfl) (rfl) (rfl)) ⟨callB_of 4 hts (gi kt_760) rfl rfl rfl (hts _ kt_669) (hts _ kt_761) (by decide +kernel) ⟨Nat.le_of_ble_eq_true rfl, Nat.le_of_ble_eq_true rfl⟩, (hts _ kt_762), (hts _ kt_763)⟩ ⟨fun a U g mk q => ⟨q.1, PTm.calling q.2⟩, pg_recv hK hP hL_h0 hk4a (q := (RX15, TX15, 59)) rfl, fun U hU hWm => ⟨rfl, PTm.mk hU hWm hP hK hD hE hO⟩⟩ rfl rfl hl.1 rfl (lv_room (Nat.le_of_ble_eq_true rfl)) dX15_readTerm_389 ⟨by show _ + 0 ≤ 0; omega, by show _ + 0 ≤ 0; omega⟩) hS (fun q _ h => hFc q h) hFc (fun u t H1 locs ht hvm hw hB hz1 hk1 hS => ?_)
                      obtain ⟨F_200, u17_201, u19_202, u20_203, u21_204, hB1, hq_205, hq_206⟩ := hB
                      obtain ⟨hP, hD, hO, hR⟩ := QTm.back hB1 ht hFc hR (fun q h => by simp only [List.mem_cons, List.not_mem_nil, or_false] at h ⊢; omega)
                      have hF_207 : F_200 g1 = .inl (cs 17, 700, .inl fv) := (hB1.2.2.2 g1 (by rw [hT_g1]; simp only [List.mem_cons, List.not_mem_nil, or_false]; omega)).trans hF_60
                      generalize H1 = H at hP hS ⊢
                      refine W.widen (k := 0) (n := 0) (by omega) (by omega) ?_
                      exact jn_61 (u17_201, u19_202, u20_203, u21_204, v22) F_200 (⟨hq_205, (by unfold meW; rw [if_neg (show ¬ ISW (TC fv z) (wdS (TC fv z) a) tt 3 [97, 108, 108] from (orp0 hw_163 c_164)), if_neg (show ¬ BGW (TC fv z) (wdS (TC fv z) a) tt 8 [105, 110, 99, 108, 117, 100, 101, 58] from (orp0 hw_169 c_170)), if_neg (show ¬ BGW (TC fv z) (wdS (TC fv z) a) tt 7 [101, 120, 105, 115, 116, 115, 58] from (orp0 hw_175 c_176)), if_neg (show ¬ BGW (TC fv z) (wdS (TC fv z) a) tt 4 [105, 112, 52, 58] from (orp0 hw_181 c_182)), if_neg (show ¬ (BGW (TC fv z) (wdS (TC fv z) a) tt 1 [97] ∧ AFT (TC fv z) ((wdS (TC fv z) a) + 1) tt) from fun q => (orp0 hw_187 c_188) q.1), if_pos (show BGW (TC fv z) (wdS (TC fv z) a) tt 2 [109, 120] ∧ AFT (TC fv z) ((wdS (TC fv z) a) + 2) tt from ⟨(orp1 hw_193 c_194), Or.inl ((nI_eq (by omega) (by omega)).mp c_196)⟩)]; exact rhp_rtx (k := 4) hq_206 (by omega) rfl (by omega))⟩) hO hR _ _ hP hD hS ls (lv_sub hl [0, 1, 2, 3, 4, 5] rfl)
                    ·
                      have hi_208 : tt ≠ ((wdS (TC fv z) a) + 2) := fun q => c_196 (by rw [q])
                      refine lv_aload_n hx hb dX15_readTerm_359 rfl (lv_at hl 3 rfl) ?_
                      refine lv_iload hx hb dX15_readTerm_360 (lv_at hl 1 rfl) ?_
                      refine lv_iconst (v := 2) hx hb dX15_readTerm_362 (by decide) ?_
                      refine lv_iadd hx hb dX15_readTerm_363 ?_
                      refine lv_topi (fun x_209 ex_209 => ?_)
                      obtain rfl : x_209 = (nI ((wdS (TC fv z) a) + 2)) := ex_209.trans (nI_add (wdS (TC fv z) a) 2)
                      refine pg_bald hx hb hK hP hL_g1 1 hF_60 rfl (vp_in_nI (by omega) (by omega)) dX15_readTerm_364 ?_
                      refine lv_topi (fun x_210 ex_210 => ?_)
                      obtain rfl : x_210 = fv ((wdS (TC fv z) a) + 2) := ex_210.trans (congrArg fv (show ((nI ((wdS (TC fv z) a) + 2)) : Int32).toNatClampNeg = ((wdS (TC fv z) a) + 2) from nI_clamp (by omega)))
                      refine lv_bipush (v := 58) hx hb dX15_readTerm_365 (by decide) ?_
                      refine lv_icmp_eq (tgt := 381) hx hb dX15_readTerm_367 (by decide) (fun c_211 => ?_) (fun c_211 => ?_)
                      ·
                        refine lv_aload_n hx hb dX15_readTerm_381 rfl (lv_at hl 2 rfl) ?_
                        refine lv_aload_n hx hb dX15_readTerm_382 rfl (lv_at hl 3 rfl) ?_
                        refine lv_iload hx hb dX15_readTerm_383 (lv_at hl 1 rfl) ?_
                        refine lv_iconst (v := 2) hx hb dX15_readTerm_385 (by decide) ?_
                        refine lv_iadd hx hb dX15_readTerm_386 ?_
                        refine lv_topi (fun x_212 ex_212 => ?_)
                        obtain rfl : x_212 = (nI ((wdS (TC fv z) a) + 2)) := ex_212.trans (nI_add (wdS (TC fv z) a) 2)
                        refine lv_iload_n hx hb dX15_readTerm_387 rfl (lv_at hl 5 rfl) ?_
                        refine lv_iconst (v := 3) hx hb dX15_readTerm_388 (by decide) ?_
                        have hFc := pg_free hD hS hA
                        refine va_callv (va_runV (As := [.ref g1, .int (nI ((wdS (TC fv z) a) + 2)), .int (nI tt), .int 3]) (rest := []) ⟨hx, hb, hml, hown, hts⟩ (s_X15_readHost_x l dC dI cs ty gm L H.size F_57 h0 ρ ta ou so ad na va lc dm tg pe ml bg co sp nb0 nb1 nb2 pl se ke wi hs mo po nu pr sq xa sa n64 m64 ex wh sd tk hd ak ho ot sx s0 s1 s2 nf bd mm zo fm sn hg gc gv ze zt v14 v15 8 (nI (sgS (TC fv z) a)) (-1) (-1) 32 v22 v33 v52 v53 v54 g1 μ fv z ((wdS (TC fv z) a) + 2) tt 3 hW hL_h0 hT_h0 hL_g1 hT_g1 hk4a (by first | omega | assumption | exact Or.inl rfl) (by first | omega | assumption | exact Or.inl rfl) (by first | omega | assumption | exact Or.inl rfl) (by first | omega | assumption | exact Or.inl rfl) (by first | omega | assumption | exact Or.inl rfl) hF_60 (by first | omega | assumption | exact Or.inl rfl) (htz) (hzn) (by omega) (rfl) (rfl) (rfl)) ⟨callB_of 4 hts (gi kt_760) rfl rfl rfl (hts _ kt_669) (hts _ kt_761) (by decide +kernel) ⟨Nat.le_of_ble_eq_true rfl, Nat.le_of_ble_eq_true rfl⟩, (hts _ kt_762), (hts _ kt_763)⟩ ⟨fun a U g mk q => ⟨q.1, PTm.calling q.2⟩, pg_recv hK hP hL_h0 hk4a (q := (RX15, TX15, 59)) rfl, fun U hU hWm => ⟨rfl, PTm.mk hU hWm hP hK hD hE hO⟩⟩ rfl rfl hl.1 rfl (lv_room (Nat.le_of_ble_eq_true rfl)) dX15_readTerm_389 ⟨by show _ + 0 ≤ 0; omega, by show _ + 0 ≤ 0; omega⟩) hS (fun q _ h => hFc q h) hFc (fun u t H1 locs ht hvm hw hB hz1 hk1 hS => ?_)
                        obtain ⟨F_214, u17_215, u19_216, u20_217, u21_218, hB1, hq_219, hq_220⟩ := hB
                        obtain ⟨hP, hD, hO, hR⟩ := QTm.back hB1 ht hFc hR (fun q h => by simp only [List.mem_cons, List.not_mem_nil, or_false] at h ⊢; omega)
                        have hF_221 : F_214 g1 = .inl (cs 17, 700, .inl fv) := (hB1.2.2.2 g1 (by rw [hT_g1]; simp only [List.mem_cons, List.not_mem_nil, or_false]; omega)).trans hF_60
                        generalize H1 = H at hP hS ⊢
                        refine W.widen (k := 0) (n := 0) (by omega) (by omega) ?_
                        exact jn_61 (u17_215, u19_216, u20_217, u21_218, v22) F_214 (⟨hq_219, (by unfold meW; rw [if_neg (show ¬ ISW (TC fv z) (wdS (TC fv z) a) tt 3 [97, 108, 108] from (orp0 hw_163 c_164)), if_neg (show ¬ BGW (TC fv z) (wdS (TC fv z) a) tt 8 [105, 110, 99, 108, 117, 100, 101, 58] from (orp0 hw_169 c_170)), if_neg (show ¬ BGW (TC fv z) (wdS (TC fv z) a) tt 7 [101, 120, 105, 115, 116, 115, 58] from (orp0 hw_175 c_176)), if_neg (show ¬ BGW (TC fv z) (wdS (TC fv z) a) tt 4 [105, 112, 52, 58] from (orp0 hw_181 c_182)), if_neg (show ¬ (BGW (TC fv z) (wdS (TC fv z) a) tt 1 [97] ∧ AFT (TC fv z) ((wdS (TC fv z) a) + 1) tt) from fun q => (orp0 hw_187 c_188) q.1), if_pos (show BGW (TC fv z) (wdS (TC fv z) a) tt 2 [109, 120] ∧ AFT (TC fv z) ((wdS (TC fv z) a) + 2) tt from ⟨(orp1 hw_193 c_194), Or.inr (Or.inl ((tc_eq (z := z) (by omega) (by first | decide | omega)).mpr c_211))⟩)]; exact rhp_rtx (k := 4) hq_220 (by omega) rfl (by omega))⟩) hO hR _ _ hP hD hS ls (lv_sub hl [0, 1, 2, 3, 4, 5] rfl)
                      ·
                        refine lv_aload_n hx hb dX15_readTerm_370 rfl (lv_at hl 3 rfl) ?_
                        refine lv_iload hx hb dX15_readTerm_371 (lv_at hl 1 rfl) ?_
                        refine lv_iconst (v := 2) hx hb dX15_readTerm_373 (by decide) ?_
                        refine lv_iadd hx hb dX15_readTerm_374 ?_
                        refine lv_topi (fun x_222 ex_222 => ?_)
                        obtain rfl : x_222 = (nI ((wdS (TC fv z) a) + 2)) := ex_222.trans (nI_add (wdS (TC fv z) a) 2)
                        refine pg_bald hx hb hK hP hL_g1 1 hF_60 rfl (vp_in_nI (by omega) (by omega)) dX15_readTerm_375 ?_
                        refine lv_topi (fun x_223 ex_223 => ?_)
                        obtain rfl : x_223 = fv ((wdS (TC fv z) a) + 2) := ex_223.trans (congrArg fv (show ((nI ((wdS (TC fv z) a) + 2)) : Int32).toNatClampNeg = ((wdS (TC fv z) a) + 2) from nI_clamp (by omega)))
                        refine lv_bipush (v := 47) hx hb dX15_readTerm_376 (by decide) ?_
                        refine lv_icmp_ne (tgt := 392) hx hb dX15_readTerm_378 (by decide) (fun c_224 => ?_) (fun c_224 => ?_)
                        ·
                          refine W.widen (k := 0) (n := 0) (by omega) (by omega) ?_
                          exact jn_61 (8, (-1), (-1), 32, v22) F_57 (⟨hk4a, rtx_no (by unfold meW; rw [if_neg (show ¬ ISW (TC fv z) (wdS (TC fv z) a) tt 3 [97, 108, 108] from (orp0 hw_163 c_164)), if_neg (show ¬ BGW (TC fv z) (wdS (TC fv z) a) tt 8 [105, 110, 99, 108, 117, 100, 101, 58] from (orp0 hw_169 c_170)), if_neg (show ¬ BGW (TC fv z) (wdS (TC fv z) a) tt 7 [101, 120, 105, 115, 116, 115, 58] from (orp0 hw_175 c_176)), if_neg (show ¬ BGW (TC fv z) (wdS (TC fv z) a) tt 4 [105, 112, 52, 58] from (orp0 hw_181 c_182)), if_neg (show ¬ (BGW (TC fv z) (wdS (TC fv z) a) tt 1 [97] ∧ AFT (TC fv z) ((wdS (TC fv z) a) + 1) tt) from fun q => (orp0 hw_187 c_188) q.1), if_neg (show ¬ (BGW (TC fv z) (wdS (TC fv z) a) tt 2 [109, 120] ∧ AFT (TC fv z) ((wdS (TC fv z) a) + 2) tt) from fun q => by rcases q.2 with q | q | q; exact c_196 (by rw [q]); exact (fun q => c_211 ((tc_eq (z := z) (by omega) (by first | decide | omega)).mp q)) q; exact (fun q => c_224 ((tc_eq (z := z) (by omega) (by first | decide | omega)).mp q)) q)]) rfl⟩) hO hR _ _ hP hD hS ls (lv_sub hl [0, 1, 2, 3, 4, 5] rfl)
                        ·
                          refine lv_aload_n hx hb dX15_readTerm_381 rfl (lv_at hl 2 rfl) ?_
                          refine lv_aload_n hx hb dX15_readTerm_382 rfl (lv_at hl 3 rfl) ?_
                          refine lv_iload hx hb dX15_readTerm_383 (lv_at hl 1 rfl) ?_
                          refine lv_iconst (v := 2) hx hb dX15_readTerm_385 (by decide) ?_
                          refine lv_iadd hx hb dX15_readTerm_386 ?_
                          refine lv_topi (fun x_225 ex_225 => ?_)
                          obtain rfl : x_225 = (nI ((wdS (TC fv z) a) + 2)) := ex_225.trans (nI_add (wdS (TC fv z) a) 2)
                          refine lv_iload_n hx hb dX15_readTerm_387 rfl (lv_at hl 5 rfl) ?_
                          refine lv_iconst (v := 3) hx hb dX15_readTerm_388 (by decide) ?_
                          have hFc := pg_free hD hS hA
                          refine va_callv (va_runV (As := [.ref g1, .int (nI ((wdS (TC fv z) a) + 2)), .int (nI tt), .int 3]) (rest := []) ⟨hx, hb, hml, hown, hts⟩ (s_X15_readHost_x l dC dI cs ty gm L H.size F_57 h0 ρ ta ou so ad na va lc dm tg pe ml bg co sp nb0 nb1 nb2 pl se ke wi hs mo po nu pr sq xa sa n64 m64 ex wh sd tk hd ak ho ot sx s0 s1 s2 nf bd mm zo fm sn hg gc gv ze zt v14 v15 8 (nI (sgS (TC fv z) a)) (-1) (-1) 32 v22 v33 v52 v53 v54 g1 μ fv z ((wdS (TC fv z) a) + 2) tt 3 hW hL_h0 hT_h0 hL_g1 hT_g1 hk4a (by first | omega | assumption | exact Or.inl rfl) (by first | omega | assumption | exact Or.inl rfl) (by first | omega | assumption | exact Or.inl rfl) (by first | omega | assumption | exact Or.inl rfl) (by first | omega | assumption | exact Or.inl rfl) hF_60 (by first | omega | assumption | exact Or.inl rfl) (htz) (hzn) (by omega) (rfl) (rfl) (rfl)) ⟨callB_of 4 hts (gi kt_760) rfl rfl rfl (hts _ kt_669) (hts _ kt_761) (by decide +kernel) ⟨Nat.le_of_ble_eq_true rfl, Nat.le_of_ble_eq_true rfl⟩, (hts _ kt_762), (hts _ kt_763)⟩ ⟨fun a U g mk q => ⟨q.1, PTm.calling q.2⟩, pg_recv hK hP hL_h0 hk4a (q := (RX15, TX15, 59)) rfl, fun U hU hWm => ⟨rfl, PTm.mk hU hWm hP hK hD hE hO⟩⟩ rfl rfl hl.1 rfl (lv_room (Nat.le_of_ble_eq_true rfl)) dX15_readTerm_389 ⟨by show _ + 0 ≤ 0; omega, by show _ + 0 ≤ 0; omega⟩) hS (fun q _ h => hFc q h) hFc (fun u t H1 locs ht hvm hw hB hz1 hk1 hS => ?_)
                          obtain ⟨F_227, u17_228, u19_229, u20_230, u21_231, hB1, hq_232, hq_233⟩ := hB
                          obtain ⟨hP, hD, hO, hR⟩ := QTm.back hB1 ht hFc hR (fun q h => by simp only [List.mem_cons, List.not_mem_nil, or_false] at h ⊢; omega)
                          have hF_234 : F_227 g1 = .inl (cs 17, 700, .inl fv) := (hB1.2.2.2 g1 (by rw [hT_g1]; simp only [List.mem_cons, List.not_mem_nil, or_false]; omega)).trans hF_60
                          generalize H1 = H at hP hS ⊢
                          refine W.widen (k := 0) (n := 0) (by omega) (by omega) ?_
                          exact jn_61 (u17_228, u19_229, u20_230, u21_231, v22) F_227 (⟨hq_232, (by unfold meW; rw [if_neg (show ¬ ISW (TC fv z) (wdS (TC fv z) a) tt 3 [97, 108, 108] from (orp0 hw_163 c_164)), if_neg (show ¬ BGW (TC fv z) (wdS (TC fv z) a) tt 8 [105, 110, 99, 108, 117, 100, 101, 58] from (orp0 hw_169 c_170)), if_neg (show ¬ BGW (TC fv z) (wdS (TC fv z) a) tt 7 [101, 120, 105, 115, 116, 115, 58] from (orp0 hw_175 c_176)), if_neg (show ¬ BGW (TC fv z) (wdS (TC fv z) a) tt 4 [105, 112, 52, 58] from (orp0 hw_181 c_182)), if_neg (show ¬ (BGW (TC fv z) (wdS (TC fv z) a) tt 1 [97] ∧ AFT (TC fv z) ((wdS (TC fv z) a) + 1) tt) from fun q => (orp0 hw_187 c_188) q.1), if_pos (show BGW (TC fv z) (wdS (TC fv z) a) tt 2 [109, 120] ∧ AFT (TC fv z) ((wdS (TC fv z) a) + 2) tt from ⟨(orp1 hw_193 c_194), Or.inr (Or.inr ((tc_eq (z := z) (by omega) (by first | decide | omega)).mpr c_224))⟩)]; exact rhp_rtx (k := 4) hq_233 (by omega) rfl (by omega))⟩) hO hR _ _ hP hD hS ls (lv_sub hl [0, 1, 2, 3, 4, 5] rfl)
                ·
                  have hb288 := (orp1 hw_187 c_188).1
                  refine lv_iload_n hx hb dX15_readTerm_294 rfl (lv_at hl 5 rfl) ?_
                  refine lv_iload hx hb dX15_readTerm_295 (lv_at hl 1 rfl) ?_
                  refine lv_iconst (v := 1) hx hb dX15_readTerm_297 (by decide) ?_
                  refine lv_iadd hx hb dX15_readTerm_298 ?_
                  refine lv_topi (fun x_235 ex_235 => ?_)
                  obtain rfl : x_235 = (nI ((wdS (TC fv z) a) + 1)) := ex_235.trans (nI_add (wdS (TC fv z) a) 1)
                  refine lv_icmp_eq (tgt := 324) hx hb dX15_readTerm_299 (by decide) (fun c_236 => ?_) (fun c_236 => ?_)
                  ·
                    have hi_237 : tt = ((wdS (TC fv z) a) + 1) := (nI_eq (a := tt) (b := ((wdS (TC fv z) a) + 1)) (by omega) (by omega)).mp c_236
                    refine lv_aload_n hx hb dX15_readTerm_324 rfl (lv_at hl 2 rfl) ?_
                    refine lv_aload_n hx hb dX15_readTerm_325 rfl (lv_at hl 3 rfl) ?_
                    refine lv_iload hx hb dX15_readTerm_326 (lv_at hl 1 rfl) ?_
                    refine lv_iconst (v := 1) hx hb dX15_readTerm_328 (by decide) ?_
                    refine lv_iadd hx hb dX15_readTerm_329 ?_
                    refine lv_topi (fun x_238 ex_238 => ?_)
                    obtain rfl : x_238 = (nI ((wdS (TC fv z) a) + 1)) := ex_238.trans (nI_add (wdS (TC fv z) a) 1)
                    refine lv_iload_n hx hb dX15_readTerm_330 rfl (lv_at hl 5 rfl) ?_
                    refine lv_iconst (v := 2) hx hb dX15_readTerm_331 (by decide) ?_
                    have hFc := pg_free hD hS hA
                    refine va_callv (va_runV (As := [.ref g1, .int (nI ((wdS (TC fv z) a) + 1)), .int (nI tt), .int 2]) (rest := []) ⟨hx, hb, hml, hown, hts⟩ (s_X15_readHost_x l dC dI cs ty gm L H.size F_57 h0 ρ ta ou so ad na va lc dm tg pe ml bg co sp nb0 nb1 nb2 pl se ke wi hs mo po nu pr sq xa sa n64 m64 ex wh sd tk hd ak ho ot sx s0 s1 s2 nf bd mm zo fm sn hg gc gv ze zt v14 v15 8 (nI (sgS (TC fv z) a)) (-1) (-1) 32 v22 v33 v52 v53 v54 g1 μ fv z ((wdS (TC fv z) a) + 1) tt 2 hW hL_h0 hT_h0 hL_g1 hT_g1 hk4a (by first | omega | assumption | exact Or.inl rfl) (by first | omega | assumption | exact Or.inl rfl) (by first | omega | assumption | exact Or.inl rfl) (by first | omega | assumption | exact Or.inl rfl) (by first | omega | assumption | exact Or.inl rfl) hF_60 (by first | omega | assumption | exact Or.inl rfl) (htz) (hzn) (by omega) (rfl) (rfl) (rfl)) ⟨callB_of 4 hts (gi kt_760) rfl rfl rfl (hts _ kt_669) (hts _ kt_761) (by decide +kernel) ⟨Nat.le_of_ble_eq_true rfl, Nat.le_of_ble_eq_true rfl⟩, (hts _ kt_762), (hts _ kt_763)⟩ ⟨fun a U g mk q => ⟨q.1, PTm.calling q.2⟩, pg_recv hK hP hL_h0 hk4a (q := (RX15, TX15, 59)) rfl, fun U hU hWm => ⟨rfl, PTm.mk hU hWm hP hK hD hE hO⟩⟩ rfl rfl hl.1 rfl (lv_room (Nat.le_of_ble_eq_true rfl)) dX15_readTerm_332 ⟨by show _ + 0 ≤ 0; omega, by show _ + 0 ≤ 0; omega⟩) hS (fun q _ h => hFc q h) hFc (fun u t H1 locs ht hvm hw hB hz1 hk1 hS => ?_)
                    obtain ⟨F_240, u17_241, u19_242, u20_243, u21_244, hB1, hq_245, hq_246⟩ := hB
                    obtain ⟨hP, hD, hO, hR⟩ := QTm.back hB1 ht hFc hR (fun q h => by simp only [List.mem_cons, List.not_mem_nil, or_false] at h ⊢; omega)
                    have hF_247 : F_240 g1 = .inl (cs 17, 700, .inl fv) := (hB1.2.2.2 g1 (by rw [hT_g1]; simp only [List.mem_cons, List.not_mem_nil, or_false]; omega)).trans hF_60
                    generalize H1 = H at hP hS ⊢
                    refine lv_goto (tgt := 392) hx hb dX15_readTerm_335 (by decide) ?_
                    refine W.widen (k := 0) (n := 0) (by omega) (by omega) ?_
                    exact jn_61 (u17_241, u19_242, u20_243, u21_244, v22) F_240 (⟨hq_245, (by unfold meW; rw [if_neg (show ¬ ISW (TC fv z) (wdS (TC fv z) a) tt 3 [97, 108, 108] from (orp0 hw_163 c_164)), if_neg (show ¬ BGW (TC fv z) (wdS (TC fv z) a) tt 8 [105, 110, 99, 108, 117, 100, 101, 58] from (orp0 hw_169 c_170)), if_neg (show ¬ BGW (TC fv z) (wdS (TC fv z) a) tt 7 [101, 120, 105, 115, 116, 115, 58] from (orp0 hw_175 c_176)), if_neg (show ¬ BGW (TC fv z) (wdS (TC fv z) a) tt 4 [105, 112, 52, 58] from (orp0 hw_181 c_182)), if_pos (show BGW (TC fv z) (wdS (TC fv z) a) tt 1 [97] ∧ AFT (TC fv z) ((wdS (TC fv z) a) + 1) tt from ⟨(orp1 hw_187 c_188), Or.inl ((nI_eq (by omega) (by omega)).mp c_236)⟩)]; exact rhp_rtx (k := 3) hq_246 (by omega) rfl (by omega))⟩) hO hR _ _ hP hD hS ls (lv_sub hl [0, 1, 2, 3, 4, 5] rfl)
                  ·
                    have hi_248 : tt ≠ ((wdS (TC fv z) a) + 1) := fun q => c_236 (by rw [q])
                    refine lv_aload_n hx hb dX15_readTerm_302 rfl (lv_at hl 3 rfl) ?_
                    refine lv_iload hx hb dX15_readTerm_303 (lv_at hl 1 rfl) ?_
                    refine lv_iconst (v := 1) hx hb dX15_readTerm_305 (by decide) ?_
                    refine lv_iadd hx hb dX15_readTerm_306 ?_
                    refine lv_topi (fun x_249 ex_249 => ?_)
                    obtain rfl : x_249 = (nI ((wdS (TC fv z) a) + 1)) := ex_249.trans (nI_add (wdS (TC fv z) a) 1)
                    refine pg_bald hx hb hK hP hL_g1 1 hF_60 rfl (vp_in_nI (by omega) (by omega)) dX15_readTerm_307 ?_
                    refine lv_topi (fun x_250 ex_250 => ?_)
                    obtain rfl : x_250 = fv ((wdS (TC fv z) a) + 1) := ex_250.trans (congrArg fv (show ((nI ((wdS (TC fv z) a) + 1)) : Int32).toNatClampNeg = ((wdS (TC fv z) a) + 1) from nI_clamp (by omega)))
                    refine lv_bipush (v := 58) hx hb dX15_readTerm_308 (by decide) ?_
                    refine lv_icmp_eq (tgt := 324) hx hb dX15_readTerm_310 (by decide) (fun c_251 => ?_) (fun c_251 => ?_)
                    ·
                      refine lv_aload_n hx hb dX15_readTerm_324 rfl (lv_at hl 2 rfl) ?_
                      refine lv_aload_n hx hb dX15_readTerm_325 rfl (lv_at hl 3 rfl) ?_
                      refine lv_iload hx hb dX15_readTerm_326 (lv_at hl 1 rfl) ?_
                      refine lv_iconst (v := 1) hx hb dX15_readTerm_328 (by decide) ?_
                      refine lv_iadd hx hb dX15_readTerm_329 ?_
                      refine lv_topi (fun x_252 ex_252 => ?_)
                      obtain rfl : x_252 = (nI ((wdS (TC fv z) a) + 1)) := ex_252.trans (nI_add (wdS (TC fv z) a) 1)
                      refine lv_iload_n hx hb dX15_readTerm_330 rfl (lv_at hl 5 rfl) ?_
                      refine lv_iconst (v := 2) hx hb dX15_readTerm_331 (by decide) ?_
                      have hFc := pg_free hD hS hA
                      refine va_callv (va_runV (As := [.ref g1, .int (nI ((wdS (TC fv z) a) + 1)), .int (nI tt), .int 2]) (rest := []) ⟨hx, hb, hml, hown, hts⟩ (s_X15_readHost_x l dC dI cs ty gm L H.size F_57 h0 ρ ta ou so ad na va lc dm tg pe ml bg co sp nb0 nb1 nb2 pl se ke wi hs mo po nu pr sq xa sa n64 m64 ex wh sd tk hd ak ho ot sx s0 s1 s2 nf bd mm zo fm sn hg gc gv ze zt v14 v15 8 (nI (sgS (TC fv z) a)) (-1) (-1) 32 v22 v33 v52 v53 v54 g1 μ fv z ((wdS (TC fv z) a) + 1) tt 2 hW hL_h0 hT_h0 hL_g1 hT_g1 hk4a (by first | omega | assumption | exact Or.inl rfl) (by first | omega | assumption | exact Or.inl rfl) (by first | omega | assumption | exact Or.inl rfl) (by first | omega | assumption | exact Or.inl rfl) (by first | omega | assumption | exact Or.inl rfl) hF_60 (by first | omega | assumption | exact Or.inl rfl) (htz) (hzn) (by omega) (rfl) (rfl) (rfl)) ⟨callB_of 4 hts (gi kt_760) rfl rfl rfl (hts _ kt_669) (hts _ kt_761) (by decide +kernel) ⟨Nat.le_of_ble_eq_true rfl, Nat.le_of_ble_eq_true rfl⟩, (hts _ kt_762), (hts _ kt_763)⟩ ⟨fun a U g mk q => ⟨q.1, PTm.calling q.2⟩, pg_recv hK hP hL_h0 hk4a (q := (RX15, TX15, 59)) rfl, fun U hU hWm => ⟨rfl, PTm.mk hU hWm hP hK hD hE hO⟩⟩ rfl rfl hl.1 rfl (lv_room (Nat.le_of_ble_eq_true rfl)) dX15_readTerm_332 ⟨by show _ + 0 ≤ 0; omega, by show _ + 0 ≤ 0; omega⟩) hS (fun q _ h => hFc q h) hFc (fun u t H1 locs ht hvm hw hB hz1 hk1 hS => ?_)
                      obtain ⟨F_254, u17_255, u19_256, u20_257, u21_258, hB1, hq_259, hq_260⟩ := hB
                      obtain ⟨hP, hD, hO, hR⟩ := QTm.back hB1 ht hFc hR (fun q h => by simp only [List.mem_cons, List.not_mem_nil, or_false] at h ⊢; omega)
                      have hF_261 : F_254 g1 = .inl (cs 17, 700, .inl fv) := (hB1.2.2.2 g1 (by rw [hT_g1]; simp only [List.mem_cons, List.not_mem_nil, or_false]; omega)).trans hF_60
                      generalize H1 = H at hP hS ⊢
                      refine lv_goto (tgt := 392) hx hb dX15_readTerm_335 (by decide) ?_
                      refine W.widen (k := 0) (n := 0) (by omega) (by omega) ?_
                      exact jn_61 (u17_255, u19_256, u20_257, u21_258, v22) F_254 (⟨hq_259, (by unfold meW; rw [if_neg (show ¬ ISW (TC fv z) (wdS (TC fv z) a) tt 3 [97, 108, 108] from (orp0 hw_163 c_164)), if_neg (show ¬ BGW (TC fv z) (wdS (TC fv z) a) tt 8 [105, 110, 99, 108, 117, 100, 101, 58] from (orp0 hw_169 c_170)), if_neg (show ¬ BGW (TC fv z) (wdS (TC fv z) a) tt 7 [101, 120, 105, 115, 116, 115, 58] from (orp0 hw_175 c_176)), if_neg (show ¬ BGW (TC fv z) (wdS (TC fv z) a) tt 4 [105, 112, 52, 58] from (orp0 hw_181 c_182)), if_pos (show BGW (TC fv z) (wdS (TC fv z) a) tt 1 [97] ∧ AFT (TC fv z) ((wdS (TC fv z) a) + 1) tt from ⟨(orp1 hw_187 c_188), Or.inr (Or.inl ((tc_eq (z := z) (by omega) (by first | decide | omega)).mpr c_251))⟩)]; exact rhp_rtx (k := 3) hq_260 (by omega) rfl (by omega))⟩) hO hR _ _ hP hD hS ls (lv_sub hl [0, 1, 2, 3, 4, 5] rfl)
                    ·
                      refine lv_aload_n hx hb dX15_readTerm_313 rfl (lv_at hl 3 rfl) ?_
                      refine lv_iload hx hb dX15_readTerm_314 (lv_at hl 1 rfl) ?_
                      refine lv_iconst (v := 1) hx hb dX15_readTerm_316 (by decide) ?_
                      refine lv_iadd hx hb dX15_readTerm_317 ?_
                      refine lv_topi (fun x_262 ex_262 => ?_)
                      obtain rfl : x_262 = (nI ((wdS (TC fv z) a) + 1)) := ex_262.trans (nI_add (wdS (TC fv z) a) 1)
                      refine pg_bald hx hb hK hP hL_g1 1 hF_60 rfl (vp_in_nI (by omega) (by omega)) dX15_readTerm_318 ?_
                      refine lv_topi (fun x_263 ex_263 => ?_)
                      obtain rfl : x_263 = fv ((wdS (TC fv z) a) + 1) := ex_263.trans (congrArg fv (show ((nI ((wdS (TC fv z) a) + 1)) : Int32).toNatClampNeg = ((wdS (TC fv z) a) + 1) from nI_clamp (by omega)))
                      refine lv_bipush (v := 47) hx hb dX15_readTerm_319 (by decide) ?_
                      refine lv_icmp_ne (tgt := 338) hx hb dX15_readTerm_321 (by decide) (fun c_264 => ?_) (fun c_264 => ?_)
                      ·
                        refine lv_aload_n hx hb dX15_readTerm_338 rfl (lv_at hl 3 rfl) ?_
                        refine lv_iload hx hb dX15_readTerm_339 (lv_at hl 1 rfl) ?_
                        refine lv_iload_n hx hb dX15_readTerm_341 rfl (lv_at hl 5 rfl) ?_
                        obtain ⟨q_265, v_266, hr_q_265, hX_q_265⟩ := hG.2.2 ("PostGateModel", 280, "mx", [109, 120]) (by decide +kernel)
                        have hX_q_265 : SXc q_265 v_266 2 (cct [109, 120]) A s s.heap := hX_q_265
                        obtain ⟨xo_q_265, xc_q_265, xv_q_265, xt_q_265, xn_q_265⟩ := id hX_q_265
                        have hr_q_265 : vk_R "PostGateModel" 280 "mx" q_265 s := hr_q_265
                        refine va_ldcwS hx hb hown hr_q_265 dX15_readTerm_342 ?_
                        have hFc := pg_free hD hS hA
                        refine va_calli (va_runS (As := [.ref g1, .int (nI (wdS (TC fv z) a)), .int (nI tt), .ref q_265]) (rest := []) ⟨hx, hb, hml, hown, hts⟩ (s_X15_begins_x l dC dI cs ty gm L H.size F_57 g1 μ 700 q_265 v_266 2 (cct [109, 120]) z (wdS (TC fv z) a) tt fv ([109, 120]) hW hL_g1 hT_g1 hF_60 (htz) (by omega) (by first | omega | assumption | exact Or.inl rfl) (by omega) (⟨rfl, by decide +kernel⟩)) ⟨callB_of 4 hts (gi kt_733) rfl rfl rfl (hts _ kt_669) (hts _ kt_734) (by decide +kernel) ⟨Nat.le_of_ble_eq_true rfl, Nat.le_of_ble_eq_true rfl⟩, (hts _ kt_735)⟩ ⟨fun a U g mk q => ⟨q.1, PTEm.calling q.2⟩, fun U hU hWm => ⟨rfl, PTEm.mk hU hWm hP hK hD hE hO hG (fun x hx => by rw [List.mem_singleton] at hx; subst hx; exact hX_q_265) hS hFc⟩⟩ rfl rfl hl.1 rfl (lv_room (Nat.le_of_ble_eq_true rfl)) dX15_readTerm_345 ⟨by show _ + 0 ≤ 0; omega, by show _ + 0 ≤ 0; omega⟩) hS (fun q _ h => hFc q h) hFc (fun r_267 u t H1 locs ht hvm hw hB hz1 hk1 hS => ?_)
                        obtain ⟨F_268, hB1⟩ := hB
                        obtain rfl : F_57 = F_268 := (funext (fun a => hB1.2.2.2 a List.not_mem_nil)).symm
                        obtain ⟨hP, hD, hO, hR⟩ := QTm.back hB1 ht hFc hR (fun q h => absurd h List.not_mem_nil)
                        generalize H1 = H at hP hS ⊢
                        have hw_269 : ORP r_267 (BGW (TC fv z) (wdS (TC fv z) a) tt 2 [109, 120]) := hw
                        clear hw
                        refine lv_if_eq (tgt := 392) hx hb dX15_readTerm_348 (by decide) (fun c_270 => ?_) (fun c_270 => ?_)
                        ·
                          refine W.widen (k := 0) (n := 0) (by omega) (by omega) ?_
                          exact jn_61 (8, (-1), (-1), 32, v22) F_57 (⟨hk4a, rtx_no (by unfold meW; rw [if_neg (show ¬ ISW (TC fv z) (wdS (TC fv z) a) tt 3 [97, 108, 108] from (orp0 hw_163 c_164)), if_neg (show ¬ BGW (TC fv z) (wdS (TC fv z) a) tt 8 [105, 110, 99, 108, 117, 100, 101, 58] from (orp0 hw_169 c_170)), if_neg (show ¬ BGW (TC fv z) (wdS (TC fv z) a) tt 7 [101, 120, 105, 115, 116, 115, 58] from (orp0 hw_175 c_176)), if_neg (show ¬ BGW (TC fv z) (wdS (TC fv z) a) tt 4 [105, 112, 52, 58] from (orp0 hw_181 c_182)), if_neg (show ¬ (BGW (TC fv z) (wdS (TC fv z) a) tt 1 [97] ∧ AFT (TC fv z) ((wdS (TC fv z) a) + 1) tt) from fun q => by rcases q.2 with q | q | q; exact c_236 (by rw [q]); exact (fun q => c_251 ((tc_eq (z := z) (by omega) (by first | decide | omega)).mp q)) q; exact (fun q => c_264 ((tc_eq (z := z) (by omega) (by first | decide | omega)).mp q)) q), if_neg (show ¬ (BGW (TC fv z) (wdS (TC fv z) a) tt 2 [109, 120] ∧ AFT (TC fv z) ((wdS (TC fv z) a) + 2) tt) from fun q => (orp0 hw_269 c_270) q.1)]) rfl⟩) hO hR _ _ hP hD hS ls (lv_sub hl [0, 1, 2, 3, 4, 5] rfl)
                        ·
                          have hb345 := (orp1 hw_269 c_270).1
                          refine lv_iload_n hx hb dX15_readTerm_351 rfl (lv_at hl 5 rfl) ?_
                          refine lv_iload hx hb dX15_readTerm_352 (lv_at hl 1 rfl) ?_
                          refine lv_iconst (v := 2) hx hb dX15_readTerm_354 (by decide) ?_
                          refine lv_iadd hx hb dX15_readTerm_355 ?_
                          refine lv_topi (fun x_271 ex_271 => ?_)
                          obtain rfl : x_271 = (nI ((wdS (TC fv z) a) + 2)) := ex_271.trans (nI_add (wdS (TC fv z) a) 2)
                          refine lv_icmp_eq (tgt := 381) hx hb dX15_readTerm_356 (by decide) (fun c_272 => ?_) (fun c_272 => ?_)
                          ·
                            have hi_273 : tt = ((wdS (TC fv z) a) + 2) := (nI_eq (a := tt) (b := ((wdS (TC fv z) a) + 2)) (by omega) (by omega)).mp c_272
                            refine lv_aload_n hx hb dX15_readTerm_381 rfl (lv_at hl 2 rfl) ?_
                            refine lv_aload_n hx hb dX15_readTerm_382 rfl (lv_at hl 3 rfl) ?_
                            refine lv_iload hx hb dX15_readTerm_383 (lv_at hl 1 rfl) ?_
                            refine lv_iconst (v := 2) hx hb dX15_readTerm_385 (by decide) ?_
                            refine lv_iadd hx hb dX15_readTerm_386 ?_
                            refine lv_topi (fun x_274 ex_274 => ?_)
                            obtain rfl : x_274 = (nI ((wdS (TC fv z) a) + 2)) := ex_274.trans (nI_add (wdS (TC fv z) a) 2)
                            refine lv_iload_n hx hb dX15_readTerm_387 rfl (lv_at hl 5 rfl) ?_
                            refine lv_iconst (v := 3) hx hb dX15_readTerm_388 (by decide) ?_
                            have hFc := pg_free hD hS hA
                            refine va_callv (va_runV (As := [.ref g1, .int (nI ((wdS (TC fv z) a) + 2)), .int (nI tt), .int 3]) (rest := []) ⟨hx, hb, hml, hown, hts⟩ (s_X15_readHost_x l dC dI cs ty gm L H.size F_57 h0 ρ ta ou so ad na va lc dm tg pe ml bg co sp nb0 nb1 nb2 pl se ke wi hs mo po nu pr sq xa sa n64 m64 ex wh sd tk hd ak ho ot sx s0 s1 s2 nf bd mm zo fm sn hg gc gv ze zt v14 v15 8 (nI (sgS (TC fv z) a)) (-1) (-1) 32 v22 v33 v52 v53 v54 g1 μ fv z ((wdS (TC fv z) a) + 2) tt 3 hW hL_h0 hT_h0 hL_g1 hT_g1 hk4a (by first | omega | assumption | exact Or.inl rfl) (by first | omega | assumption | exact Or.inl rfl) (by first | omega | assumption | exact Or.inl rfl) (by first | omega | assumption | exact Or.inl rfl) (by first | omega | assumption | exact Or.inl rfl) hF_60 (by first | omega | assumption | exact Or.inl rfl) (htz) (hzn) (by omega) (rfl) (rfl) (rfl)) ⟨callB_of 4 hts (gi kt_760) rfl rfl rfl (hts _ kt_669) (hts _ kt_761) (by decide +kernel) ⟨Nat.le_of_ble_eq_true rfl, Nat.le_of_ble_eq_true rfl⟩, (hts _ kt_762), (hts _ kt_763)⟩ ⟨fun a U g mk q => ⟨q.1, PTm.calling q.2⟩, pg_recv hK hP hL_h0 hk4a (q := (RX15, TX15, 59)) rfl, fun U hU hWm => ⟨rfl, PTm.mk hU hWm hP hK hD hE hO⟩⟩ rfl rfl hl.1 rfl (lv_room (Nat.le_of_ble_eq_true rfl)) dX15_readTerm_389 ⟨by show _ + 0 ≤ 0; omega, by show _ + 0 ≤ 0; omega⟩) hS (fun q _ h => hFc q h) hFc (fun u t H1 locs ht hvm hw hB hz1 hk1 hS => ?_)
                            obtain ⟨F_276, u17_277, u19_278, u20_279, u21_280, hB1, hq_281, hq_282⟩ := hB
                            obtain ⟨hP, hD, hO, hR⟩ := QTm.back hB1 ht hFc hR (fun q h => by simp only [List.mem_cons, List.not_mem_nil, or_false] at h ⊢; omega)
                            have hF_283 : F_276 g1 = .inl (cs 17, 700, .inl fv) := (hB1.2.2.2 g1 (by rw [hT_g1]; simp only [List.mem_cons, List.not_mem_nil, or_false]; omega)).trans hF_60
                            generalize H1 = H at hP hS ⊢
                            refine W.widen (k := 0) (n := 0) (by omega) (by omega) ?_
                            exact jn_61 (u17_277, u19_278, u20_279, u21_280, v22) F_276 (⟨hq_281, (by unfold meW; rw [if_neg (show ¬ ISW (TC fv z) (wdS (TC fv z) a) tt 3 [97, 108, 108] from (orp0 hw_163 c_164)), if_neg (show ¬ BGW (TC fv z) (wdS (TC fv z) a) tt 8 [105, 110, 99, 108, 117, 100, 101, 58] from (orp0 hw_169 c_170)), if_neg (show ¬ BGW (TC fv z) (wdS (TC fv z) a) tt 7 [101, 120, 105, 115, 116, 115, 58] from (orp0 hw_175 c_176)), if_neg (show ¬ BGW (TC fv z) (wdS (TC fv z) a) tt 4 [105, 112, 52, 58] from (orp0 hw_181 c_182)), if_neg (show ¬ (BGW (TC fv z) (wdS (TC fv z) a) tt 1 [97] ∧ AFT (TC fv z) ((wdS (TC fv z) a) + 1) tt) from fun q => by rcases q.2 with q | q | q; exact c_236 (by rw [q]); exact (fun q => c_251 ((tc_eq (z := z) (by omega) (by first | decide | omega)).mp q)) q; exact (fun q => c_264 ((tc_eq (z := z) (by omega) (by first | decide | omega)).mp q)) q), if_pos (show BGW (TC fv z) (wdS (TC fv z) a) tt 2 [109, 120] ∧ AFT (TC fv z) ((wdS (TC fv z) a) + 2) tt from ⟨(orp1 hw_269 c_270), Or.inl ((nI_eq (by omega) (by omega)).mp c_272)⟩)]; exact rhp_rtx (k := 4) hq_282 (by omega) rfl (by omega))⟩) hO hR _ _ hP hD hS ls (lv_sub hl [0, 1, 2, 3, 4, 5] rfl)
                          ·
                            have hi_284 : tt ≠ ((wdS (TC fv z) a) + 2) := fun q => c_272 (by rw [q])
                            refine lv_aload_n hx hb dX15_readTerm_359 rfl (lv_at hl 3 rfl) ?_
                            refine lv_iload hx hb dX15_readTerm_360 (lv_at hl 1 rfl) ?_
                            refine lv_iconst (v := 2) hx hb dX15_readTerm_362 (by decide) ?_
                            refine lv_iadd hx hb dX15_readTerm_363 ?_
                            refine lv_topi (fun x_285 ex_285 => ?_)
                            obtain rfl : x_285 = (nI ((wdS (TC fv z) a) + 2)) := ex_285.trans (nI_add (wdS (TC fv z) a) 2)
                            refine pg_bald hx hb hK hP hL_g1 1 hF_60 rfl (vp_in_nI (by omega) (by omega)) dX15_readTerm_364 ?_
                            refine lv_topi (fun x_286 ex_286 => ?_)
                            obtain rfl : x_286 = fv ((wdS (TC fv z) a) + 2) := ex_286.trans (congrArg fv (show ((nI ((wdS (TC fv z) a) + 2)) : Int32).toNatClampNeg = ((wdS (TC fv z) a) + 2) from nI_clamp (by omega)))
                            refine lv_bipush (v := 58) hx hb dX15_readTerm_365 (by decide) ?_
                            refine lv_icmp_eq (tgt := 381) hx hb dX15_readTerm_367 (by decide) (fun c_287 => ?_) (fun c_287 => ?_)
                            ·
                              refine lv_aload_n hx hb dX15_readTerm_381 rfl (lv_at hl 2 rfl) ?_
                              refine lv_aload_n hx hb dX15_readTerm_382 rfl (lv_at hl 3 rfl) ?_
                              refine lv_iload hx hb dX15_readTerm_383 (lv_at hl 1 rfl) ?_
                              refine lv_iconst (v := 2) hx hb dX15_readTerm_385 (by decide) ?_
                              refine lv_iadd hx hb dX15_readTerm_386 ?_
                              refine lv_topi (fun x_288 ex_288 => ?_)
                              obtain rfl : x_288 = (nI ((wdS (TC fv z) a) + 2)) := ex_288.trans (nI_add (wdS (TC fv z) a) 2)
                              refine lv_iload_n hx hb dX15_readTerm_387 rfl (lv_at hl 5 rfl) ?_
                              refine lv_iconst (v := 3) hx hb dX15_readTerm_388 (by decide) ?_
                              have hFc := pg_free hD hS hA
                              refine va_callv (va_runV (As := [.ref g1, .int (nI ((wdS (TC fv z) a) + 2)), .int (nI tt), .int 3]) (rest := []) ⟨hx, hb, hml, hown, hts⟩ (s_X15_readHost_x l dC dI cs ty gm L H.size F_57 h0 ρ ta ou so ad na va lc dm tg pe ml bg co sp nb0 nb1 nb2 pl se ke wi hs mo po nu pr sq xa sa n64 m64 ex wh sd tk hd ak ho ot sx s0 s1 s2 nf bd mm zo fm sn hg gc gv ze zt v14 v15 8 (nI (sgS (TC fv z) a)) (-1) (-1) 32 v22 v33 v52 v53 v54 g1 μ fv z ((wdS (TC fv z) a) + 2) tt 3 hW hL_h0 hT_h0 hL_g1 hT_g1 hk4a (by first | omega | assumption | exact Or.inl rfl) (by first | omega | assumption | exact Or.inl rfl) (by first | omega | assumption | exact Or.inl rfl) (by first | omega | assumption | exact Or.inl rfl) (by first | omega | assumption | exact Or.inl rfl) hF_60 (by first | omega | assumption | exact Or.inl rfl) (htz) (hzn) (by omega) (rfl) (rfl) (rfl)) ⟨callB_of 4 hts (gi kt_760) rfl rfl rfl (hts _ kt_669) (hts _ kt_761) (by decide +kernel) ⟨Nat.le_of_ble_eq_true rfl, Nat.le_of_ble_eq_true rfl⟩, (hts _ kt_762), (hts _ kt_763)⟩ ⟨fun a U g mk q => ⟨q.1, PTm.calling q.2⟩, pg_recv hK hP hL_h0 hk4a (q := (RX15, TX15, 59)) rfl, fun U hU hWm => ⟨rfl, PTm.mk hU hWm hP hK hD hE hO⟩⟩ rfl rfl hl.1 rfl (lv_room (Nat.le_of_ble_eq_true rfl)) dX15_readTerm_389 ⟨by show _ + 0 ≤ 0; omega, by show _ + 0 ≤ 0; omega⟩) hS (fun q _ h => hFc q h) hFc (fun u t H1 locs ht hvm hw hB hz1 hk1 hS => ?_)
                              obtain ⟨F_290, u17_291, u19_292, u20_293, u21_294, hB1, hq_295, hq_296⟩ := hB
                              obtain ⟨hP, hD, hO, hR⟩ := QTm.back hB1 ht hFc hR (fun q h => by simp only [List.mem_cons, List.not_mem_nil, or_false] at h ⊢; omega)
                              have hF_297 : F_290 g1 = .inl (cs 17, 700, .inl fv) := (hB1.2.2.2 g1 (by rw [hT_g1]; simp only [List.mem_cons, List.not_mem_nil, or_false]; omega)).trans hF_60
                              generalize H1 = H at hP hS ⊢
                              refine W.widen (k := 0) (n := 0) (by omega) (by omega) ?_
                              exact jn_61 (u17_291, u19_292, u20_293, u21_294, v22) F_290 (⟨hq_295, (by unfold meW; rw [if_neg (show ¬ ISW (TC fv z) (wdS (TC fv z) a) tt 3 [97, 108, 108] from (orp0 hw_163 c_164)), if_neg (show ¬ BGW (TC fv z) (wdS (TC fv z) a) tt 8 [105, 110, 99, 108, 117, 100, 101, 58] from (orp0 hw_169 c_170)), if_neg (show ¬ BGW (TC fv z) (wdS (TC fv z) a) tt 7 [101, 120, 105, 115, 116, 115, 58] from (orp0 hw_175 c_176)), if_neg (show ¬ BGW (TC fv z) (wdS (TC fv z) a) tt 4 [105, 112, 52, 58] from (orp0 hw_181 c_182)), if_neg (show ¬ (BGW (TC fv z) (wdS (TC fv z) a) tt 1 [97] ∧ AFT (TC fv z) ((wdS (TC fv z) a) + 1) tt) from fun q => by rcases q.2 with q | q | q; exact c_236 (by rw [q]); exact (fun q => c_251 ((tc_eq (z := z) (by omega) (by first | decide | omega)).mp q)) q; exact (fun q => c_264 ((tc_eq (z := z) (by omega) (by first | decide | omega)).mp q)) q), if_pos (show BGW (TC fv z) (wdS (TC fv z) a) tt 2 [109, 120] ∧ AFT (TC fv z) ((wdS (TC fv z) a) + 2) tt from ⟨(orp1 hw_269 c_270), Or.inr (Or.inl ((tc_eq (z := z) (by omega) (by first | decide | omega)).mpr c_287))⟩)]; exact rhp_rtx (k := 4) hq_296 (by omega) rfl (by omega))⟩) hO hR _ _ hP hD hS ls (lv_sub hl [0, 1, 2, 3, 4, 5] rfl)
                            ·
                              refine lv_aload_n hx hb dX15_readTerm_370 rfl (lv_at hl 3 rfl) ?_
                              refine lv_iload hx hb dX15_readTerm_371 (lv_at hl 1 rfl) ?_
                              refine lv_iconst (v := 2) hx hb dX15_readTerm_373 (by decide) ?_
                              refine lv_iadd hx hb dX15_readTerm_374 ?_
                              refine lv_topi (fun x_298 ex_298 => ?_)
                              obtain rfl : x_298 = (nI ((wdS (TC fv z) a) + 2)) := ex_298.trans (nI_add (wdS (TC fv z) a) 2)
                              refine pg_bald hx hb hK hP hL_g1 1 hF_60 rfl (vp_in_nI (by omega) (by omega)) dX15_readTerm_375 ?_
                              refine lv_topi (fun x_299 ex_299 => ?_)
                              obtain rfl : x_299 = fv ((wdS (TC fv z) a) + 2) := ex_299.trans (congrArg fv (show ((nI ((wdS (TC fv z) a) + 2)) : Int32).toNatClampNeg = ((wdS (TC fv z) a) + 2) from nI_clamp (by omega)))
                              refine lv_bipush (v := 47) hx hb dX15_readTerm_376 (by decide) ?_
                              refine lv_icmp_ne (tgt := 392) hx hb dX15_readTerm_378 (by decide) (fun c_300 => ?_) (fun c_300 => ?_)
                              ·
                                refine W.widen (k := 0) (n := 0) (by omega) (by omega) ?_
                                exact jn_61 (8, (-1), (-1), 32, v22) F_57 (⟨hk4a, rtx_no (by unfold meW; rw [if_neg (show ¬ ISW (TC fv z) (wdS (TC fv z) a) tt 3 [97, 108, 108] from (orp0 hw_163 c_164)), if_neg (show ¬ BGW (TC fv z) (wdS (TC fv z) a) tt 8 [105, 110, 99, 108, 117, 100, 101, 58] from (orp0 hw_169 c_170)), if_neg (show ¬ BGW (TC fv z) (wdS (TC fv z) a) tt 7 [101, 120, 105, 115, 116, 115, 58] from (orp0 hw_175 c_176)), if_neg (show ¬ BGW (TC fv z) (wdS (TC fv z) a) tt 4 [105, 112, 52, 58] from (orp0 hw_181 c_182)), if_neg (show ¬ (BGW (TC fv z) (wdS (TC fv z) a) tt 1 [97] ∧ AFT (TC fv z) ((wdS (TC fv z) a) + 1) tt) from fun q => by rcases q.2 with q | q | q; exact c_236 (by rw [q]); exact (fun q => c_251 ((tc_eq (z := z) (by omega) (by first | decide | omega)).mp q)) q; exact (fun q => c_264 ((tc_eq (z := z) (by omega) (by first | decide | omega)).mp q)) q), if_neg (show ¬ (BGW (TC fv z) (wdS (TC fv z) a) tt 2 [109, 120] ∧ AFT (TC fv z) ((wdS (TC fv z) a) + 2) tt) from fun q => by rcases q.2 with q | q | q; exact c_272 (by rw [q]); exact (fun q => c_287 ((tc_eq (z := z) (by omega) (by first | decide | omega)).mp q)) q; exact (fun q => c_300 ((tc_eq (z := z) (by omega) (by first | decide | omega)).mp q)) q)]) rfl⟩) hO hR _ _ hP hD hS ls (lv_sub hl [0, 1, 2, 3, 4, 5] rfl)
                              ·
                                refine lv_aload_n hx hb dX15_readTerm_381 rfl (lv_at hl 2 rfl) ?_
                                refine lv_aload_n hx hb dX15_readTerm_382 rfl (lv_at hl 3 rfl) ?_
                                refine lv_iload hx hb dX15_readTerm_383 (lv_at hl 1 rfl) ?_
                                refine lv_iconst (v := 2) hx hb dX15_readTerm_385 (by decide) ?_
                                refine lv_iadd hx hb dX15_readTerm_386 ?_
                                refine lv_topi (fun x_301 ex_301 => ?_)
                                obtain rfl : x_301 = (nI ((wdS (TC fv z) a) + 2)) := ex_301.trans (nI_add (wdS (TC fv z) a) 2)
                                refine lv_iload_n hx hb dX15_readTerm_387 rfl (lv_at hl 5 rfl) ?_
                                refine lv_iconst (v := 3) hx hb dX15_readTerm_388 (by decide) ?_
                                have hFc := pg_free hD hS hA
                                refine va_callv (va_runV (As := [.ref g1, .int (nI ((wdS (TC fv z) a) + 2)), .int (nI tt), .int 3]) (rest := []) ⟨hx, hb, hml, hown, hts⟩ (s_X15_readHost_x l dC dI cs ty gm L H.size F_57 h0 ρ ta ou so ad na va lc dm tg pe ml bg co sp nb0 nb1 nb2 pl se ke wi hs mo po nu pr sq xa sa n64 m64 ex wh sd tk hd ak ho ot sx s0 s1 s2 nf bd mm zo fm sn hg gc gv ze zt v14 v15 8 (nI (sgS (TC fv z) a)) (-1) (-1) 32 v22 v33 v52 v53 v54 g1 μ fv z ((wdS (TC fv z) a) + 2) tt 3 hW hL_h0 hT_h0 hL_g1 hT_g1 hk4a (by first | omega | assumption | exact Or.inl rfl) (by first | omega | assumption | exact Or.inl rfl) (by first | omega | assumption | exact Or.inl rfl) (by first | omega | assumption | exact Or.inl rfl) (by first | omega | assumption | exact Or.inl rfl) hF_60 (by first | omega | assumption | exact Or.inl rfl) (htz) (hzn) (by omega) (rfl) (rfl) (rfl)) ⟨callB_of 4 hts (gi kt_760) rfl rfl rfl (hts _ kt_669) (hts _ kt_761) (by decide +kernel) ⟨Nat.le_of_ble_eq_true rfl, Nat.le_of_ble_eq_true rfl⟩, (hts _ kt_762), (hts _ kt_763)⟩ ⟨fun a U g mk q => ⟨q.1, PTm.calling q.2⟩, pg_recv hK hP hL_h0 hk4a (q := (RX15, TX15, 59)) rfl, fun U hU hWm => ⟨rfl, PTm.mk hU hWm hP hK hD hE hO⟩⟩ rfl rfl hl.1 rfl (lv_room (Nat.le_of_ble_eq_true rfl)) dX15_readTerm_389 ⟨by show _ + 0 ≤ 0; omega, by show _ + 0 ≤ 0; omega⟩) hS (fun q _ h => hFc q h) hFc (fun u t H1 locs ht hvm hw hB hz1 hk1 hS => ?_)
                                obtain ⟨F_303, u17_304, u19_305, u20_306, u21_307, hB1, hq_308, hq_309⟩ := hB
                                obtain ⟨hP, hD, hO, hR⟩ := QTm.back hB1 ht hFc hR (fun q h => by simp only [List.mem_cons, List.not_mem_nil, or_false] at h ⊢; omega)
                                have hF_310 : F_303 g1 = .inl (cs 17, 700, .inl fv) := (hB1.2.2.2 g1 (by rw [hT_g1]; simp only [List.mem_cons, List.not_mem_nil, or_false]; omega)).trans hF_60
                                generalize H1 = H at hP hS ⊢
                                refine W.widen (k := 0) (n := 0) (by omega) (by omega) ?_
                                exact jn_61 (u17_304, u19_305, u20_306, u21_307, v22) F_303 (⟨hq_308, (by unfold meW; rw [if_neg (show ¬ ISW (TC fv z) (wdS (TC fv z) a) tt 3 [97, 108, 108] from (orp0 hw_163 c_164)), if_neg (show ¬ BGW (TC fv z) (wdS (TC fv z) a) tt 8 [105, 110, 99, 108, 117, 100, 101, 58] from (orp0 hw_169 c_170)), if_neg (show ¬ BGW (TC fv z) (wdS (TC fv z) a) tt 7 [101, 120, 105, 115, 116, 115, 58] from (orp0 hw_175 c_176)), if_neg (show ¬ BGW (TC fv z) (wdS (TC fv z) a) tt 4 [105, 112, 52, 58] from (orp0 hw_181 c_182)), if_neg (show ¬ (BGW (TC fv z) (wdS (TC fv z) a) tt 1 [97] ∧ AFT (TC fv z) ((wdS (TC fv z) a) + 1) tt) from fun q => by rcases q.2 with q | q | q; exact c_236 (by rw [q]); exact (fun q => c_251 ((tc_eq (z := z) (by omega) (by first | decide | omega)).mp q)) q; exact (fun q => c_264 ((tc_eq (z := z) (by omega) (by first | decide | omega)).mp q)) q), if_pos (show BGW (TC fv z) (wdS (TC fv z) a) tt 2 [109, 120] ∧ AFT (TC fv z) ((wdS (TC fv z) a) + 2) tt from ⟨(orp1 hw_269 c_270), Or.inr (Or.inr ((tc_eq (z := z) (by omega) (by first | decide | omega)).mpr c_300))⟩)]; exact rhp_rtx (k := 4) hq_309 (by omega) rfl (by omega))⟩) hO hR _ _ hP hD hS ls (lv_sub hl [0, 1, 2, 3, 4, 5] rfl)
                      ·
                        refine lv_aload_n hx hb dX15_readTerm_324 rfl (lv_at hl 2 rfl) ?_
                        refine lv_aload_n hx hb dX15_readTerm_325 rfl (lv_at hl 3 rfl) ?_
                        refine lv_iload hx hb dX15_readTerm_326 (lv_at hl 1 rfl) ?_
                        refine lv_iconst (v := 1) hx hb dX15_readTerm_328 (by decide) ?_
                        refine lv_iadd hx hb dX15_readTerm_329 ?_
                        refine lv_topi (fun x_311 ex_311 => ?_)
                        obtain rfl : x_311 = (nI ((wdS (TC fv z) a) + 1)) := ex_311.trans (nI_add (wdS (TC fv z) a) 1)
                        refine lv_iload_n hx hb dX15_readTerm_330 rfl (lv_at hl 5 rfl) ?_
                        refine lv_iconst (v := 2) hx hb dX15_readTerm_331 (by decide) ?_
                        have hFc := pg_free hD hS hA
                        refine va_callv (va_runV (As := [.ref g1, .int (nI ((wdS (TC fv z) a) + 1)), .int (nI tt), .int 2]) (rest := []) ⟨hx, hb, hml, hown, hts⟩ (s_X15_readHost_x l dC dI cs ty gm L H.size F_57 h0 ρ ta ou so ad na va lc dm tg pe ml bg co sp nb0 nb1 nb2 pl se ke wi hs mo po nu pr sq xa sa n64 m64 ex wh sd tk hd ak ho ot sx s0 s1 s2 nf bd mm zo fm sn hg gc gv ze zt v14 v15 8 (nI (sgS (TC fv z) a)) (-1) (-1) 32 v22 v33 v52 v53 v54 g1 μ fv z ((wdS (TC fv z) a) + 1) tt 2 hW hL_h0 hT_h0 hL_g1 hT_g1 hk4a (by first | omega | assumption | exact Or.inl rfl) (by first | omega | assumption | exact Or.inl rfl) (by first | omega | assumption | exact Or.inl rfl) (by first | omega | assumption | exact Or.inl rfl) (by first | omega | assumption | exact Or.inl rfl) hF_60 (by first | omega | assumption | exact Or.inl rfl) (htz) (hzn) (by omega) (rfl) (rfl) (rfl)) ⟨callB_of 4 hts (gi kt_760) rfl rfl rfl (hts _ kt_669) (hts _ kt_761) (by decide +kernel) ⟨Nat.le_of_ble_eq_true rfl, Nat.le_of_ble_eq_true rfl⟩, (hts _ kt_762), (hts _ kt_763)⟩ ⟨fun a U g mk q => ⟨q.1, PTm.calling q.2⟩, pg_recv hK hP hL_h0 hk4a (q := (RX15, TX15, 59)) rfl, fun U hU hWm => ⟨rfl, PTm.mk hU hWm hP hK hD hE hO⟩⟩ rfl rfl hl.1 rfl (lv_room (Nat.le_of_ble_eq_true rfl)) dX15_readTerm_332 ⟨by show _ + 0 ≤ 0; omega, by show _ + 0 ≤ 0; omega⟩) hS (fun q _ h => hFc q h) hFc (fun u t H1 locs ht hvm hw hB hz1 hk1 hS => ?_)
                        obtain ⟨F_313, u17_314, u19_315, u20_316, u21_317, hB1, hq_318, hq_319⟩ := hB
                        obtain ⟨hP, hD, hO, hR⟩ := QTm.back hB1 ht hFc hR (fun q h => by simp only [List.mem_cons, List.not_mem_nil, or_false] at h ⊢; omega)
                        have hF_320 : F_313 g1 = .inl (cs 17, 700, .inl fv) := (hB1.2.2.2 g1 (by rw [hT_g1]; simp only [List.mem_cons, List.not_mem_nil, or_false]; omega)).trans hF_60
                        generalize H1 = H at hP hS ⊢
                        refine lv_goto (tgt := 392) hx hb dX15_readTerm_335 (by decide) ?_
                        refine W.widen (k := 0) (n := 0) (by omega) (by omega) ?_
                        exact jn_61 (u17_314, u19_315, u20_316, u21_317, v22) F_313 (⟨hq_318, (by unfold meW; rw [if_neg (show ¬ ISW (TC fv z) (wdS (TC fv z) a) tt 3 [97, 108, 108] from (orp0 hw_163 c_164)), if_neg (show ¬ BGW (TC fv z) (wdS (TC fv z) a) tt 8 [105, 110, 99, 108, 117, 100, 101, 58] from (orp0 hw_169 c_170)), if_neg (show ¬ BGW (TC fv z) (wdS (TC fv z) a) tt 7 [101, 120, 105, 115, 116, 115, 58] from (orp0 hw_175 c_176)), if_neg (show ¬ BGW (TC fv z) (wdS (TC fv z) a) tt 4 [105, 112, 52, 58] from (orp0 hw_181 c_182)), if_pos (show BGW (TC fv z) (wdS (TC fv z) a) tt 1 [97] ∧ AFT (TC fv z) ((wdS (TC fv z) a) + 1) tt from ⟨(orp1 hw_187 c_188), Or.inr (Or.inr ((tc_eq (z := z) (by omega) (by first | decide | omega)).mpr c_264))⟩)]; exact rhp_rtx (k := 3) hq_319 (by omega) rfl (by omega))⟩) hO hR _ _ hP hD hS ls (lv_sub hl [0, 1, 2, 3, 4, 5] rfl)
              ·
                have hb218 := (orp1 hw_181 c_182).1
                refine lv_aload_n hx hb dX15_readTerm_224 rfl (lv_at hl 3 rfl) ?_
                refine lv_iload hx hb dX15_readTerm_225 (lv_at hl 1 rfl) ?_
                refine lv_iload_n hx hb dX15_readTerm_227 rfl (lv_at hl 5 rfl) ?_
                have hFc := pg_free hD hS hA
                refine va_calli (va_runS (As := [.ref g1, .int (nI (wdS (TC fv z) a)), .int (nI tt)]) (rest := []) ⟨hx, hb, hml, hown, hts⟩ (s_X15_slashOf_x l dC dI cs ty gm L H.size F_57 g1 μ 700 z (wdS (TC fv z) a) tt fv hW hL_g1 hT_g1 hF_60 (by first | omega | assumption | exact Or.inl rfl) (by omega) (by first | omega | assumption | exact Or.inl rfl) (by omega)) ⟨callB_of 3 hts (gi kt_746) rfl rfl rfl (hts _ kt_669) (hts _ kt_747) (by decide +kernel) ⟨Nat.le_of_ble_eq_true rfl, Nat.le_of_ble_eq_true rfl⟩, (hts _ kt_748)⟩ ⟨fun a U g mk q => ⟨q.1, PTm.calling q.2⟩, fun U hU hWm => ⟨rfl, PTm.mk hU hWm hP hK hD hE hO⟩⟩ rfl rfl hl.1 rfl (lv_room (Nat.le_of_ble_eq_true rfl)) dX15_readTerm_228 ⟨by show _ + 0 ≤ 0; omega, by show _ + 0 ≤ 0; omega⟩) hS (fun q _ h => hFc q h) hFc (fun r_321 u t H1 locs ht hvm hw hB hz1 hk1 hS => ?_)
                obtain ⟨F_322, hB1⟩ := hB
                obtain rfl : F_57 = F_322 := (funext (fun a => hB1.2.2.2 a List.not_mem_nil)).symm
                obtain ⟨hP, hD, hO, hR⟩ := QTm.back hB1 ht hFc hR (fun q h => absurd h List.not_mem_nil)
                generalize H1 = H at hP hS ⊢
                have hw : r_321 = nI (fdT (TC fv z) 47 (wdS (TC fv z) a) tt) := hw
                subst hw
                refine lv_topi (fun x9 ex9 => ?_)
                obtain rfl : x9 = nI (fdT (TC fv z) 47 ((wdS (TC fv z) a) + 4) tt) := ex9.trans (congrArg nI (ip4_fd (orp1 hw_181 c_182)))
                have hfl : (wdS (TC fv z) a) + 4 ≤ (fdT (TC fv z) 47 ((wdS (TC fv z) a) + 4) tt) ∧ (fdT (TC fv z) 47 ((wdS (TC fv z) a) + 4) tt) ≤ (wdS (TC fv z) a) + 4 + (tt - ((wdS (TC fv z) a) + 4)) := fdT_le (tt - ((wdS (TC fv z) a) + 4)) ((wdS (TC fv z) a) + 4)
                refine lv_istore (lv' := [(6, .int (nI (fdT (TC fv z) 47 ((wdS (TC fv z) a) + 4) tt))), (5, .int s5), (4, .int (nI (wdS (TC fv z) a))), (0, .ref h0), (1, .ref g1), (2, .int (nI a)), (3, .int (nI tt))]) hx hb dX15_readTerm_231 hl (by decide) rfl (fun ls hl => ?_)
                have hF_325 : F g1 = .inl (cs 17, 700, .inl fv) := (hR g1 (by rw [hT_g1]; simp only [List.mem_cons, List.not_mem_nil, or_false]; omega)).symm.trans hF_60
                refine W.widen (k := 0) (n := 0) (by omega) (by omega) ?_
                refine pl_cutm (σ := Int32) A (dC, dI) cs ty gm L [ρ] F 252 7 (fun y21 => [(6, .int (nI (fdT (TC fv z) 47 ((wdS (TC fv z) a) + 4) tt))), (5, .int s5), (4, .int (nI (wdS (TC fv z) a))), (0, .ref h0), (1, .ref g1), (2, .int (nI a)), (3, .int (nI tt))]) (fun y21 => []) (fun y21 FF => WDT (TC fv z) tt (fdT (TC fv z) 47 ((wdS (TC fv z) a) + 4) tt) y21 ∧ FF h0 = .inr (15, (.ref ta) :: (.int (nI zt)) :: (.int (nI zo)) :: (.int (nI ze)) :: (.ref ou) :: (.ref so) :: (.ref ad) :: (.ref na) :: (.ref va) :: (.ref lc) :: (.ref dm) :: (.int (nI fm)) :: (.int (nI sn)) :: (.ref tg) :: (.int v14) :: (.int v15) :: (.ref pe) :: (.int 8) :: (.int (nI (sgS (TC fv z) a))) :: (.int (-1)) :: (.int (-1)) :: (.int y21) :: (.int v22) :: (.ref ml) :: (.ref bg) :: (.ref co) :: (.ref sp) :: (.ref nb0) :: (.ref nb1) :: (.ref nb2) :: (.int (nI nf)) :: (.int (nI bd)) :: (.int (nI mm)) :: (.int v33) :: (.ref pl) :: (.ref se) :: (.ref ke) :: (.ref wi) :: (.ref hs) :: (.ref mo) :: (.ref po) :: (.ref nu) :: (.ref pr) :: (.ref sq) :: (.ref xa) :: (.ref sa) :: (.ref n64) :: (.ref m64) :: (.ref ex) :: (.ref wh) :: (.ref sd) :: (.ref tk) :: (.int v52) :: (.int v53) :: (.int v54) :: (.ref hd) :: (.ref ak) :: (.ref ho) :: (.ref ot) :: [])) ?_ (fun jn_323 => ?_)
                ·
                  rintro y21 F_324 hv_326 hO hR H locs hP hD hS ls hl
                  have hl : lv_has ls 7 [(6, .int (nI (fdT (TC fv z) 47 ((wdS (TC fv z) a) + 4) tt))), (5, .int s5), (4, .int (nI (wdS (TC fv z) a))), (0, .ref h0), (1, .ref g1), (2, .int (nI a)), (3, .int (nI tt))] := hl
                  have hv_326 : WDT (TC fv z) tt (fdT (TC fv z) 47 ((wdS (TC fv z) a) + 4) tt) y21 ∧ F_324 h0 = .inr (15, (.ref ta) :: (.int (nI zt)) :: (.int (nI zo)) :: (.int (nI ze)) :: (.ref ou) :: (.ref so) :: (.ref ad) :: (.ref na) :: (.ref va) :: (.ref lc) :: (.ref dm) :: (.int (nI fm)) :: (.int (nI sn)) :: (.ref tg) :: (.int v14) :: (.int v15) :: (.ref pe) :: (.int 8) :: (.int (nI (sgS (TC fv z) a))) :: (.int (-1)) :: (.int (-1)) :: (.int y21) :: (.int v22) :: (.ref ml) :: (.ref bg) :: (.ref co) :: (.ref sp) :: (.ref nb0) :: (.ref nb1) :: (.ref nb2) :: (.int (nI nf)) :: (.int (nI bd)) :: (.int (nI mm)) :: (.int v33) :: (.ref pl) :: (.ref se) :: (.ref ke) :: (.ref wi) :: (.ref hs) :: (.ref mo) :: (.ref po) :: (.ref nu) :: (.ref pr) :: (.ref sq) :: (.ref xa) :: (.ref sa) :: (.ref n64) :: (.ref m64) :: (.ref ex) :: (.ref wh) :: (.ref sd) :: (.ref tk) :: (.int v52) :: (.int v53) :: (.int v54) :: (.ref hd) :: (.ref ak) :: (.ref ho) :: (.ref ot) :: []) := hv_326
                  refine W.eq (g2 := F0 m 252 ls []) rfl ?_
                  have hF_327 : F_324 g1 = .inl (cs 17, 700, .inl fv) := (hR g1 (by rw [hT_g1]; simp only [List.mem_cons, List.not_mem_nil, or_false]; omega)).trans hF_325
                  obtain ⟨hwt, hwh⟩ := hv_326
                  refine lv_aload_n hx hb dX15_readTerm_252 rfl (lv_at hl 3 rfl) ?_
                  refine lv_aload_n hx hb dX15_readTerm_253 rfl (lv_at hl 4 rfl) ?_
                  refine lv_iload hx hb dX15_readTerm_254 (lv_at hl 2 rfl) ?_
                  refine lv_iconst (v := 4) hx hb dX15_readTerm_256 (by decide) ?_
                  refine lv_iadd hx hb dX15_readTerm_257 ?_
                  refine lv_topi (fun x_328 ex_328 => ?_)
                  obtain rfl : x_328 = (nI ((wdS (TC fv z) a) + 4)) := ex_328.trans (nI_add (wdS (TC fv z) a) 4)
                  refine lv_iload hx hb dX15_readTerm_258 (lv_at hl 0 rfl) ?_
                  have hFc := pg_free hD hS hA
                  refine va_calli (va_runV (As := [.ref g1, .int (nI ((wdS (TC fv z) a) + 4)), .int (nI (fdT (TC fv z) 47 ((wdS (TC fv z) a) + 4) tt))]) (rest := []) ⟨hx, hb, hml, hown, hts⟩ (s_X15_isQuad_x l dC dI cs ty gm L H.size F_324 h0 ρ ta ou so ad na va lc dm tg pe ml bg co sp nb0 nb1 nb2 pl se ke wi hs mo po nu pr sq xa sa n64 m64 ex wh sd tk hd ak ho ot sx s0 s1 s2 nf bd mm zo fm sn hg gc gv ze zt v14 v15 8 (nI (sgS (TC fv z) a)) (-1) (-1) y21 v22 v33 v52 v53 v54 g1 μ fv z ((wdS (TC fv z) a) + 4) (fdT (TC fv z) 47 ((wdS (TC fv z) a) + 4) tt) hW hL_h0 hT_h0 hL_g1 hT_g1 hwh (by first | omega | assumption | exact Or.inl rfl) (by first | omega | assumption | exact Or.inl rfl) (by first | omega | assumption | exact Or.inl rfl) (by first | omega | assumption | exact Or.inl rfl) (by first | omega | assumption | exact Or.inl rfl) hF_327 (by first | omega | assumption | exact Or.inl rfl) (by omega) (hzn) (by omega)) ⟨callB_of 3 hts (gi kt_764) rfl rfl rfl (hts _ kt_669) (hts _ kt_765) (by decide +kernel) ⟨Nat.le_of_ble_eq_true rfl, Nat.le_of_ble_eq_true rfl⟩, (hts _ kt_766), (hts _ kt_767)⟩ ⟨fun a U g mk q => ⟨q.1, PTm.calling q.2⟩, pg_recv hK hP hL_h0 hwh (q := (RX15, TX15, 59)) rfl, fun U hU hWm => ⟨rfl, PTm.mk hU hWm hP hK hD hE hO⟩⟩ rfl rfl hl.1 rfl (lv_room (Nat.le_of_ble_eq_true rfl)) dX15_readTerm_260 ⟨by show _ + 0 ≤ 0; omega, by show _ + 0 ≤ 0; omega⟩) hS (fun q _ h => hFc q h) hFc (fun r_330 uq_329 t H1 locs ht hvm hw hB hz1 hk1 hS => ?_)
                  obtain ⟨F_331, hB1, hq_332⟩ := hB
                  obtain ⟨hP, hD, hO, hR⟩ := QTm.back hB1 ht hFc hR (fun q h => by simp only [List.mem_cons, List.not_mem_nil, or_false] at h ⊢; omega)
                  have hF_333 : F_331 g1 = .inl (cs 17, 700, .inl fv) := (hB1.2.2.2 g1 (by rw [hT_g1]; simp only [List.mem_cons, List.not_mem_nil, or_false]; omega)).trans hF_327
                  generalize H1 = H at hP hS ⊢
                  have hw : ((r_330 = 1 ∧ qdT (TC fv z) ((wdS (TC fv z) a) + 4) (fdT (TC fv z) 47 ((wdS (TC fv z) a) + 4) tt) = some (4, uq_329)) ∨ (r_330 = 0 ∧ ∀ y, ¬ qdT (TC fv z) ((wdS (TC fv z) a) + 4) (fdT (TC fv z) 47 ((wdS (TC fv z) a) + 4) tt) = some (4, y))) := hw
                  have hw_334 := hw
                  refine lv_if_eq (tgt := 278) hx hb dX15_readTerm_263 (by decide) (fun c_335 => ?_) (fun c_335 => ?_)
                  ·
                    refine lv_goto (tgt := 392) hx hb dX15_readTerm_278 (by decide) ?_
                    refine W.widen (k := 0) (n := 0) (by omega) (by omega) ?_
                    exact jn_61 (8, (-1), (-1), y21, uq_329) F_331 (⟨hq_332, rtx_no (by unfold meW; rw [if_neg (show ¬ ISW (TC fv z) (wdS (TC fv z) a) tt 3 [97, 108, 108] from (orp0 hw_163 c_164)), if_neg (show ¬ BGW (TC fv z) (wdS (TC fv z) a) tt 8 [105, 110, 99, 108, 117, 100, 101, 58] from (orp0 hw_169 c_170)), if_neg (show ¬ BGW (TC fv z) (wdS (TC fv z) a) tt 7 [101, 120, 105, 115, 116, 115, 58] from (orp0 hw_175 c_176)), if_pos (show BGW (TC fv z) (wdS (TC fv z) a) tt 4 [105, 112, 52, 58] from (orp1 hw_181 c_182))]; exact ip_n (Or.inr (by rcases hw_334 with q | q; exact absurd (q.1.symm.trans c_335) (by decide); exact q.2))) rfl⟩) hO hR _ _ hP hD hS ls (lv_sub hl [1, 2, 3, 4, 5, 6] rfl)
                  ·
                    refine lv_aload_n hx hb dX15_readTerm_266 rfl (lv_at hl 3 rfl) ?_
                    refine pg_get (ci := 15) (v := .int y21) (C := RX15) (T := TX15) (N := 59) hx hb hts it_15 hown hK hP hL_h0 hq_332 rfl 21 (by decide) (hts _ kt_749) (fun _ h9 => h9) rfl dX15_readTerm_267 ?_
                    refine lv_if_lt (tgt := 278) hx hb dX15_readTerm_270 (by decide) (fun c_336 => ?_) (fun c_336 => ?_)
                    ·
                      refine lv_goto (tgt := 392) hx hb dX15_readTerm_278 (by decide) ?_
                      refine W.widen (k := 0) (n := 0) (by omega) (by omega) ?_
                      exact jn_61 (8, (-1), (-1), y21, uq_329) F_331 (⟨hq_332, rtx_no (by unfold meW; rw [if_neg (show ¬ ISW (TC fv z) (wdS (TC fv z) a) tt 3 [97, 108, 108] from (orp0 hw_163 c_164)), if_neg (show ¬ BGW (TC fv z) (wdS (TC fv z) a) tt 8 [105, 110, 99, 108, 117, 100, 101, 58] from (orp0 hw_169 c_170)), if_neg (show ¬ BGW (TC fv z) (wdS (TC fv z) a) tt 7 [101, 120, 105, 115, 116, 115, 58] from (orp0 hw_175 c_176)), if_pos (show BGW (TC fv z) (wdS (TC fv z) a) tt 4 [105, 112, 52, 58] from (orp1 hw_181 c_182))]; exact ip_n (Or.inl (wdt_m hwt (Int32.not_le.mpr c_336)))) rfl⟩) hO hR _ _ hP hD hS ls (lv_sub hl [1, 2, 3, 4, 5, 6] rfl)
                    ·
                      refine lv_aload_n hx hb dX15_readTerm_273 rfl (lv_at hl 3 rfl) ?_
                      refine lv_iconst (v := 4) hx hb dX15_readTerm_274 (by decide) ?_
                      refine pg_put (ci := 15) (v := .int 4) (ty := .int) (C := RX15) (T := TX15) (N := 59) hx hb hts it_15 tyX15 tyX15_ok nmX15 hown hK hP hD hS hL_h0 hq_332 rfl 17 (by decide) (hts _ kt_750) (fun _ h9 => h9) rfl (by decide +kernel) (rfl) (rfl) (Nat.le_of_ble_eq_true rfl) dX15_readTerm_275 (fun H locs hP hD hS => ?_)
                      obtain ⟨F_337, he_338, hP, hD, hO, hR⟩ : ∃ G, G = va_up F_331 h0 (.inr (15, (.ref ta) :: (.int (nI zt)) :: (.int (nI zo)) :: (.int (nI ze)) :: (.ref ou) :: (.ref so) :: (.ref ad) :: (.ref na) :: (.ref va) :: (.ref lc) :: (.ref dm) :: (.int (nI fm)) :: (.int (nI sn)) :: (.ref tg) :: (.int v14) :: (.int v15) :: (.ref pe) :: (.int 4) :: (.int (nI (sgS (TC fv z) a))) :: (.int (-1)) :: (.int (-1)) :: (.int y21) :: (.int uq_329) :: (.ref ml) :: (.ref bg) :: (.ref co) :: (.ref sp) :: (.ref nb0) :: (.ref nb1) :: (.ref nb2) :: (.int (nI nf)) :: (.int (nI bd)) :: (.int (nI mm)) :: (.int v33) :: (.ref pl) :: (.ref se) :: (.ref ke) :: (.ref wi) :: (.ref hs) :: (.ref mo) :: (.ref po) :: (.ref nu) :: (.ref pr) :: (.ref sq) :: (.ref xa) :: (.ref sa) :: (.ref n64) :: (.ref m64) :: (.ref ex) :: (.ref wh) :: (.ref sd) :: (.ref tk) :: (.int v52) :: (.int v53) :: (.int v54) :: (.ref hd) :: (.ref ak) :: (.ref ho) :: (.ref ot) :: [])) ∧ va_P (dC, dI) vwCl (va_pl L G) H ∧ va_D A (va_pl L G) ∧ OKm cs ty gm L G ∧ FR ty [ρ] F G := ⟨_, rfl, hP, hD, hO.up (shm.mod hT_h0 ⟨v14, v15, 4, (nI (sgS (TC fv z) a)), (-1), (-1), y21, uq_329, v33, v52, v53, v54, rfl, (by first | omega | assumption | exact Or.inl rfl | exact Or.inr rfl), (by first | omega | assumption | exact Or.inl rfl | exact Or.inr rfl), (by first | omega | assumption | exact Or.inl rfl | exact Or.inr rfl), (by first | omega | assumption | exact Or.inl rfl | exact Or.inr rfl), (by first | omega | assumption | exact Or.inl rfl | exact Or.inr rfl)⟩), hR.up hT_h0 (by simp)⟩
                      have hF_339 : F_337 h0 = .inr (15, (.ref ta) :: (.int (nI zt)) :: (.int (nI zo)) :: (.int (nI ze)) :: (.ref ou) :: (.ref so) :: (.ref ad) :: (.ref na) :: (.ref va) :: (.ref lc) :: (.ref dm) :: (.int (nI fm)) :: (.int (nI sn)) :: (.ref tg) :: (.int v14) :: (.int v15) :: (.ref pe) :: (.int 4) :: (.int (nI (sgS (TC fv z) a))) :: (.int (-1)) :: (.int (-1)) :: (.int y21) :: (.int uq_329) :: (.ref ml) :: (.ref bg) :: (.ref co) :: (.ref sp) :: (.ref nb0) :: (.ref nb1) :: (.ref nb2) :: (.int (nI nf)) :: (.int (nI bd)) :: (.int (nI mm)) :: (.int v33) :: (.ref pl) :: (.ref se) :: (.ref ke) :: (.ref wi) :: (.ref hs) :: (.ref mo) :: (.ref po) :: (.ref nu) :: (.ref pr) :: (.ref sq) :: (.ref xa) :: (.ref sa) :: (.ref n64) :: (.ref m64) :: (.ref ex) :: (.ref wh) :: (.ref sd) :: (.ref tk) :: (.int v52) :: (.int v53) :: (.int v54) :: (.ref hd) :: (.ref ak) :: (.ref ho) :: (.ref ot) :: []) := by rw [he_338]; exact up_self
                      have hF_340 : F_337 g1 = .inl (cs 17, 700, .inl fv) := by rw [he_338, up_ne (ne_ty hT_g1 hT_h0 (by simp))]; exact hF_333
                      refine lv_goto (tgt := 392) hx hb dX15_readTerm_278 (by decide) ?_
                      refine W.widen (k := 0) (n := 0) (by omega) (by omega) ?_
                      exact jn_61 (4, (-1), (-1), y21, uq_329) F_337 (⟨hF_339, (by unfold meW; rw [if_neg (show ¬ ISW (TC fv z) (wdS (TC fv z) a) tt 3 [97, 108, 108] from (orp0 hw_163 c_164)), if_neg (show ¬ BGW (TC fv z) (wdS (TC fv z) a) tt 8 [105, 110, 99, 108, 117, 100, 101, 58] from (orp0 hw_169 c_170)), if_neg (show ¬ BGW (TC fv z) (wdS (TC fv z) a) tt 7 [101, 120, 105, 115, 116, 115, 58] from (orp0 hw_175 c_176)), if_pos (show BGW (TC fv z) (wdS (TC fv z) a) tt 4 [105, 112, 52, 58] from (orp1 hw_181 c_182))]; exact ip_y hwt c_336 (by rcases hw_334 with q | q; exact q.2; exact absurd q.1 c_335))⟩) hO hR _ _ hP hD hS ls (lv_sub hl [1, 2, 3, 4, 5, 6] rfl)
                ·
                  refine lv_iload hx hb dX15_readTerm_233 (lv_at hl 0 rfl) ?_
                  refine lv_iload_n hx hb dX15_readTerm_235 rfl (lv_at hl 6 rfl) ?_
                  refine lv_icmp_ge (tgt := 252) hx hb dX15_readTerm_236 (by decide) (fun c_341 => ?_) (fun c_341 => ?_)
                  ·
                    have hi_342 : tt ≤ (fdT (TC fv z) 47 ((wdS (TC fv z) a) + 4) tt) := leN (N := tt) c_341
                    refine W.widen (k := 0) (n := 0) (by omega) (by omega) ?_
                    exact jn_323 32 F_57 (⟨wdt_32 (by omega) rfl, hk4a⟩) hO hR _ _ hP hD hS ls (lv_sub hl [0, 1, 2, 3, 4, 5, 6] rfl)
                  ·
                    have hi_343 : (fdT (TC fv z) 47 ((wdS (TC fv z) a) + 4) tt) < tt := ltN (N := tt) c_341
                    refine lv_aload_n hx hb dX15_readTerm_239 rfl (lv_at hl 3 rfl) ?_
                    refine lv_aload_n hx hb dX15_readTerm_240 rfl (lv_at hl 4 rfl) ?_
                    refine lv_iload hx hb dX15_readTerm_241 (lv_at hl 0 rfl) ?_
                    refine lv_iconst (v := 1) hx hb dX15_readTerm_243 (by decide) ?_
                    refine lv_iadd hx hb dX15_readTerm_244 ?_
                    refine lv_topi (fun x_344 ex_344 => ?_)
                    obtain rfl : x_344 = (nI ((fdT (TC fv z) 47 ((wdS (TC fv z) a) + 4) tt) + 1)) := ex_344.trans (nI_add (fdT (TC fv z) 47 ((wdS (TC fv z) a) + 4) tt) 1)
                    refine lv_iload_n hx hb dX15_readTerm_245 rfl (lv_at hl 6 rfl) ?_
                    have hFc := pg_free hD hS hA
                    refine va_calli (va_runS (As := [.ref g1, .int (nI ((fdT (TC fv z) 47 ((wdS (TC fv z) a) + 4) tt) + 1)), .int (nI tt)]) (rest := [.ref h0]) ⟨hx, hb, hml, hown, hts⟩ (s_X15_bits_x l dC dI cs ty gm L H.size F_57 g1 μ 700 z ((fdT (TC fv z) 47 ((wdS (TC fv z) a) + 4) tt) + 1) tt fv hW hL_g1 hT_g1 hF_60 (by first | omega | assumption | exact Or.inl rfl) (by omega) (by first | omega | assumption | exact Or.inl rfl) (by omega)) ⟨callB_of 3 hts (gi kt_756) rfl rfl rfl (hts _ kt_669) (hts _ kt_757) (by decide +kernel) ⟨Nat.le_of_ble_eq_true rfl, Nat.le_of_ble_eq_true rfl⟩, (hts _ kt_758)⟩ ⟨fun a U g mk q => ⟨q.1, PTm.calling q.2⟩, fun U hU hWm => ⟨rfl, PTm.mk hU hWm hP hK hD hE hO⟩⟩ rfl rfl hl.1 rfl (lv_room (Nat.le_of_ble_eq_true rfl)) dX15_readTerm_246 ⟨by show _ + 0 ≤ 0; omega, by show _ + 0 ≤ 0; omega⟩) hS (fun q _ h => hFc q h) hFc (fun r_345 u t H1 locs ht hvm hw hB hz1 hk1 hS => ?_)
                    obtain ⟨F_346, hB1⟩ := hB
                    obtain rfl : F_57 = F_346 := (funext (fun a => hB1.2.2.2 a List.not_mem_nil)).symm
                    obtain ⟨hP, hD, hO, hR⟩ := QTm.back hB1 ht hFc hR (fun q h => absurd h List.not_mem_nil)
                    generalize H1 = H at hP hS ⊢
                    have hw : r_345 = btv (nbT (TC fv z) ((fdT (TC fv z) 47 ((wdS (TC fv z) a) + 4) tt) + 1) tt 2) := hw
                    subst hw
                    refine pg_put (ci := 15) (v := .int (btv (nbT (TC fv z) ((fdT (TC fv z) 47 ((wdS (TC fv z) a) + 4) tt) + 1) tt 2))) (ty := .int) (C := RX15) (T := TX15) (N := 59) hx hb hts it_15 tyX15 tyX15_ok nmX15 hown hK hP hD hS hL_h0 hk4a rfl 21 (by decide) (hts _ kt_749) (fun _ h9 => h9) rfl (by decide +kernel) (rfl) (rfl) (Nat.le_of_ble_eq_true rfl) dX15_readTerm_249 (fun H locs hP hD hS => ?_)
                    obtain ⟨F_347, he_348, hP, hD, hO, hR⟩ : ∃ G, G = va_up F_57 h0 (.inr (15, (.ref ta) :: (.int (nI zt)) :: (.int (nI zo)) :: (.int (nI ze)) :: (.ref ou) :: (.ref so) :: (.ref ad) :: (.ref na) :: (.ref va) :: (.ref lc) :: (.ref dm) :: (.int (nI fm)) :: (.int (nI sn)) :: (.ref tg) :: (.int v14) :: (.int v15) :: (.ref pe) :: (.int 8) :: (.int (nI (sgS (TC fv z) a))) :: (.int (-1)) :: (.int (-1)) :: (.int (btv (nbT (TC fv z) ((fdT (TC fv z) 47 ((wdS (TC fv z) a) + 4) tt) + 1) tt 2))) :: (.int v22) :: (.ref ml) :: (.ref bg) :: (.ref co) :: (.ref sp) :: (.ref nb0) :: (.ref nb1) :: (.ref nb2) :: (.int (nI nf)) :: (.int (nI bd)) :: (.int (nI mm)) :: (.int v33) :: (.ref pl) :: (.ref se) :: (.ref ke) :: (.ref wi) :: (.ref hs) :: (.ref mo) :: (.ref po) :: (.ref nu) :: (.ref pr) :: (.ref sq) :: (.ref xa) :: (.ref sa) :: (.ref n64) :: (.ref m64) :: (.ref ex) :: (.ref wh) :: (.ref sd) :: (.ref tk) :: (.int v52) :: (.int v53) :: (.int v54) :: (.ref hd) :: (.ref ak) :: (.ref ho) :: (.ref ot) :: [])) ∧ va_P (dC, dI) vwCl (va_pl L G) H ∧ va_D A (va_pl L G) ∧ OKm cs ty gm L G ∧ FR ty [ρ] F G := ⟨_, rfl, hP, hD, hO.up (shm.mod hT_h0 ⟨v14, v15, 8, (nI (sgS (TC fv z) a)), (-1), (-1), (btv (nbT (TC fv z) ((fdT (TC fv z) 47 ((wdS (TC fv z) a) + 4) tt) + 1) tt 2)), v22, v33, v52, v53, v54, rfl, (by first | omega | assumption | exact Or.inl rfl | exact Or.inr rfl), (by first | omega | assumption | exact Or.inl rfl | exact Or.inr rfl), (by first | omega | assumption | exact Or.inl rfl | exact Or.inr rfl), (by first | omega | assumption | exact Or.inl rfl | exact Or.inr rfl), (by first | omega | assumption | exact Or.inl rfl | exact Or.inr rfl)⟩), hR.up hT_h0 (by simp)⟩
                    have hF_349 : F_347 h0 = .inr (15, (.ref ta) :: (.int (nI zt)) :: (.int (nI zo)) :: (.int (nI ze)) :: (.ref ou) :: (.ref so) :: (.ref ad) :: (.ref na) :: (.ref va) :: (.ref lc) :: (.ref dm) :: (.int (nI fm)) :: (.int (nI sn)) :: (.ref tg) :: (.int v14) :: (.int v15) :: (.ref pe) :: (.int 8) :: (.int (nI (sgS (TC fv z) a))) :: (.int (-1)) :: (.int (-1)) :: (.int (btv (nbT (TC fv z) ((fdT (TC fv z) 47 ((wdS (TC fv z) a) + 4) tt) + 1) tt 2))) :: (.int v22) :: (.ref ml) :: (.ref bg) :: (.ref co) :: (.ref sp) :: (.ref nb0) :: (.ref nb1) :: (.ref nb2) :: (.int (nI nf)) :: (.int (nI bd)) :: (.int (nI mm)) :: (.int v33) :: (.ref pl) :: (.ref se) :: (.ref ke) :: (.ref wi) :: (.ref hs) :: (.ref mo) :: (.ref po) :: (.ref nu) :: (.ref pr) :: (.ref sq) :: (.ref xa) :: (.ref sa) :: (.ref n64) :: (.ref m64) :: (.ref ex) :: (.ref wh) :: (.ref sd) :: (.ref tk) :: (.int v52) :: (.int v53) :: (.int v54) :: (.ref hd) :: (.ref ak) :: (.ref ho) :: (.ref ot) :: []) := by rw [he_348]; exact up_self
                    have hF_350 : F_347 g1 = .inl (cs 17, 700, .inl fv) := by rw [he_348, up_ne (ne_ty hT_g1 hT_h0 (by simp))]; exact hF_60
                    refine W.widen (k := 0) (n := 0) (by omega) (by omega) ?_
                    exact jn_323 (btv (nbT (TC fv z) ((fdT (TC fv z) 47 ((wdS (TC fv z) a) + 4) tt) + 1) tt 2)) F_347 (⟨wdt_n (by omega), hF_349⟩) hO hR _ _ hP hD hS ls (lv_sub hl [0, 1, 2, 3, 4, 5, 6] rfl)
            ·
              have hb167 := (orp1 hw_175 c_176).1
              refine lv_aload_n hx hb dX15_readTerm_173 rfl (lv_at hl 2 rfl) ?_
              refine lv_iload hx hb dX15_readTerm_174 (lv_at hl 1 rfl) ?_
              refine lv_bipush (v := 7) hx hb dX15_readTerm_176 (by decide) ?_
              refine lv_iadd hx hb dX15_readTerm_178 ?_
              refine lv_topi (fun x_351 ex_351 => ?_)
              obtain rfl : x_351 = (nI ((wdS (TC fv z) a) + 7)) := ex_351.trans (nI_add (wdS (TC fv z) a) 7)
              refine pg_put (ci := 15) (v := .int (nI ((wdS (TC fv z) a) + 7))) (ty := .int) (C := RX15) (T := TX15) (N := 59) hx hb hts it_15 tyX15 tyX15_ok nmX15 hown hK hP hD hS hL_h0 hk4a rfl 19 (by decide) (hts _ kt_751) (fun _ h9 => h9) rfl (by decide +kernel) (rfl) (rfl) (Nat.le_of_ble_eq_true rfl) dX15_readTerm_179 (fun H locs hP hD hS => ?_)
              obtain ⟨F_352, he_353, hP, hD, hO, hR⟩ : ∃ G, G = va_up F_57 h0 (.inr (15, (.ref ta) :: (.int (nI zt)) :: (.int (nI zo)) :: (.int (nI ze)) :: (.ref ou) :: (.ref so) :: (.ref ad) :: (.ref na) :: (.ref va) :: (.ref lc) :: (.ref dm) :: (.int (nI fm)) :: (.int (nI sn)) :: (.ref tg) :: (.int v14) :: (.int v15) :: (.ref pe) :: (.int 8) :: (.int (nI (sgS (TC fv z) a))) :: (.int (nI ((wdS (TC fv z) a) + 7))) :: (.int (-1)) :: (.int 32) :: (.int v22) :: (.ref ml) :: (.ref bg) :: (.ref co) :: (.ref sp) :: (.ref nb0) :: (.ref nb1) :: (.ref nb2) :: (.int (nI nf)) :: (.int (nI bd)) :: (.int (nI mm)) :: (.int v33) :: (.ref pl) :: (.ref se) :: (.ref ke) :: (.ref wi) :: (.ref hs) :: (.ref mo) :: (.ref po) :: (.ref nu) :: (.ref pr) :: (.ref sq) :: (.ref xa) :: (.ref sa) :: (.ref n64) :: (.ref m64) :: (.ref ex) :: (.ref wh) :: (.ref sd) :: (.ref tk) :: (.int v52) :: (.int v53) :: (.int v54) :: (.ref hd) :: (.ref ak) :: (.ref ho) :: (.ref ot) :: [])) ∧ va_P (dC, dI) vwCl (va_pl L G) H ∧ va_D A (va_pl L G) ∧ OKm cs ty gm L G ∧ FR ty [ρ] F G := ⟨_, rfl, hP, hD, hO.up (shm.mod hT_h0 ⟨v14, v15, 8, (nI (sgS (TC fv z) a)), (nI ((wdS (TC fv z) a) + 7)), (-1), 32, v22, v33, v52, v53, v54, rfl, (by first | omega | assumption | exact Or.inl rfl | exact Or.inr rfl), (by first | omega | assumption | exact Or.inl rfl | exact Or.inr rfl), (by first | omega | assumption | exact Or.inl rfl | exact Or.inr rfl), (by first | omega | assumption | exact Or.inl rfl | exact Or.inr rfl), (by first | omega | assumption | exact Or.inl rfl | exact Or.inr rfl)⟩), hR.up hT_h0 (by simp)⟩
              have hF_354 : F_352 h0 = .inr (15, (.ref ta) :: (.int (nI zt)) :: (.int (nI zo)) :: (.int (nI ze)) :: (.ref ou) :: (.ref so) :: (.ref ad) :: (.ref na) :: (.ref va) :: (.ref lc) :: (.ref dm) :: (.int (nI fm)) :: (.int (nI sn)) :: (.ref tg) :: (.int v14) :: (.int v15) :: (.ref pe) :: (.int 8) :: (.int (nI (sgS (TC fv z) a))) :: (.int (nI ((wdS (TC fv z) a) + 7))) :: (.int (-1)) :: (.int 32) :: (.int v22) :: (.ref ml) :: (.ref bg) :: (.ref co) :: (.ref sp) :: (.ref nb0) :: (.ref nb1) :: (.ref nb2) :: (.int (nI nf)) :: (.int (nI bd)) :: (.int (nI mm)) :: (.int v33) :: (.ref pl) :: (.ref se) :: (.ref ke) :: (.ref wi) :: (.ref hs) :: (.ref mo) :: (.ref po) :: (.ref nu) :: (.ref pr) :: (.ref sq) :: (.ref xa) :: (.ref sa) :: (.ref n64) :: (.ref m64) :: (.ref ex) :: (.ref wh) :: (.ref sd) :: (.ref tk) :: (.int v52) :: (.int v53) :: (.int v54) :: (.ref hd) :: (.ref ak) :: (.ref ho) :: (.ref ot) :: []) := by rw [he_353]; exact up_self
              have hF_355 : F_352 g1 = .inl (cs 17, 700, .inl fv) := by rw [he_353, up_ne (ne_ty hT_g1 hT_h0 (by simp))]; exact hF_60
              refine lv_aload_n hx hb dX15_readTerm_182 rfl (lv_at hl 2 rfl) ?_
              refine lv_iload_n hx hb dX15_readTerm_183 rfl (lv_at hl 5 rfl) ?_
              refine pg_put (ci := 15) (v := .int (nI tt)) (ty := .int) (C := RX15) (T := TX15) (N := 59) hx hb hts it_15 tyX15 tyX15_ok nmX15 hown hK hP hD hS hL_h0 hF_354 rfl 20 (by decide) (hts _ kt_752) (fun _ h9 => h9) rfl (by decide +kernel) (rfl) (rfl) (Nat.le_of_ble_eq_true rfl) dX15_readTerm_184 (fun H locs hP hD hS => ?_)
              obtain ⟨F_356, he_357, hP, hD, hO, hR⟩ : ∃ G, G = va_up F_352 h0 (.inr (15, (.ref ta) :: (.int (nI zt)) :: (.int (nI zo)) :: (.int (nI ze)) :: (.ref ou) :: (.ref so) :: (.ref ad) :: (.ref na) :: (.ref va) :: (.ref lc) :: (.ref dm) :: (.int (nI fm)) :: (.int (nI sn)) :: (.ref tg) :: (.int v14) :: (.int v15) :: (.ref pe) :: (.int 8) :: (.int (nI (sgS (TC fv z) a))) :: (.int (nI ((wdS (TC fv z) a) + 7))) :: (.int (nI tt)) :: (.int 32) :: (.int v22) :: (.ref ml) :: (.ref bg) :: (.ref co) :: (.ref sp) :: (.ref nb0) :: (.ref nb1) :: (.ref nb2) :: (.int (nI nf)) :: (.int (nI bd)) :: (.int (nI mm)) :: (.int v33) :: (.ref pl) :: (.ref se) :: (.ref ke) :: (.ref wi) :: (.ref hs) :: (.ref mo) :: (.ref po) :: (.ref nu) :: (.ref pr) :: (.ref sq) :: (.ref xa) :: (.ref sa) :: (.ref n64) :: (.ref m64) :: (.ref ex) :: (.ref wh) :: (.ref sd) :: (.ref tk) :: (.int v52) :: (.int v53) :: (.int v54) :: (.ref hd) :: (.ref ak) :: (.ref ho) :: (.ref ot) :: [])) ∧ va_P (dC, dI) vwCl (va_pl L G) H ∧ va_D A (va_pl L G) ∧ OKm cs ty gm L G ∧ FR ty [ρ] F G := ⟨_, rfl, hP, hD, hO.up (shm.mod hT_h0 ⟨v14, v15, 8, (nI (sgS (TC fv z) a)), (nI ((wdS (TC fv z) a) + 7)), (nI tt), 32, v22, v33, v52, v53, v54, rfl, (by first | omega | assumption | exact Or.inl rfl | exact Or.inr rfl), (by first | omega | assumption | exact Or.inl rfl | exact Or.inr rfl), (by first | omega | assumption | exact Or.inl rfl | exact Or.inr rfl), (by first | omega | assumption | exact Or.inl rfl | exact Or.inr rfl), (by first | omega | assumption | exact Or.inl rfl | exact Or.inr rfl)⟩), hR.up hT_h0 (by simp)⟩
              have hF_358 : F_356 h0 = .inr (15, (.ref ta) :: (.int (nI zt)) :: (.int (nI zo)) :: (.int (nI ze)) :: (.ref ou) :: (.ref so) :: (.ref ad) :: (.ref na) :: (.ref va) :: (.ref lc) :: (.ref dm) :: (.int (nI fm)) :: (.int (nI sn)) :: (.ref tg) :: (.int v14) :: (.int v15) :: (.ref pe) :: (.int 8) :: (.int (nI (sgS (TC fv z) a))) :: (.int (nI ((wdS (TC fv z) a) + 7))) :: (.int (nI tt)) :: (.int 32) :: (.int v22) :: (.ref ml) :: (.ref bg) :: (.ref co) :: (.ref sp) :: (.ref nb0) :: (.ref nb1) :: (.ref nb2) :: (.int (nI nf)) :: (.int (nI bd)) :: (.int (nI mm)) :: (.int v33) :: (.ref pl) :: (.ref se) :: (.ref ke) :: (.ref wi) :: (.ref hs) :: (.ref mo) :: (.ref po) :: (.ref nu) :: (.ref pr) :: (.ref sq) :: (.ref xa) :: (.ref sa) :: (.ref n64) :: (.ref m64) :: (.ref ex) :: (.ref wh) :: (.ref sd) :: (.ref tk) :: (.int v52) :: (.int v53) :: (.int v54) :: (.ref hd) :: (.ref ak) :: (.ref ho) :: (.ref ot) :: []) := by rw [he_357]; exact up_self
              have hF_359 : F_356 g1 = .inl (cs 17, 700, .inl fv) := by rw [he_357, up_ne (ne_ty hT_g1 hT_h0 (by simp))]; exact hF_355
              refine lv_aload_n hx hb dX15_readTerm_187 rfl (lv_at hl 3 rfl) ?_
              refine lv_aload_n hx hb dX15_readTerm_188 rfl (lv_at hl 2 rfl) ?_
              refine pg_get (ci := 15) (v := .int (nI ((wdS (TC fv z) a) + 7))) (C := RX15) (T := TX15) (N := 59) hx hb hts it_15 hown hK hP hL_h0 hF_358 rfl 19 (by decide) (hts _ kt_751) (fun _ h9 => h9) rfl dX15_readTerm_189 ?_
              refine lv_aload_n hx hb dX15_readTerm_192 rfl (lv_at hl 2 rfl) ?_
              refine pg_get (ci := 15) (v := .int (nI tt)) (C := RX15) (T := TX15) (N := 59) hx hb hts it_15 hown hK hP hL_h0 hF_358 rfl 20 (by decide) (hts _ kt_752) (fun _ h9 => h9) rfl dX15_readTerm_193 ?_
              refine lv_iconst (v := 1) hx hb dX15_readTerm_196 (by decide) ?_
              have hFc := pg_free hD hS hA
              refine va_calli (va_runS (As := [.ref g1, .int (nI ((wdS (TC fv z) a) + 7)), .int (nI tt), .int 1]) (rest := []) ⟨hx, hb, hml, hown, hts⟩ (s_X15_isD_x l dC dI cs ty gm L H.size F_356 g1 μ 700 z ((wdS (TC fv z) a) + 7) tt fv 1 hW hL_g1 hT_g1 hF_359 (htz) (by omega) (by first | omega | assumption | exact Or.inl rfl) (by omega) (Or.inl (by decide))) ⟨callB_of 4 hts (gi kt_753) rfl rfl rfl (hts _ kt_669) (hts _ kt_754) (by decide +kernel) ⟨Nat.le_of_ble_eq_true rfl, Nat.le_of_ble_eq_true rfl⟩, (hts _ kt_755)⟩ ⟨fun a U g mk q => ⟨q.1, PTm.calling q.2⟩, fun U hU hWm => ⟨rfl, PTm.mk hU hWm hP hK hD hE hO⟩⟩ rfl rfl hl.1 rfl (lv_room (Nat.le_of_ble_eq_true rfl)) dX15_readTerm_197 ⟨by show _ + 0 ≤ 0; omega, by show _ + 0 ≤ 0; omega⟩) hS (fun q _ h => hFc q h) hFc (fun r_360 u t H1 locs ht hvm hw hB hz1 hk1 hS => ?_)
              obtain ⟨F_361, hB1⟩ := hB
              obtain rfl : F_356 = F_361 := (funext (fun a => hB1.2.2.2 a List.not_mem_nil)).symm
              obtain ⟨hP, hD, hO, hR⟩ := QTm.back hB1 ht hFc hR (fun q h => absurd h List.not_mem_nil)
              generalize H1 = H at hP hS ⊢
              have hw_362 : ORP r_360 (HSW (TC fv z) ((wdS (TC fv z) a) + 7) tt) := hw
              clear hw
              refine lv_if_eq (tgt := 392) hx hb dX15_readTerm_200 (by decide) (fun c_363 => ?_) (fun c_363 => ?_)
              ·
                refine W.widen (k := 0) (n := 0) (by omega) (by omega) ?_
                exact jn_61 (8, (nI ((wdS (TC fv z) a) + 7)), (nI tt), 32, v22) F_356 (⟨hF_358, rtx_no (by unfold meW; rw [if_neg (show ¬ ISW (TC fv z) (wdS (TC fv z) a) tt 3 [97, 108, 108] from (orp0 hw_163 c_164)), if_neg (show ¬ BGW (TC fv z) (wdS (TC fv z) a) tt 8 [105, 110, 99, 108, 117, 100, 101, 58] from (orp0 hw_169 c_170)), if_pos (show BGW (TC fv z) (wdS (TC fv z) a) tt 7 [101, 120, 105, 115, 116, 115, 58] from (orp1 hw_175 c_176)), if_neg (show ¬ HSW (TC fv z) ((wdS (TC fv z) a) + 7) tt from (orp0 hw_362 c_363))]) rfl⟩) hO hR _ _ hP hD hS ls (lv_sub hl [0, 1, 2, 3, 4, 5] rfl)
              ·
                refine lv_aload_n hx hb dX15_readTerm_203 rfl (lv_at hl 2 rfl) ?_
                refine lv_iconst (v := 5) hx hb dX15_readTerm_204 (by decide) ?_
                refine pg_put (ci := 15) (v := .int 5) (ty := .int) (C := RX15) (T := TX15) (N := 59) hx hb hts it_15 tyX15 tyX15_ok nmX15 hown hK hP hD hS hL_h0 hF_358 rfl 17 (by decide) (hts _ kt_750) (fun _ h9 => h9) rfl (by decide +kernel) (rfl) (rfl) (Nat.le_of_ble_eq_true rfl) dX15_readTerm_205 (fun H locs hP hD hS => ?_)
                obtain ⟨F_364, he_365, hP, hD, hO, hR⟩ : ∃ G, G = va_up F_356 h0 (.inr (15, (.ref ta) :: (.int (nI zt)) :: (.int (nI zo)) :: (.int (nI ze)) :: (.ref ou) :: (.ref so) :: (.ref ad) :: (.ref na) :: (.ref va) :: (.ref lc) :: (.ref dm) :: (.int (nI fm)) :: (.int (nI sn)) :: (.ref tg) :: (.int v14) :: (.int v15) :: (.ref pe) :: (.int 5) :: (.int (nI (sgS (TC fv z) a))) :: (.int (nI ((wdS (TC fv z) a) + 7))) :: (.int (nI tt)) :: (.int 32) :: (.int v22) :: (.ref ml) :: (.ref bg) :: (.ref co) :: (.ref sp) :: (.ref nb0) :: (.ref nb1) :: (.ref nb2) :: (.int (nI nf)) :: (.int (nI bd)) :: (.int (nI mm)) :: (.int v33) :: (.ref pl) :: (.ref se) :: (.ref ke) :: (.ref wi) :: (.ref hs) :: (.ref mo) :: (.ref po) :: (.ref nu) :: (.ref pr) :: (.ref sq) :: (.ref xa) :: (.ref sa) :: (.ref n64) :: (.ref m64) :: (.ref ex) :: (.ref wh) :: (.ref sd) :: (.ref tk) :: (.int v52) :: (.int v53) :: (.int v54) :: (.ref hd) :: (.ref ak) :: (.ref ho) :: (.ref ot) :: [])) ∧ va_P (dC, dI) vwCl (va_pl L G) H ∧ va_D A (va_pl L G) ∧ OKm cs ty gm L G ∧ FR ty [ρ] F G := ⟨_, rfl, hP, hD, hO.up (shm.mod hT_h0 ⟨v14, v15, 5, (nI (sgS (TC fv z) a)), (nI ((wdS (TC fv z) a) + 7)), (nI tt), 32, v22, v33, v52, v53, v54, rfl, (by first | omega | assumption | exact Or.inl rfl | exact Or.inr rfl), (by first | omega | assumption | exact Or.inl rfl | exact Or.inr rfl), (by first | omega | assumption | exact Or.inl rfl | exact Or.inr rfl), (by first | omega | assumption | exact Or.inl rfl | exact Or.inr rfl), (by first | omega | assumption | exact Or.inl rfl | exact Or.inr rfl)⟩), hR.up hT_h0 (by simp)⟩
                have hF_366 : F_364 h0 = .inr (15, (.ref ta) :: (.int (nI zt)) :: (.int (nI zo)) :: (.int (nI ze)) :: (.ref ou) :: (.ref so) :: (.ref ad) :: (.ref na) :: (.ref va) :: (.ref lc) :: (.ref dm) :: (.int (nI fm)) :: (.int (nI sn)) :: (.ref tg) :: (.int v14) :: (.int v15) :: (.ref pe) :: (.int 5) :: (.int (nI (sgS (TC fv z) a))) :: (.int (nI ((wdS (TC fv z) a) + 7))) :: (.int (nI tt)) :: (.int 32) :: (.int v22) :: (.ref ml) :: (.ref bg) :: (.ref co) :: (.ref sp) :: (.ref nb0) :: (.ref nb1) :: (.ref nb2) :: (.int (nI nf)) :: (.int (nI bd)) :: (.int (nI mm)) :: (.int v33) :: (.ref pl) :: (.ref se) :: (.ref ke) :: (.ref wi) :: (.ref hs) :: (.ref mo) :: (.ref po) :: (.ref nu) :: (.ref pr) :: (.ref sq) :: (.ref xa) :: (.ref sa) :: (.ref n64) :: (.ref m64) :: (.ref ex) :: (.ref wh) :: (.ref sd) :: (.ref tk) :: (.int v52) :: (.int v53) :: (.int v54) :: (.ref hd) :: (.ref ak) :: (.ref ho) :: (.ref ot) :: []) := by rw [he_365]; exact up_self
                have hF_367 : F_364 g1 = .inl (cs 17, 700, .inl fv) := by rw [he_365, up_ne (ne_ty hT_g1 hT_h0 (by simp))]; exact hF_359
                refine lv_goto (tgt := 392) hx hb dX15_readTerm_208 (by decide) ?_
                refine W.widen (k := 0) (n := 0) (by omega) (by omega) ?_
                exact jn_61 (5, (nI ((wdS (TC fv z) a) + 7)), (nI tt), 32, v22) F_364 (⟨hF_366, rtx_d (k := 6) (by omega) (by unfold meW; rw [if_neg (show ¬ ISW (TC fv z) (wdS (TC fv z) a) tt 3 [97, 108, 108] from (orp0 hw_163 c_164)), if_neg (show ¬ BGW (TC fv z) (wdS (TC fv z) a) tt 8 [105, 110, 99, 108, 117, 100, 101, 58] from (orp0 hw_169 c_170)), if_pos (show BGW (TC fv z) (wdS (TC fv z) a) tt 7 [101, 120, 105, 115, 116, 115, 58] from (orp1 hw_175 c_176)), if_pos (show HSW (TC fv z) ((wdS (TC fv z) a) + 7) tt from (orp1 hw_362 c_363))]) rfl⟩) hO hR _ _ hP hD hS ls (lv_sub hl [0, 1, 2, 3, 4, 5] rfl)
          ·
            have hb116 := (orp1 hw_169 c_170).1
            refine lv_aload_n hx hb dX15_readTerm_122 rfl (lv_at hl 2 rfl) ?_
            refine lv_iload hx hb dX15_readTerm_123 (lv_at hl 1 rfl) ?_
            refine lv_bipush (v := 8) hx hb dX15_readTerm_125 (by decide) ?_
            refine lv_iadd hx hb dX15_readTerm_127 ?_
            refine lv_topi (fun x_368 ex_368 => ?_)
            obtain rfl : x_368 = (nI ((wdS (TC fv z) a) + 8)) := ex_368.trans (nI_add (wdS (TC fv z) a) 8)
            refine pg_put (ci := 15) (v := .int (nI ((wdS (TC fv z) a) + 8))) (ty := .int) (C := RX15) (T := TX15) (N := 59) hx hb hts it_15 tyX15 tyX15_ok nmX15 hown hK hP hD hS hL_h0 hk4a rfl 19 (by decide) (hts _ kt_751) (fun _ h9 => h9) rfl (by decide +kernel) (rfl) (rfl) (Nat.le_of_ble_eq_true rfl) dX15_readTerm_128 (fun H locs hP hD hS => ?_)
            obtain ⟨F_369, he_370, hP, hD, hO, hR⟩ : ∃ G, G = va_up F_57 h0 (.inr (15, (.ref ta) :: (.int (nI zt)) :: (.int (nI zo)) :: (.int (nI ze)) :: (.ref ou) :: (.ref so) :: (.ref ad) :: (.ref na) :: (.ref va) :: (.ref lc) :: (.ref dm) :: (.int (nI fm)) :: (.int (nI sn)) :: (.ref tg) :: (.int v14) :: (.int v15) :: (.ref pe) :: (.int 8) :: (.int (nI (sgS (TC fv z) a))) :: (.int (nI ((wdS (TC fv z) a) + 8))) :: (.int (-1)) :: (.int 32) :: (.int v22) :: (.ref ml) :: (.ref bg) :: (.ref co) :: (.ref sp) :: (.ref nb0) :: (.ref nb1) :: (.ref nb2) :: (.int (nI nf)) :: (.int (nI bd)) :: (.int (nI mm)) :: (.int v33) :: (.ref pl) :: (.ref se) :: (.ref ke) :: (.ref wi) :: (.ref hs) :: (.ref mo) :: (.ref po) :: (.ref nu) :: (.ref pr) :: (.ref sq) :: (.ref xa) :: (.ref sa) :: (.ref n64) :: (.ref m64) :: (.ref ex) :: (.ref wh) :: (.ref sd) :: (.ref tk) :: (.int v52) :: (.int v53) :: (.int v54) :: (.ref hd) :: (.ref ak) :: (.ref ho) :: (.ref ot) :: [])) ∧ va_P (dC, dI) vwCl (va_pl L G) H ∧ va_D A (va_pl L G) ∧ OKm cs ty gm L G ∧ FR ty [ρ] F G := ⟨_, rfl, hP, hD, hO.up (shm.mod hT_h0 ⟨v14, v15, 8, (nI (sgS (TC fv z) a)), (nI ((wdS (TC fv z) a) + 8)), (-1), 32, v22, v33, v52, v53, v54, rfl, (by first | omega | assumption | exact Or.inl rfl | exact Or.inr rfl), (by first | omega | assumption | exact Or.inl rfl | exact Or.inr rfl), (by first | omega | assumption | exact Or.inl rfl | exact Or.inr rfl), (by first | omega | assumption | exact Or.inl rfl | exact Or.inr rfl), (by first | omega | assumption | exact Or.inl rfl | exact Or.inr rfl)⟩), hR.up hT_h0 (by simp)⟩
            have hF_371 : F_369 h0 = .inr (15, (.ref ta) :: (.int (nI zt)) :: (.int (nI zo)) :: (.int (nI ze)) :: (.ref ou) :: (.ref so) :: (.ref ad) :: (.ref na) :: (.ref va) :: (.ref lc) :: (.ref dm) :: (.int (nI fm)) :: (.int (nI sn)) :: (.ref tg) :: (.int v14) :: (.int v15) :: (.ref pe) :: (.int 8) :: (.int (nI (sgS (TC fv z) a))) :: (.int (nI ((wdS (TC fv z) a) + 8))) :: (.int (-1)) :: (.int 32) :: (.int v22) :: (.ref ml) :: (.ref bg) :: (.ref co) :: (.ref sp) :: (.ref nb0) :: (.ref nb1) :: (.ref nb2) :: (.int (nI nf)) :: (.int (nI bd)) :: (.int (nI mm)) :: (.int v33) :: (.ref pl) :: (.ref se) :: (.ref ke) :: (.ref wi) :: (.ref hs) :: (.ref mo) :: (.ref po) :: (.ref nu) :: (.ref pr) :: (.ref sq) :: (.ref xa) :: (.ref sa) :: (.ref n64) :: (.ref m64) :: (.ref ex) :: (.ref wh) :: (.ref sd) :: (.ref tk) :: (.int v52) :: (.int v53) :: (.int v54) :: (.ref hd) :: (.ref ak) :: (.ref ho) :: (.ref ot) :: []) := by rw [he_370]; exact up_self
            have hF_372 : F_369 g1 = .inl (cs 17, 700, .inl fv) := by rw [he_370, up_ne (ne_ty hT_g1 hT_h0 (by simp))]; exact hF_60
            refine lv_aload_n hx hb dX15_readTerm_131 rfl (lv_at hl 2 rfl) ?_
            refine lv_iload_n hx hb dX15_readTerm_132 rfl (lv_at hl 5 rfl) ?_
            refine pg_put (ci := 15) (v := .int (nI tt)) (ty := .int) (C := RX15) (T := TX15) (N := 59) hx hb hts it_15 tyX15 tyX15_ok nmX15 hown hK hP hD hS hL_h0 hF_371 rfl 20 (by decide) (hts _ kt_752) (fun _ h9 => h9) rfl (by decide +kernel) (rfl) (rfl) (Nat.le_of_ble_eq_true rfl) dX15_readTerm_133 (fun H locs hP hD hS => ?_)
            obtain ⟨F_373, he_374, hP, hD, hO, hR⟩ : ∃ G, G = va_up F_369 h0 (.inr (15, (.ref ta) :: (.int (nI zt)) :: (.int (nI zo)) :: (.int (nI ze)) :: (.ref ou) :: (.ref so) :: (.ref ad) :: (.ref na) :: (.ref va) :: (.ref lc) :: (.ref dm) :: (.int (nI fm)) :: (.int (nI sn)) :: (.ref tg) :: (.int v14) :: (.int v15) :: (.ref pe) :: (.int 8) :: (.int (nI (sgS (TC fv z) a))) :: (.int (nI ((wdS (TC fv z) a) + 8))) :: (.int (nI tt)) :: (.int 32) :: (.int v22) :: (.ref ml) :: (.ref bg) :: (.ref co) :: (.ref sp) :: (.ref nb0) :: (.ref nb1) :: (.ref nb2) :: (.int (nI nf)) :: (.int (nI bd)) :: (.int (nI mm)) :: (.int v33) :: (.ref pl) :: (.ref se) :: (.ref ke) :: (.ref wi) :: (.ref hs) :: (.ref mo) :: (.ref po) :: (.ref nu) :: (.ref pr) :: (.ref sq) :: (.ref xa) :: (.ref sa) :: (.ref n64) :: (.ref m64) :: (.ref ex) :: (.ref wh) :: (.ref sd) :: (.ref tk) :: (.int v52) :: (.int v53) :: (.int v54) :: (.ref hd) :: (.ref ak) :: (.ref ho) :: (.ref ot) :: [])) ∧ va_P (dC, dI) vwCl (va_pl L G) H ∧ va_D A (va_pl L G) ∧ OKm cs ty gm L G ∧ FR ty [ρ] F G := ⟨_, rfl, hP, hD, hO.up (shm.mod hT_h0 ⟨v14, v15, 8, (nI (sgS (TC fv z) a)), (nI ((wdS (TC fv z) a) + 8)), (nI tt), 32, v22, v33, v52, v53, v54, rfl, (by first | omega | assumption | exact Or.inl rfl | exact Or.inr rfl), (by first | omega | assumption | exact Or.inl rfl | exact Or.inr rfl), (by first | omega | assumption | exact Or.inl rfl | exact Or.inr rfl), (by first | omega | assumption | exact Or.inl rfl | exact Or.inr rfl), (by first | omega | assumption | exact Or.inl rfl | exact Or.inr rfl)⟩), hR.up hT_h0 (by simp)⟩
            have hF_375 : F_373 h0 = .inr (15, (.ref ta) :: (.int (nI zt)) :: (.int (nI zo)) :: (.int (nI ze)) :: (.ref ou) :: (.ref so) :: (.ref ad) :: (.ref na) :: (.ref va) :: (.ref lc) :: (.ref dm) :: (.int (nI fm)) :: (.int (nI sn)) :: (.ref tg) :: (.int v14) :: (.int v15) :: (.ref pe) :: (.int 8) :: (.int (nI (sgS (TC fv z) a))) :: (.int (nI ((wdS (TC fv z) a) + 8))) :: (.int (nI tt)) :: (.int 32) :: (.int v22) :: (.ref ml) :: (.ref bg) :: (.ref co) :: (.ref sp) :: (.ref nb0) :: (.ref nb1) :: (.ref nb2) :: (.int (nI nf)) :: (.int (nI bd)) :: (.int (nI mm)) :: (.int v33) :: (.ref pl) :: (.ref se) :: (.ref ke) :: (.ref wi) :: (.ref hs) :: (.ref mo) :: (.ref po) :: (.ref nu) :: (.ref pr) :: (.ref sq) :: (.ref xa) :: (.ref sa) :: (.ref n64) :: (.ref m64) :: (.ref ex) :: (.ref wh) :: (.ref sd) :: (.ref tk) :: (.int v52) :: (.int v53) :: (.int v54) :: (.ref hd) :: (.ref ak) :: (.ref ho) :: (.ref ot) :: []) := by rw [he_374]; exact up_self
            have hF_376 : F_373 g1 = .inl (cs 17, 700, .inl fv) := by rw [he_374, up_ne (ne_ty hT_g1 hT_h0 (by simp))]; exact hF_372
            refine lv_aload_n hx hb dX15_readTerm_136 rfl (lv_at hl 3 rfl) ?_
            refine lv_aload_n hx hb dX15_readTerm_137 rfl (lv_at hl 2 rfl) ?_
            refine pg_get (ci := 15) (v := .int (nI ((wdS (TC fv z) a) + 8))) (C := RX15) (T := TX15) (N := 59) hx hb hts it_15 hown hK hP hL_h0 hF_375 rfl 19 (by decide) (hts _ kt_751) (fun _ h9 => h9) rfl dX15_readTerm_138 ?_
            refine lv_aload_n hx hb dX15_readTerm_141 rfl (lv_at hl 2 rfl) ?_
            refine pg_get (ci := 15) (v := .int (nI tt)) (C := RX15) (T := TX15) (N := 59) hx hb hts it_15 hown hK hP hL_h0 hF_375 rfl 20 (by decide) (hts _ kt_752) (fun _ h9 => h9) rfl dX15_readTerm_142 ?_
            refine lv_iconst (v := 1) hx hb dX15_readTerm_145 (by decide) ?_
            have hFc := pg_free hD hS hA
            refine va_calli (va_runS (As := [.ref g1, .int (nI ((wdS (TC fv z) a) + 8)), .int (nI tt), .int 1]) (rest := []) ⟨hx, hb, hml, hown, hts⟩ (s_X15_isD_x l dC dI cs ty gm L H.size F_373 g1 μ 700 z ((wdS (TC fv z) a) + 8) tt fv 1 hW hL_g1 hT_g1 hF_376 (htz) (by omega) (by first | omega | assumption | exact Or.inl rfl) (by omega) (Or.inl (by decide))) ⟨callB_of 4 hts (gi kt_753) rfl rfl rfl (hts _ kt_669) (hts _ kt_754) (by decide +kernel) ⟨Nat.le_of_ble_eq_true rfl, Nat.le_of_ble_eq_true rfl⟩, (hts _ kt_755)⟩ ⟨fun a U g mk q => ⟨q.1, PTm.calling q.2⟩, fun U hU hWm => ⟨rfl, PTm.mk hU hWm hP hK hD hE hO⟩⟩ rfl rfl hl.1 rfl (lv_room (Nat.le_of_ble_eq_true rfl)) dX15_readTerm_146 ⟨by show _ + 0 ≤ 0; omega, by show _ + 0 ≤ 0; omega⟩) hS (fun q _ h => hFc q h) hFc (fun r_377 u t H1 locs ht hvm hw hB hz1 hk1 hS => ?_)
            obtain ⟨F_378, hB1⟩ := hB
            obtain rfl : F_373 = F_378 := (funext (fun a => hB1.2.2.2 a List.not_mem_nil)).symm
            obtain ⟨hP, hD, hO, hR⟩ := QTm.back hB1 ht hFc hR (fun q h => absurd h List.not_mem_nil)
            generalize H1 = H at hP hS ⊢
            have hw_379 : ORP r_377 (HSW (TC fv z) ((wdS (TC fv z) a) + 8) tt) := hw
            clear hw
            refine lv_if_eq (tgt := 392) hx hb dX15_readTerm_149 (by decide) (fun c_380 => ?_) (fun c_380 => ?_)
            ·
              refine W.widen (k := 0) (n := 0) (by omega) (by omega) ?_
              exact jn_61 (8, (nI ((wdS (TC fv z) a) + 8)), (nI tt), 32, v22) F_373 (⟨hF_375, rtx_no (by unfold meW; rw [if_neg (show ¬ ISW (TC fv z) (wdS (TC fv z) a) tt 3 [97, 108, 108] from (orp0 hw_163 c_164)), if_pos (show BGW (TC fv z) (wdS (TC fv z) a) tt 8 [105, 110, 99, 108, 117, 100, 101, 58] from (orp1 hw_169 c_170)), if_neg (show ¬ HSW (TC fv z) ((wdS (TC fv z) a) + 8) tt from (orp0 hw_379 c_380))]) rfl⟩) hO hR _ _ hP hD hS ls (lv_sub hl [0, 1, 2, 3, 4, 5] rfl)
            ·
              refine lv_aload_n hx hb dX15_readTerm_152 rfl (lv_at hl 2 rfl) ?_
              refine lv_iconst (v := 1) hx hb dX15_readTerm_153 (by decide) ?_
              refine pg_put (ci := 15) (v := .int 1) (ty := .int) (C := RX15) (T := TX15) (N := 59) hx hb hts it_15 tyX15 tyX15_ok nmX15 hown hK hP hD hS hL_h0 hF_375 rfl 17 (by decide) (hts _ kt_750) (fun _ h9 => h9) rfl (by decide +kernel) (rfl) (rfl) (Nat.le_of_ble_eq_true rfl) dX15_readTerm_154 (fun H locs hP hD hS => ?_)
              obtain ⟨F_381, he_382, hP, hD, hO, hR⟩ : ∃ G, G = va_up F_373 h0 (.inr (15, (.ref ta) :: (.int (nI zt)) :: (.int (nI zo)) :: (.int (nI ze)) :: (.ref ou) :: (.ref so) :: (.ref ad) :: (.ref na) :: (.ref va) :: (.ref lc) :: (.ref dm) :: (.int (nI fm)) :: (.int (nI sn)) :: (.ref tg) :: (.int v14) :: (.int v15) :: (.ref pe) :: (.int 1) :: (.int (nI (sgS (TC fv z) a))) :: (.int (nI ((wdS (TC fv z) a) + 8))) :: (.int (nI tt)) :: (.int 32) :: (.int v22) :: (.ref ml) :: (.ref bg) :: (.ref co) :: (.ref sp) :: (.ref nb0) :: (.ref nb1) :: (.ref nb2) :: (.int (nI nf)) :: (.int (nI bd)) :: (.int (nI mm)) :: (.int v33) :: (.ref pl) :: (.ref se) :: (.ref ke) :: (.ref wi) :: (.ref hs) :: (.ref mo) :: (.ref po) :: (.ref nu) :: (.ref pr) :: (.ref sq) :: (.ref xa) :: (.ref sa) :: (.ref n64) :: (.ref m64) :: (.ref ex) :: (.ref wh) :: (.ref sd) :: (.ref tk) :: (.int v52) :: (.int v53) :: (.int v54) :: (.ref hd) :: (.ref ak) :: (.ref ho) :: (.ref ot) :: [])) ∧ va_P (dC, dI) vwCl (va_pl L G) H ∧ va_D A (va_pl L G) ∧ OKm cs ty gm L G ∧ FR ty [ρ] F G := ⟨_, rfl, hP, hD, hO.up (shm.mod hT_h0 ⟨v14, v15, 1, (nI (sgS (TC fv z) a)), (nI ((wdS (TC fv z) a) + 8)), (nI tt), 32, v22, v33, v52, v53, v54, rfl, (by first | omega | assumption | exact Or.inl rfl | exact Or.inr rfl), (by first | omega | assumption | exact Or.inl rfl | exact Or.inr rfl), (by first | omega | assumption | exact Or.inl rfl | exact Or.inr rfl), (by first | omega | assumption | exact Or.inl rfl | exact Or.inr rfl), (by first | omega | assumption | exact Or.inl rfl | exact Or.inr rfl)⟩), hR.up hT_h0 (by simp)⟩
              have hF_383 : F_381 h0 = .inr (15, (.ref ta) :: (.int (nI zt)) :: (.int (nI zo)) :: (.int (nI ze)) :: (.ref ou) :: (.ref so) :: (.ref ad) :: (.ref na) :: (.ref va) :: (.ref lc) :: (.ref dm) :: (.int (nI fm)) :: (.int (nI sn)) :: (.ref tg) :: (.int v14) :: (.int v15) :: (.ref pe) :: (.int 1) :: (.int (nI (sgS (TC fv z) a))) :: (.int (nI ((wdS (TC fv z) a) + 8))) :: (.int (nI tt)) :: (.int 32) :: (.int v22) :: (.ref ml) :: (.ref bg) :: (.ref co) :: (.ref sp) :: (.ref nb0) :: (.ref nb1) :: (.ref nb2) :: (.int (nI nf)) :: (.int (nI bd)) :: (.int (nI mm)) :: (.int v33) :: (.ref pl) :: (.ref se) :: (.ref ke) :: (.ref wi) :: (.ref hs) :: (.ref mo) :: (.ref po) :: (.ref nu) :: (.ref pr) :: (.ref sq) :: (.ref xa) :: (.ref sa) :: (.ref n64) :: (.ref m64) :: (.ref ex) :: (.ref wh) :: (.ref sd) :: (.ref tk) :: (.int v52) :: (.int v53) :: (.int v54) :: (.ref hd) :: (.ref ak) :: (.ref ho) :: (.ref ot) :: []) := by rw [he_382]; exact up_self
              have hF_384 : F_381 g1 = .inl (cs 17, 700, .inl fv) := by rw [he_382, up_ne (ne_ty hT_g1 hT_h0 (by simp))]; exact hF_376
              refine lv_goto (tgt := 392) hx hb dX15_readTerm_157 (by decide) ?_
              refine W.widen (k := 0) (n := 0) (by omega) (by omega) ?_
              exact jn_61 (1, (nI ((wdS (TC fv z) a) + 8)), (nI tt), 32, v22) F_381 (⟨hF_383, rtx_d (k := 2) (by omega) (by unfold meW; rw [if_neg (show ¬ ISW (TC fv z) (wdS (TC fv z) a) tt 3 [97, 108, 108] from (orp0 hw_163 c_164)), if_pos (show BGW (TC fv z) (wdS (TC fv z) a) tt 8 [105, 110, 99, 108, 117, 100, 101, 58] from (orp1 hw_169 c_170)), if_pos (show HSW (TC fv z) ((wdS (TC fv z) a) + 8) tt from (orp1 hw_379 c_380))]) rfl⟩) hO hR _ _ hP hD hS ls (lv_sub hl [0, 1, 2, 3, 4, 5] rfl)
        ·
          refine lv_aload_n hx hb dX15_readTerm_102 rfl (lv_at hl 2 rfl) ?_
          refine lv_iconst (v := 0) hx hb dX15_readTerm_103 (by decide) ?_
          refine pg_put (ci := 15) (v := .int 0) (ty := .int) (C := RX15) (T := TX15) (N := 59) hx hb hts it_15 tyX15 tyX15_ok nmX15 hown hK hP hD hS hL_h0 hk4a rfl 17 (by decide) (hts _ kt_750) (fun _ h9 => h9) rfl (by decide +kernel) (rfl) (rfl) (Nat.le_of_ble_eq_true rfl) dX15_readTerm_104 (fun H locs hP hD hS => ?_)
          obtain ⟨F_385, he_386, hP, hD, hO, hR⟩ : ∃ G, G = va_up F_57 h0 (.inr (15, (.ref ta) :: (.int (nI zt)) :: (.int (nI zo)) :: (.int (nI ze)) :: (.ref ou) :: (.ref so) :: (.ref ad) :: (.ref na) :: (.ref va) :: (.ref lc) :: (.ref dm) :: (.int (nI fm)) :: (.int (nI sn)) :: (.ref tg) :: (.int v14) :: (.int v15) :: (.ref pe) :: (.int 0) :: (.int (nI (sgS (TC fv z) a))) :: (.int (-1)) :: (.int (-1)) :: (.int 32) :: (.int v22) :: (.ref ml) :: (.ref bg) :: (.ref co) :: (.ref sp) :: (.ref nb0) :: (.ref nb1) :: (.ref nb2) :: (.int (nI nf)) :: (.int (nI bd)) :: (.int (nI mm)) :: (.int v33) :: (.ref pl) :: (.ref se) :: (.ref ke) :: (.ref wi) :: (.ref hs) :: (.ref mo) :: (.ref po) :: (.ref nu) :: (.ref pr) :: (.ref sq) :: (.ref xa) :: (.ref sa) :: (.ref n64) :: (.ref m64) :: (.ref ex) :: (.ref wh) :: (.ref sd) :: (.ref tk) :: (.int v52) :: (.int v53) :: (.int v54) :: (.ref hd) :: (.ref ak) :: (.ref ho) :: (.ref ot) :: [])) ∧ va_P (dC, dI) vwCl (va_pl L G) H ∧ va_D A (va_pl L G) ∧ OKm cs ty gm L G ∧ FR ty [ρ] F G := ⟨_, rfl, hP, hD, hO.up (shm.mod hT_h0 ⟨v14, v15, 0, (nI (sgS (TC fv z) a)), (-1), (-1), 32, v22, v33, v52, v53, v54, rfl, (by first | omega | assumption | exact Or.inl rfl | exact Or.inr rfl), (by first | omega | assumption | exact Or.inl rfl | exact Or.inr rfl), (by first | omega | assumption | exact Or.inl rfl | exact Or.inr rfl), (by first | omega | assumption | exact Or.inl rfl | exact Or.inr rfl), (by first | omega | assumption | exact Or.inl rfl | exact Or.inr rfl)⟩), hR.up hT_h0 (by simp)⟩
          have hF_387 : F_385 h0 = .inr (15, (.ref ta) :: (.int (nI zt)) :: (.int (nI zo)) :: (.int (nI ze)) :: (.ref ou) :: (.ref so) :: (.ref ad) :: (.ref na) :: (.ref va) :: (.ref lc) :: (.ref dm) :: (.int (nI fm)) :: (.int (nI sn)) :: (.ref tg) :: (.int v14) :: (.int v15) :: (.ref pe) :: (.int 0) :: (.int (nI (sgS (TC fv z) a))) :: (.int (-1)) :: (.int (-1)) :: (.int 32) :: (.int v22) :: (.ref ml) :: (.ref bg) :: (.ref co) :: (.ref sp) :: (.ref nb0) :: (.ref nb1) :: (.ref nb2) :: (.int (nI nf)) :: (.int (nI bd)) :: (.int (nI mm)) :: (.int v33) :: (.ref pl) :: (.ref se) :: (.ref ke) :: (.ref wi) :: (.ref hs) :: (.ref mo) :: (.ref po) :: (.ref nu) :: (.ref pr) :: (.ref sq) :: (.ref xa) :: (.ref sa) :: (.ref n64) :: (.ref m64) :: (.ref ex) :: (.ref wh) :: (.ref sd) :: (.ref tk) :: (.int v52) :: (.int v53) :: (.int v54) :: (.ref hd) :: (.ref ak) :: (.ref ho) :: (.ref ot) :: []) := by rw [he_386]; exact up_self
          have hF_388 : F_385 g1 = .inl (cs 17, 700, .inl fv) := by rw [he_386, up_ne (ne_ty hT_g1 hT_h0 (by simp))]; exact hF_60
          refine lv_goto (tgt := 392) hx hb dX15_readTerm_107 (by decide) ?_
          refine W.widen (k := 0) (n := 0) (by omega) (by omega) ?_
          exact jn_61 (0, (-1), (-1), 32, v22) F_385 (⟨hF_387, rtx_all (by unfold meW; rw [if_pos (show ISW (TC fv z) (wdS (TC fv z) a) tt 3 [97, 108, 108] from (orp1 hw_163 c_164))])⟩) hO hR _ _ hP hD hS ls (lv_sub hl [0, 1, 2, 3, 4, 5] rfl)
    ·
      refine lv_iload hx hb dX15_readTerm_74 (lv_at hl 0 rfl) ?_
      refine lv_if_eq (tgt := 90) hx hb dX15_readTerm_76 (by decide) (fun c_389 => ?_) (fun c_389 => ?_)
      ·
        refine W.widen (k := 0) (n := 0) (by omega) (by omega) ?_
        exact jn_56 ((nI a), 43) F_52 (⟨(congrArg nI (if_neg (orp0 hs5 c_389))).symm, (congrArg nI (if_neg (orp0 hs5 c_389))).symm, hs5h⟩) hO hR _ _ hP hD hS ls (lv_sub hl [0, 1, 2, 3, 4, 5] rfl)
      ·
        refine lv_aload_n hx hb dX15_readTerm_79 rfl (lv_at hl 2 rfl) ?_
        refine lv_aload_n hx hb dX15_readTerm_80 rfl (lv_at hl 3 rfl) ?_
        refine lv_iload hx hb dX15_readTerm_81 (lv_at hl 1 rfl) ?_
        refine pg_bald hx hb hK hP hL_g1 1 hF_55 rfl (vp_in_nI (by omega) (by omega)) dX15_readTerm_83 ?_
        refine lv_topi (fun x_390 ex_390 => ?_)
        obtain rfl : x_390 = fv a := ex_390.trans (congrArg fv (show ((nI a) : Int32).toNatClampNeg = a from nI_clamp (by omega)))
        refine pg_put (ci := 15) (v := .int (fv a)) (ty := .int) (C := RX15) (T := TX15) (N := 59) hx hb hts it_15 tyX15 tyX15_ok nmX15 hown hK hP hD hS hL_h0 hs5h rfl 18 (by decide) (hts _ kt_759) (fun _ h9 => h9) rfl (by decide +kernel) (rfl) (rfl) (Nat.le_of_ble_eq_true rfl) dX15_readTerm_84 (fun H locs hP hD hS => ?_)
        obtain ⟨F_391, he_392, hP, hD, hO, hR⟩ : ∃ G, G = va_up F_52 h0 (.inr (15, (.ref ta) :: (.int (nI zt)) :: (.int (nI zo)) :: (.int (nI ze)) :: (.ref ou) :: (.ref so) :: (.ref ad) :: (.ref na) :: (.ref va) :: (.ref lc) :: (.ref dm) :: (.int (nI fm)) :: (.int (nI sn)) :: (.ref tg) :: (.int v14) :: (.int v15) :: (.ref pe) :: (.int 8) :: (.int (fv a)) :: (.int (-1)) :: (.int (-1)) :: (.int 32) :: (.int v22) :: (.ref ml) :: (.ref bg) :: (.ref co) :: (.ref sp) :: (.ref nb0) :: (.ref nb1) :: (.ref nb2) :: (.int (nI nf)) :: (.int (nI bd)) :: (.int (nI mm)) :: (.int v33) :: (.ref pl) :: (.ref se) :: (.ref ke) :: (.ref wi) :: (.ref hs) :: (.ref mo) :: (.ref po) :: (.ref nu) :: (.ref pr) :: (.ref sq) :: (.ref xa) :: (.ref sa) :: (.ref n64) :: (.ref m64) :: (.ref ex) :: (.ref wh) :: (.ref sd) :: (.ref tk) :: (.int v52) :: (.int v53) :: (.int v54) :: (.ref hd) :: (.ref ak) :: (.ref ho) :: (.ref ot) :: [])) ∧ va_P (dC, dI) vwCl (va_pl L G) H ∧ va_D A (va_pl L G) ∧ OKm cs ty gm L G ∧ FR ty [ρ] F G := ⟨_, rfl, hP, hD, hO.up (shm.mod hT_h0 ⟨v14, v15, 8, (fv a), (-1), (-1), 32, v22, v33, v52, v53, v54, rfl, (by first | omega | assumption | exact Or.inl rfl | exact Or.inr rfl), (by first | omega | assumption | exact Or.inl rfl | exact Or.inr rfl), (by first | omega | assumption | exact Or.inl rfl | exact Or.inr rfl), (by first | omega | assumption | exact Or.inl rfl | exact Or.inr rfl), (by first | omega | assumption | exact Or.inl rfl | exact Or.inr rfl)⟩), hR.up hT_h0 (by simp)⟩
        have hF_393 : F_391 h0 = .inr (15, (.ref ta) :: (.int (nI zt)) :: (.int (nI zo)) :: (.int (nI ze)) :: (.ref ou) :: (.ref so) :: (.ref ad) :: (.ref na) :: (.ref va) :: (.ref lc) :: (.ref dm) :: (.int (nI fm)) :: (.int (nI sn)) :: (.ref tg) :: (.int v14) :: (.int v15) :: (.ref pe) :: (.int 8) :: (.int (fv a)) :: (.int (-1)) :: (.int (-1)) :: (.int 32) :: (.int v22) :: (.ref ml) :: (.ref bg) :: (.ref co) :: (.ref sp) :: (.ref nb0) :: (.ref nb1) :: (.ref nb2) :: (.int (nI nf)) :: (.int (nI bd)) :: (.int (nI mm)) :: (.int v33) :: (.ref pl) :: (.ref se) :: (.ref ke) :: (.ref wi) :: (.ref hs) :: (.ref mo) :: (.ref po) :: (.ref nu) :: (.ref pr) :: (.ref sq) :: (.ref xa) :: (.ref sa) :: (.ref n64) :: (.ref m64) :: (.ref ex) :: (.ref wh) :: (.ref sd) :: (.ref tk) :: (.int v52) :: (.int v53) :: (.int v54) :: (.ref hd) :: (.ref ak) :: (.ref ho) :: (.ref ot) :: []) := by rw [he_392]; exact up_self
        have hF_394 : F_391 g1 = .inl (cs 17, 700, .inl fv) := by rw [he_392, up_ne (ne_ty hT_g1 hT_h0 (by simp))]; exact hF_55
        refine lv_iinc (v := (nI (a + 1))) (lv' := [(4, .int (nI (a + 1))), (5, .int s5), (0, .ref h0), (1, .ref g1), (2, .int (nI a)), (3, .int (nI tt))]) hx hb dX15_readTerm_87 hl (k := 1) rfl (nI_1 _) (by decide) rfl (fun ls hl => ?_)
        refine W.widen (k := 0) (n := 0) (by omega) (by omega) ?_
        exact jn_56 ((nI (a + 1)), (fv a)) F_391 (⟨(congrArg nI (if_pos (orp1 hs5 c_389))).symm, (tc_in (by omega) (by have h9 := (orp1 hs5 c_389); rcases h9 with h9 | h9 | h9 | h9 <;> omega)).trans (congrArg nI (if_pos (orp1 hs5 c_389))).symm, hF_393⟩) hO hR _ _ hP hD hS ls (lv_sub hl [1, 0, 2, 3, 4, 5] rfl)
  ·
    refine lv_aload_n hx hb dX15_readTerm_31 rfl (lv_at hl 2 rfl) ?_
    refine lv_iload hx hb dX15_readTerm_32 (lv_at hl 0 rfl) ?_
    refine pg_bald hx hb hK hP hL_g1 1 hF_50 rfl (vp_in_nI (by omega) (by omega)) dX15_readTerm_34 ?_
    refine lv_topi (fun x_395 ex_395 => ?_)
    obtain rfl : x_395 = fv a := ex_395.trans (congrArg fv (show ((nI a) : Int32).toNatClampNeg = a from nI_clamp (by omega)))
    refine lv_bipush (v := 43) hx hb dX15_readTerm_35 (by decide) ?_
    refine lv_icmp_eq (tgt := 67) hx hb dX15_readTerm_37 (by decide) (fun c_396 => ?_) (fun c_396 => ?_)
    ·
      refine lv_iconst (v := 1) hx hb dX15_readTerm_67 (by decide) ?_
      refine lv_goto (tgt := 72) hx hb dX15_readTerm_68 (by decide) ?_
      refine W.widen (k := 0) (n := 0) (by omega) (by omega) ?_
      exact jn_51 1 F_47 (⟨Or.inl ⟨rfl, Or.inl ((tc_eq (z := z) (by omega) (by first | decide | omega)).mpr c_396)⟩, hF_49⟩) hO hR _ _ hP hD hS ls (lv_sub hl [0, 1, 2, 3, 4] rfl)
    ·
      refine lv_aload_n hx hb dX15_readTerm_40 rfl (lv_at hl 2 rfl) ?_
      refine lv_iload hx hb dX15_readTerm_41 (lv_at hl 0 rfl) ?_
      refine pg_bald hx hb hK hP hL_g1 1 hF_50 rfl (vp_in_nI (by omega) (by omega)) dX15_readTerm_43 ?_
      refine lv_topi (fun x_397 ex_397 => ?_)
      obtain rfl : x_397 = fv a := ex_397.trans (congrArg fv (show ((nI a) : Int32).toNatClampNeg = a from nI_clamp (by omega)))
      refine lv_bipush (v := 63) hx hb dX15_readTerm_44 (by decide) ?_
      refine lv_icmp_eq (tgt := 67) hx hb dX15_readTerm_46 (by decide) (fun c_398 => ?_) (fun c_398 => ?_)
      ·
        refine lv_iconst (v := 1) hx hb dX15_readTerm_67 (by decide) ?_
        refine lv_goto (tgt := 72) hx hb dX15_readTerm_68 (by decide) ?_
        refine W.widen (k := 0) (n := 0) (by omega) (by omega) ?_
        exact jn_51 1 F_47 (⟨Or.inl ⟨rfl, Or.inr (Or.inl ((tc_eq (z := z) (by omega) (by first | decide | omega)).mpr c_398))⟩, hF_49⟩) hO hR _ _ hP hD hS ls (lv_sub hl [0, 1, 2, 3, 4] rfl)
      ·
        refine lv_aload_n hx hb dX15_readTerm_49 rfl (lv_at hl 2 rfl) ?_
        refine lv_iload hx hb dX15_readTerm_50 (lv_at hl 0 rfl) ?_
        refine pg_bald hx hb hK hP hL_g1 1 hF_50 rfl (vp_in_nI (by omega) (by omega)) dX15_readTerm_52 ?_
        refine lv_topi (fun x_399 ex_399 => ?_)
        obtain rfl : x_399 = fv a := ex_399.trans (congrArg fv (show ((nI a) : Int32).toNatClampNeg = a from nI_clamp (by omega)))
        refine lv_bipush (v := 126) hx hb dX15_readTerm_53 (by decide) ?_
        refine lv_icmp_eq (tgt := 67) hx hb dX15_readTerm_55 (by decide) (fun c_400 => ?_) (fun c_400 => ?_)
        ·
          refine lv_iconst (v := 1) hx hb dX15_readTerm_67 (by decide) ?_
          refine lv_goto (tgt := 72) hx hb dX15_readTerm_68 (by decide) ?_
          refine W.widen (k := 0) (n := 0) (by omega) (by omega) ?_
          exact jn_51 1 F_47 (⟨Or.inl ⟨rfl, Or.inr (Or.inr (Or.inl ((tc_eq (z := z) (by omega) (by first | decide | omega)).mpr c_400)))⟩, hF_49⟩) hO hR _ _ hP hD hS ls (lv_sub hl [0, 1, 2, 3, 4] rfl)
        ·
          refine lv_aload_n hx hb dX15_readTerm_58 rfl (lv_at hl 2 rfl) ?_
          refine lv_iload hx hb dX15_readTerm_59 (lv_at hl 0 rfl) ?_
          refine pg_bald hx hb hK hP hL_g1 1 hF_50 rfl (vp_in_nI (by omega) (by omega)) dX15_readTerm_61 ?_
          refine lv_topi (fun x_401 ex_401 => ?_)
          obtain rfl : x_401 = fv a := ex_401.trans (congrArg fv (show ((nI a) : Int32).toNatClampNeg = a from nI_clamp (by omega)))
          refine lv_bipush (v := 45) hx hb dX15_readTerm_62 (by decide) ?_
          refine lv_icmp_ne (tgt := 71) hx hb dX15_readTerm_64 (by decide) (fun c_402 => ?_) (fun c_402 => ?_)
          ·
            refine lv_iconst (v := 0) hx hb dX15_readTerm_71 (by decide) ?_
            refine W.widen (k := 0) (n := 0) (by omega) (by omega) ?_
            exact jn_51 0 F_47 (⟨Or.inr ⟨rfl, fun q => by rcases q with q | q | q | q; exact (fun q => c_396 ((tc_eq (z := z) (by omega) (by first | decide | omega)).mp q)) q; exact (fun q => c_398 ((tc_eq (z := z) (by omega) (by first | decide | omega)).mp q)) q; exact (fun q => c_400 ((tc_eq (z := z) (by omega) (by first | decide | omega)).mp q)) q; exact (fun q => c_402 ((tc_eq (z := z) (by omega) (by first | decide | omega)).mp q)) q⟩, hF_49⟩) hO hR _ _ hP hD hS ls (lv_sub hl [0, 1, 2, 3, 4] rfl)
          ·
            refine lv_iconst (v := 1) hx hb dX15_readTerm_67 (by decide) ?_
            refine lv_goto (tgt := 72) hx hb dX15_readTerm_68 (by decide) ?_
            refine W.widen (k := 0) (n := 0) (by omega) (by omega) ?_
            exact jn_51 1 F_47 (⟨Or.inl ⟨rfl, Or.inr (Or.inr (Or.inr ((tc_eq (z := z) (by omega) (by first | decide | omega)).mpr c_402)))⟩, hF_49⟩) hO hR _ _ hP hD hS ls (lv_sub hl [0, 1, 2, 3, 4] rfl)
