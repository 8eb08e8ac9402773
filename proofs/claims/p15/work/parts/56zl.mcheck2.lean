def bkw (T : Nat → Nat) : Nat → Nat → Nat
  | 0, i => i
  | k + 1, i => if T i = 32 then bkw T k (i + 1) else i
def bkT (T : Nat → Nat) (a z : Nat) : Nat := bkw T (z - a) a
theorem bkw_of {T : Nat → Nat} {k : Nat} : ∀ n i, i ≤ k → k ≤ i + n → (∀ j, i ≤ j → j < k → T j = 32) → (k = i + n ∨ ¬ T k = 32) → bkw T n i = k := by
  intro n
  induction n with
  | zero => intro i h1 h2 _ _; show i = k; omega
  | succ n ih =>
    intro i h1 h2 h3 h4
    show (if T i = 32 then bkw T n (i + 1) else i) = k
    by_cases e : i = k
    · subst e
      rw [if_neg (h4.resolve_left (by omega))]
    · rw [if_pos (h3 i (Nat.le_refl _) (by omega))]
      exact ih (i + 1) (by omega) (by omega) (fun j g1 g2 => h3 j (by omega) g2) (h4.imp (fun q => by omega) id)
theorem bkw_p {T : Nat → Nat} : ∀ n i, i ≤ bkw T n i ∧ bkw T n i ≤ i + n ∧ (∀ j, i ≤ j → j < bkw T n i → T j = 32) ∧ (bkw T n i = i + n ∨ ¬ T (bkw T n i) = 32) := by
  intro n
  induction n with
  | zero => intro i; exact ⟨Nat.le_refl _, Nat.le_refl _, fun j h1 h2 => absurd h2 (by show ¬ j < i; omega), Or.inl rfl⟩
  | succ n ih =>
    intro i
    by_cases d : T i = 32
    · have e : bkw T (n + 1) i = bkw T n (i + 1) := if_pos d
      obtain ⟨h1, h2, h3, h4⟩ := ih (i + 1)
      rw [e]
      refine ⟨by omega, by omega, fun j g1 g2 => ?_, h4.imp (fun q => by omega) id⟩
      by_cases c : j = i
      · rw [c]
        exact d
      · exact h3 j (by omega) g2
    · have e : bkw T (n + 1) i = i := if_neg d
      rw [e]
      exact ⟨Nat.le_refl _, by omega, fun j g1 g2 => absurd g2 (by omega), Or.inr d⟩
theorem bkT_p {T : Nat → Nat} {a z : Nat} (h : a ≤ z) : a ≤ bkT T a z ∧ bkT T a z ≤ z ∧ (∀ j, a ≤ j → j < bkT T a z → T j = 32) ∧ (bkT T a z = z ∨ ¬ T (bkT T a z) = 32) := by
  obtain ⟨h1, h2, h3, h4⟩ := bkw_p (T := T) (z - a) a
  refine ⟨h1, ?_, h3, ?_⟩
  · show bkw T (z - a) a ≤ z
    omega
  · rcases h4 with q | q
    · exact Or.inl (by show bkw T (z - a) a = z; omega)
    · exact Or.inr q
/-- where a TERM begins: behind a blank, or at the end -/
def TAT (T : Nat → Nat) (z j : Nat) : Prop := j ≤ z ∧ (j < z → 7 ≤ j ∧ STT T j)
theorem tat_0 {T : Nat → Nat} {z : Nat} (h6 : 6 ≤ z) (h : z ≤ 6 ∨ T 6 = 32) : TAT T z (bkT T 6 z) ∧ ∀ j, 7 ≤ j → j < bkT T 6 z → ¬ STT T j := by
  obtain ⟨h1, h2, h3, h4⟩ := bkT_p (T := T) h6
  refine ⟨⟨h2, fun q => ?_⟩, fun j g1 g2 c => c.2 (h3 j (by omega) g2)⟩
  have h5 : T 6 = 32 := h.resolve_left (by omega)
  have h7 : bkT T 6 z ≠ 6 := fun e => by
    have h9 := h4.resolve_left (by omega)
    rw [e] at h9
    exact h9 h5
  exact ⟨by omega, h3 _ (by omega) (by omega), h4.resolve_left (by omega)⟩
theorem tat_s {T : Nat → Nat} {z j : Nat} (h : TAT T z j) (hj : j < z) : TAT T z (bkT T (fdT T 32 j z) z) ∧ (∀ i, j + 1 ≤ i → i < bkT T (fdT T 32 j z) z → ¬ STT T i) ∧ j < bkT T (fdT T 32 j z) z := by
  have hs := (h.2 hj).2
  have f1 := fdT_gt (T := T) (c := 32) hs.2 hj
  have f2 := (fdT_le (T := T) (c := 32) (z - j) j).2
  have f3 : fdT T 32 j z ≤ z := by
    have h9 : fdT T 32 j z ≤ j + (z - j) := f2
    omega
  obtain ⟨h1, h2, h3, h4⟩ := bkT_p (T := T) f3
  refine ⟨⟨h2, fun q => ?_⟩, fun i g1 g2 c => ?_, by omega⟩
  · have h5 : ¬ T (bkT T (fdT T 32 j z) z) = 32 := h4.resolve_left (by omega)
    have h6 : bkT T (fdT T 32 j z) z ≠ fdT T 32 j z := fun e => by
      rw [e] at h5 q
      have h9 : T (fdT T 32 j z) = 32 := fdw_hit (z - j) j (by have h8 : fdw T 32 (z - j) j = fdT T 32 j z := rfl; omega)
      exact h5 h9
    exact ⟨by have h9 := (h.2 hj).1; omega, h3 _ (by omega) (by omega), h5⟩
  · rcases Nat.lt_or_ge i (fdT T 32 j z) with q | q
    · exact fdw_ne (z - j) j (i - 1) (by omega) (by have h8 : fdw T 32 (z - j) j = fdT T 32 j z := rfl; omega) c.1
    · exact c.2 (h3 i q g2)
theorem rtw_k {T : Nat → Nat} {z rd : Nat} {X : Option Nat} : ∀ n i, (∀ j, i ≤ j → j < i + n → ¬ STT T j) → i + n ≤ z → rtw T z (z - i) i rd = X → rtw T z (z - (i + n)) (i + n) rd = X := by
  intro n
  induction n with
  | zero => intro i _ _ h; exact h
  | succ n ih =>
    intro i h1 h2 h
    have h9 := ih (i + 1) (fun j g1 g2 => h1 j (by omega) (by omega)) (by omega) (rtw_n h (by omega) (h1 i (Nat.le_refl _) (by omega)))
    rw [show i + 1 + n = i + (n + 1) by omega] at h9
    exact h9
theorem rtw_to {T : Nat → Nat} {z rd i k : Nat} {X : Option Nat} (h : rtw T z (z - i) i rd = X) (hk : i ≤ k) (hz : k ≤ z) (h1 : ∀ j, i ≤ j → j < k → ¬ STT T j) : rtw T z (z - k) k rd = X := by
  have h9 := rtw_k (k - i) i (fun j g1 g2 => h1 j g1 (by omega)) (by omega) h
  rw [show i + (k - i) = k by omega] at h9
  exact h9
theorem tlw_k {D : Nat → ETY} {ze : Nat} {S : SDR} {ad : Int32} {R : CKR} {T : Nat → Nat} {z : Nat} {U : List Nat} {c v : Nat} {X : TLA} : ∀ n i, (∀ j, i ≤ j → j < i + n → ¬ STT T j) → i + n ≤ z → tlw D ze S ad R T z U (z - i) i c v = X → tlw D ze S ad R T z U (z - (i + n)) (i + n) c v = X := by
  intro n
  induction n with
  | zero => intro i _ _ h; exact h
  | succ n ih =>
    intro i h1 h2 h
    have h9 := ih (i + 1) (fun j g1 g2 => h1 j (by omega) (by omega)) (by omega) (tlw_n h (by omega) (h1 i (Nat.le_refl _) (by omega)))
    rw [show i + 1 + n = i + (n + 1) by omega] at h9
    exact h9
theorem tlw_to {D : Nat → ETY} {ze : Nat} {S : SDR} {ad : Int32} {R : CKR} {T : Nat → Nat} {z : Nat} {U : List Nat} {c v i k : Nat} {X : TLA} (h : tlw D ze S ad R T z U (z - i) i c v = X) (hk : i ≤ k) (hz : k ≤ z) (h1 : ∀ j, i ≤ j → j < k → ¬ STT T j) : tlw D ze S ad R T z U (z - k) k c v = X := by
  have h9 := tlw_k (k - i) i (fun j g1 g2 => h1 j g1 (by omega)) (by omega) h
  rw [show i + (k - i) = k by omega] at h9
  exact h9
/-- how far the first reading is: rd the redirect, or 0 -/
def RTS (T : Nat → Nat) (z j rd : Nat) : Prop := (6 < z → rtw T z (z - j) j rd = rtT T z) ∧ (z ≤ 6 → rd = 0 ∧ rtT T z = some 0)
theorem rts_0 {T : Nat → Nat} {z : Nat} (h6 : 6 ≤ z) (h : z ≤ 6 ∨ T 6 = 32) : RTS T z (bkT T 6 z) 0 := by
  obtain ⟨a1, a2⟩ := tat_0 h6 h
  refine ⟨fun q => ?_, fun q => ⟨rfl, ?_⟩⟩
  · have h1 : 7 ≤ bkT T 6 z := by
      rcases Nat.lt_or_ge (bkT T 6 z) z with c | c
      · exact (a1.2 c).1
      · omega
    exact rtw_to (i := 7) rfl h1 a1.1 a2
  · unfold rtT
    rw [show z - 7 = 0 by omega]
    rfl
def tnv (rd : Nat) : Int32 := if rd = 0 then (-1) else nI rd
set_option maxHeartbeats 4000000 in
set_option maxRecDepth 100000 in
theorem s_X15_blankFrom_x (l : Launch) (dC : Nat → ClassId) (dI : Nat → Nat → Nat) (cs : Nat → ClassId) (ty : TyM) (gm : Nat → Nat → Nat) (L : List Nat) (sz : Nat) (F : Nat → va_E) (h0 : Nat) (ρ : Nat) (r0 : Nat) (n : Nat) (z : Nat) (a : Nat) (fv : Nat → Int32) (hW : WTm ty gm L) (hL_h0 : h0 ∈ L) (hT_h0 : ty h0 = (14, ρ, [r0, n])) (hF0 : F h0 = .inr (14, [.ref r0, .int (nI z)])) (hFr : F r0 = .inl (cs 17, n, .inl fv)) (hzn : z ≤ n) (hn9 : n ≤ 3000) (haz : a ≤ z) : Met l yX15_blankFrom (.code yX15_blankFrom cX15_blankFrom 3 (some .int) :: tb) ({ frames := 0, cells := 0, slots := 0, locals := 0 }) (va_Pc [.ref h0, .int (nI a)] (PTm (dC, dI) cs ty gm L F sz)) (va_Qi (fun (r : Int32) (_ : Unit) => r = nI (bkT (TC fv z) a z)) (fun _ T9 => ∃ F2 : Nat → va_E, QTm (dC, dI) cs ty gm L [] F F2 (va_A (va_pl L F) sz) T9) (va_A (va_pl L F) sz)) 0 0 (va_A (va_pl L F) sz) := by
  refine Met.ofW (cc := cX15_blankFrom) (maxL := 3) (ret := (some .int)) (by decide) rfl ?_
  intro p e s m args below meth c s₁ B hml hv
  obtain ⟨rfl, hsz, hP, hK, hD0, hE, hO⟩ := hv
  have hx := B.exec
  have hb := B.bytes
  have hr := B.returns
  have hts : ∀ w ∈ tb, w.before _ s = true := fun w h => atoms_spec (ws := .code yX15_blankFrom cX15_blankFrom 3 (some .int) :: tb) B.pre w (List.mem_cons_of_mem _ h)
  have hown : s.vm.findClass RX15 = some m.cls := findClass_of_methodNamed B.named
  have hlocks := B.notSynchronized
  subst hsz
  have hD := hD0.self (sz := s.heap.size)
  generalize hAe : va_A (va_pl L F) s.heap.size = A at hD ⊢
  have hA : ∀ q : Nat, s.heap.size ≤ q → A q := fun q h => by rw [← hAe]; exact Or.inr h
  have hS : va_S A s.heap s.heap [] := va_S.rf
  have hR : FR ty [] F F := FR.refl
  have hl := lv_entry ([.ref h0, .int (nI a)]) (n := 3) (Nat.le_of_ble_eq_true rfl)
  rw [lg_entry_eq]
  generalize (lg_sl ([.ref h0, .int (nI a)]) ++ List.replicate (3 - (lg_sl ([.ref h0, .int (nI a)])).length) Slot.unset).toArray = ls at hl ⊢
  have hl : lv_has ls 3 [(0, .ref h0), (1, .int (nI a))] := hl
  obtain ⟨hi_1, ht_2, hq_3⟩ := hW.txt hL_h0 hT_h0
  refine lv_iload_n hx hb dX15_blankFrom_0 rfl (lv_at hl 1 rfl) ?_
  refine lv_istore_n (lv' := [(2, .int (nI a)), (0, .ref h0), (1, .int (nI a))]) hx hb dX15_blankFrom_1 rfl hl (by decide) rfl (fun ls hl => ?_)
  refine W.widen (k := 0) (n := 0) (by omega) (by omega) ?_
  refine pl_loopm (σ := Nat) A (dC, dI) cs ty gm L [] F 2 3 (fun j => [(2, .int (nI j)), (0, .ref h0), (1, .int (nI a))]) (fun j => []) (fun j _ => a ≤ j ∧ j ≤ z ∧ ∀ i, a ≤ i → i < j → (TC fv z) i = 32) (fun j => z - j) ?_ a F (⟨Nat.le_refl _, haz, fun i h1 h2 => absurd h2 (by omega)⟩) hO hR _ _ hP hD hS ls (lv_sub hl [0, 1, 2] rfl)
  rintro j F_4 hv_5 hO hR ih_6 H locs hP hD hS ls hl
  have hl : lv_has ls 3 [(2, .int (nI j)), (0, .ref h0), (1, .int (nI a))] := hl
  have hv_5 : a ≤ j ∧ j ≤ z ∧ ∀ i, a ≤ i → i < j → (TC fv z) i = 32 := hv_5
  refine W.eq (g2 := F0 m 2 ls []) rfl ?_
  obtain rfl : F = F_4 := (funext (fun a => hR a List.not_mem_nil)).symm
  obtain ⟨hv1, hv2, hv3⟩ := hv_5
  refine lv_iload_n hx hb dX15_blankFrom_2 rfl (lv_at hl 0 rfl) ?_
  refine lv_aload_n hx hb dX15_blankFrom_3 rfl (lv_at hl 1 rfl) ?_
  refine pg_get (ci := 14) (v := .int (nI z)) (C := RX14) (T := TX14) (N := 2) hx hb hts it_14 hown hK hP hL_h0 hF0 rfl 1 (by decide) (hts _ kt_709) (fun _ h9 => h9) rfl dX15_blankFrom_4 ?_
  refine lv_icmp_ge (tgt := 27) hx hb dX15_blankFrom_7 (by decide) (fun c_7 => ?_) (fun c_7 => ?_)
  ·
    have hi_8 : z ≤ j := leN (N := z) c_7
    refine lv_iload_n hx hb dX15_blankFrom_27 rfl (lv_at hl 0 rfl) ?_
    refine W.widen (k := 0) (n := 0) (by omega) (by omega) ?_
    exact W.iret (v := (nI j)) hx hb hr (fun t ht hWm => ⟨⟨(nI j), (), rfl, (congrArg nI (bkw_of (z - a) a hv1 (by omega) hv3 (Or.inl (by omega)))).symm, ⟨F, QTm.mk ht hP hD hO hR⟩⟩, hS.F ht⟩) hS.2.2 dX15_blankFrom_28
  ·
    have hi_9 : j < z := ltN (N := z) c_7
    refine lv_aload_n hx hb dX15_blankFrom_10 rfl (lv_at hl 1 rfl) ?_
    refine pg_get (ci := 14) (v := .ref r0) (C := RX14) (T := TX14) (N := 2) hx hb hts it_14 hown hK hP hL_h0 hF0 rfl 0 (by decide) (hts _ kt_710) (fun _ h9 => h9) rfl dX15_blankFrom_11 ?_
    refine lv_iload_n hx hb dX15_blankFrom_14 rfl (lv_at hl 0 rfl) ?_
    obtain ⟨hq_10, hq_11⟩ := hW.octs hi_1 ht_2
    refine pg_bald hx hb hK hP hi_1 1 hFr rfl (vp_in_nI (by omega) (by omega)) dX15_blankFrom_15 ?_
    refine lv_topi (fun x_12 ex_12 => ?_)
    obtain rfl : x_12 = fv j := ex_12.trans (congrArg fv (show ((nI j) : Int32).toNatClampNeg = j from nI_clamp (by omega)))
    refine lv_bipush (v := 32) hx hb dX15_blankFrom_16 (by decide) ?_
    refine lv_icmp_ne (tgt := 27) hx hb dX15_blankFrom_18 (by decide) (fun c_13 => ?_) (fun c_13 => ?_)
    ·
      refine lv_iload_n hx hb dX15_blankFrom_27 rfl (lv_at hl 0 rfl) ?_
      refine W.widen (k := 0) (n := 0) (by omega) (by omega) ?_
      exact W.iret (v := (nI j)) hx hb hr (fun t ht hWm => ⟨⟨(nI j), (), rfl, (congrArg nI (bkw_of (z - a) a hv1 (by omega) hv3 (Or.inr (fun q => c_13 ((tc_eq (by omega) (by first | decide | omega)).mp q))))).symm, ⟨F, QTm.mk ht hP hD hO hR⟩⟩, hS.F ht⟩) hS.2.2 dX15_blankFrom_28
    ·
      refine lv_iinc (v := (nI (j + 1))) (lv' := [(2, .int (nI (j + 1))), (0, .ref h0), (1, .int (nI a))]) hx hb dX15_blankFrom_21 hl (k := 0) rfl (nI_1 _) (by decide) rfl (fun ls hl => ?_)
      refine lv_goto (tgt := 2) hx hb dX15_blankFrom_24 (by decide) ?_
      refine W.widen (k := 0) (n := 0) (by omega) (by omega) ?_
      exact ih_6 (j + 1) F (⟨by omega, by omega, fun i h1 h2 => by rcases Nat.lt_or_ge i j with q | q; exact hv3 i h1 q; rw [show i = j by omega]; exact ((tc_eq (by omega) (by first | decide | omega)).mpr c_13)⟩) (by show z - (j + 1) < z - j; omega) hO hR _ _ hP hD hS ls (lv_sub hl [0, 1, 2] rfl)
set_option maxHeartbeats 4000000 in
set_option maxRecDepth 100000 in
theorem s_X15_wordEnd_x (l : Launch) (dC : Nat → ClassId) (dI : Nat → Nat → Nat) (cs : Nat → ClassId) (ty : TyM) (gm : Nat → Nat → Nat) (L : List Nat) (sz : Nat) (F : Nat → va_E) (h0 : Nat) (ρ : Nat) (r0 : Nat) (n : Nat) (z : Nat) (a : Nat) (fv : Nat → Int32) (hW : WTm ty gm L) (hL_h0 : h0 ∈ L) (hT_h0 : ty h0 = (14, ρ, [r0, n])) (hF0 : F h0 = .inr (14, [.ref r0, .int (nI z)])) (hFr : F r0 = .inl (cs 17, n, .inl fv)) (hzn : z ≤ n) (hn9 : n ≤ 3000) (haz : a ≤ z) : Met l yX15_wordEnd (.code yX15_wordEnd cX15_wordEnd 3 (some .int) :: tb) ({ frames := 0, cells := 0, slots := 0, locals := 0 }) (va_Pc [.ref h0, .int (nI a)] (PTm (dC, dI) cs ty gm L F sz)) (va_Qi (fun (r : Int32) (_ : Unit) => r = nI (fdT (TC fv z) 32 a z)) (fun _ T9 => ∃ F2 : Nat → va_E, QTm (dC, dI) cs ty gm L [] F F2 (va_A (va_pl L F) sz) T9) (va_A (va_pl L F) sz)) 0 0 (va_A (va_pl L F) sz) := by
  refine Met.ofW (cc := cX15_wordEnd) (maxL := 3) (ret := (some .int)) (by decide) rfl ?_
  intro p e s m args below meth c s₁ B hml hv
  obtain ⟨rfl, hsz, hP, hK, hD0, hE, hO⟩ := hv
  have hx := B.exec
  have hb := B.bytes
  have hr := B.returns
  have hts : ∀ w ∈ tb, w.before _ s = true := fun w h => atoms_spec (ws := .code yX15_wordEnd cX15_wordEnd 3 (some .int) :: tb) B.pre w (List.mem_cons_of_mem _ h)
  have hown : s.vm.findClass RX15 = some m.cls := findClass_of_methodNamed B.named
  have hlocks := B.notSynchronized
  subst hsz
  have hD := hD0.self (sz := s.heap.size)
  generalize hAe : va_A (va_pl L F) s.heap.size = A at hD ⊢
  have hA : ∀ q : Nat, s.heap.size ≤ q → A q := fun q h => by rw [← hAe]; exact Or.inr h
  have hS : va_S A s.heap s.heap [] := va_S.rf
  have hR : FR ty [] F F := FR.refl
  have hl := lv_entry ([.ref h0, .int (nI a)]) (n := 3) (Nat.le_of_ble_eq_true rfl)
  rw [lg_entry_eq]
  generalize (lg_sl ([.ref h0, .int (nI a)]) ++ List.replicate (3 - (lg_sl ([.ref h0, .int (nI a)])).length) Slot.unset).toArray = ls at hl ⊢
  have hl : lv_has ls 3 [(0, .ref h0), (1, .int (nI a))] := hl
  obtain ⟨hi_1, ht_2, hq_3⟩ := hW.txt hL_h0 hT_h0
  refine lv_iload_n hx hb dX15_wordEnd_0 rfl (lv_at hl 1 rfl) ?_
  refine lv_istore_n (lv' := [(2, .int (nI a)), (0, .ref h0), (1, .int (nI a))]) hx hb dX15_wordEnd_1 rfl hl (by decide) rfl (fun ls hl => ?_)
  refine W.widen (k := 0) (n := 0) (by omega) (by omega) ?_
  refine pl_loopm (σ := Nat) A (dC, dI) cs ty gm L [] F 2 3 (fun j => [(2, .int (nI j)), (0, .ref h0), (1, .int (nI a))]) (fun j => []) (fun j _ => a ≤ j ∧ j ≤ z ∧ ∀ i, a ≤ i → i < j → ¬ (TC fv z) i = 32) (fun j => z - j) ?_ a F (⟨Nat.le_refl _, haz, fun i h1 h2 => absurd h2 (by omega)⟩) hO hR _ _ hP hD hS ls (lv_sub hl [0, 1, 2] rfl)
  rintro j F_4 hv_5 hO hR ih_6 H locs hP hD hS ls hl
  have hl : lv_has ls 3 [(2, .int (nI j)), (0, .ref h0), (1, .int (nI a))] := hl
  have hv_5 : a ≤ j ∧ j ≤ z ∧ ∀ i, a ≤ i → i < j → ¬ (TC fv z) i = 32 := hv_5
  refine W.eq (g2 := F0 m 2 ls []) rfl ?_
  obtain rfl : F = F_4 := (funext (fun a => hR a List.not_mem_nil)).symm
  obtain ⟨hv1, hv2, hv3⟩ := hv_5
  refine lv_iload_n hx hb dX15_wordEnd_2 rfl (lv_at hl 0 rfl) ?_
  refine lv_aload_n hx hb dX15_wordEnd_3 rfl (lv_at hl 1 rfl) ?_
  refine pg_get (ci := 14) (v := .int (nI z)) (C := RX14) (T := TX14) (N := 2) hx hb hts it_14 hown hK hP hL_h0 hF0 rfl 1 (by decide) (hts _ kt_709) (fun _ h9 => h9) rfl dX15_wordEnd_4 ?_
  refine lv_icmp_ge (tgt := 27) hx hb dX15_wordEnd_7 (by decide) (fun c_7 => ?_) (fun c_7 => ?_)
  ·
    have hi_8 : z ≤ j := leN (N := z) c_7
    refine lv_iload_n hx hb dX15_wordEnd_27 rfl (lv_at hl 0 rfl) ?_
    refine W.widen (k := 0) (n := 0) (by omega) (by omega) ?_
    exact W.iret (v := (nI j)) hx hb hr (fun t ht hWm => ⟨⟨(nI j), (), rfl, (congrArg nI (fdw_of (z - a) a hv1 (by omega) hv3 (Or.inl (by omega)))).symm, ⟨F, QTm.mk ht hP hD hO hR⟩⟩, hS.F ht⟩) hS.2.2 dX15_wordEnd_28
  ·
    have hi_9 : j < z := ltN (N := z) c_7
    refine lv_aload_n hx hb dX15_wordEnd_10 rfl (lv_at hl 1 rfl) ?_
    refine pg_get (ci := 14) (v := .ref r0) (C := RX14) (T := TX14) (N := 2) hx hb hts it_14 hown hK hP hL_h0 hF0 rfl 0 (by decide) (hts _ kt_710) (fun _ h9 => h9) rfl dX15_wordEnd_11 ?_
    refine lv_iload_n hx hb dX15_wordEnd_14 rfl (lv_at hl 0 rfl) ?_
    obtain ⟨hq_10, hq_11⟩ := hW.octs hi_1 ht_2
    refine pg_bald hx hb hK hP hi_1 1 hFr rfl (vp_in_nI (by omega) (by omega)) dX15_wordEnd_15 ?_
    refine lv_topi (fun x_12 ex_12 => ?_)
    obtain rfl : x_12 = fv j := ex_12.trans (congrArg fv (show ((nI j) : Int32).toNatClampNeg = j from nI_clamp (by omega)))
    refine lv_bipush (v := 32) hx hb dX15_wordEnd_16 (by decide) ?_
    refine lv_icmp_eq (tgt := 27) hx hb dX15_wordEnd_18 (by decide) (fun c_13 => ?_) (fun c_13 => ?_)
    ·
      refine lv_iload_n hx hb dX15_wordEnd_27 rfl (lv_at hl 0 rfl) ?_
      refine W.widen (k := 0) (n := 0) (by omega) (by omega) ?_
      exact W.iret (v := (nI j)) hx hb hr (fun t ht hWm => ⟨⟨(nI j), (), rfl, (congrArg nI (fdw_of (z - a) a hv1 (by omega) hv3 (Or.inr ((tc_eq (by omega) (by first | decide | omega)).mpr c_13)))).symm, ⟨F, QTm.mk ht hP hD hO hR⟩⟩, hS.F ht⟩) hS.2.2 dX15_wordEnd_28
    ·
      refine lv_iinc (v := (nI (j + 1))) (lv' := [(2, .int (nI (j + 1))), (0, .ref h0), (1, .int (nI a))]) hx hb dX15_wordEnd_21 hl (k := 0) rfl (nI_1 _) (by decide) rfl (fun ls hl => ?_)
      refine lv_goto (tgt := 2) hx hb dX15_wordEnd_24 (by decide) ?_
      refine W.widen (k := 0) (n := 0) (by omega) (by omega) ?_
      exact ih_6 (j + 1) F (⟨by omega, by omega, fun i h1 h2 => by rcases Nat.lt_or_ge i j with q | q; exact hv3 i h1 q; rw [show i = j by omega]; exact (fun q => c_13 ((tc_eq (by omega) (by first | decide | omega)).mp q))⟩) (by show z - (j + 1) < z - j; omega) hO hR _ _ hP hD hS ls (lv_sub hl [0, 1, 2] rfl)
theorem tnv_n {rd : Nat} (h : rd ≤ 1000) : tnv rd < 0 ↔ rd = 0 := by
  unfold tnv
  by_cases c : rd = 0
  · rw [if_pos c]
    exact ⟨fun _ => c, fun _ => by decide⟩
  · rw [if_neg c]
    exact ⟨fun q => absurd q (nI_pos (by omega)), fun q => absurd q c⟩
def ALP (T : Nat → Nat) (z j : Nat) : Prop := ∃ p9, 7 ≤ p9 ∧ p9 < j ∧ p9 < z ∧ STT T p9 ∧ ∃ t, trT T p9 (fdT T 32 p9 z) = some t ∧ t.1 = 1
theorem ALP.mo {T : Nat → Nat} {z j k : Nat} (h : ALP T z j) (hk : j ≤ k) : ALP T z k := by
  obtain ⟨p9, h1, h2, h3⟩ := h
  exact ⟨p9, h1, by omega, h3⟩
theorem rtx_k {X : Option TRA} {u17 u18 u19 u20 u21 u22 : Int32} {m9 : Nat} (h : RTX X u17 u18 u19 u20 u21 u22) (hu : u17 = nI m9) (hm : m9 ≤ 7) : ∃ t : TRA, X = some t ∧ t.1 = m9 + 1 := by
  rcases h with ⟨-, h8⟩ | ⟨k, g, st, q, w, y, h1, h2, h3, -⟩
  · have h9 : nI m9 = nI 8 := hu.symm.trans h8
    have h7 := (nI_eq (by omega) (by omega)).mp h9
    omega
  · have h9 := (nI_eq (by omega) (by omega)).mp (h3.symm.trans hu)
    exact ⟨(k, g, st, q, w, y), h1, by show k = m9 + 1; omega⟩
theorem rtx_8 {X : Option TRA} {u17 u18 u19 u20 u21 u22 : Int32} (h : RTX X u17 u18 u19 u20 u21 u22) (hu : u17 = 8) : X = none := by
  rcases h with h | ⟨k, g, st, q, w, y, h1, h2, h3, -⟩
  · exact h.1
  · have h9 := (nI_eq (a := k - 1) (b := 8) (by omega) (by omega)).mp (h3.symm.trans hu)
    omega
theorem rtx_s {X : Option TRA} {u17 u18 u19 u20 u21 u22 : Int32} (h : RTX X u17 u18 u19 u20 u21 u22) (hn : ¬ X = none) : ∃ (k g st q w : Nat) (y : Int32), X = some (k, g, st, q, w, y) ∧ (1 ≤ k ∧ k ≤ 8) ∧ u17 = nI (k - 1) ∧ u18 = nI g ∧ ((k = 2 ∨ k = 6 ∨ k = 7) → u19 = nI st ∧ u20 = nI q) ∧ ((k = 3 ∨ k = 4) → (st = q ∧ u19 = (-1)) ∨ (st < q ∧ u19 = nI st ∧ u20 = nI q)) ∧ ((k = 3 ∨ k = 4 ∨ k = 5) → w ≤ 32 ∧ u21 = nI w) ∧ (k = 5 → u22 = y) := h.resolve_left (fun q => hn q.1)
theorem rt_sk {T : Nat → Nat} {z j rd : Nat} {X : Option Nat} {t : TRA} (h : rtw T z (z - j) j rd = X) (hj : j < z) (h1 : STT T j) (ht : trT T j (fdT T 32 j z) = some t) (h7 : ¬ t.1 = 7) : rtw T z (z - (j + 1)) (j + 1) rd = X := by
  have h9 := rtw_y h hj h1
  rw [ht, show rtx rd j (some t) = some rd from if_neg h7] at h9
  exact h9
theorem rt_s7 {T : Nat → Nat} {z j rd : Nat} {X : Option Nat} {t : TRA} (h : rtw T z (z - j) j rd = X) (hj : j < z) (h1 : STT T j) (ht : trT T j (fdT T 32 j z) = some t) (h7 : t.1 = 7) (h0 : rd = 0) : rtw T z (z - (j + 1)) (j + 1) j = X := by
  have h9 := rtw_y h hj h1
  rw [ht, show rtx rd j (some t) = some j from (if_pos h7).trans (if_pos h0)] at h9
  exact h9
theorem rt_s77 {T : Nat → Nat} {z j rd : Nat} {X : Option Nat} {t : TRA} (h : rtw T z (z - j) j rd = X) (hj : j < z) (h1 : STT T j) (ht : trT T j (fdT T 32 j z) = some t) (h7 : t.1 = 7) (h0 : ¬ rd = 0) : X = none := by
  have h9 := rtw_y h hj h1
  rw [ht, show rtx rd j (some t) = none from (if_pos h7).trans (if_neg h0)] at h9
  exact h9.symm
theorem rt_s0 {T : Nat → Nat} {z j rd : Nat} {X : Option Nat} (h : rtw T z (z - j) j rd = X) (hj : j < z) (h1 : STT T j) (ht : trT T j (fdT T 32 j z) = none) : X = none := by
  have h9 := rtw_y h hj h1
  rw [ht] at h9
  exact h9.symm
theorem rts_e {T : Nat → Nat} {z j rd : Nat} (h : RTS T z j rd) (hj : z ≤ j) : rtT T z = some rd := by
  rcases Nat.lt_or_ge 6 z with c | c
  · exact rtw_e (h.1 c) hj
  · obtain ⟨h1, h2⟩ := h.2 c
    rw [h1]
    exact h2
theorem kd_b {T : Nat → Nat} {a b : Nat} (hab : a < b) : (kdT T a b).2.2 ≤ b ∧ ((kdT T a b).2.1 = 43 ∨ SGN (kdT T a b).2.1) := by
  have hw := wdS_le T a
  have hg : sgS T a = 43 ∨ SGN (sgS T a) := by
    by_cases c : SGN (T a)
    · have e : sgS T a = T a := if_pos c
      rw [e]
      exact Or.inr c
    · exact Or.inl (if_neg c)
  unfold kdT
  by_cases c1 : BGW T a b 9 [114, 101, 100, 105, 114, 101, 99, 116, 61]
  · rw [if_pos c1]
    exact ⟨c1.1, Or.inl rfl⟩
  · rw [if_neg c1]
    by_cases c2 : OTH T a b
    · rw [if_pos c2]
      exact ⟨Nat.le_refl _, Or.inl rfl⟩
    · rw [if_neg c2]
      unfold kdW
      by_cases d1 : ISW T (wdS T a) b 3 [97, 108, 108]
      · rw [if_pos d1]
        exact ⟨Nat.le_refl _, hg⟩
      · rw [if_neg d1]
        by_cases d2 : BGW T (wdS T a) b 8 [105, 110, 99, 108, 117, 100, 101, 58]
        · rw [if_pos d2]
          exact ⟨d2.1, hg⟩
        · rw [if_neg d2]
          by_cases d3 : BGW T (wdS T a) b 7 [101, 120, 105, 115, 116, 115, 58]
          · rw [if_pos d3]
            exact ⟨d3.1, hg⟩
          · rw [if_neg d3]
            by_cases d4 : BGW T (wdS T a) b 4 [105, 112, 52, 58]
            · rw [if_pos d4]
              exact ⟨d4.1, hg⟩
            · rw [if_neg d4]
              by_cases d5 : BGW T (wdS T a) b 2 [109, 120]
              · rw [if_pos d5]
                refine ⟨?_, hg⟩
                by_cases d6 : BGW T (wdS T a) b 3 [109, 120, 58]
                · rw [if_pos d6]
                  exact d6.1
                · rw [if_neg d6]
                  exact d5.1
              · rw [if_neg d5]
                by_cases d7 : BGW T (wdS T a) b 1 [97]
                · rw [if_pos d7]
                  refine ⟨?_, hg⟩
                  by_cases d8 : BGW T (wdS T a) b 2 [97, 58]
                  · rw [if_pos d8]
                    exact d8.1
                  · rw [if_neg d8]
                    exact d7.1
                · rw [if_neg d7]
                  exact ⟨Nat.le_refl _, hg⟩
theorem tr_qg {T : Nat → Nat} {a b k g st q w : Nat} {y : Int32} (hab : a < b) (h : trT T a b = some (k, g, st, q, w, y)) : q ≤ b ∧ (g = 43 ∨ SGN g) ∧ ((k = 2 ∨ k = 6 ∨ k = 7) → HSW T st q) := by
  have hb := kd_b (T := T) hab
  unfold trT at h
  generalize kdT T a b = K at h hb
  obtain ⟨k9, g9, s9⟩ := K
  have hb1 : s9 ≤ b := hb.1
  have hb2 : g9 = 43 ∨ SGN g9 := hb.2
  have h : tnT T b k9 g9 s9 = some (k, g, st, q, w, y) := h
  have hf : fdT T 47 s9 b ≤ b := by
    have h9 : fdT T 47 s9 b ≤ s9 + (b - s9) := (fdT_le (T := T) (c := 47) (b - s9) s9).2
    omega
  unfold tnT at h
  by_cases c0 : k9 = 0
  · rw [if_pos c0] at h
    exact (nomatch h)
  · rw [if_neg c0] at h
    by_cases c1 : NETK k9
    · rw [if_pos c1] at h
      cases e : btT T b (fdT T 47 s9 b) with
      | none =>
        rw [e] at h
        exact (nomatch h)
      | some w9 =>
        rw [e] at h
        have h : (if 32 < w9 then none else if k9 = 5 then tnQ k9 g9 s9 (fdT T 47 s9 b) w9 (qdT T s9 (fdT T 47 s9 b)) else @ite (Option TRA) ((T (s9 - 1) = 58 → HSW T s9 (fdT T 47 s9 b)) ∧ (¬ T (s9 - 1) = 58 → s9 = fdT T 47 s9 b)) (Classical.propDecidable _) (some (k9, g9, s9, fdT T 47 s9 b, w9, 0)) none) = some (k, g, st, q, w, y) := h
        have hkn : ∀ t : TRA, t.1 = k9 → t.2.1 = g9 → t.2.2.2.1 = fdT T 47 s9 b → some t = some (k, g, st, q, w, y) → q ≤ b ∧ (g = 43 ∨ SGN g) ∧ ((k = 2 ∨ k = 6 ∨ k = 7) → HSW T st q) := by
          intro t t1 t2 t3 t4
          have t5 := Option.some.inj t4
          subst t5
          have t6 : k = k9 := t1
          have t7 : g = g9 := t2
          have t8 : q = fdT T 47 s9 b := t3
          refine ⟨by omega, by rw [t7]; exact hb2, fun q9 => ?_⟩
          rcases c1 with c | c | c <;> omega
        by_cases c2 : 32 < w9
        · rw [if_pos c2] at h
          exact (nomatch h)
        · rw [if_neg c2] at h
          by_cases c5 : k9 = 5
          · rw [if_pos c5] at h
            cases e2 : qdT T s9 (fdT T 47 s9 b) with
            | none =>
              rw [e2] at h
              exact (nomatch h)
            | some y9 =>
              rw [e2] at h
              by_cases c4 : y9.1 = 4
              · exact hkn _ rfl rfl rfl ((if_pos c4).symm.trans h)
              · have h8 : none = some (k, g, st, q, w, y) := (if_neg c4).symm.trans h
                exact (nomatch h8)
          · rw [if_neg c5] at h
            by_cases c6 : (T (s9 - 1) = 58 → HSW T s9 (fdT T 47 s9 b)) ∧ (¬ T (s9 - 1) = 58 → s9 = fdT T 47 s9 b)
            · rw [if_pos c6] at h
              exact hkn _ rfl rfl rfl h
            · rw [if_neg c6] at h
              exact (nomatch h)
    · rw [if_neg c1] at h
      by_cases c6 : HSTK k9 → HSW T s9 b
      · rw [if_pos c6] at h
        have h7 := Option.some.inj h
        have e2 : k9 = k := congrArg (fun t : TRA => t.1) h7
        have e5 : g9 = g := congrArg (fun t : TRA => t.2.1) h7
        have e3 : s9 = st := congrArg (fun t : TRA => t.2.2.1) h7
        have e4 : b = q := congrArg (fun t : TRA => t.2.2.2.1) h7
        refine ⟨by omega, by rw [← e5]; exact hb2, fun q9 => ?_⟩
        rw [← e3, ← e4]
        exact c6 (by rw [e2]; exact q9)
      · rw [if_neg c6] at h
        exact (nomatch h)
theorem mtW_v {D : Nat → ETY} {ze : Nat} {S : SDR} {ad : Int32} {R : CKR} {T : Nat → Nat} {U : List Nat} {t : TRA} {c v : Nat} (hR : ∀ U c v, (R U c v).1 ≤ 6) : (mtW D ze S ad R T U t c v).1 = 0 ∨ (mtW D ze S ad R T U t c v).1 = 2 ∨ (mtW D ze S ad R T U t c v).1 = 5 ∨ (mtW D ze S ad R T U t c v).1 = 6 := by
  unfold mtW
  by_cases c1 : t.1 = 1
  · rw [if_pos c1]
    exact Or.inr (Or.inl rfl)
  · rw [if_neg c1]
    by_cases c5 : t.1 = 5
    · rw [if_pos c5]
      by_cases d : SNE ad t.2.2.2.2.2 t.2.2.2.2.1
      · rw [if_pos d]
        exact Or.inr (Or.inl rfl)
      · rw [if_neg d]
        exact Or.inl rfl
    · rw [if_neg c5]
      by_cases c7 : t.1 = 7 ∨ t.1 = 8
      · rw [if_pos c7]
        exact Or.inl rfl
      · rw [if_neg c7]
        by_cases c10 : 10 < c + 1
        · rw [if_pos c10]
          exact Or.inr (Or.inr (Or.inr rfl))
        · rw [if_neg c10]
          by_cases c2 : t.1 = 2
          · rw [if_pos c2]
            have h := hR (exT T t.2.2.1 t.2.2.2.1 S U) (c + 1) v
            generalize R (exT T t.2.2.1 t.2.2.2.1 S U) (c + 1) v = X at h ⊢
            show (if X.1 = 1 ∨ X.1 = 4 ∨ X.1 = 3 then 0 else if X.1 = 0 then 6 else X.1) = 0 ∨ (if X.1 = 1 ∨ X.1 = 4 ∨ X.1 = 3 then 0 else if X.1 = 0 then 6 else X.1) = 2 ∨ (if X.1 = 1 ∨ X.1 = 4 ∨ X.1 = 3 then 0 else if X.1 = 0 then 6 else X.1) = 5 ∨ (if X.1 = 1 ∨ X.1 = 4 ∨ X.1 = 3 then 0 else if X.1 = 0 then 6 else X.1) = 6
            by_cases d1 : X.1 = 1 ∨ X.1 = 4 ∨ X.1 = 3
            · rw [if_pos d1]
              exact Or.inl rfl
            · rw [if_neg d1]
              by_cases d2 : X.1 = 0
              · rw [if_pos d2]
                exact Or.inr (Or.inr (Or.inr rfl))
              · rw [if_neg d2]
                omega
          · rw [if_neg c2]
            show (lkU D ze ad (exT T t.2.2.1 t.2.2.2.1 S U) t.2.2.2.2.1 t.1 v).1 = 0 ∨ (lkU D ze ad (exT T t.2.2.1 t.2.2.2.1 S U) t.2.2.2.2.1 t.1 v).1 = 2 ∨ (lkU D ze ad (exT T t.2.2.1 t.2.2.2.1 S U) t.2.2.2.2.1 t.1 v).1 = 5 ∨ (lkU D ze ad (exT T t.2.2.1 t.2.2.2.1 S U) t.2.2.2.2.1 t.1 v).1 = 6
            generalize exT T t.2.2.1 t.2.2.2.1 S U = V
            have h9 := lew_q (D := D) (ze := ze) (oo := ooU V) (y := yU V) (fa := faU V) (ad := ad) (w := t.2.2.2.2.1) ze 0
            unfold lkU lkW
            by_cases d1 : HAS D ze 3 (ooU V) (yU V) (faU V)
            · rw [if_pos d1]
              exact Or.inr (Or.inr (Or.inl rfl))
            · rw [if_neg d1]
              by_cases d2 : HAS D ze (skW t.1) (ooU V) (yU V) (faU V)
              · rw [if_pos d2]
                by_cases d3 : t.1 = 4
                · rw [if_pos d3]
                  rcases h9 with q | q | q
                  · exact Or.inl q
                  · exact Or.inr (Or.inl q)
                  · exact Or.inr (Or.inr (Or.inl q))
                · rw [if_neg d3]
                  by_cases d4 : t.1 = 6 ∨ HAD D ze ad t.2.2.2.2.1 (ooU V) (yU V) (faU V)
                  · rw [if_pos d4]
                    exact Or.inr (Or.inl rfl)
                  · rw [if_neg d4]
                    exact Or.inl rfl
              · rw [if_neg d2]
                by_cases d5 : 2 < v + 1
                · exact Or.inr (Or.inr (Or.inr (if_pos d5)))
                · exact Or.inl (if_neg d5)
theorem mmv_1 {x : Nat} (h : x = 0 ∨ x = 2 ∨ x = 5 ∨ x = 6) : (mmv x = 1 ↔ x = 2) ∧ (mmv x = 0 ↔ x = 0) ∧ mmv x ≤ 6 ∧ (1 < mmv x → mmv x = x ∧ ¬ x = 2 ∧ ¬ x = 0) := by
  rcases h with h | h | h | h <;> subst h <;> exact ⟨by decide, by decide, by decide, by decide⟩
theorem mt_78 {D : Nat → ETY} {ze : Nat} {S : SDR} {ad : Int32} {R : CKR} {T : Nat → Nat} {U : List Nat} {t : TRA} {c v : Nat} (h : t.1 = 7 ∨ t.1 = 8) : mtW D ze S ad R T U t c v = (0, c, v) := by
  unfold mtW
  rw [if_neg (by omega), if_neg (by omega), if_pos h]
