def smc (x : Nat) : Nat := if 65 ≤ x ∧ x ≤ 90 then x + 32 else x
def smL (T : Nat → Nat) (a : Nat) : Nat → List Nat
  | 0 => []
  | n + 1 => smL T a n ++ [smc (T (a + n))]
theorem smL_s {T : Nat → Nat} {a n : Nat} : smL T a (n + 1) = smL T a n ++ [smc (T (a + n))] := rfl
theorem smL_len {T : Nat → Nat} {a : Nat} : ∀ n, (smL T a n).length = n
  | 0 => rfl
  | n + 1 => by
    rw [smL_s, List.length_append, smL_len n]
    rfl
theorem smL_get {T : Nat → Nat} {a : Nat} : ∀ n j, j < n → (smL T a n).getD j 0 = smc (T (a + j)) := by
  intro n
  induction n with
  | zero => intro j h; exact absurd h (Nat.not_lt_zero _)
  | succ n ih =>
    intro j h
    rw [smL_s]
    rcases Nat.lt_or_ge j n with q | q
    · rw [apl_l _ _ (by rw [smL_len]; exact q)]
      exact ih j q
    · obtain rfl : j = n := by omega
      have h9 := apl_r (W := [smc (T (a + j))]) (smL T a j) 0
      rw [smL_len, Nat.add_zero] at h9
      rw [h9]
      rfl
def STC4 (x : Nat) : Prop := x = 32 ∨ x = 9 ∨ x = 62 ∨ x = 10
def stw (T : Nat → Nat) : Nat → Nat → Nat
  | 0, i => i
  | n + 1, i => if T i = 32 ∨ T i = 9 ∨ T i = 62 ∨ T i = 10 then i else stw T n (i + 1)
theorem stw_of {T : Nat → Nat} {k : Nat} : ∀ n i, i ≤ k → k ≤ i + n → (∀ j, i ≤ j → j < k → ¬ STC4 (T j)) → (k = i + n ∨ STC4 (T k)) → stw T n i = k := by
  intro n
  induction n with
  | zero =>
    intro i h1 h2 _ _
    show i = k
    omega
  | succ n ih =>
    intro i h1 h2 h3 h4
    by_cases c : i = k
    · subst c
      rcases h4 with q | q
      · omega
      · exact if_pos q
    · have h5 : ¬ STC4 (T i) := h3 i (Nat.le_refl _) (by omega)
      have h6 : stw T (n + 1) i = stw T n (i + 1) := if_neg h5
      rw [h6]
      exact ih (i + 1) (by omega) (by omega) (fun j g1 g2 => h3 j (by omega) g2) (h4.imp (fun q => by omega) id)
def dmE (T : Nat → Nat) (a e : Nat) : Nat := stw T (e - a) a
theorem dmE_of {T : Nat → Nat} {a e k : Nat} (h1 : a ≤ k) (h2 : k ≤ e) (h3 : ∀ j, a ≤ j → j < k → ¬ STC4 (T j)) (h4 : k = e ∨ STC4 (T k)) : dmE T a e = k := stw_of (e - a) a h1 (by omega) h3 (h4.imp (fun q => by omega) id)
def lsc (T : Nat → Nat) (x : Nat) : Nat → Nat
  | 0 => 0
  | b + 1 => if T b = x then b + 1 else lsc T x b
theorem lsc_le {T : Nat → Nat} {x : Nat} : ∀ b, lsc T x b ≤ b
  | 0 => Nat.le_refl _
  | b + 1 => by
    have h := lsc_le (T := T) (x := x) b
    show (if T b = x then b + 1 else lsc T x b) ≤ b + 1
    split <;> omega
theorem lsc_n {T : Nat → Nat} {x b : Nat} (h : ¬ T b = x) : lsc T x (b + 1) = lsc T x b := if_neg h
theorem lsc_y {T : Nat → Nat} {x b : Nat} (h : T b = x) : lsc T x (b + 1) = b + 1 := if_pos h
theorem lsc_at {T : Nat → Nat} {x : Nat} : ∀ b, 0 < lsc T x b → T (lsc T x b - 1) = x
  | 0, h => absurd h (Nat.lt_irrefl _)
  | b + 1, h => by
    by_cases c : T b = x
    · rw [lsc_y c]
      exact c
    · rw [lsc_n c] at h ⊢
      exact lsc_at b h
def lsq (T : Nat → Nat) (s e : Nat) : Nat := if s < lsc T 64 e then lsc T 64 e - 1 else s - 1
noncomputable def dmW (T : Nat → Nat) (c e : Nat) : Option (List Nat) := if c + 1 < lsc T 64 e ∧ NM (faU (smL T (lsc T 64 e) (dmE T (lsc T 64 e) e - lsc T 64 e))) 0 (dmE T (lsc T 64 e) e - lsc T 64 e) = true then some (smL T (lsc T 64 e) (dmE T (lsc T 64 e) e - lsc T 64 e)) else none
theorem decI {k : Nat} (h : 1 ≤ k) : nI k + Int32.ofInt (-1) = nI (k - 1) := by
  rw [show Int32.ofInt (-1) = -(1 : Int32) by decide, ← Int32.sub_eq_add_neg]
  exact pk_sub (b := 1) h
def DMA (fs : Nat → Int32) (a k n y : Nat) (oo : Int32) (f : Nat → Int32) : Prop := y = min k n ∧ oo = (if n < k then 1 else 0) ∧ ∀ j, j < y → f j = smv (fs (a + j))
theorem DMA.nil {fs f : Nat → Int32} {a n : Nat} : DMA fs a 0 n 0 0 f := ⟨by omega, by rw [if_neg (Nat.not_lt_zero _)], fun j h => absurd h (Nat.not_lt_zero _)⟩
theorem dma_o {fs f : Nat → Int32} {a k n y : Nat} {oo : Int32} (h : DMA fs a k n y oo f) (hy : n ≤ y) : DMA fs a (k + 1) n y 1 f := by
  obtain ⟨h1, h2, h3⟩ := h
  exact ⟨by omega, by rw [if_pos (by omega)], h3⟩
theorem dma_a {fs f : Nat → Int32} {a k n y : Nat} {oo : Int32} (h : DMA fs a k n y oo f) (hy : y < n) : DMA fs a (k + 1) n (y + 1) oo (upd f y (smv (fs (a + k)))) := by
  obtain ⟨h1, h2, h3⟩ := h
  have hk : k = y := by omega
  refine ⟨by omega, by rw [h2, if_neg (by omega), if_neg (by omega)], fun j hj => ?_⟩
  by_cases e : j = y
  · rw [e, updc_at, hk]
  · rw [updc_ne e, h3 j (by omega)]
theorem smv_all : ∀ c, c < 128 → smv (nI c) = nI (smc c) := by decide +kernel
theorem smc_200 : smc 200 = 200 := by decide
theorem okc_200 : OKC (nI 200) = false ∧ ¬ nI 200 = 46 := by decide +kernel
theorem smc_lt {c : Nat} (h : c < 128) : smc c < 128 := by
  unfold smc
  split <;> omega
theorem cdv_200 {x : Int32} (h : ¬ cdv x < 128) : cdv x = 200 := by
  unfold cdv at h ⊢
  by_cases d : 0 ≤ x ∧ x < 128
  · rw [if_pos d] at h
    obtain ⟨k, hk, rfl⟩ := nI_of (Int32.not_lt.mpr d.1)
    rw [nI_clamp hk] at h
    exact absurd ((nI_ltI (b := 128) hk (by omega)).mp d.2) h
  · rw [if_neg d]
theorem smv_out {x : Int32} (h : ¬ cdv x < 128) : smv x = x := by
  unfold smv
  by_cases c : x < 65 ∨ 90 < x
  · rw [if_pos c]
  · have h9 := (cdv_rng (x := x) (a := 65) (b := 90) (by omega) (by omega)).mpr ⟨fun q => c (Or.inl q), fun q => c (Or.inr q)⟩
    omega
theorem sm_cl (x : Int32) : OKC (smv x) = OKC (nI (smc (cdv x))) ∧ (smv x = 46 ↔ nI (smc (cdv x)) = 46) := by
  by_cases c : cdv x < 128
  · have h9 := cdv_in c
    rw [h9, smv_all _ c, cdv_nI c]
    exact ⟨rfl, Iff.rfl⟩
  · rw [smv_out c, cdv_200 c, smc_200, okc_200.1]
    refine ⟨?_, fun q => ?_, fun q => absurd q okc_200.2⟩
    · cases e : OKC x with
      | true => exact absurd (okc_cd e) c
      | false => rfl
    · exact absurd (cd_eq (a := 46) (by omega) q) c
theorem nmw_cg {f g : Nat → Int32} : ∀ k i p : Nat, (∀ j, i ≤ j → j < i + k → OKC (f j) = OKC (g j) ∧ (f j = 46 ↔ g j = 46)) → nmw f k i p = nmw g k i p := by
  intro k
  induction k with
  | zero => intro i p _; rfl
  | succ k ih =>
    intro i p h
    obtain ⟨h1, h2⟩ := h i (Nat.le_refl _) (by omega)
    unfold nmw
    rw [h1, ih (i + 1) 0 (fun j a1 a2 => h j (by omega) (by omega)), ih (i + 1) (p + 1) (fun j a1 a2 => h j (by omega) (by omega))]
    by_cases q : f i = 46
    · rw [if_pos q, if_pos (h2.mp q)]
    · rw [if_neg q, if_neg (fun w => q (h2.mpr w))]
theorem NM_cg {f g : Nat → Int32} {a b : Nat} (h : ∀ j, a ≤ j → j < b → OKC (f j) = OKC (g j) ∧ (f j = 46 ↔ g j = 46)) : NM f a b = NM g a b := by
  unfold NM
  by_cases q : a ≤ b
  · rw [nmw_cg (b - a) a 0 (fun j a1 a2 => h j a1 (by omega))]
  · rw [decide_eq_false (show ¬ (a + 1 ≤ b ∧ b ≤ a + 60) by omega), Bool.false_and, Bool.false_and]
theorem dma_nm {fs f : Nat → Int32} {z a k y : Nat} {oo : Int32} (h : DMA fs a k 60 y oo f) (hz : a + k ≤ z) : (oo = 0 ∧ NM f 0 y = true) ↔ NM (faU (smL (TC fs z) a k)) 0 k = true := by
  obtain ⟨h1, h2, h3⟩ := h
  by_cases c : 60 < k
  · rw [if_pos c] at h2
    constructor
    · intro q
      exact absurd (h2.symm.trans q.1) (by decide)
    · intro q
      have h9 := NM_len q
      omega
  · rw [if_neg c] at h2
    have hk : y = k := by omega
    subst hk
    have h9 : NM f 0 y = NM (faU (smL (TC fs z) a y)) 0 y := NM_cg (fun j a1 a2 => by
      have e1 : faU (smL (TC fs z) a y) j = nI (smc (cdv (fs (a + j)))) := by
        show nI ((smL (TC fs z) a y).getD j 0) = _
        rw [smL_get y j a2, tcn_in (by omega)]
      rw [h3 j a2, e1]
      exact sm_cl _)
    rw [← h9]
    exact ⟨fun q => q.2, fun q => ⟨h2, q⟩⟩
theorem dma_src {fs f : Nat → Int32} {z a k y : Nat} {oo : Int32} (h : DMA fs a k 60 y oo f) (hz : a + k ≤ z) (h0 : oo = 0) (hn : NM f 0 y = true) : SRC (smL (TC fs z) a k) y f ∧ y ≤ 60 := by
  obtain ⟨h1, h2, h3⟩ := h
  have hk : ¬ 60 < k := fun c => by
    rw [if_pos c] at h2
    exact absurd (h2.symm.trans h0) (by decide)
  have hy : y = k := by omega
  subst hy
  have hc : ∀ j, j < y → cdv (fs (a + j)) < 128 := fun j hj => Classical.byContradiction (fun c => by
    have h9 := NM_cd hn j (Nat.zero_le _) hj
    rw [h3 j hj, smv_out c] at h9
    exact c h9)
  refine ⟨⟨smL_len y, fun j hj => ?_, fun j hj => ?_⟩, by omega⟩
  · rw [smL_get y j hj, tcn_in (by omega), h3 j hj]
    have h9 := smv_all _ (hc j hj)
    rw [← cdv_in (hc j hj)] at h9
    exact h9
  · rw [smL_get y j hj, tcn_in (by omega)]
    exact smc_lt (hc j hj)
theorem nmo {r oo : Int32} {P : Prop} [Decidable P] (h0 : oo = 0) (h : r = (if P then 1 else 0)) : r = (if oo = 0 ∧ P then 1 else 0) := by
  rw [h]
  by_cases c : P
  · rw [if_pos c, if_pos ⟨h0, c⟩]
  · rw [if_neg c, if_neg (fun q => c q.2)]
def DMP (T : Nat → Nat) (c e : Nat) (r : Int32) (gU : Option (List Nat)) : Prop := gU = dmW T c e ∧ ((r = 1 ∧ ¬ gU = none) ∨ (r = 0 ∧ gU = none))
theorem dmp_0 {T : Nat → Nat} {c e : Nat} (h : ¬ c + 1 < lsc T 64 e) : DMP T c e 0 none := ⟨(if_neg (fun q => h q.1)).symm, Or.inr ⟨rfl, rfl⟩⟩
theorem dmp_e {fs f : Nat → Int32} {z c e i y : Nat} {oo r : Int32} (h1 : c + 1 < lsc (TC fs z) 64 e) (he : e ≤ z) (hi : lsc (TC fs z) 64 e ≤ i) (hie : i ≤ e) (h2 : dmE (TC fs z) (lsc (TC fs z) 64 e) e = i) (hD : DMA fs (lsc (TC fs z) 64 e) (i - lsc (TC fs z) 64 e) 60 y oo f) (hr : r = (if oo = 0 ∧ NM f 0 y = true then 1 else 0)) : DMP (TC fs z) c e r (dmW (TC fs z) c e) ∧ ∀ V, dmW (TC fs z) c e = some V → oo = 0 ∧ SRC V y f ∧ y ≤ 60 ∧ NM f 0 y = true := by
  have hn := dma_nm (z := z) hD (by omega)
  have e1 : dmW (TC fs z) c e = if oo = 0 ∧ NM f 0 y = true then some (smL (TC fs z) (lsc (TC fs z) 64 e) (i - lsc (TC fs z) 64 e)) else none := by
    unfold dmW
    rw [h2]
    by_cases c9 : oo = 0 ∧ NM f 0 y = true
    · rw [if_pos ⟨h1, hn.mp c9⟩, if_pos c9]
    · rw [if_neg (fun q => c9 (hn.mpr q.2)), if_neg c9]
  by_cases c9 : oo = 0 ∧ NM f 0 y = true
  · rw [if_pos c9] at e1 hr
    refine ⟨⟨rfl, Or.inl ⟨hr, by rw [e1]; exact fun q => nomatch q⟩⟩, fun V hV => ?_⟩
    obtain rfl := Option.some.inj (e1.symm.trans hV)
    have h9 := dma_src (z := z) hD (by omega) c9.1 c9.2
    exact ⟨c9.1, h9.1, h9.2, c9.2⟩
  · rw [if_neg c9] at e1 hr
    refine ⟨⟨rfl, Or.inr ⟨hr, e1⟩⟩, fun V hV => ?_⟩
    exact nomatch (e1.symm.trans hV)
set_option maxHeartbeats 4000000 in
set_option maxRecDepth 100000 in
theorem s_X0_findLast_s (l : Launch) (dC : Nat → ClassId) (dI : Nat → Nat → Nat) (cs : Nat → ClassId) (ty : TyM) (L : List Nat) (sz : Nat) (F : Nat → va_E) (h0 : Nat) (ρ : Nat) (r0 : Nat) (n : Nat) (z : Nat) (a1 : Nat) (b : Nat) (f : Nat → Int32) (hW : WT ty L) (hL_h0 : h0 ∈ L) (hT_h0 : ty h0 = (0, ρ, [r0, n])) (hF0 : F h0 = .inr (0, [.ref r0, .int (nI z), .int 0])) (hFr : F r0 = .inl (cs 16, n, .inl f)) (hzn : z ≤ n) (hn9 : n ≤ 10000) (ha1 : 1 ≤ a1) (hab : a1 ≤ b) (hbz : b ≤ z) : Met l yX0_findLast (.code yX0_findLast cX0_findLast 5 (some .int) :: tb) ({ frames := 1, cells := 0, slots := 0, locals := 21 }) (va_Pc [.ref h0, .int 64, .int (nI a1), .int (nI b)] (PT (dC, dI) cs ty L F sz)) (va_Qi (fun (r : Int32) (_ : Unit) => r = nI (lsq (TC f z) a1 b)) (fun _ T9 => ∃ F2 : Nat → va_E, QT (dC, dI) cs ty L [] F F2 (va_A (va_pl L F) sz) T9) (va_A (va_pl L F) sz)) 0 0 (va_A (va_pl L F) sz) := by
  refine Met.ofW (cc := cX0_findLast) (maxL := 5) (ret := (some .int)) (by decide) rfl ?_
  intro p e s m args below meth c s₁ B hml hv
  obtain ⟨rfl, hsz, hP, hK, hD0, hE, hO⟩ := hv
  have hx := B.exec
  have hb := B.bytes
  have hr := B.returns
  have hts : ∀ w ∈ tb, w.before _ s = true := fun w h => atoms_spec (ws := .code yX0_findLast cX0_findLast 5 (some .int) :: tb) B.pre w (List.mem_cons_of_mem _ h)
  have hown : s.vm.findClass RX0 = some m.cls := findClass_of_methodNamed B.named
  have hlocks := B.notSynchronized
  subst hsz
  have hD := hD0.self (sz := s.heap.size)
  generalize hAe : va_A (va_pl L F) s.heap.size = A at hD ⊢
  have hA : ∀ q : Nat, s.heap.size ≤ q → A q := fun q h => by rw [← hAe]; exact Or.inr h
  have hS : va_S A s.heap s.heap [] := va_S.rf
  have hR : FR ty [] F F := FR.refl
  have hl := lv_entry ([.ref h0, .int 64, .int (nI a1), .int (nI b)]) (n := 5) (Nat.le_of_ble_eq_true rfl)
  rw [lg_entry_eq]
  generalize (lg_sl ([.ref h0, .int 64, .int (nI a1), .int (nI b)]) ++ List.replicate (5 - (lg_sl ([.ref h0, .int 64, .int (nI a1), .int (nI b)])).length) Slot.unset).toArray = ls at hl ⊢
  have hl : lv_has ls 5 [(0, .ref h0), (1, .int 64), (2, .int (nI a1)), (3, .int (nI b))] := hl
  refine lv_iload_n hx hb dX0_findLast_0 rfl (lv_at hl 3 rfl) ?_
  refine lv_iconst (v := 1) hx hb dX0_findLast_1 (by decide) ?_
  refine lv_isub hx hb dX0_findLast_2 ?_
  refine lv_topi (fun x_1 ex_1 => ?_)
  obtain rfl : x_1 = (nI (b - 1)) := ex_1.trans (pk_sub (b := 1) (by omega))
  refine lv_istore (lv' := [(4, .int (nI (b - 1))), (0, .ref h0), (1, .int 64), (2, .int (nI a1)), (3, .int (nI b))]) hx hb dX0_findLast_3 hl (by decide) rfl (fun ls hl => ?_)
  refine W.widen (k := 0) (n := 0) (by omega) (by omega) ?_
  refine pl_loop (σ := Int32 × Nat) A (dC, dI) cs ty L [] F 5 5 (fun (i1, k) => [(4, .int i1), (0, .ref h0), (1, .int 64), (2, .int (nI a1)), (3, .int (nI b))]) (fun (i1, k) => []) (fun (i1, k) _ => a1 ≤ k ∧ k ≤ b ∧ i1 = nI (k - 1) ∧ lsc (TC f z) 64 b = lsc (TC f z) 64 k) (fun (i1, k) => k) ?_ ((nI (b - 1)), b) F (⟨hab, Nat.le_refl _, rfl, rfl⟩) hO hR _ _ hP hD hS ls (lv_sub hl [0, 1, 2, 3, 4] rfl)
  rintro ⟨i1, k⟩ F_2 hv_3 hO hR ih_4 H locs hP hD hS ls hl
  have hl : lv_has ls 5 [(4, .int i1), (0, .ref h0), (1, .int 64), (2, .int (nI a1)), (3, .int (nI b))] := hl
  have hv_3 : a1 ≤ k ∧ k ≤ b ∧ i1 = nI (k - 1) ∧ lsc (TC f z) 64 b = lsc (TC f z) 64 k := hv_3
  refine W.eq (g2 := F0 m 5 ls []) rfl ?_
  obtain rfl : F = F_2 := (funext (fun a => hR a List.not_mem_nil)).symm
  obtain ⟨hv1, hv2, hv3, hv4⟩ := id hv_3
  subst hv3
  refine lv_iload hx hb dX0_findLast_5 (lv_at hl 0 rfl) ?_
  refine lv_iload_n hx hb dX0_findLast_7 rfl (lv_at hl 3 rfl) ?_
  refine lv_icmp_lt (tgt := 30) hx hb dX0_findLast_8 (by decide) (fun c_5 => ?_) (fun c_5 => ?_)
  ·
    have hi_6 : (k - 1) < a1 := ltN (N := a1) (Int32.not_le.mpr c_5)
    have hka : k - 1 < a1 := (nI_ltI (by omega) (by omega)).mp c_5
    refine lv_iload_n hx hb dX0_findLast_30 rfl (lv_at hl 3 rfl) ?_
    refine lv_iconst (v := 1) hx hb dX0_findLast_31 (by decide) ?_
    refine lv_isub hx hb dX0_findLast_32 ?_
    refine lv_topi (fun x_7 ex_7 => ?_)
    obtain rfl : x_7 = (nI (a1 - 1)) := ex_7.trans (pk_sub (b := 1) ha1)
    refine W.widen (k := 0) (n := 0) (by omega) (by omega) ?_
    exact W.iret (v := (nI (a1 - 1))) hx hb hr (fun t ht hWm => ⟨⟨(nI (a1 - 1)), (), rfl, (by unfold lsq; rw [if_neg (by have h9 := lsc_le (T := TC f z) (x := 64) k; omega)]), ⟨F, QT.mk ht hP hD hO hR⟩⟩, hS.F ht⟩) hS.2.2 dX0_findLast_33
  ·
    have hi_8 : a1 ≤ (k - 1) := leN (N := a1) (Int32.not_lt.mp c_5)
    have hka : a1 ≤ k - 1 := Nat.not_lt.mp (fun q => c_5 ((nI_ltI (by omega) (by omega)).mpr q))
    refine lv_aload_n hx hb dX0_findLast_11 rfl (lv_at hl 1 rfl) ?_
    refine lv_iload hx hb dX0_findLast_12 (lv_at hl 0 rfl) ?_
    obtain ⟨hi_9, ht_10, hq_11⟩ := hW.bytes hL_h0 hT_h0
    have hFc := pg_free hD hS hA
    refine va_calli (va_runV (As := [.int (nI (k - 1))]) (rest := []) ⟨hx, hb, hml, hown, hts⟩ (s_X0_at_e l dC dI cs ty L H.size F h0 ρ r0 n z (k - 1) f hW hL_h0 hT_h0 hF0 hFr (by omega) (by omega) (by omega)) ⟨callB_of 1 hts (gi kt_21) rfl rfl rfl (hts _ kt_1) (hts _ kt_22) (by decide +kernel) ⟨Nat.le_of_ble_eq_true rfl, Nat.le_of_ble_eq_true rfl⟩, (hts _ kt_23), (hts _ kt_24)⟩ ⟨fun a U g mk q => ⟨q.1, PT.calling q.2⟩, pg_recv hK hP hL_h0 hF0 (q := (RX0, TX0, 3)) rfl, fun U hU hWm => ⟨rfl, PT.mk hU hWm hP hK hD hE hO⟩⟩ rfl rfl hl.1 rfl (lv_room (Nat.le_of_ble_eq_true rfl)) dX0_findLast_14 ⟨by show _ + 0 ≤ 0; omega, by show _ + 0 ≤ 0; omega⟩) hS (fun q _ h => hFc q h) hFc (fun r_12 u t H1 locs ht hvm hw hB hz1 hk1 hS => ?_)
    obtain ⟨F_13, hB1⟩ := hB
    obtain rfl : F = F_13 := (funext (fun a => hB1.2.2.2 a List.not_mem_nil)).symm
    obtain ⟨hP, hD, hO, hR⟩ := QT.back hB1 ht hFc hR (fun q h => absurd h List.not_mem_nil)
    generalize H1 = H at hP hS ⊢
    have hw : r_12 = f (k - 1) := hw
    have hw_14 := hw
    subst hw_14
    refine lv_iload_n hx hb dX0_findLast_17 rfl (lv_at hl 2 rfl) ?_
    refine lv_icmp_ne (tgt := 24) hx hb dX0_findLast_18 (by decide) (fun c_15 => ?_) (fun c_15 => ?_)
    ·
      have hls : lsc (TC f z) 64 k = lsc (TC f z) 64 (k - 1) := by have h9 := lsc_n (T := TC f z) (x := 64) (b := k - 1) (fun q => c_15 ((tcc (show k - 1 < z by omega) 64 (by omega)).mp q)); rw [show k - 1 + 1 = k by omega] at h9; exact h9
      refine lv_iinc (v := (nI (k - 1 - 1))) (lv' := [(4, .int (nI (k - 1 - 1))), (0, .ref h0), (1, .int 64), (2, .int (nI a1)), (3, .int (nI b))]) hx hb dX0_findLast_24 hl (k := 0) rfl (decI (by omega)) (by decide) rfl (fun ls hl => ?_)
      refine lv_goto (tgt := 5) hx hb dX0_findLast_27 (by decide) ?_
      refine W.widen (k := 0) (n := 0) (by omega) (by omega) ?_
      exact ih_4 ((nI (k - 1 - 1)), (k - 1)) F (⟨by omega, by omega, rfl, hv4.trans hls⟩) (by show (k - 1) < k; omega) hO hR _ _ hP hD hS ls (lv_sub hl [0, 1, 2, 3, 4] rfl)
    ·
      have hls : lsc (TC f z) 64 k = k := by have h9 := lsc_y (T := TC f z) (x := 64) (b := k - 1) ((tcc (show k - 1 < z by omega) 64 (by omega)).mpr c_15); rw [show k - 1 + 1 = k by omega] at h9; exact h9
      refine lv_iload hx hb dX0_findLast_21 (lv_at hl 0 rfl) ?_
      refine W.widen (k := 0) (n := 0) (by omega) (by omega) ?_
      exact W.iret (v := (nI (k - 1))) hx hb hr (fun t ht hWm => ⟨⟨(nI (k - 1)), (), rfl, (by unfold lsq; rw [hv4, hls, if_pos (by omega)]), ⟨F, QT.mk ht hP hD hO hR⟩⟩, hS.F ht⟩) hS.2.2 dX0_findLast_23
set_option maxHeartbeats 4000000 in
set_option maxRecDepth 100000 in
theorem s_X0_isName_o (l : Launch) (dC : Nat → ClassId) (dI : Nat → Nat → Nat) (cs : Nat → ClassId) (ty : TyM) (L : List Nat) (sz : Nat) (F : Nat → va_E) (h0 : Nat) (ρ : Nat) (r0 : Nat) (n : Nat) (z : Nat) (a : Nat) (b : Nat) (f : Nat → Int32) (oo : Int32) (hW : WT ty L) (hL_h0 : h0 ∈ L) (hT_h0 : ty h0 = (0, ρ, [r0, n])) (hF0 : F h0 = .inr (0, [.ref r0, .int (nI z), .int oo])) (hFr : F r0 = .inl (cs 16, n, .inl f)) (hzn : z ≤ n) (hn9 : n ≤ 10000) (hab : a ≤ b) (hbz : b ≤ z) : Met l yX0_isName (.code yX0_isName cX0_isName 7 (some .boolean) :: tb) ({ frames := 1, cells := 0, slots := 0, locals := 21 }) (va_Pc [.ref h0, .int (nI a), .int (nI b)] (PT (dC, dI) cs ty L F sz)) (va_Qi (fun (r : Int32) (_ : Unit) => r = (if oo = 0 ∧ NM f a b = true then 1 else 0)) (fun _ T9 => ∃ F2 : Nat → va_E, QT (dC, dI) cs ty L [] F F2 (va_A (va_pl L F) sz) T9) (va_A (va_pl L F) sz)) 0 0 (va_A (va_pl L F) sz) := by
  refine Met.ofW (cc := cX0_isName) (maxL := 7) (ret := (some .boolean)) (by decide) rfl ?_
  intro p e s m args below meth c s₁ B hml hv
  obtain ⟨rfl, hsz, hP, hK, hD0, hE, hO⟩ := hv
  have hx := B.exec
  have hb := B.bytes
  have hr := B.returns
  have hts : ∀ w ∈ tb, w.before _ s = true := fun w h => atoms_spec (ws := .code yX0_isName cX0_isName 7 (some .boolean) :: tb) B.pre w (List.mem_cons_of_mem _ h)
  have hown : s.vm.findClass RX0 = some m.cls := findClass_of_methodNamed B.named
  have hlocks := B.notSynchronized
  subst hsz
  have hD := hD0.self (sz := s.heap.size)
  generalize hAe : va_A (va_pl L F) s.heap.size = A at hD ⊢
  have hA : ∀ q : Nat, s.heap.size ≤ q → A q := fun q h => by rw [← hAe]; exact Or.inr h
  have hS : va_S A s.heap s.heap [] := va_S.rf
  have hR : FR ty [] F F := FR.refl
  have hl := lv_entry ([.ref h0, .int (nI a), .int (nI b)]) (n := 7) (Nat.le_of_ble_eq_true rfl)
  rw [lg_entry_eq]
  generalize (lg_sl ([.ref h0, .int (nI a), .int (nI b)]) ++ List.replicate (7 - (lg_sl ([.ref h0, .int (nI a), .int (nI b)])).length) Slot.unset).toArray = ls at hl ⊢
  have hl : lv_has ls 7 [(0, .ref h0), (1, .int (nI a)), (2, .int (nI b))] := hl
  refine lv_aload_n hx hb dX0_isName_0 rfl (lv_at hl 0 rfl) ?_
  obtain ⟨hi_1, ht_2, hq_3⟩ := hW.bytes hL_h0 hT_h0
  refine pg_get (ci := 0) (v := .int oo) (C := RX0) (T := TX0) (N := 3) hx hb hts it_0 hown hK hP hL_h0 hF0 rfl 2 (by decide) (hts _ kt_11) (fun _ h9 => h9) rfl dX0_isName_1 ?_
  refine lv_if_ne (tgt := 22) hx hb dX0_isName_4 (by decide) (fun c_4 => ?_) (fun c_4 => ?_)
  ·
    refine lv_iconst (v := 0) hx hb dX0_isName_22 (by decide) ?_
    refine W.widen (k := 0) (n := 0) (by omega) (by omega) ?_
    exact W.zret (v := 0) (ty := .boolean) hx hb hr (by decide) (fun t ht hWm => ⟨⟨0, (), rfl, ((if_neg (fun q => c_4 q.1)).symm), ⟨F, QT.mk ht hP hD hO hR⟩⟩, hS.F ht⟩) hS.2.2 dX0_isName_23
  ·
    refine lv_iload_n hx hb dX0_isName_7 rfl (lv_at hl 2 rfl) ?_
    refine lv_iload_n hx hb dX0_isName_8 rfl (lv_at hl 1 rfl) ?_
    refine lv_isub hx hb dX0_isName_9 ?_
    refine lv_topi (fun x_5 ex_5 => ?_)
    obtain rfl : x_5 = (nI (b - a)) := ex_5.trans (pk_sub (by omega))
    refine lv_iconst (v := 1) hx hb dX0_isName_10 (by decide) ?_
    refine lv_icmp_lt (tgt := 22) hx hb dX0_isName_11 (by decide) (fun c_6 => ?_) (fun c_6 => ?_)
    ·
      have hi_7 : (b - a) < 1 := ltN (N := 1) (Int32.not_le.mpr c_6)
      have hl1 : b - a < 1 := (nI_ltI (b := 1) (by omega) (by omega)).mp c_6
      refine lv_iconst (v := 0) hx hb dX0_isName_22 (by decide) ?_
      refine W.widen (k := 0) (n := 0) (by omega) (by omega) ?_
      exact W.zret (v := 0) (ty := .boolean) hx hb hr (by decide) (fun t ht hWm => ⟨⟨0, (), rfl, (nmo c_4 (nm_len (fun q => by omega))), ⟨F, QT.mk ht hP hD hO hR⟩⟩, hS.F ht⟩) hS.2.2 dX0_isName_23
    ·
      have hi_8 : 1 ≤ (b - a) := leN (N := 1) (Int32.not_lt.mp c_6)
      have hl1 : a + 1 ≤ b := by have h9 : ¬ b - a < 1 := fun q => c_6 ((nI_ltI (b := 1) (by omega) (by omega)).mpr q); omega
      refine lv_iload_n hx hb dX0_isName_14 rfl (lv_at hl 2 rfl) ?_
      refine lv_iload_n hx hb dX0_isName_15 rfl (lv_at hl 1 rfl) ?_
      refine lv_isub hx hb dX0_isName_16 ?_
      refine lv_topi (fun x_9 ex_9 => ?_)
      obtain rfl : x_9 = (nI (b - a)) := ex_9.trans (pk_sub (by omega))
      refine lv_bipush (v := 60) hx hb dX0_isName_17 (by decide) ?_
      refine lv_icmp_le (tgt := 24) hx hb dX0_isName_19 (by decide) (fun c_10 => ?_) (fun c_10 => ?_)
      ·
        have hl2 : b ≤ a + 60 := by have h9 : b - a ≤ 60 := (nI_leI (b := 60) (by omega) (by omega)).mp c_10; omega
        refine lv_iconst (v := 0) hx hb dX0_isName_24 (by decide) ?_
        refine lv_istore_n (lv' := [(3, .int 0), (0, .ref h0), (1, .int (nI a)), (2, .int (nI b))]) hx hb dX0_isName_25 rfl hl (by decide) rfl (fun ls hl => ?_)
        refine lv_iload_n hx hb dX0_isName_26 rfl (lv_at hl 2 rfl) ?_
        refine lv_istore (lv' := [(4, .int (nI a)), (3, .int 0), (0, .ref h0), (1, .int (nI a)), (2, .int (nI b))]) hx hb dX0_isName_27 hl (by decide) rfl (fun ls hl => ?_)
        refine W.widen (k := 0) (n := 0) (by omega) (by omega) ?_
        refine pl_loop (σ := Nat × Nat) A (dC, dI) cs ty L [] F 29 7 (fun (i1, p1) => [(4, .int (nI i1)), (3, .int (nI p1)), (0, .ref h0), (1, .int (nI a)), (2, .int (nI b))]) (fun (i1, p1) => []) (fun (i1, p1) _ => a ≤ i1 ∧ i1 ≤ b ∧ p1 ≤ 20 ∧ nmw f (b - i1) i1 p1 = nmw f (b - a) a 0) (fun (i1, p1) => b - i1) ?_ (a, 0) F (⟨by omega, by omega, by omega, rfl⟩) hO hR _ _ hP hD hS ls (lv_sub hl [0, 1, 2, 3, 4] rfl)
        rintro ⟨i1, p1⟩ F_12 hv_13 hO hR ih_14 H locs hP hD hS ls hl
        have hl : lv_has ls 7 [(4, .int (nI i1)), (3, .int (nI p1)), (0, .ref h0), (1, .int (nI a)), (2, .int (nI b))] := hl
        have hv_13 : a ≤ i1 ∧ i1 ≤ b ∧ p1 ≤ 20 ∧ nmw f (b - i1) i1 p1 = nmw f (b - a) a 0 := hv_13
        refine W.eq (g2 := F0 m 29 ls []) rfl ?_
        obtain rfl : F = F_12 := (funext (fun a => hR a List.not_mem_nil)).symm
        obtain ⟨hv1, hv2, hv3, hv4⟩ := id hv_13
        refine lv_iload hx hb dX0_isName_29 (lv_at hl 0 rfl) ?_
        refine lv_iload_n hx hb dX0_isName_31 rfl (lv_at hl 4 rfl) ?_
        refine lv_icmp_ge (tgt := 126) hx hb dX0_isName_32 (by decide) (fun c_15 => ?_) (fun c_15 => ?_)
        ·
          have hi_16 : b ≤ i1 := leN (N := b) c_15
          obtain rfl : i1 = b := by have h9 : b ≤ i1 := (nI_leI (by omega) (by omega)).mp c_15; omega
          refine lv_iload_n hx hb dX0_isName_126 rfl (lv_at hl 1 rfl) ?_
          refine lv_if_le (tgt := 134) hx hb dX0_isName_127 (by decide) (fun c_17 => ?_) (fun c_17 => ?_)
          ·
            refine lv_iconst (v := 0) hx hb dX0_isName_134 (by decide) ?_
            refine W.widen (k := 0) (n := 0) (by omega) (by omega) ?_
            exact W.zret (v := 0) (ty := .boolean) hx hb hr (by decide) (fun t ht hWm => ⟨⟨0, (), rfl, (nmo c_4 (nm_z hl1 hl2 ((nm_end hv4).trans (decide_eq_false (fun q => absurd ((nI_leI (b := 0) (by omega) (by omega)).mp c_17) (by omega)))))), ⟨F, QT.mk ht hP hD hO hR⟩⟩, hS.F ht⟩) hS.2.2 dX0_isName_135
          ·
            refine lv_iconst (v := 1) hx hb dX0_isName_130 (by decide) ?_
            refine lv_goto (tgt := 135) hx hb dX0_isName_131 (by decide) ?_
            refine W.widen (k := 0) (n := 0) (by omega) (by omega) ?_
            exact W.zret (v := 1) (ty := .boolean) hx hb hr (by decide) (fun t ht hWm => ⟨⟨1, (), rfl, (nmo c_4 (nm_o hl1 hl2 ((nm_end hv4).trans (decide_eq_true (Nat.pos_of_ne_zero (fun q => c_17 (by rw [q]; decide))))))), ⟨F, QT.mk ht hP hD hO hR⟩⟩, hS.F ht⟩) hS.2.2 dX0_isName_135
        ·
          have hi_20 : i1 < b := ltN (N := b) c_15
          have hib : i1 < b := Nat.not_le.mp (fun q => c_15 ((nI_leI (by omega) (by omega)).mpr q))
          refine lv_aload_n hx hb dX0_isName_35 rfl (lv_at hl 2 rfl) ?_
          refine lv_iload hx hb dX0_isName_36 (lv_at hl 0 rfl) ?_
          have hFc := pg_free hD hS hA
          refine va_calli (va_runV (As := [.int (nI i1)]) (rest := []) ⟨hx, hb, hml, hown, hts⟩ (s_X0_at_o l dC dI cs ty L H.size F h0 ρ r0 n z i1 f oo hW hL_h0 hT_h0 hF0 hFr (by omega) (by omega) (by omega)) ⟨callB_of 1 hts (gi kt_21) rfl rfl rfl (hts _ kt_1) (hts _ kt_22) (by decide +kernel) ⟨Nat.le_of_ble_eq_true rfl, Nat.le_of_ble_eq_true rfl⟩, (hts _ kt_23), (hts _ kt_24)⟩ ⟨fun a U g mk q => ⟨q.1, PT.calling q.2⟩, pg_recv hK hP hL_h0 hF0 (q := (RX0, TX0, 3)) rfl, fun U hU hWm => ⟨rfl, PT.mk hU hWm hP hK hD hE hO⟩⟩ rfl rfl hl.1 rfl (lv_room (Nat.le_of_ble_eq_true rfl)) dX0_isName_38 ⟨by show _ + 0 ≤ 0; omega, by show _ + 0 ≤ 0; omega⟩) hS (fun q _ h => hFc q h) hFc (fun r_21 u t H1 locs ht hvm hw hB hz1 hk1 hS => ?_)
          obtain ⟨F_22, hB1⟩ := hB
          obtain rfl : F = F_22 := (funext (fun a => hB1.2.2.2 a List.not_mem_nil)).symm
          obtain ⟨hP, hD, hO, hR⟩ := QT.back hB1 ht hFc hR (fun q h => absurd h List.not_mem_nil)
          generalize H1 = H at hP hS ⊢
          have hw : r_21 = f i1 := hw
          have hw_23 := hw
          subst hw_23
          refine lv_istore (lv' := [(5, .int (f i1)), (4, .int (nI i1)), (3, .int (nI p1)), (0, .ref h0), (1, .int (nI a)), (2, .int (nI b))]) hx hb dX0_isName_41 hl (by decide) rfl (fun ls hl => ?_)
          refine lv_iload hx hb dX0_isName_43 (lv_at hl 0 rfl) ?_
          refine lv_bipush (v := 46) hx hb dX0_isName_45 (by decide) ?_
          refine lv_icmp_ne (tgt := 54) hx hb dX0_isName_47 (by decide) (fun c_24 => ?_) (fun c_24 => ?_)
          ·
            refine lv_iconst (v := 0) hx hb dX0_isName_54 (by decide) ?_
            refine lv_istore (lv' := [(6, .int 0), (5, .int (f i1)), (4, .int (nI i1)), (3, .int (nI p1)), (0, .ref h0), (1, .int (nI a)), (2, .int (nI b))]) hx hb dX0_isName_55 hl (by decide) rfl (fun ls hl => ?_)
            refine lv_iload hx hb dX0_isName_57 (lv_at hl 0 rfl) ?_
            refine lv_if_eq (tgt := 69) hx hb dX0_isName_59 (by decide) (fun c_25 => ?_) (fun c_25 => absurd (by decide) c_25)
            refine lv_iload_n hx hb dX0_isName_69 rfl (lv_at hl 3 rfl) ?_
            refine lv_bipush (v := 20) hx hb dX0_isName_70 (by decide) ?_
            refine lv_icmp_eq (tgt := 105) hx hb dX0_isName_72 (by decide) (fun c_26 => ?_) (fun c_26 => ?_)
            ·
              refine lv_iconst (v := 0) hx hb dX0_isName_105 (by decide) ?_
              refine W.widen (k := 0) (n := 0) (by omega) (by omega) ?_
              exact W.zret (v := 0) (ty := .boolean) hx hb hr (by decide) (fun t ht hWm => ⟨⟨0, (), rfl, (nmo c_4 (nm_z hl1 hl2 (nm_bad hv4 hib c_24 (Or.inl ((nI_eq (a := p1) (b := 20) (by omega) (by omega)).mp c_26))))), ⟨F, QT.mk ht hP hD hO hR⟩⟩, hS.F ht⟩) hS.2.2 dX0_isName_106
            ·
              refine lv_iload hx hb dX0_isName_75 (lv_at hl 1 rfl) ?_
              have hFc := pg_free hD hS hA
              refine va_calli (va_runS (As := [.int (f i1)]) (rest := []) ⟨hx, hb, hml, hown, hts⟩ (s_X0_isSmall_e l dC dI cs ty L H.size F (f i1) hW ) ⟨callB_of 1 hts (gi kt_4) rfl rfl rfl (hts _ kt_1) (hts _ kt_5) (by decide +kernel) ⟨Nat.le_of_ble_eq_true rfl, Nat.le_of_ble_eq_true rfl⟩, (hts _ kt_6)⟩ ⟨fun a U g mk q => ⟨q.1, PT.calling q.2⟩, fun U hU hWm => ⟨rfl, PT.mk hU hWm hP hK hD hE hO⟩⟩ rfl rfl hl.1 rfl (lv_room (Nat.le_of_ble_eq_true rfl)) dX0_isName_77 ⟨by show _ + 0 ≤ 0; omega, by show _ + 0 ≤ 0; omega⟩) hS (fun q _ h => hFc q h) hFc (fun r_29 u t H1 locs ht hvm hw hB hz1 hk1 hS => ?_)
              obtain ⟨F_30, hB1⟩ := hB
              obtain rfl : F = F_30 := (funext (fun a => hB1.2.2.2 a List.not_mem_nil)).symm
              obtain ⟨hP, hD, hO, hR⟩ := QT.back hB1 ht hFc hR (fun q h => absurd h List.not_mem_nil)
              generalize H1 = H at hP hS ⊢
              have hw : r_29 = (if 97 ≤ (f i1) ∧ (f i1) ≤ 122 then 1 else 0) := hw
              have hw_31 := hw
              refine lv_if_ne (tgt := 107) hx hb dX0_isName_80 (by decide) (fun c_32 => ?_) (fun c_32 => ?_)
              ·
                refine lv_iload hx hb dX0_isName_107 (lv_at hl 0 rfl) ?_
                refine lv_if_eq (tgt := 116) hx hb dX0_isName_109 (by decide) (fun c_33 => ?_) (fun c_33 => absurd (by decide) c_33)
                refine lv_iload_n hx hb dX0_isName_116 rfl (lv_at hl 3 rfl) ?_
                refine lv_iconst (v := 1) hx hb dX0_isName_117 (by decide) ?_
                refine lv_iadd hx hb dX0_isName_118 ?_
                refine lv_topi (fun x_34 ex_34 => ?_)
                obtain rfl : x_34 = (nI (p1 + 1)) := ex_34.trans (nI_1 p1)
                refine lv_istore_n (lv' := [(3, .int (nI (p1 + 1))), (6, .int 0), (5, .int (f i1)), (4, .int (nI i1)), (0, .ref h0), (1, .int (nI a)), (2, .int (nI b))]) hx hb dX0_isName_119 rfl hl (by decide) rfl (fun ls hl => ?_)
                refine lv_iinc (v := (nI (i1 + 1))) (lv' := [(4, .int (nI (i1 + 1))), (3, .int (nI (p1 + 1))), (6, .int 0), (5, .int (f i1)), (0, .ref h0), (1, .int (nI a)), (2, .int (nI b))]) hx hb dX0_isName_120 hl (k := 3) rfl (nI_1 _) (by decide) rfl (fun ls hl => ?_)
                refine lv_goto (tgt := 29) hx hb dX0_isName_123 (by decide) ?_
                refine W.widen (k := 0) (n := 0) (by omega) (by omega) ?_
                exact ih_14 ((i1 + 1), (p1 + 1)) F (⟨by omega, by omega, by have h9 : p1 ≠ 20 := (fun q => c_26 (by rw [q]; rfl)); omega, nm_chr hv4 hib c_24 (fun q => c_26 (by rw [q]; rfl)) (decide_eq_true (Or.inl (ifb1 hw_31 c_32)))⟩) (by show b - (i1 + 1) < b - i1; omega) hO hR _ _ hP hD hS ls (lv_sub hl [0, 1, 4, 5, 6] rfl)
              ·
                refine lv_iload hx hb dX0_isName_83 (lv_at hl 1 rfl) ?_
                have hFc := pg_free hD hS hA
                refine va_calli (va_runS (As := [.int (f i1)]) (rest := []) ⟨hx, hb, hml, hown, hts⟩ (s_X0_isDigit_e l dC dI cs ty L H.size F (f i1) hW ) ⟨callB_of 1 hts (gi kt_7) rfl rfl rfl (hts _ kt_1) (hts _ kt_8) (by decide +kernel) ⟨Nat.le_of_ble_eq_true rfl, Nat.le_of_ble_eq_true rfl⟩, (hts _ kt_9)⟩ ⟨fun a U g mk q => ⟨q.1, PT.calling q.2⟩, fun U hU hWm => ⟨rfl, PT.mk hU hWm hP hK hD hE hO⟩⟩ rfl rfl hl.1 rfl (lv_room (Nat.le_of_ble_eq_true rfl)) dX0_isName_85 ⟨by show _ + 0 ≤ 0; omega, by show _ + 0 ≤ 0; omega⟩) hS (fun q _ h => hFc q h) hFc (fun r_35 u t H1 locs ht hvm hw hB hz1 hk1 hS => ?_)
                obtain ⟨F_36, hB1⟩ := hB
                obtain rfl : F = F_36 := (funext (fun a => hB1.2.2.2 a List.not_mem_nil)).symm
                obtain ⟨hP, hD, hO, hR⟩ := QT.back hB1 ht hFc hR (fun q h => absurd h List.not_mem_nil)
                generalize H1 = H at hP hS ⊢
                have hw : r_35 = (if 48 ≤ (f i1) ∧ (f i1) ≤ 57 then 1 else 0) := hw
                have hw_37 := hw
                refine lv_if_ne (tgt := 107) hx hb dX0_isName_88 (by decide) (fun c_38 => ?_) (fun c_38 => ?_)
                ·
                  refine lv_iload hx hb dX0_isName_107 (lv_at hl 0 rfl) ?_
                  refine lv_if_eq (tgt := 116) hx hb dX0_isName_109 (by decide) (fun c_39 => ?_) (fun c_39 => absurd (by decide) c_39)
                  refine lv_iload_n hx hb dX0_isName_116 rfl (lv_at hl 3 rfl) ?_
                  refine lv_iconst (v := 1) hx hb dX0_isName_117 (by decide) ?_
                  refine lv_iadd hx hb dX0_isName_118 ?_
                  refine lv_topi (fun x_40 ex_40 => ?_)
                  obtain rfl : x_40 = (nI (p1 + 1)) := ex_40.trans (nI_1 p1)
                  refine lv_istore_n (lv' := [(3, .int (nI (p1 + 1))), (6, .int 0), (5, .int (f i1)), (4, .int (nI i1)), (0, .ref h0), (1, .int (nI a)), (2, .int (nI b))]) hx hb dX0_isName_119 rfl hl (by decide) rfl (fun ls hl => ?_)
                  refine lv_iinc (v := (nI (i1 + 1))) (lv' := [(4, .int (nI (i1 + 1))), (3, .int (nI (p1 + 1))), (6, .int 0), (5, .int (f i1)), (0, .ref h0), (1, .int (nI a)), (2, .int (nI b))]) hx hb dX0_isName_120 hl (k := 3) rfl (nI_1 _) (by decide) rfl (fun ls hl => ?_)
                  refine lv_goto (tgt := 29) hx hb dX0_isName_123 (by decide) ?_
                  refine W.widen (k := 0) (n := 0) (by omega) (by omega) ?_
                  exact ih_14 ((i1 + 1), (p1 + 1)) F (⟨by omega, by omega, by have h9 : p1 ≠ 20 := (fun q => c_26 (by rw [q]; rfl)); omega, nm_chr hv4 hib c_24 (fun q => c_26 (by rw [q]; rfl)) (decide_eq_true (Or.inr (Or.inl (ifb1 hw_37 c_38))))⟩) (by show b - (i1 + 1) < b - i1; omega) hO hR _ _ hP hD hS ls (lv_sub hl [0, 1, 4, 5, 6] rfl)
                ·
                  refine lv_iload hx hb dX0_isName_91 (lv_at hl 1 rfl) ?_
                  refine lv_bipush (v := 45) hx hb dX0_isName_93 (by decide) ?_
                  refine lv_icmp_eq (tgt := 107) hx hb dX0_isName_95 (by decide) (fun c_41 => ?_) (fun c_41 => ?_)
                  ·
                    refine lv_iload hx hb dX0_isName_107 (lv_at hl 0 rfl) ?_
                    refine lv_if_eq (tgt := 116) hx hb dX0_isName_109 (by decide) (fun c_42 => ?_) (fun c_42 => absurd (by decide) c_42)
                    refine lv_iload_n hx hb dX0_isName_116 rfl (lv_at hl 3 rfl) ?_
                    refine lv_iconst (v := 1) hx hb dX0_isName_117 (by decide) ?_
                    refine lv_iadd hx hb dX0_isName_118 ?_
                    refine lv_topi (fun x_43 ex_43 => ?_)
                    obtain rfl : x_43 = (nI (p1 + 1)) := ex_43.trans (nI_1 p1)
                    refine lv_istore_n (lv' := [(3, .int (nI (p1 + 1))), (6, .int 0), (5, .int (f i1)), (4, .int (nI i1)), (0, .ref h0), (1, .int (nI a)), (2, .int (nI b))]) hx hb dX0_isName_119 rfl hl (by decide) rfl (fun ls hl => ?_)
                    refine lv_iinc (v := (nI (i1 + 1))) (lv' := [(4, .int (nI (i1 + 1))), (3, .int (nI (p1 + 1))), (6, .int 0), (5, .int (f i1)), (0, .ref h0), (1, .int (nI a)), (2, .int (nI b))]) hx hb dX0_isName_120 hl (k := 3) rfl (nI_1 _) (by decide) rfl (fun ls hl => ?_)
                    refine lv_goto (tgt := 29) hx hb dX0_isName_123 (by decide) ?_
                    refine W.widen (k := 0) (n := 0) (by omega) (by omega) ?_
                    exact ih_14 ((i1 + 1), (p1 + 1)) F (⟨by omega, by omega, by have h9 : p1 ≠ 20 := (fun q => c_26 (by rw [q]; rfl)); omega, nm_chr hv4 hib c_24 (fun q => c_26 (by rw [q]; rfl)) (decide_eq_true (Or.inr (Or.inr (Or.inl c_41))))⟩) (by show b - (i1 + 1) < b - i1; omega) hO hR _ _ hP hD hS ls (lv_sub hl [0, 1, 4, 5, 6] rfl)
                  ·
                    refine lv_iload hx hb dX0_isName_98 (lv_at hl 1 rfl) ?_
                    refine lv_bipush (v := 95) hx hb dX0_isName_100 (by decide) ?_
                    refine lv_icmp_eq (tgt := 107) hx hb dX0_isName_102 (by decide) (fun c_44 => ?_) (fun c_44 => ?_)
                    ·
                      refine lv_iload hx hb dX0_isName_107 (lv_at hl 0 rfl) ?_
                      refine lv_if_eq (tgt := 116) hx hb dX0_isName_109 (by decide) (fun c_45 => ?_) (fun c_45 => absurd (by decide) c_45)
                      refine lv_iload_n hx hb dX0_isName_116 rfl (lv_at hl 3 rfl) ?_
                      refine lv_iconst (v := 1) hx hb dX0_isName_117 (by decide) ?_
                      refine lv_iadd hx hb dX0_isName_118 ?_
                      refine lv_topi (fun x_46 ex_46 => ?_)
                      obtain rfl : x_46 = (nI (p1 + 1)) := ex_46.trans (nI_1 p1)
                      refine lv_istore_n (lv' := [(3, .int (nI (p1 + 1))), (6, .int 0), (5, .int (f i1)), (4, .int (nI i1)), (0, .ref h0), (1, .int (nI a)), (2, .int (nI b))]) hx hb dX0_isName_119 rfl hl (by decide) rfl (fun ls hl => ?_)
                      refine lv_iinc (v := (nI (i1 + 1))) (lv' := [(4, .int (nI (i1 + 1))), (3, .int (nI (p1 + 1))), (6, .int 0), (5, .int (f i1)), (0, .ref h0), (1, .int (nI a)), (2, .int (nI b))]) hx hb dX0_isName_120 hl (k := 3) rfl (nI_1 _) (by decide) rfl (fun ls hl => ?_)
                      refine lv_goto (tgt := 29) hx hb dX0_isName_123 (by decide) ?_
                      refine W.widen (k := 0) (n := 0) (by omega) (by omega) ?_
                      exact ih_14 ((i1 + 1), (p1 + 1)) F (⟨by omega, by omega, by have h9 : p1 ≠ 20 := (fun q => c_26 (by rw [q]; rfl)); omega, nm_chr hv4 hib c_24 (fun q => c_26 (by rw [q]; rfl)) (decide_eq_true (Or.inr (Or.inr (Or.inr c_44))))⟩) (by show b - (i1 + 1) < b - i1; omega) hO hR _ _ hP hD hS ls (lv_sub hl [0, 1, 4, 5, 6] rfl)
                    ·
                      refine lv_iconst (v := 0) hx hb dX0_isName_105 (by decide) ?_
                      refine W.widen (k := 0) (n := 0) (by omega) (by omega) ?_
                      exact W.zret (v := 0) (ty := .boolean) hx hb hr (by decide) (fun t ht hWm => ⟨⟨0, (), rfl, (nmo c_4 (nm_z hl1 hl2 (nm_bad hv4 hib c_24 (Or.inr (decide_eq_false (fun q => q.elim (ifb0 hw_31 c_32) (fun q => q.elim (ifb0 hw_37 c_38) (fun q => q.elim (c_41) (c_44))))))))), ⟨F, QT.mk ht hP hD hO hR⟩⟩, hS.F ht⟩) hS.2.2 dX0_isName_106
          ·
            refine lv_iconst (v := 1) hx hb dX0_isName_50 (by decide) ?_
            refine lv_goto (tgt := 55) hx hb dX0_isName_51 (by decide) ?_
            refine lv_istore (lv' := [(6, .int 1), (5, .int (f i1)), (4, .int (nI i1)), (3, .int (nI p1)), (0, .ref h0), (1, .int (nI a)), (2, .int (nI b))]) hx hb dX0_isName_55 hl (by decide) rfl (fun ls hl => ?_)
            refine lv_iload hx hb dX0_isName_57 (lv_at hl 0 rfl) ?_
            refine lv_if_eq (tgt := 69) hx hb dX0_isName_59 (by decide) (fun c_47 => absurd c_47 (by decide)) (fun c_47 => ?_)
            refine lv_iload_n hx hb dX0_isName_62 rfl (lv_at hl 3 rfl) ?_
            refine lv_if_ne (tgt := 107) hx hb dX0_isName_63 (by decide) (fun c_48 => ?_) (fun c_48 => ?_)
            ·
              refine lv_iload hx hb dX0_isName_107 (lv_at hl 0 rfl) ?_
              refine lv_if_eq (tgt := 116) hx hb dX0_isName_109 (by decide) (fun c_50 => absurd c_50 (by decide)) (fun c_50 => ?_)
              refine lv_iconst (v := 0) hx hb dX0_isName_112 (by decide) ?_
              refine lv_goto (tgt := 119) hx hb dX0_isName_113 (by decide) ?_
              refine lv_istore_n (lv' := [(3, .int 0), (6, .int 1), (5, .int (f i1)), (4, .int (nI i1)), (0, .ref h0), (1, .int (nI a)), (2, .int (nI b))]) hx hb dX0_isName_119 rfl hl (by decide) rfl (fun ls hl => ?_)
              refine lv_iinc (v := (nI (i1 + 1))) (lv' := [(4, .int (nI (i1 + 1))), (3, .int 0), (6, .int 1), (5, .int (f i1)), (0, .ref h0), (1, .int (nI a)), (2, .int (nI b))]) hx hb dX0_isName_120 hl (k := 3) rfl (nI_1 _) (by decide) rfl (fun ls hl => ?_)
              refine lv_goto (tgt := 29) hx hb dX0_isName_123 (by decide) ?_
              refine W.widen (k := 0) (n := 0) (by omega) (by omega) ?_
              exact ih_14 ((i1 + 1), 0) F (⟨by omega, by omega, by omega, nm_dot hv4 hib c_24 (fun q => c_48 (by rw [q]; rfl))⟩) (by show b - (i1 + 1) < b - i1; omega) hO hR _ _ hP hD hS ls (lv_sub hl [0, 1, 4, 5, 6] rfl)
            ·
              refine lv_goto (tgt := 105) hx hb dX0_isName_66 (by decide) ?_
              refine lv_iconst (v := 0) hx hb dX0_isName_105 (by decide) ?_
              refine W.widen (k := 0) (n := 0) (by omega) (by omega) ?_
              exact W.zret (v := 0) (ty := .boolean) hx hb hr (by decide) (fun t ht hWm => ⟨⟨0, (), rfl, (nmo c_4 (nm_z hl1 hl2 (nm_dot0 hv4 hib c_24 ((nI_eq (a := p1) (b := 0) (by omega) (by omega)).mp c_48)))), ⟨F, QT.mk ht hP hD hO hR⟩⟩, hS.F ht⟩) hS.2.2 dX0_isName_106
      ·
        have hl2 : ¬ b - a ≤ 60 := fun q => c_10 ((nI_leI (b := 60) (by omega) (by omega)).mpr q)
        refine lv_iconst (v := 0) hx hb dX0_isName_22 (by decide) ?_
        refine W.widen (k := 0) (n := 0) (by omega) (by omega) ?_
        exact W.zret (v := 0) (ty := .boolean) hx hb hr (by decide) (fun t ht hWm => ⟨⟨0, (), rfl, (nmo c_4 (nm_len (fun q => by omega))), ⟨F, QT.mk ht hP hD hO hR⟩⟩, hS.F ht⟩) hS.2.2 dX0_isName_23
set_option maxHeartbeats 4000000 in
set_option maxRecDepth 100000 in
theorem s_X0_add_w (l : Launch) (dC : Nat → ClassId) (dI : Nat → Nat → Nat) (cs : Nat → ClassId) (ty : TyM) (L : List Nat) (sz : Nat) (F : Nat → va_E) (h0 : Nat) (ρ : Nat) (r0 : Nat) (n : Nat) (y : Nat) (ka : Nat) (kk : Nat) (f : Nat → Int32) (fs : Nat → Int32) (oo : Int32) (x1 : Int32) (hW : WT ty L) (hL_h0 : h0 ∈ L) (hT_h0 : ty h0 = (0, ρ, [r0, n])) (hF0 : F h0 = .inr (0, [.ref r0, .int (nI y), .int oo])) (hFr : F r0 = .inl (cs 16, n, .inl f)) (hm9 : n ≤ 10000) (hx1 : x1 = smv (fs (ka + kk))) (hT : DMA fs ka kk n y oo f) : Met l yX0_add (.code yX0_add cX0_add 2 none :: tb) ({ frames := 0, cells := 0, slots := 0, locals := 0 }) (va_Pc [.ref h0, .int x1] (PT (dC, dI) cs ty L F sz)) (va_Qv (fun _ : Unit => True) (fun _ T9 => ∃ F2 : Nat → va_E, ∃ y2 : Nat, ∃ oo2 : Int32, ∃ f2 : Nat → Int32, QT (dC, dI) cs ty L [ρ] F F2 (va_A (va_pl L F) sz) T9 ∧ F2 h0 = .inr (0, [.ref r0, .int (nI y2), .int oo2]) ∧ F2 r0 = .inl (cs 16, n, .inl f2) ∧ DMA fs ka (kk + 1) n y2 oo2 f2) (va_A (va_pl L F) sz)) 0 0 (va_A (va_pl L F) sz) := by
  refine Met.ofW (cc := cX0_add) (maxL := 2) (ret := none) (by decide) rfl ?_
  intro p e s m args below meth c s₁ B hml hv
  obtain ⟨rfl, hsz, hP, hK, hD0, hE, hO⟩ := hv
  have hx := B.exec
  have hb := B.bytes
  have hr := B.returns
  have hts : ∀ w ∈ tb, w.before _ s = true := fun w h => atoms_spec (ws := .code yX0_add cX0_add 2 none :: tb) B.pre w (List.mem_cons_of_mem _ h)
  have hown : s.vm.findClass RX0 = some m.cls := findClass_of_methodNamed B.named
  have hlocks := B.notSynchronized
  subst hsz
  have hD := hD0.self (sz := s.heap.size)
  generalize hAe : va_A (va_pl L F) s.heap.size = A at hD ⊢
  have hA : ∀ q : Nat, s.heap.size ≤ q → A q := fun q h => by rw [← hAe]; exact Or.inr h
  have hS : va_S A s.heap s.heap [] := va_S.rf
  have hR : FR ty [ρ] F F := FR.refl
  have hl := lv_entry ([.ref h0, .int x1]) (n := 2) (Nat.le_of_ble_eq_true rfl)
  rw [lg_entry_eq]
  generalize (lg_sl ([.ref h0, .int x1]) ++ List.replicate (2 - (lg_sl ([.ref h0, .int x1])).length) Slot.unset).toArray = ls at hl ⊢
  have hl : lv_has ls 2 [(0, .ref h0), (1, .int x1)] := hl
  obtain ⟨hi_1, ht_2, hq_3⟩ := hW.bytes hL_h0 hT_h0
  have hyn : y ≤ n := by have h9 := hT.1; omega
  have hoo : oo = 0 ∨ oo = 1 := by rw [hT.2.1]; split <;> simp
  refine lv_aload_n hx hb dX0_add_0 rfl (lv_at hl 0 rfl) ?_
  refine pg_get (ci := 0) (v := .int (nI y)) (C := RX0) (T := TX0) (N := 3) hx hb hts it_0 hown hK hP hL_h0 hF0 rfl 1 (by decide) (hts _ kt_10) (fun _ h9 => h9) rfl dX0_add_1 ?_
  refine lv_aload_n hx hb dX0_add_4 rfl (lv_at hl 0 rfl) ?_
  refine pg_get (ci := 0) (v := .ref r0) (C := RX0) (T := TX0) (N := 3) hx hb hts it_0 hown hK hP hL_h0 hF0 rfl 0 (by decide) (hts _ kt_12) (fun _ h9 => h9) rfl dX0_add_5 ?_
  refine pg_alen (v := (nI n)) hx hb hK hP hi_1 0 hFr rfl rfl dX0_add_8 ?_
  refine lv_icmp_ge (tgt := 35) hx hb dX0_add_9 (by decide) (fun c_4 => ?_) (fun c_4 => ?_)
  ·
    have hi_5 : n ≤ y := leN (N := n) c_4
    have hny : n ≤ y := (nI_leI (by omega) (by omega)).mp c_4
    refine lv_aload_n hx hb dX0_add_35 rfl (lv_at hl 0 rfl) ?_
    refine lv_iconst (v := 1) hx hb dX0_add_36 (by decide) ?_
    refine pg_put (ci := 0) (v := .int 1) (ty := .boolean) (C := RX0) (T := TX0) (N := 3) hx hb hts it_0 tyX0 tyX0_ok nmX0 hown hK hP hD hS hL_h0 hF0 rfl 2 (by decide) (hts _ kt_11) (fun _ h9 => h9) rfl (by decide +kernel) (rfl) (rfl) (Nat.le_of_ble_eq_true rfl) dX0_add_37 (fun H locs hP hD hS => ?_)
    obtain ⟨F_6, he_7, hP, hD, hO, hR⟩ : ∃ G, G = va_up F h0 (.inr (0, [.ref r0, .int (nI y), .int 1])) ∧ va_P (dC, dI) vwCl (va_pl L G) H ∧ va_D A (va_pl L G) ∧ OK cs ty L G ∧ FR ty [ρ] F G := ⟨_, rfl, hP, hD, hO.up (sh.bytes hT_h0 ⟨y, 1, rfl, (by first | omega | assumption | exact Or.inl rfl | exact Or.inr rfl), (by first | omega | assumption | exact Or.inl rfl | exact Or.inr rfl)⟩), hR.up hT_h0 (by simp)⟩
    have hF_8 : F_6 h0 = .inr (0, [.ref r0, .int (nI y), .int 1]) := by rw [he_7]; exact up_self
    have hF_9 : F_6 r0 = .inl (cs 16, n, .inl f) := by rw [he_7, up_ne (ne_ty ht_2 hT_h0 (by simp))]; exact hFr
    refine W.widen (k := 0) (n := 0) (by omega) (by omega) ?_
    exact W.vret hx hb hr (fun t ht hWm => ⟨⟨(), rfl, trivial, ⟨F_6, y, 1, f, QT.mk ht hP hD hO hR, hF_8, hF_9, (dma_o hT hny)⟩⟩, hS.F ht⟩) hS.2.2 dX0_add_40
  ·
    have hi_10 : y < n := ltN (N := n) c_4
    have hny : y < n := Nat.not_le.mp (fun q => c_4 ((nI_leI (by omega) (by omega)).mpr q))
    refine lv_aload_n hx hb dX0_add_12 rfl (lv_at hl 0 rfl) ?_
    refine pg_get (ci := 0) (v := .ref r0) (C := RX0) (T := TX0) (N := 3) hx hb hts it_0 hown hK hP hL_h0 hF0 rfl 0 (by decide) (hts _ kt_12) (fun _ h9 => h9) rfl dX0_add_13 ?_
    refine lv_aload_n hx hb dX0_add_16 rfl (lv_at hl 0 rfl) ?_
    refine pg_get (ci := 0) (v := .int (nI y)) (C := RX0) (T := TX0) (N := 3) hx hb hts it_0 hown hK hP hL_h0 hF0 rfl 1 (by decide) (hts _ kt_10) (fun _ h9 => h9) rfl dX0_add_17 ?_
    refine lv_iload_n hx hb dX0_add_20 rfl (lv_at hl 1 rfl) ?_
    refine pg_iast hx hb hK hP hD hS hi_1 0 hFr rfl (vp_in_nI (by omega) (by omega)) dX0_add_21 (fun H locs hP hD hS => ?_)
    obtain ⟨F_11, he_12, hP, hD, hO, hR⟩ : ∃ G, G = va_up F r0 (.inl (cs 16, n, .inl (upd f ((nI y)).toNatClampNeg (x1)))) ∧ va_P (dC, dI) vwCl (va_pl L G) H ∧ va_D A (va_pl L G) ∧ OK cs ty L G ∧ FR ty [ρ] F G := ⟨_, rfl, hP, hD, hO.up (sh.ints ht_2 ⟨_, rfl⟩), hR.up ht_2 (by simp)⟩
    have hF_13 : F_11 r0 = .inl (cs 16, n, .inl (upd f ((nI y)).toNatClampNeg (x1))) := by rw [he_12]; exact up_self
    have hF_14 : F_11 h0 = .inr (0, [.ref r0, .int (nI y), .int oo]) := by rw [he_12, up_ne (ne_ty hT_h0 ht_2 (by simp))]; exact hF0
    have hF_15 : F_11 r0 = .inl (cs 16, n, .inl (upd f y x1)) := by have h9 := hF_13; rwa [nI_clamp (by omega)] at h9
    refine lv_aload_n hx hb dX0_add_22 rfl (lv_at hl 0 rfl) ?_
    refine lv_dup hx hb dX0_add_23 rfl ?_
    refine pg_get (ci := 0) (v := .int (nI y)) (C := RX0) (T := TX0) (N := 3) hx hb hts it_0 hown hK hP hL_h0 hF_14 rfl 1 (by decide) (hts _ kt_10) (fun _ h9 => h9) rfl dX0_add_24 ?_
    refine lv_iconst (v := 1) hx hb dX0_add_27 (by decide) ?_
    refine lv_iadd hx hb dX0_add_28 ?_
    refine lv_topi (fun x_16 ex_16 => ?_)
    obtain rfl : x_16 = (nI (y + 1)) := ex_16.trans (nI_1 y)
    refine pg_put (ci := 0) (v := .int (nI (y + 1))) (ty := .int) (C := RX0) (T := TX0) (N := 3) hx hb hts it_0 tyX0 tyX0_ok nmX0 hown hK hP hD hS hL_h0 hF_14 rfl 1 (by decide) (hts _ kt_10) (fun _ h9 => h9) rfl (by decide +kernel) (rfl) (rfl) (Nat.le_of_ble_eq_true rfl) dX0_add_29 (fun H locs hP hD hS => ?_)
    obtain ⟨F_17, he_18, hP, hD, hO, hR⟩ : ∃ G, G = va_up F_11 h0 (.inr (0, [.ref r0, .int (nI (y + 1)), .int oo])) ∧ va_P (dC, dI) vwCl (va_pl L G) H ∧ va_D A (va_pl L G) ∧ OK cs ty L G ∧ FR ty [ρ] F G := ⟨_, rfl, hP, hD, hO.up (sh.bytes hT_h0 ⟨(y + 1), oo, rfl, (by first | omega | assumption | exact Or.inl rfl | exact Or.inr rfl), (by first | omega | assumption | exact Or.inl rfl | exact Or.inr rfl)⟩), hR.up hT_h0 (by simp)⟩
    have hF_19 : F_17 h0 = .inr (0, [.ref r0, .int (nI (y + 1)), .int oo]) := by rw [he_18]; exact up_self
    have hF_20 : F_17 r0 = .inl (cs 16, n, .inl (upd f y x1)) := by rw [he_18, up_ne (ne_ty ht_2 hT_h0 (by simp))]; exact hF_15
    refine lv_goto (tgt := 40) hx hb dX0_add_32 (by decide) ?_
    refine W.widen (k := 0) (n := 0) (by omega) (by omega) ?_
    exact W.vret hx hb hr (fun t ht hWm => ⟨⟨(), rfl, trivial, ⟨F_17, (y + 1), oo, (upd f y x1), QT.mk ht hP hD hO hR, hF_19, hF_20, (by rw [hx1]; exact dma_a hT hny)⟩⟩, hS.F ht⟩) hS.2.2 dX0_add_40
theorem nm_src {V : List Nat} {y : Nat} {f : Nat → Int32} (h : SRC V y f) (hn : NM f 0 y = true) : NM (faU V) 0 V.length = true := by
  rw [h.1, ← hn]
  exact NM_cg (fun j _ hj => by
    rw [h.2.1 j hj]
    exact ⟨rfl, Iff.rfl⟩)
theorem nmb {r : Int32} {P : Prop} [Decidable P] (h : r = (if P then 1 else 0)) : r = 0 ∨ r = 1 := by
  rw [h]
  by_cases c : P
  · exact Or.inr (if_pos c)
  · exact Or.inl (if_neg c)
set_option maxHeartbeats 4000000 in
set_option maxRecDepth 100000 in
theorem s_X5_readDomain_e (l : Launch) (dC : Nat → ClassId) (dI : Nat → Nat → Nat) (cs : Nat → ClassId) (ty : TyM) (L : List Nat) (sz : Nat) (F : Nat → va_E) (h0 : Nat) (ρ : Nat) (d : Nat) (δ : Nat) (ea : Nat) (w0 : Nat) (w1 : Nat) (rc : Nat) (rx : Nat) (ry0 : Nat) (ry1 : Nat) (ry2 : Nat) (rw0 : Nat) (jf : Nat) (kc : Nat) (kd : Nat) (mg : Nat) (μ : Nat) (mx : Nat) (m0 : Nat) (m1 : Nat) (m2 : Nat) (rm : Nat) (zm : Nat) (nn : Nat) (fm : Nat → Int32) (e0 : Nat → Int32) (e1 : Nat → Int32) (e2 : Nat → Int32) (bb : Int32) (hW : WT ty L) (hL_h0 : h0 ∈ L) (hT_h0 : ty h0 = (5, ρ, [d, δ, ea, w0, w1, rc, rx, ry0, ry1, ry2])) (hL_w0 : w0 ∈ L) (hT_w0 : ty w0 = (0, ρ + 1, [rw0, 60])) (hL_mg : mg ∈ L) (hT_mg : ty mg = (4, μ, [mx, m0, m1, m2])) (hL_mx : mx ∈ L) (hT_mx : ty mx = (0, μ + 1, [rm, 3000])) (hFe : F mg = .inr (4, [.ref mx, .ref m0, .ref m1, .ref m2, .int (nI nn), .int bb])) (hFx : F mx = .inr (0, [.ref rm, .int (nI zm), .int 0])) (hFrm : F rm = .inl (cs 16, 3000, .inl fm)) (hFm0 : F m0 = .inl (cs 16, 20, .inl e0)) (hFm1 : F m1 = .inl (cs 16, 20, .inl e1)) (hFm2 : F m2 = .inl (cs 16, 20, .inl e2)) (hz3 : zm ≤ 3000) (hn20 : nn ≤ 20) (hjf : jf < nn) (hec : e1 jf = nI kc) (hed : e2 jf = nI kd) (hcd : kc < kd) (hdz : kd ≤ zm) (hcl : fm kc = 58) (hmu : μ ≠ ρ + 1 ∧ μ + 1 ≠ ρ + 1 ∧ μ + 2 ≠ ρ + 1 ∧ μ + 3 ≠ ρ + 1) : Met l yX5_readDomain (.code yX5_readDomain cX5_readDomain 7 (some .boolean) :: tb) ({ frames := 2, cells := 0, slots := 0, locals := 47 }) (va_Pc [.ref h0, .ref mg, .int (nI jf)] (PT (dC, dI) cs ty L F sz)) (va_Qi (fun (r : Int32) (gU : Option (List Nat)) => DMP (TC fm zm) kc kd r gU) (fun (gU : Option (List Nat)) T9 => ∃ F2 : Nat → va_E, QT (dC, dI) cs ty L [ρ + 1] F F2 (va_A (va_pl L F) sz) T9 ∧ (∀ V, gU = some V → TXE cs F2 w0 60 V ∧ NM (faU V) 0 V.length = true)) (va_A (va_pl L F) sz)) 0 0 (va_A (va_pl L F) sz) := by
  refine Met.ofW (cc := cX5_readDomain) (maxL := 7) (ret := (some .boolean)) (by decide) rfl ?_
  intro p e s m args below meth c s₁ B hml hv
  obtain ⟨rfl, hsz, hP, hK, hD0, hE, hO⟩ := hv
  have hx := B.exec
  have hb := B.bytes
  have hr := B.returns
  have hts : ∀ w ∈ tb, w.before _ s = true := fun w h => atoms_spec (ws := .code yX5_readDomain cX5_readDomain 7 (some .boolean) :: tb) B.pre w (List.mem_cons_of_mem _ h)
  have hown : s.vm.findClass RX5 = some m.cls := findClass_of_methodNamed B.named
  have hlocks := B.notSynchronized
  subst hsz
  have hD := hD0.self (sz := s.heap.size)
  generalize hAe : va_A (va_pl L F) s.heap.size = A at hD ⊢
  have hA : ∀ q : Nat, s.heap.size ≤ q → A q := fun q h => by rw [← hAe]; exact Or.inr h
  have hS : va_S A s.heap s.heap [] := va_S.rf
  have hR : FR ty [ρ + 1] F F := FR.refl
  have hl := lv_entry ([.ref h0, .ref mg, .int (nI jf)]) (n := 7) (Nat.le_of_ble_eq_true rfl)
  rw [lg_entry_eq]
  generalize (lg_sl ([.ref h0, .ref mg, .int (nI jf)]) ++ List.replicate (7 - (lg_sl ([.ref h0, .ref mg, .int (nI jf)])).length) Slot.unset).toArray = ls at hl ⊢
  have hl : lv_has ls 7 [(0, .ref h0), (1, .ref mg), (2, .int (nI jf))] := hl
  obtain ⟨hi_1, ht_2, _, _, hi_3, ⟨r_4, ht_5⟩, hi_6, ht_7⟩ := hW.pol hL_h0 hT_h0
  obtain ⟨hi_8, ht_9, hq_10⟩ := hW.bytes hL_w0 hT_w0
  obtain ⟨_, hi_11, hi_12, hi_13, _, ht_14, ht_15, ht_16⟩ := hW.msg hL_mg hT_mg
  obtain ⟨hi_17, ht_18, hq_19⟩ := hW.bytes hL_mx hT_mx
  obtain ⟨hm0, hm1, hm2, hm3⟩ := hmu
  refine lv_aload_n hx hb dX5_readDomain_0 rfl (lv_at hl 1 rfl) ?_
  refine pg_getN (ci := 4) (v := .ref m2) (C := RX4) (T := TX4) (N := 6) hx hb hts it_4 hown hK hP hL_mg hFe rfl 3 (by decide) (hE.nest kn_14) (fun _ h9 => h9) rfl dX5_readDomain_1 ?_
  refine lv_iload_n hx hb dX5_readDomain_4 rfl (lv_at hl 2 rfl) ?_
  refine pg_iald hx hb hK hP hi_13 0 hFm2 rfl (vp_in_nI (by omega) (by omega)) dX5_readDomain_5 ?_
  refine lv_topi (fun x_20 ex_20 => ?_)
  obtain rfl : x_20 = (nI kd) := ex_20.trans (((congrArg e2 (nI_clamp (by omega))).trans hed))
  refine lv_istore_n (lv' := [(3, .int (nI kd)), (0, .ref h0), (1, .ref mg), (2, .int (nI jf))]) hx hb dX5_readDomain_6 rfl hl (by decide) rfl (fun ls hl => ?_)
  refine lv_aload_n hx hb dX5_readDomain_7 rfl (lv_at hl 2 rfl) ?_
  refine pg_getN (ci := 4) (v := .ref mx) (C := RX4) (T := TX4) (N := 6) hx hb hts it_4 hown hK hP hL_mg hFe rfl 0 (by decide) (hE.nest kn_15) (fun _ h9 => h9) rfl dX5_readDomain_8 ?_
  refine lv_bipush (v := 64) hx hb dX5_readDomain_11 (by decide) ?_
  refine lv_aload_n hx hb dX5_readDomain_13 rfl (lv_at hl 2 rfl) ?_
  refine pg_getN (ci := 4) (v := .ref m1) (C := RX4) (T := TX4) (N := 6) hx hb hts it_4 hown hK hP hL_mg hFe rfl 2 (by decide) (hE.nest kn_16) (fun _ h9 => h9) rfl dX5_readDomain_14 ?_
  refine lv_iload_n hx hb dX5_readDomain_17 rfl (lv_at hl 3 rfl) ?_
  refine pg_iald hx hb hK hP hi_12 0 hFm1 rfl (vp_in_nI (by omega) (by omega)) dX5_readDomain_18 ?_
  refine lv_topi (fun x_21 ex_21 => ?_)
  obtain rfl : x_21 = (nI kc) := ex_21.trans (((congrArg e1 (nI_clamp (by omega))).trans hec))
  refine lv_iconst (v := 1) hx hb dX5_readDomain_19 (by decide) ?_
  refine lv_iadd hx hb dX5_readDomain_20 ?_
  refine lv_topi (fun x_22 ex_22 => ?_)
  obtain rfl : x_22 = (nI (kc + 1)) := ex_22.trans (nI_1 kc)
  refine lv_iload_n hx hb dX5_readDomain_21 rfl (lv_at hl 0 rfl) ?_
  have hFc := pg_free hD hS hA
  refine va_calli (va_runV (As := [.int 64, .int (nI (kc + 1)), .int (nI kd)]) (rest := []) ⟨hx, hb, hml, hown, hts⟩ (s_X0_findLast_s l dC dI cs ty L s.heap.size F mx (μ + 1) rm 3000 zm (kc + 1) kd fm hW hL_mx hT_mx hFx hFrm (by omega) (by omega) (by omega) (by omega) (hdz)) ⟨callB_of 3 hts (gi kt_93) rfl rfl rfl (hts _ kt_1) (hts _ kt_479) (by decide +kernel) ⟨Nat.le_of_ble_eq_true rfl, Nat.le_of_ble_eq_true rfl⟩, (hts _ kt_95), (hts _ kt_96)⟩ ⟨fun a U g mk q => ⟨q.1, PT.calling q.2⟩, pg_recv hK hP hL_mx hFx (q := (RX0, TX0, 3)) rfl, fun U hU hWm => ⟨rfl, PT.mk hU hWm hP hK hD hE hO⟩⟩ rfl rfl hl.1 rfl (lv_room (Nat.le_of_ble_eq_true rfl)) dX5_readDomain_22 ⟨by show _ + 0 ≤ 0; omega, by show _ + 0 ≤ 0; omega⟩) hS (fun q _ h => hFc q h) hFc (fun r_23 u t H1 locs ht hvm hw hB hz1 hk1 hS => ?_)
  obtain ⟨F_24, hB1⟩ := hB
  obtain rfl : F = F_24 := (funext (fun a => hB1.2.2.2 a List.not_mem_nil)).symm
  obtain ⟨hP, hD, hO, hR⟩ := QT.back hB1 ht hFc hR (fun q h => absurd h List.not_mem_nil)
  generalize H1 = H at hP hS ⊢
  have hw : r_23 = nI (lsq (TC fm zm) (kc + 1) kd) := hw
  have hw_25 := hw
  subst hw_25
  have hll := lsc_le (T := (TC fm zm)) (x := 64) kd
  have hlq : (kc + 1 < (lsc (TC fm zm) 64 kd) ∧ (lsq (TC fm zm) (kc + 1) kd) = (lsc (TC fm zm) 64 kd) - 1) ∨ (¬ kc + 1 < (lsc (TC fm zm) 64 kd) ∧ (lsq (TC fm zm) (kc + 1) kd) = kc) := by by_cases c9 : kc + 1 < (lsc (TC fm zm) 64 kd); exact Or.inl ⟨c9, if_pos c9⟩; exact Or.inr ⟨c9, if_neg c9⟩
  refine lv_istore (lv' := [(4, .int (nI (lsq (TC fm zm) (kc + 1) kd))), (3, .int (nI kd)), (0, .ref h0), (1, .ref mg), (2, .int (nI jf))]) hx hb dX5_readDomain_25 hl (by decide) rfl (fun ls hl => ?_)
  refine lv_aload_n hx hb dX5_readDomain_27 rfl (lv_at hl 2 rfl) ?_
  obtain ⟨v0_26, v1_27, v2_28, hF_29⟩ := hO.pol hL_h0 hT_h0
  refine pg_get (ci := 5) (v := .ref w0) (C := RX5) (T := TX5) (N := 7) hx hb hts it_5 hown hK hP hL_h0 hF_29 rfl 1 (by decide) (hts _ kt_461) (fun _ h9 => h9) rfl dX5_readDomain_28 ?_
  have hFc := pg_free hD hS hA
  obtain ⟨z_30, o_31, hF_32, hq_33, hq_34⟩ := hO.bytes hL_w0 hT_w0
  refine va_callv (va_runV (As := []) (rest := []) ⟨hx, hb, hml, hown, hts⟩ (s_X0_clear l dC dI cs ty L H.size F w0 (ρ + 1) rw0 60 hW hL_w0 hT_w0) ⟨callB_of 0 hts (gi kt_32) rfl rfl rfl (hts _ kt_1) (hts _ kt_459) (by decide +kernel) ⟨Nat.le_of_ble_eq_true rfl, Nat.le_of_ble_eq_true rfl⟩, (hts _ kt_34), (hts _ kt_35)⟩ ⟨fun a U g mk q => ⟨q.1, PT.calling q.2⟩, pg_recv hK hP hL_w0 hF_32 (q := (RX0, TX0, 3)) rfl, fun U hU hWm => ⟨rfl, PT.mk hU hWm hP hK hD hE hO⟩⟩ rfl rfl hl.1 rfl (lv_room (Nat.le_of_ble_eq_true rfl)) dX5_readDomain_31 ⟨by show _ + 0 ≤ 0; omega, by show _ + 0 ≤ 0; omega⟩) hS (fun q _ h => hFc q h) hFc (fun u t H1 locs ht hvm hw hB hz1 hk1 hS => ?_)
  obtain ⟨F_36, hB1, hq_37⟩ := hB
  obtain ⟨hP, hD, hO, hR⟩ := QT.back hB1 ht hFc hR (fun q h => by simp only [List.mem_cons, List.not_mem_nil, or_false] at h ⊢; omega)
  have hF_38 : F_36 mg = .inr (4, [.ref mx, .ref m0, .ref m1, .ref m2, .int (nI nn), .int bb]) := (hB1.2.2.2 mg (by rw [hT_mg]; simp only [List.mem_cons, List.not_mem_nil, or_false]; omega)).trans hFe
  have hF_39 : F_36 mx = .inr (0, [.ref rm, .int (nI zm), .int 0]) := (hB1.2.2.2 mx (by rw [hT_mx]; simp only [List.mem_cons, List.not_mem_nil, or_false]; omega)).trans hFx
  have hF_40 : F_36 rm = .inl (cs 16, 3000, .inl fm) := (hB1.2.2.2 rm (by rw [ht_18]; simp only [List.mem_cons, List.not_mem_nil, or_false]; omega)).trans hFrm
  have hF_41 : F_36 m0 = .inl (cs 16, 20, .inl e0) := (hB1.2.2.2 m0 (by rw [ht_14]; simp only [List.mem_cons, List.not_mem_nil, or_false]; omega)).trans hFm0
  have hF_42 : F_36 m1 = .inl (cs 16, 20, .inl e1) := (hB1.2.2.2 m1 (by rw [ht_15]; simp only [List.mem_cons, List.not_mem_nil, or_false]; omega)).trans hFm1
  have hF_43 : F_36 m2 = .inl (cs 16, 20, .inl e2) := (hB1.2.2.2 m2 (by rw [ht_16]; simp only [List.mem_cons, List.not_mem_nil, or_false]; omega)).trans hFm2
  have hF_44 : F_36 h0 = .inr (5, [.ref d, .ref w0, .ref w1, .ref rc, .int v0_26, .int v1_27, .int v2_28]) := (hB1.2.2.2 h0 (by rw [hT_h0]; simp)).trans hF_29
  generalize H1 = H at hP hS ⊢
  refine lv_aload_n hx hb dX5_readDomain_34 rfl (lv_at hl 3 rfl) ?_
  refine pg_getN (ci := 4) (v := .ref mx) (C := RX4) (T := TX4) (N := 6) hx hb hts it_4 hown hK hP hL_mg hF_38 rfl 0 (by decide) (hE.nest kn_15) (fun _ h9 => h9) rfl dX5_readDomain_35 ?_
  refine lv_iload hx hb dX5_readDomain_38 (lv_at hl 0 rfl) ?_
  have hFc := pg_free hD hS hA
  refine va_calli (va_runV (As := [.int (nI (lsq (TC fm zm) (kc + 1) kd))]) (rest := []) ⟨hx, hb, hml, hown, hts⟩ (s_X0_at_e l dC dI cs ty L H.size F_36 mx (μ + 1) rm 3000 zm (lsq (TC fm zm) (kc + 1) kd) fm hW hL_mx hT_mx hF_39 hF_40 (by omega) (by omega) (by omega)) ⟨callB_of 1 hts (gi kt_21) rfl rfl rfl (hts _ kt_1) (hts _ kt_480) (by decide +kernel) ⟨Nat.le_of_ble_eq_true rfl, Nat.le_of_ble_eq_true rfl⟩, (hts _ kt_23), (hts _ kt_24)⟩ ⟨fun a U g mk q => ⟨q.1, PT.calling q.2⟩, pg_recv hK hP hL_mx hF_39 (q := (RX0, TX0, 3)) rfl, fun U hU hWm => ⟨rfl, PT.mk hU hWm hP hK hD hE hO⟩⟩ rfl rfl hl.1 rfl (lv_room (Nat.le_of_ble_eq_true rfl)) dX5_readDomain_40 ⟨by show _ + 0 ≤ 0; omega, by show _ + 0 ≤ 0; omega⟩) hS (fun q _ h => hFc q h) hFc (fun r_45 u t H1 locs ht hvm hw hB hz1 hk1 hS => ?_)
  obtain ⟨F_46, hB1⟩ := hB
  obtain rfl : F_36 = F_46 := (funext (fun a => hB1.2.2.2 a List.not_mem_nil)).symm
  obtain ⟨hP, hD, hO, hR⟩ := QT.back hB1 ht hFc hR (fun q h => absurd h List.not_mem_nil)
  generalize H1 = H at hP hS ⊢
  have hw : r_45 = fm (lsq (TC fm zm) (kc + 1) kd) := hw
  have hw_47 := hw
  subst hw_47
  refine lv_bipush (v := 64) hx hb dX5_readDomain_43 (by decide) ?_
  refine lv_icmp_eq (tgt := 50) hx hb dX5_readDomain_45 (by decide) (fun c_48 => ?_) (fun c_48 => ?_)
  ·
    have hfo := hlq.resolve_right (fun w => by have h9 := c_48; rw [w.2, hcl] at h9; exact absurd h9 (by decide))
    obtain ⟨hf1, hf2⟩ := hfo
    refine lv_iload hx hb dX5_readDomain_50 (lv_at hl 0 rfl) ?_
    refine lv_iconst (v := 1) hx hb dX5_readDomain_52 (by decide) ?_
    refine lv_iadd hx hb dX5_readDomain_53 ?_
    refine lv_topi (fun x_49 ex_49 => ?_)
    obtain rfl : x_49 = (nI (lsc (TC fm zm) 64 kd)) := ex_49.trans (by rw [show (lsc (TC fm zm) 64 kd) = (lsq (TC fm zm) (kc + 1) kd) + 1 by omega]; exact nI_1 _)
    refine lv_istore (lv' := [(5, .int (nI (lsc (TC fm zm) 64 kd))), (4, .int (nI (lsq (TC fm zm) (kc + 1) kd))), (3, .int (nI kd)), (0, .ref h0), (1, .ref mg), (2, .int (nI jf))]) hx hb dX5_readDomain_54 hl (by decide) rfl (fun ls hl => ?_)
    obtain ⟨f_50, hF_51⟩ := hO.ints hi_8 ht_9
    refine W.widen (k := 0) (n := 0) (by omega) (by omega) ?_
    have hF_53 : F mg = .inr (4, [.ref mx, .ref m0, .ref m1, .ref m2, .int (nI nn), .int bb]) := (hR mg (by rw [hT_mg]; simp only [List.mem_cons, List.not_mem_nil, or_false]; omega)).symm.trans hF_38
    have hF_54 : F mx = .inr (0, [.ref rm, .int (nI zm), .int 0]) := (hR mx (by rw [hT_mx]; simp only [List.mem_cons, List.not_mem_nil, or_false]; omega)).symm.trans hF_39
    have hF_55 : F rm = .inl (cs 16, 3000, .inl fm) := (hR rm (by rw [ht_18]; simp only [List.mem_cons, List.not_mem_nil, or_false]; omega)).symm.trans hF_40
    have hF_56 : F m0 = .inl (cs 16, 20, .inl e0) := (hR m0 (by rw [ht_14]; simp only [List.mem_cons, List.not_mem_nil, or_false]; omega)).symm.trans hF_41
    have hF_57 : F m1 = .inl (cs 16, 20, .inl e1) := (hR m1 (by rw [ht_15]; simp only [List.mem_cons, List.not_mem_nil, or_false]; omega)).symm.trans hF_42
    have hF_58 : F m2 = .inl (cs 16, 20, .inl e2) := (hR m2 (by rw [ht_16]; simp only [List.mem_cons, List.not_mem_nil, or_false]; omega)).symm.trans hF_43
    have hF_59 : F h0 = .inr (5, [.ref d, .ref w0, .ref w1, .ref rc, .int v0_26, .int v1_27, .int v2_28]) := (hR h0 (by rw [hT_h0]; simp)).symm.trans hF_44
    refine pl_loop (σ := Nat × Nat × Int32 × (Nat → Int32)) A (dC, dI) cs ty L [ρ + 1] F 56 7 (fun (i, yy, ov, fq) => [(5, .int (nI i)), (4, .int (nI (lsq (TC fm zm) (kc + 1) kd))), (3, .int (nI kd)), (0, .ref h0), (1, .ref mg), (2, .int (nI jf))]) (fun (i, yy, ov, fq) => []) (fun (i, yy, ov, fq) FF => (lsc (TC fm zm) 64 kd) ≤ i ∧ i ≤ kd ∧ FF w0 = .inr (0, [.ref rw0, .int (nI yy), .int ov]) ∧ FF rw0 = .inl (cs 16, 60, .inl fq) ∧ DMA fm (lsc (TC fm zm) 64 kd) (i - (lsc (TC fm zm) 64 kd)) 60 yy ov fq ∧ (∀ q9, (lsc (TC fm zm) 64 kd) ≤ q9 → q9 < i → ¬ STC4 ((TC fm zm) q9))) (fun (i, yy, ov, fq) => kd - i) ?_ ((lsc (TC fm zm) 64 kd), 0, 0, f_50) F_36 (⟨Nat.le_refl _, hll, hq_37, hF_51, by rw [Nat.sub_self]; exact DMA.nil, fun q9 h1 h2 => absurd h2 (by omega)⟩) hO hR _ _ hP hD hS ls (lv_sub hl [0, 1, 2, 3, 4, 5] rfl)
    rintro ⟨i, yy, ov, fq⟩ F_52 hv_60 hO hR ih_61 H locs hP hD hS ls hl
    have hl : lv_has ls 7 [(5, .int (nI i)), (4, .int (nI (lsq (TC fm zm) (kc + 1) kd))), (3, .int (nI kd)), (0, .ref h0), (1, .ref mg), (2, .int (nI jf))] := hl
    have hv_60 : (lsc (TC fm zm) 64 kd) ≤ i ∧ i ≤ kd ∧ F_52 w0 = .inr (0, [.ref rw0, .int (nI yy), .int ov]) ∧ F_52 rw0 = .inl (cs 16, 60, .inl fq) ∧ DMA fm (lsc (TC fm zm) 64 kd) (i - (lsc (TC fm zm) 64 kd)) 60 yy ov fq ∧ (∀ q9, (lsc (TC fm zm) 64 kd) ≤ q9 → q9 < i → ¬ STC4 ((TC fm zm) q9)) := hv_60
    refine W.eq (g2 := F0 m 56 ls []) rfl ?_
    have hF_62 : F_52 mg = .inr (4, [.ref mx, .ref m0, .ref m1, .ref m2, .int (nI nn), .int bb]) := (hR mg (by rw [hT_mg]; simp only [List.mem_cons, List.not_mem_nil, or_false]; omega)).trans hF_53
    have hF_63 : F_52 mx = .inr (0, [.ref rm, .int (nI zm), .int 0]) := (hR mx (by rw [hT_mx]; simp only [List.mem_cons, List.not_mem_nil, or_false]; omega)).trans hF_54
    have hF_64 : F_52 rm = .inl (cs 16, 3000, .inl fm) := (hR rm (by rw [ht_18]; simp only [List.mem_cons, List.not_mem_nil, or_false]; omega)).trans hF_55
    have hF_65 : F_52 m0 = .inl (cs 16, 20, .inl e0) := (hR m0 (by rw [ht_14]; simp only [List.mem_cons, List.not_mem_nil, or_false]; omega)).trans hF_56
    have hF_66 : F_52 m1 = .inl (cs 16, 20, .inl e1) := (hR m1 (by rw [ht_15]; simp only [List.mem_cons, List.not_mem_nil, or_false]; omega)).trans hF_57
    have hF_67 : F_52 m2 = .inl (cs 16, 20, .inl e2) := (hR m2 (by rw [ht_16]; simp only [List.mem_cons, List.not_mem_nil, or_false]; omega)).trans hF_58
    have hF_68 : F_52 h0 = .inr (5, [.ref d, .ref w0, .ref w1, .ref rc, .int v0_26, .int v1_27, .int v2_28]) := (hR h0 (by rw [hT_h0]; simp)).trans hF_59
    obtain ⟨hv1, hv2, hv3, hv4, hv5, hv6⟩ := id hv_60
    have hyy : yy ≤ 60 := by have h9 := hv5.1; omega
    refine lv_iload hx hb dX5_readDomain_56 (lv_at hl 0 rfl) ?_
    refine lv_iload_n hx hb dX5_readDomain_58 rfl (lv_at hl 2 rfl) ?_
    refine lv_icmp_ge (tgt := 116) hx hb dX5_readDomain_59 (by decide) (fun c_69 => ?_) (fun c_69 => ?_)
    ·
      have hi_70 : kd ≤ i := leN (N := kd) c_69
      have hie : i = kd := by have h9 : kd ≤ i := (nI_leI (by omega) (by omega)).mp c_69; omega
      refine lv_aload_n hx hb dX5_readDomain_116 rfl (lv_at hl 3 rfl) ?_
      refine pg_get (ci := 5) (v := .ref w0) (C := RX5) (T := TX5) (N := 7) hx hb hts it_5 hown hK hP hL_h0 hF_68 rfl 1 (by decide) (hts _ kt_461) (fun _ h9 => h9) rfl dX5_readDomain_117 ?_
      refine lv_iconst (v := 0) hx hb dX5_readDomain_120 (by decide) ?_
      refine lv_aload_n hx hb dX5_readDomain_121 rfl (lv_at hl 3 rfl) ?_
      refine pg_get (ci := 5) (v := .ref w0) (C := RX5) (T := TX5) (N := 7) hx hb hts it_5 hown hK hP hL_h0 hF_68 rfl 1 (by decide) (hts _ kt_461) (fun _ h9 => h9) rfl dX5_readDomain_122 ?_
      refine pg_getN (ci := 0) (v := .int (nI yy)) (C := RX0) (T := TX0) (N := 3) hx hb hts it_0 hown hK hP hL_w0 hv3 rfl 1 (by decide) (hE.nest kn_13) (fun _ h9 => h9) rfl dX5_readDomain_125 ?_
      refine W.eq (g2 := F0 m 128 ls [.int (nI yy), .int (nI 0), .ref w0]) rfl ?_
      have hFc := pg_free hD hS hA
      refine va_calli (va_runV (As := [.int (nI 0), .int (nI yy)]) (rest := []) ⟨hx, hb, hml, hown, hts⟩ (s_X0_isName_o l dC dI cs ty L H.size F_52 w0 (ρ + 1) rw0 60 yy 0 yy fq ov hW hL_w0 hT_w0 hv3 hv4 (by omega) (by omega) (Nat.zero_le _) (Nat.le_refl _)) ⟨callB_of 2 hts (gi kt_108) rfl rfl rfl (hts _ kt_1) (hts _ kt_481) (by decide +kernel) ⟨Nat.le_of_ble_eq_true rfl, Nat.le_of_ble_eq_true rfl⟩, (hts _ kt_110), (hts _ kt_111)⟩ ⟨fun a U g mk q => ⟨q.1, PT.calling q.2⟩, pg_recv hK hP hL_w0 hv3 (q := (RX0, TX0, 3)) rfl, fun U hU hWm => ⟨rfl, PT.mk hU hWm hP hK hD hE hO⟩⟩ rfl rfl hl.1 rfl (lv_room (Nat.le_of_ble_eq_true rfl)) dX5_readDomain_128 ⟨by show _ + 0 ≤ 0; omega, by show _ + 0 ≤ 0; omega⟩) hS (fun q _ h => hFc q h) hFc (fun r_71 u t H1 locs ht hvm hw hB hz1 hk1 hS => ?_)
      obtain ⟨F_72, hB1⟩ := hB
      obtain rfl : F_52 = F_72 := (funext (fun a => hB1.2.2.2 a List.not_mem_nil)).symm
      obtain ⟨hP, hD, hO, hR⟩ := QT.back hB1 ht hFc hR (fun q h => absurd h List.not_mem_nil)
      generalize H1 = H at hP hS ⊢
      have hw : r_71 = (if ov = 0 ∧ NM fq 0 yy = true then 1 else 0) := hw
      have hw_73 := hw
      refine W.widen (k := 0) (n := 0) (by omega) (by omega) ?_
      exact W.zret (v := r_71) (ty := .boolean) hx hb hr (bitN (nmb hw_73)) (fun t ht hWm => ⟨⟨r_71, (dmW (TC fm zm) kc kd), rfl, ((dmp_e hf1 hdz hv1 hv2 (dmE_of hv1 hv2 hv6 (Or.inl hie)) hv5 hw_73).1), ⟨F_52, QT.mk ht hP hD hO hR, (fun V hV => by obtain ⟨h6, h7, h8, h9⟩ := (dmp_e hf1 hdz hv1 hv2 (dmE_of hv1 hv2 hv6 (Or.inl hie)) hv5 hw_73).2 V hV; have h5 := hv3; rw [h6] at h5; exact ⟨⟨_, _, _, h5, hv4, h7, h8⟩, nm_src h7 h9⟩)⟩⟩, hS.F ht⟩) hS.2.2 dX5_readDomain_131
    ·
      have hi_74 : i < kd := ltN (N := kd) c_69
      have hie : i < kd := Nat.not_le.mp (fun q => c_69 ((nI_leI (by omega) (by omega)).mpr q))
      have hiz : i < zm := by omega
      refine lv_aload_n hx hb dX5_readDomain_62 rfl (lv_at hl 4 rfl) ?_
      refine pg_getN (ci := 4) (v := .ref mx) (C := RX4) (T := TX4) (N := 6) hx hb hts it_4 hown hK hP hL_mg hF_62 rfl 0 (by decide) (hE.nest kn_15) (fun _ h9 => h9) rfl dX5_readDomain_63 ?_
      refine lv_iload hx hb dX5_readDomain_66 (lv_at hl 0 rfl) ?_
      have hFc := pg_free hD hS hA
      refine va_calli (va_runV (As := [.int (nI i)]) (rest := []) ⟨hx, hb, hml, hown, hts⟩ (s_X0_at_e l dC dI cs ty L H.size F_52 mx (μ + 1) rm 3000 zm i fm hW hL_mx hT_mx hF_63 hF_64 (by omega) (by omega) (by omega)) ⟨callB_of 1 hts (gi kt_21) rfl rfl rfl (hts _ kt_1) (hts _ kt_480) (by decide +kernel) ⟨Nat.le_of_ble_eq_true rfl, Nat.le_of_ble_eq_true rfl⟩, (hts _ kt_23), (hts _ kt_24)⟩ ⟨fun a U g mk q => ⟨q.1, PT.calling q.2⟩, pg_recv hK hP hL_mx hF_63 (q := (RX0, TX0, 3)) rfl, fun U hU hWm => ⟨rfl, PT.mk hU hWm hP hK hD hE hO⟩⟩ rfl rfl hl.1 rfl (lv_room (Nat.le_of_ble_eq_true rfl)) dX5_readDomain_68 ⟨by show _ + 0 ≤ 0; omega, by show _ + 0 ≤ 0; omega⟩) hS (fun q _ h => hFc q h) hFc (fun r_75 u t H1 locs ht hvm hw hB hz1 hk1 hS => ?_)
      obtain ⟨F_76, hB1⟩ := hB
      obtain rfl : F_52 = F_76 := (funext (fun a => hB1.2.2.2 a List.not_mem_nil)).symm
      obtain ⟨hP, hD, hO, hR⟩ := QT.back hB1 ht hFc hR (fun q h => absurd h List.not_mem_nil)
      generalize H1 = H at hP hS ⊢
      have hw : r_75 = fm i := hw
      have hw_77 := hw
      subst hw_77
      refine lv_istore (lv' := [(6, .int (fm i)), (5, .int (nI i)), (4, .int (nI (lsq (TC fm zm) (kc + 1) kd))), (3, .int (nI kd)), (0, .ref h0), (1, .ref mg), (2, .int (nI jf))]) hx hb dX5_readDomain_71 hl (by decide) rfl (fun ls hl => ?_)
      refine lv_iload hx hb dX5_readDomain_73 (lv_at hl 0 rfl) ?_
      have hFc := pg_free hD hS hA
      refine va_calli (va_runS (As := [.int (fm i)]) (rest := []) ⟨hx, hb, hml, hown, hts⟩ (s_X0_isWhite_e l dC dI cs ty L H.size F_52 (fm i) hW ) ⟨callB_of 1 hts (gi kt_195) rfl rfl rfl (hts _ kt_1) (hts _ kt_482) (by decide +kernel) ⟨Nat.le_of_ble_eq_true rfl, Nat.le_of_ble_eq_true rfl⟩, (hts _ kt_197)⟩ ⟨fun a U g mk q => ⟨q.1, PT.calling q.2⟩, fun U hU hWm => ⟨rfl, PT.mk hU hWm hP hK hD hE hO⟩⟩ rfl rfl hl.1 rfl (lv_room (Nat.le_of_ble_eq_true rfl)) dX5_readDomain_75 ⟨by show _ + 0 ≤ 0; omega, by show _ + 0 ≤ 0; omega⟩) hS (fun q _ h => hFc q h) hFc (fun r_78 u t H1 locs ht hvm hw hB hz1 hk1 hS => ?_)
      obtain ⟨F_79, hB1⟩ := hB
      obtain rfl : F_52 = F_79 := (funext (fun a => hB1.2.2.2 a List.not_mem_nil)).symm
      obtain ⟨hP, hD, hO, hR⟩ := QT.back hB1 ht hFc hR (fun q h => absurd h List.not_mem_nil)
      generalize H1 = H at hP hS ⊢
      have hw : r_78 = (if (fm i) = 32 ∨ (fm i) = 9 then 1 else 0) := hw
      have hw_80 := hw
      refine lv_if_ne (tgt := 116) hx hb dX5_readDomain_78 (by decide) (fun c_81 => ?_) (fun c_81 => ?_)
      ·
        refine lv_aload_n hx hb dX5_readDomain_116 rfl (lv_at hl 4 rfl) ?_
        refine pg_get (ci := 5) (v := .ref w0) (C := RX5) (T := TX5) (N := 7) hx hb hts it_5 hown hK hP hL_h0 hF_68 rfl 1 (by decide) (hts _ kt_461) (fun _ h9 => h9) rfl dX5_readDomain_117 ?_
        refine lv_iconst (v := 0) hx hb dX5_readDomain_120 (by decide) ?_
        refine lv_aload_n hx hb dX5_readDomain_121 rfl (lv_at hl 4 rfl) ?_
        refine pg_get (ci := 5) (v := .ref w0) (C := RX5) (T := TX5) (N := 7) hx hb hts it_5 hown hK hP hL_h0 hF_68 rfl 1 (by decide) (hts _ kt_461) (fun _ h9 => h9) rfl dX5_readDomain_122 ?_
        refine pg_getN (ci := 0) (v := .int (nI yy)) (C := RX0) (T := TX0) (N := 3) hx hb hts it_0 hown hK hP hL_w0 hv3 rfl 1 (by decide) (hE.nest kn_13) (fun _ h9 => h9) rfl dX5_readDomain_125 ?_
        refine W.eq (g2 := F0 m 128 ls [.int (nI yy), .int (nI 0), .ref w0]) rfl ?_
        have hFc := pg_free hD hS hA
        refine va_calli (va_runV (As := [.int (nI 0), .int (nI yy)]) (rest := []) ⟨hx, hb, hml, hown, hts⟩ (s_X0_isName_o l dC dI cs ty L H.size F_52 w0 (ρ + 1) rw0 60 yy 0 yy fq ov hW hL_w0 hT_w0 hv3 hv4 (by omega) (by omega) (Nat.zero_le _) (Nat.le_refl _)) ⟨callB_of 2 hts (gi kt_108) rfl rfl rfl (hts _ kt_1) (hts _ kt_481) (by decide +kernel) ⟨Nat.le_of_ble_eq_true rfl, Nat.le_of_ble_eq_true rfl⟩, (hts _ kt_110), (hts _ kt_111)⟩ ⟨fun a U g mk q => ⟨q.1, PT.calling q.2⟩, pg_recv hK hP hL_w0 hv3 (q := (RX0, TX0, 3)) rfl, fun U hU hWm => ⟨rfl, PT.mk hU hWm hP hK hD hE hO⟩⟩ rfl rfl hl.1 rfl (lv_room (Nat.le_of_ble_eq_true rfl)) dX5_readDomain_128 ⟨by show _ + 0 ≤ 0; omega, by show _ + 0 ≤ 0; omega⟩) hS (fun q _ h => hFc q h) hFc (fun r_82 u t H1 locs ht hvm hw hB hz1 hk1 hS => ?_)
        obtain ⟨F_83, hB1⟩ := hB
        obtain rfl : F_52 = F_83 := (funext (fun a => hB1.2.2.2 a List.not_mem_nil)).symm
        obtain ⟨hP, hD, hO, hR⟩ := QT.back hB1 ht hFc hR (fun q h => absurd h List.not_mem_nil)
        generalize H1 = H at hP hS ⊢
        have hw : r_82 = (if ov = 0 ∧ NM fq 0 yy = true then 1 else 0) := hw
        have hw_84 := hw
        refine W.widen (k := 0) (n := 0) (by omega) (by omega) ?_
        exact W.zret (v := r_82) (ty := .boolean) hx hb hr (bitN (nmb hw_84)) (fun t ht hWm => ⟨⟨r_82, (dmW (TC fm zm) kc kd), rfl, ((dmp_e hf1 hdz hv1 hv2 (dmE_of hv1 hv2 hv6 (Or.inr ((ifb1 hw_80 c_81).imp (fun q => (tcc hiz 32 (by omega)).mpr q) (fun q => Or.inl ((tcc hiz 9 (by omega)).mpr q))))) hv5 hw_84).1), ⟨F_52, QT.mk ht hP hD hO hR, (fun V hV => by obtain ⟨h6, h7, h8, h9⟩ := (dmp_e hf1 hdz hv1 hv2 (dmE_of hv1 hv2 hv6 (Or.inr ((ifb1 hw_80 c_81).imp (fun q => (tcc hiz 32 (by omega)).mpr q) (fun q => Or.inl ((tcc hiz 9 (by omega)).mpr q))))) hv5 hw_84).2 V hV; have h5 := hv3; rw [h6] at h5; exact ⟨⟨_, _, _, h5, hv4, h7, h8⟩, nm_src h7 h9⟩)⟩⟩, hS.F ht⟩) hS.2.2 dX5_readDomain_131
      ·
        refine lv_iload hx hb dX5_readDomain_81 (lv_at hl 0 rfl) ?_
        refine lv_bipush (v := 62) hx hb dX5_readDomain_83 (by decide) ?_
        refine lv_icmp_eq (tgt := 116) hx hb dX5_readDomain_85 (by decide) (fun c_85 => ?_) (fun c_85 => ?_)
        ·
          refine lv_aload_n hx hb dX5_readDomain_116 rfl (lv_at hl 4 rfl) ?_
          refine pg_get (ci := 5) (v := .ref w0) (C := RX5) (T := TX5) (N := 7) hx hb hts it_5 hown hK hP hL_h0 hF_68 rfl 1 (by decide) (hts _ kt_461) (fun _ h9 => h9) rfl dX5_readDomain_117 ?_
          refine lv_iconst (v := 0) hx hb dX5_readDomain_120 (by decide) ?_
          refine lv_aload_n hx hb dX5_readDomain_121 rfl (lv_at hl 4 rfl) ?_
          refine pg_get (ci := 5) (v := .ref w0) (C := RX5) (T := TX5) (N := 7) hx hb hts it_5 hown hK hP hL_h0 hF_68 rfl 1 (by decide) (hts _ kt_461) (fun _ h9 => h9) rfl dX5_readDomain_122 ?_
          refine pg_getN (ci := 0) (v := .int (nI yy)) (C := RX0) (T := TX0) (N := 3) hx hb hts it_0 hown hK hP hL_w0 hv3 rfl 1 (by decide) (hE.nest kn_13) (fun _ h9 => h9) rfl dX5_readDomain_125 ?_
          refine W.eq (g2 := F0 m 128 ls [.int (nI yy), .int (nI 0), .ref w0]) rfl ?_
          have hFc := pg_free hD hS hA
          refine va_calli (va_runV (As := [.int (nI 0), .int (nI yy)]) (rest := []) ⟨hx, hb, hml, hown, hts⟩ (s_X0_isName_o l dC dI cs ty L H.size F_52 w0 (ρ + 1) rw0 60 yy 0 yy fq ov hW hL_w0 hT_w0 hv3 hv4 (by omega) (by omega) (Nat.zero_le _) (Nat.le_refl _)) ⟨callB_of 2 hts (gi kt_108) rfl rfl rfl (hts _ kt_1) (hts _ kt_481) (by decide +kernel) ⟨Nat.le_of_ble_eq_true rfl, Nat.le_of_ble_eq_true rfl⟩, (hts _ kt_110), (hts _ kt_111)⟩ ⟨fun a U g mk q => ⟨q.1, PT.calling q.2⟩, pg_recv hK hP hL_w0 hv3 (q := (RX0, TX0, 3)) rfl, fun U hU hWm => ⟨rfl, PT.mk hU hWm hP hK hD hE hO⟩⟩ rfl rfl hl.1 rfl (lv_room (Nat.le_of_ble_eq_true rfl)) dX5_readDomain_128 ⟨by show _ + 0 ≤ 0; omega, by show _ + 0 ≤ 0; omega⟩) hS (fun q _ h => hFc q h) hFc (fun r_86 u t H1 locs ht hvm hw hB hz1 hk1 hS => ?_)
          obtain ⟨F_87, hB1⟩ := hB
          obtain rfl : F_52 = F_87 := (funext (fun a => hB1.2.2.2 a List.not_mem_nil)).symm
          obtain ⟨hP, hD, hO, hR⟩ := QT.back hB1 ht hFc hR (fun q h => absurd h List.not_mem_nil)
          generalize H1 = H at hP hS ⊢
          have hw : r_86 = (if ov = 0 ∧ NM fq 0 yy = true then 1 else 0) := hw
          have hw_88 := hw
          refine W.widen (k := 0) (n := 0) (by omega) (by omega) ?_
          exact W.zret (v := r_86) (ty := .boolean) hx hb hr (bitN (nmb hw_88)) (fun t ht hWm => ⟨⟨r_86, (dmW (TC fm zm) kc kd), rfl, ((dmp_e hf1 hdz hv1 hv2 (dmE_of hv1 hv2 hv6 (Or.inr (Or.inr (Or.inr (Or.inl ((tcc hiz 62 (by omega)).mpr c_85)))))) hv5 hw_88).1), ⟨F_52, QT.mk ht hP hD hO hR, (fun V hV => by obtain ⟨h6, h7, h8, h9⟩ := (dmp_e hf1 hdz hv1 hv2 (dmE_of hv1 hv2 hv6 (Or.inr (Or.inr (Or.inr (Or.inl ((tcc hiz 62 (by omega)).mpr c_85)))))) hv5 hw_88).2 V hV; have h5 := hv3; rw [h6] at h5; exact ⟨⟨_, _, _, h5, hv4, h7, h8⟩, nm_src h7 h9⟩)⟩⟩, hS.F ht⟩) hS.2.2 dX5_readDomain_131
        ·
          refine lv_iload hx hb dX5_readDomain_88 (lv_at hl 0 rfl) ?_
          refine lv_bipush (v := 10) hx hb dX5_readDomain_90 (by decide) ?_
          refine lv_icmp_ne (tgt := 98) hx hb dX5_readDomain_92 (by decide) (fun c_89 => ?_) (fun c_89 => ?_)
          ·
            refine lv_aload_n hx hb dX5_readDomain_98 rfl (lv_at hl 4 rfl) ?_
            refine pg_get (ci := 5) (v := .ref w0) (C := RX5) (T := TX5) (N := 7) hx hb hts it_5 hown hK hP hL_h0 hF_68 rfl 1 (by decide) (hts _ kt_461) (fun _ h9 => h9) rfl dX5_readDomain_99 ?_
            refine lv_iload hx hb dX5_readDomain_102 (lv_at hl 0 rfl) ?_
            have hFc := pg_free hD hS hA
            refine va_calli (va_runS (As := [.int (fm i)]) (rest := [.ref w0]) ⟨hx, hb, hml, hown, hts⟩ (s_X0_smallOf_x l dC dI cs ty L H.size F_52 (fm i) hW ) ⟨callB_of 1 hts (gi kt_0) rfl rfl rfl (hts _ kt_1) (hts _ kt_483) (by decide +kernel) ⟨Nat.le_of_ble_eq_true rfl, Nat.le_of_ble_eq_true rfl⟩, (hts _ kt_3)⟩ ⟨fun a U g mk q => ⟨q.1, PT.calling q.2⟩, fun U hU hWm => ⟨rfl, PT.mk hU hWm hP hK hD hE hO⟩⟩ rfl rfl hl.1 rfl (lv_room (Nat.le_of_ble_eq_true rfl)) dX5_readDomain_104 ⟨by show _ + 0 ≤ 0; omega, by show _ + 0 ≤ 0; omega⟩) hS (fun q _ h => hFc q h) hFc (fun r_90 u t H1 locs ht hvm hw hB hz1 hk1 hS => ?_)
            obtain ⟨F_91, hB1⟩ := hB
            obtain rfl : F_52 = F_91 := (funext (fun a => hB1.2.2.2 a List.not_mem_nil)).symm
            obtain ⟨hP, hD, hO, hR⟩ := QT.back hB1 ht hFc hR (fun q h => absurd h List.not_mem_nil)
            generalize H1 = H at hP hS ⊢
            have hw : r_90 = smv (fm i) := hw
            have hw_92 := hw
            subst hw_92
            have hFc := pg_free hD hS hA
            refine va_callv (va_runV (As := [.int (smv (fm i))]) (rest := []) ⟨hx, hb, hml, hown, hts⟩ (s_X0_add_w l dC dI cs ty L H.size F_52 w0 (ρ + 1) rw0 60 yy (lsc (TC fm zm) 64 kd) (i - (lsc (TC fm zm) 64 kd)) fq fm ov (smv (fm i)) hW hL_w0 hT_w0 hv3 hv4 (by omega) (by rw [show (lsc (TC fm zm) 64 kd) + (i - (lsc (TC fm zm) 64 kd)) = i by omega]) (hv5)) ⟨callB_of 1 hts (gi kt_13) rfl rfl rfl (hts _ kt_1) (hts _ kt_484) (by decide +kernel) ⟨Nat.le_of_ble_eq_true rfl, Nat.le_of_ble_eq_true rfl⟩, (hts _ kt_15), (hts _ kt_16)⟩ ⟨fun a U g mk q => ⟨q.1, PT.calling q.2⟩, pg_recv hK hP hL_w0 hv3 (q := (RX0, TX0, 3)) rfl, fun U hU hWm => ⟨rfl, PT.mk hU hWm hP hK hD hE hO⟩⟩ rfl rfl hl.1 rfl (lv_room (Nat.le_of_ble_eq_true rfl)) dX5_readDomain_107 ⟨by show _ + 0 ≤ 0; omega, by show _ + 0 ≤ 0; omega⟩) hS (fun q _ h => hFc q h) hFc (fun u t H1 locs ht hvm hw hB hz1 hk1 hS => ?_)
            obtain ⟨F_94, y2_95, oo2_96, f2_97, hB1, hq_98, hq_99, hq_100⟩ := hB
            obtain ⟨hP, hD, hO, hR⟩ := QT.back hB1 ht hFc hR (fun q h => by simp only [List.mem_cons, List.not_mem_nil, or_false] at h ⊢; omega)
            have hF_101 : F_94 mg = .inr (4, [.ref mx, .ref m0, .ref m1, .ref m2, .int (nI nn), .int bb]) := (hB1.2.2.2 mg (by rw [hT_mg]; simp only [List.mem_cons, List.not_mem_nil, or_false]; omega)).trans hF_62
            have hF_102 : F_94 mx = .inr (0, [.ref rm, .int (nI zm), .int 0]) := (hB1.2.2.2 mx (by rw [hT_mx]; simp only [List.mem_cons, List.not_mem_nil, or_false]; omega)).trans hF_63
            have hF_103 : F_94 rm = .inl (cs 16, 3000, .inl fm) := (hB1.2.2.2 rm (by rw [ht_18]; simp only [List.mem_cons, List.not_mem_nil, or_false]; omega)).trans hF_64
            have hF_104 : F_94 m0 = .inl (cs 16, 20, .inl e0) := (hB1.2.2.2 m0 (by rw [ht_14]; simp only [List.mem_cons, List.not_mem_nil, or_false]; omega)).trans hF_65
            have hF_105 : F_94 m1 = .inl (cs 16, 20, .inl e1) := (hB1.2.2.2 m1 (by rw [ht_15]; simp only [List.mem_cons, List.not_mem_nil, or_false]; omega)).trans hF_66
            have hF_106 : F_94 m2 = .inl (cs 16, 20, .inl e2) := (hB1.2.2.2 m2 (by rw [ht_16]; simp only [List.mem_cons, List.not_mem_nil, or_false]; omega)).trans hF_67
            have hF_107 : F_94 h0 = .inr (5, [.ref d, .ref w0, .ref w1, .ref rc, .int v0_26, .int v1_27, .int v2_28]) := (hB1.2.2.2 h0 (by rw [hT_h0]; simp)).trans hF_68
            generalize H1 = H at hP hS ⊢
            refine lv_iinc (v := (nI (i + 1))) (lv' := [(5, .int (nI (i + 1))), (6, .int (fm i)), (4, .int (nI (lsq (TC fm zm) (kc + 1) kd))), (3, .int (nI kd)), (0, .ref h0), (1, .ref mg), (2, .int (nI jf))]) hx hb dX5_readDomain_110 hl (k := 1) rfl (nI_1 _) (by decide) rfl (fun ls hl => ?_)
            refine lv_goto (tgt := 56) hx hb dX5_readDomain_113 (by decide) ?_
            refine W.widen (k := 0) (n := 0) (by omega) (by omega) ?_
            exact ih_61 ((i + 1), y2_95, oo2_96, f2_97) F_94 (⟨by omega, by omega, hq_98, hq_99, by have h9 := hq_100; rw [show i + 1 - (lsc (TC fm zm) 64 kd) = i - (lsc (TC fm zm) 64 kd) + 1 by omega]; exact h9, fun q9 h1 h2 => by rcases Nat.lt_or_ge q9 i with w9 | w9; exact hv6 q9 h1 w9; rw [show q9 = i by omega]; exact (fun q => by rcases q with q | q | q | q; exact ifb0 hw_80 c_81 (Or.inl ((tcc hiz 32 (by omega)).mp q)); exact ifb0 hw_80 c_81 (Or.inr ((tcc hiz 9 (by omega)).mp q)); exact c_85 ((tcc hiz 62 (by omega)).mp q); exact c_89 ((tcc hiz 10 (by omega)).mp q))⟩) (by show kd - (i + 1) < kd - i; omega) hO hR _ _ hP hD hS ls (lv_sub hl [0, 2, 3, 4, 5, 6] rfl)
          ·
            refine lv_goto (tgt := 116) hx hb dX5_readDomain_95 (by decide) ?_
            refine lv_aload_n hx hb dX5_readDomain_116 rfl (lv_at hl 4 rfl) ?_
            refine pg_get (ci := 5) (v := .ref w0) (C := RX5) (T := TX5) (N := 7) hx hb hts it_5 hown hK hP hL_h0 hF_68 rfl 1 (by decide) (hts _ kt_461) (fun _ h9 => h9) rfl dX5_readDomain_117 ?_
            refine lv_iconst (v := 0) hx hb dX5_readDomain_120 (by decide) ?_
            refine lv_aload_n hx hb dX5_readDomain_121 rfl (lv_at hl 4 rfl) ?_
            refine pg_get (ci := 5) (v := .ref w0) (C := RX5) (T := TX5) (N := 7) hx hb hts it_5 hown hK hP hL_h0 hF_68 rfl 1 (by decide) (hts _ kt_461) (fun _ h9 => h9) rfl dX5_readDomain_122 ?_
            refine pg_getN (ci := 0) (v := .int (nI yy)) (C := RX0) (T := TX0) (N := 3) hx hb hts it_0 hown hK hP hL_w0 hv3 rfl 1 (by decide) (hE.nest kn_13) (fun _ h9 => h9) rfl dX5_readDomain_125 ?_
            refine W.eq (g2 := F0 m 128 ls [.int (nI yy), .int (nI 0), .ref w0]) rfl ?_
            have hFc := pg_free hD hS hA
            refine va_calli (va_runV (As := [.int (nI 0), .int (nI yy)]) (rest := []) ⟨hx, hb, hml, hown, hts⟩ (s_X0_isName_o l dC dI cs ty L H.size F_52 w0 (ρ + 1) rw0 60 yy 0 yy fq ov hW hL_w0 hT_w0 hv3 hv4 (by omega) (by omega) (Nat.zero_le _) (Nat.le_refl _)) ⟨callB_of 2 hts (gi kt_108) rfl rfl rfl (hts _ kt_1) (hts _ kt_481) (by decide +kernel) ⟨Nat.le_of_ble_eq_true rfl, Nat.le_of_ble_eq_true rfl⟩, (hts _ kt_110), (hts _ kt_111)⟩ ⟨fun a U g mk q => ⟨q.1, PT.calling q.2⟩, pg_recv hK hP hL_w0 hv3 (q := (RX0, TX0, 3)) rfl, fun U hU hWm => ⟨rfl, PT.mk hU hWm hP hK hD hE hO⟩⟩ rfl rfl hl.1 rfl (lv_room (Nat.le_of_ble_eq_true rfl)) dX5_readDomain_128 ⟨by show _ + 0 ≤ 0; omega, by show _ + 0 ≤ 0; omega⟩) hS (fun q _ h => hFc q h) hFc (fun r_108 u t H1 locs ht hvm hw hB hz1 hk1 hS => ?_)
            obtain ⟨F_109, hB1⟩ := hB
            obtain rfl : F_52 = F_109 := (funext (fun a => hB1.2.2.2 a List.not_mem_nil)).symm
            obtain ⟨hP, hD, hO, hR⟩ := QT.back hB1 ht hFc hR (fun q h => absurd h List.not_mem_nil)
            generalize H1 = H at hP hS ⊢
            have hw : r_108 = (if ov = 0 ∧ NM fq 0 yy = true then 1 else 0) := hw
            have hw_110 := hw
            refine W.widen (k := 0) (n := 0) (by omega) (by omega) ?_
            exact W.zret (v := r_108) (ty := .boolean) hx hb hr (bitN (nmb hw_110)) (fun t ht hWm => ⟨⟨r_108, (dmW (TC fm zm) kc kd), rfl, ((dmp_e hf1 hdz hv1 hv2 (dmE_of hv1 hv2 hv6 (Or.inr (Or.inr (Or.inr (Or.inr ((tcc hiz 10 (by omega)).mpr c_89)))))) hv5 hw_110).1), ⟨F_52, QT.mk ht hP hD hO hR, (fun V hV => by obtain ⟨h6, h7, h8, h9⟩ := (dmp_e hf1 hdz hv1 hv2 (dmE_of hv1 hv2 hv6 (Or.inr (Or.inr (Or.inr (Or.inr ((tcc hiz 10 (by omega)).mpr c_89)))))) hv5 hw_110).2 V hV; have h5 := hv3; rw [h6] at h5; exact ⟨⟨_, _, _, h5, hv4, h7, h8⟩, nm_src h7 h9⟩)⟩⟩, hS.F ht⟩) hS.2.2 dX5_readDomain_131
  ·
    have hnf : ¬ kc + 1 < (lsc (TC fm zm) 64 kd) := fun q => by have h8 := hlq.resolve_right (fun w => w.1 q); have h9 := lsc_at (T := (TC fm zm)) (x := 64) kd (by omega); rw [← h8.2] at h9; exact c_48 ((tcc (by omega) 64 (by omega)).mp h9)
    refine lv_iconst (v := 0) hx hb dX5_readDomain_48 (by decide) ?_
    refine W.widen (k := 0) (n := 0) (by omega) (by omega) ?_
    exact W.zret (v := 0) (ty := .boolean) hx hb hr (by decide) (fun t ht hWm => ⟨⟨0, none, rfl, (dmp_0 hnf), ⟨F_36, QT.mk ht hP hD hO hR, (fun V hV => nomatch hV)⟩⟩, hS.F ht⟩) hS.2.2 dX5_readDomain_49
set_option maxHeartbeats 4000000 in
set_option maxRecDepth 100000 in
theorem s_X5_setPlace_e (l : Launch) (dC : Nat → ClassId) (dI : Nat → Nat → Nat) (cs : Nat → ClassId) (ty : TyM) (L : List Nat) (sz : Nat) (F : Nat → va_E) (h0 : Nat) (ρ : Nat) (d : Nat) (δ : Nat) (ea : Nat) (w0 : Nat) (w1 : Nat) (rc : Nat) (rx : Nat) (ry0 : Nat) (ry1 : Nat) (ry2 : Nat) (rw0 : Nat) (rw1 : Nat) (sv : Nat) (V : List Nat) (hW : WT ty L) (hL_h0 : h0 ∈ L) (hT_h0 : ty h0 = (5, ρ, [d, δ, ea, w0, w1, rc, rx, ry0, ry1, ry2])) (hL_w0 : w0 ∈ L) (hT_w0 : ty w0 = (0, ρ + 1, [rw0, 60])) (hL_w1 : w1 ∈ L) (hT_w1 : ty w1 = (0, ρ + 9, [rw1, 60])) (hV : TXE cs F w0 60 V) (hsv : sv ≤ V.length) : Met l yX5_setPlace (.code yX5_setPlace cX5_setPlace 2 none :: tb) ({ frames := 5, cells := 0, slots := 0, locals := 107 }) (va_Pc [.ref h0, .int (nI sv)] (PTE (dC, dI) cs ty L F sz [])) (va_Qv (fun _ : Unit => True) (fun _ T9 => ∃ F2 : Nat → va_E, QT (dC, dI) cs ty L [ρ + 9] F F2 (va_A (va_pl L F) sz) T9 ∧ TXG cs F2 w1 60 ([95, 100, 109, 97, 114, 99, 46] ++ rgL V sv (V.length - sv))) (va_A (va_pl L F) sz)) 0 0 (va_A (va_pl L F) sz) := by
  refine Met.ofW (cc := cX5_setPlace) (maxL := 2) (ret := none) (by decide) rfl ?_
  intro p e s m args below meth c s₁ B hml hv
  obtain ⟨rfl, ⟨hsz, hP, hK, hD0, hE, hO⟩, hG, hX⟩ := hv
  have hx := B.exec
  have hb := B.bytes
  have hr := B.returns
  have hts : ∀ w ∈ tb, w.before _ s = true := fun w h => atoms_spec (ws := .code yX5_setPlace cX5_setPlace 2 none :: tb) B.pre w (List.mem_cons_of_mem _ h)
  have hown : s.vm.findClass RX5 = some m.cls := findClass_of_methodNamed B.named
  have hlocks := B.notSynchronized
  subst hsz
  have hD := hD0.self (sz := s.heap.size)
  generalize hAe : va_A (va_pl L F) s.heap.size = A at hD hG hX ⊢
  have hA : ∀ q : Nat, s.heap.size ≤ q → A q := fun q h => by rw [← hAe]; exact Or.inr h
  have hS : va_S A s.heap s.heap [] := va_S.rf
  have hR : FR ty [ρ + 9] F F := FR.refl
  have hl := lv_entry ([.ref h0, .int (nI sv)]) (n := 2) (Nat.le_of_ble_eq_true rfl)
  rw [lg_entry_eq]
  generalize (lg_sl ([.ref h0, .int (nI sv)]) ++ List.replicate (2 - (lg_sl ([.ref h0, .int (nI sv)])).length) Slot.unset).toArray = ls at hl ⊢
  have hl : lv_has ls 2 [(0, .ref h0), (1, .int (nI sv))] := hl
  obtain ⟨hi_1, ht_2, _, _, _, _, hi_3, ht_4⟩ := hW.pol hL_h0 hT_h0
  obtain ⟨hi_5, ht_6, hq_7⟩ := hW.bytes hL_w0 hT_w0
  obtain ⟨hi_8, ht_9, hq_10⟩ := hW.bytes hL_w1 hT_w1
  obtain ⟨zv, fv, hq1, hq2, hq3, hq4⟩ := hV.get hO hL_w0 hT_w0
  obtain rfl := hq3.1
  refine lv_aload_n hx hb dX5_setPlace_0 rfl (lv_at hl 0 rfl) ?_
  obtain ⟨v0_11, v1_12, v2_13, hF_14⟩ := hO.pol hL_h0 hT_h0
  refine pg_get (ci := 5) (v := .ref w1) (C := RX5) (T := TX5) (N := 7) hx hb hts it_5 hown hK hP hL_h0 hF_14 rfl 2 (by decide) (hts _ kt_458) (fun _ h9 => h9) rfl dX5_setPlace_1 ?_
  have hFc := pg_free hD hS hA
  obtain ⟨z_15, o_16, hF_17, hq_18, hq_19⟩ := hO.bytes hL_w1 hT_w1
  refine va_callv (va_runV (As := []) (rest := []) ⟨hx, hb, hml, hown, hts⟩ (s_X0_clear l dC dI cs ty L s.heap.size F w1 (ρ + 9) rw1 60 hW hL_w1 hT_w1) ⟨callB_of 0 hts (gi kt_32) rfl rfl rfl (hts _ kt_1) (hts _ kt_459) (by decide +kernel) ⟨Nat.le_of_ble_eq_true rfl, Nat.le_of_ble_eq_true rfl⟩, (hts _ kt_34), (hts _ kt_35)⟩ ⟨fun a U g mk q => ⟨q.1, PT.calling q.2⟩, pg_recv hK hP hL_w1 hF_17 (q := (RX0, TX0, 3)) rfl, fun U hU hWm => ⟨rfl, PT.mk hU hWm hP hK hD hE hO⟩⟩ rfl rfl hl.1 rfl (lv_room (Nat.le_of_ble_eq_true rfl)) dX5_setPlace_4 ⟨by show _ + 0 ≤ 0; omega, by show _ + 0 ≤ 0; omega⟩) hS (fun q _ h => hFc q h) hFc (fun u t H1 locs ht hvm hw hB hz1 hk1 hS => ?_)
  obtain ⟨F_21, hB1, hq_22⟩ := hB
  obtain ⟨hP, hD, hO, hR⟩ := QT.back hB1 ht hFc hR (fun q h => by simp only [List.mem_cons, List.not_mem_nil, or_false] at h ⊢; omega)
  have hF_23 : F_21 w0 = .inr (0, [.ref rw0, .int (nI V.length), .int 0]) := (hB1.2.2.2 w0 (by rw [hT_w0]; simp)).trans hq1
  have hF_24 : F_21 rw0 = .inl (cs 16, 60, .inl fv) := (hB1.2.2.2 rw0 (by rw [ht_6]; simp)).trans hq2
  have hF_25 : F_21 h0 = .inr (5, [.ref d, .ref w0, .ref w1, .ref rc, .int v0_11, .int v1_12, .int v2_13]) := (hB1.2.2.2 h0 (by rw [hT_h0]; simp)).trans hF_14
  generalize H1 = H at hP hS ⊢
  refine lv_aload_n hx hb dX5_setPlace_7 rfl (lv_at hl 0 rfl) ?_
  refine pg_get (ci := 5) (v := .ref w1) (C := RX5) (T := TX5) (N := 7) hx hb hts it_5 hown hK hP hL_h0 hF_25 rfl 2 (by decide) (hts _ kt_458) (fun _ h9 => h9) rfl dX5_setPlace_8 ?_
  obtain ⟨q_26, v_27, hr_q_26, hXc_q_26⟩ := hG.2.2.2.2 ("PostGate$Policy", 126, "_dmarc.", [95, 100, 109, 97, 114, 99, 46]) (by decide +kernel)
  have hXc_q_26 : SXc q_26 v_27 7 (cct [95, 100, 109, 97, 114, 99, 46]) A s s.heap := hXc_q_26
  have hX_q_26 : SX q_26 v_27 7 A s s.heap := hXc_q_26.sx
  obtain ⟨xo_q_26, xc_q_26, xv_q_26, xt_q_26, xn_q_26⟩ := id hXc_q_26
  have hr_q_26 : vk_R "PostGate$Policy" 126 "_dmarc." q_26 s := hr_q_26
  refine va_ldcS hx hb hown hr_q_26 dX5_setPlace_11 ?_
  obtain ⟨f_28, hF_29⟩ := hO.ints hi_8 ht_9
  have hFc := pg_free hD hS hA
  refine va_callv (va_runV (As := [.ref q_26]) (rest := []) ⟨hx, hb, hml, hown, hts⟩ (s_X0_addText_t l dC dI cs ty L H.size F_21 w1 (ρ + 9) rw1 60 q_26 v_27 7 (cct [95, 100, 109, 97, 114, 99, 46]) 0 f_28 0 ([]) ([95, 100, 109, 97, 114, 99, 46]) hW hL_w1 hT_w1 hq_22 hF_29 (by omega) (⟨rfl, rfl, fun j h => absurd h (Nat.not_lt_zero _)⟩) (⟨rfl, by decide +kernel⟩)) ⟨callB_of 1 hts (gi kt_367) rfl rfl rfl (hts _ kt_1) (hts _ kt_460) (by decide +kernel) ⟨Nat.le_of_ble_eq_true rfl, Nat.le_of_ble_eq_true rfl⟩, (hts _ kt_369), (hts _ kt_370)⟩ ⟨fun a U g mk q => ⟨q.1, PTC.calling q.2⟩, pg_recv hK hP hL_w1 hq_22 (q := (RX0, TX0, 3)) rfl, fun U hU hWm => ⟨rfl, PTC.mk hU hWm hP hK hD hE hO hG hXc_q_26 hS hFc⟩⟩ rfl rfl hl.1 rfl (lv_room (Nat.le_of_ble_eq_true rfl)) dX5_setPlace_13 ⟨by show _ + 0 ≤ 0; omega, by show _ + 0 ≤ 0; omega⟩) hS (fun q _ h => hFc q h) hFc (fun u t H1 locs ht hvm hw hB hz1 hk1 hS => ?_)
  obtain ⟨F_31, y2_32, oo2_33, f2_34, hB1, hq_35, hq_36, hq_37⟩ := hB
  obtain ⟨hP, hD, hO, hR⟩ := QT.back hB1 ht hFc hR (fun q h => by simp only [List.mem_cons, List.not_mem_nil, or_false] at h ⊢; omega)
  have hF_38 : F_31 w0 = .inr (0, [.ref rw0, .int (nI V.length), .int 0]) := (hB1.2.2.2 w0 (by rw [hT_w0]; simp)).trans hF_23
  have hF_39 : F_31 rw0 = .inl (cs 16, 60, .inl fv) := (hB1.2.2.2 rw0 (by rw [ht_6]; simp)).trans hF_24
  have hF_40 : F_31 h0 = .inr (5, [.ref d, .ref w0, .ref w1, .ref rc, .int v0_11, .int v1_12, .int v2_13]) := (hB1.2.2.2 h0 (by rw [hT_h0]; simp)).trans hF_25
  generalize H1 = H at hP hS ⊢
  refine lv_aload_n hx hb dX5_setPlace_16 rfl (lv_at hl 0 rfl) ?_
  refine pg_get (ci := 5) (v := .ref w1) (C := RX5) (T := TX5) (N := 7) hx hb hts it_5 hown hK hP hL_h0 hF_40 rfl 2 (by decide) (hts _ kt_458) (fun _ h9 => h9) rfl dX5_setPlace_17 ?_
  refine lv_aload_n hx hb dX5_setPlace_20 rfl (lv_at hl 0 rfl) ?_
  refine pg_get (ci := 5) (v := .ref w0) (C := RX5) (T := TX5) (N := 7) hx hb hts it_5 hown hK hP hL_h0 hF_40 rfl 1 (by decide) (hts _ kt_461) (fun _ h9 => h9) rfl dX5_setPlace_21 ?_
  refine lv_iload_n hx hb dX5_setPlace_24 rfl (lv_at hl 1 rfl) ?_
  refine lv_aload_n hx hb dX5_setPlace_25 rfl (lv_at hl 0 rfl) ?_
  refine pg_get (ci := 5) (v := .ref w0) (C := RX5) (T := TX5) (N := 7) hx hb hts it_5 hown hK hP hL_h0 hF_40 rfl 1 (by decide) (hts _ kt_461) (fun _ h9 => h9) rfl dX5_setPlace_26 ?_
  refine pg_getN (ci := 0) (v := .int (nI V.length)) (C := RX0) (T := TX0) (N := 3) hx hb hts it_0 hown hK hP hL_w0 hF_38 rfl 1 (by decide) (hE.nest kn_13) (fun _ h9 => h9) rfl dX5_setPlace_29 ?_
  have hFc := pg_free hD hS hA
  refine va_callv (va_runV (As := [.ref w0, .int (nI sv), .int (nI V.length)]) (rest := []) ⟨hx, hb, hml, hown, hts⟩ (s_X0_addRange_t l dC dI cs ty L H.size F_31 w1 (ρ + 9) rw1 60 w0 (ρ + 1) rw0 60 y2_32 V.length sv V.length f2_34 fv oo2_33 ([] ++ [95, 100, 109, 97, 114, 99, 46]) V hW hL_w1 hT_w1 hL_w0 hT_w0 hq_35 hq_36 (by omega) (hq_37) hF_38 hF_39 (by omega) (by omega) (hsv) (Nat.le_refl _) (hq3)) ⟨callB_of 3 hts (gi kt_36) rfl rfl rfl (hts _ kt_1) (hts _ kt_462) (by decide +kernel) ⟨Nat.le_of_ble_eq_true rfl, Nat.le_of_ble_eq_true rfl⟩, (hts _ kt_38), (hts _ kt_39)⟩ ⟨fun a U g mk q => ⟨q.1, PT.calling q.2⟩, pg_recv hK hP hL_w1 hq_35 (q := (RX0, TX0, 3)) rfl, fun U hU hWm => ⟨rfl, PT.mk hU hWm hP hK hD hE hO⟩⟩ rfl rfl hl.1 rfl (lv_room (Nat.le_of_ble_eq_true rfl)) dX5_setPlace_32 ⟨by show _ + 0 ≤ 0; omega, by show _ + 0 ≤ 0; omega⟩) hS (fun q _ h => hFc q h) hFc (fun u t H1 locs ht hvm hw hB hz1 hk1 hS => ?_)
  obtain ⟨F_42, y2_43, oo2_44, f2_45, hB1, hq_46, hq_47, hq_48⟩ := hB
  obtain ⟨hP, hD, hO, hR⟩ := QT.back hB1 ht hFc hR (fun q h => by simp only [List.mem_cons, List.not_mem_nil, or_false] at h ⊢; omega)
  have hF_49 : F_42 w0 = .inr (0, [.ref rw0, .int (nI V.length), .int 0]) := (hB1.2.2.2 w0 (by rw [hT_w0]; simp)).trans hF_38
  have hF_50 : F_42 rw0 = .inl (cs 16, 60, .inl fv) := (hB1.2.2.2 rw0 (by rw [ht_6]; simp)).trans hF_39
  have hF_51 : F_42 h0 = .inr (5, [.ref d, .ref w0, .ref w1, .ref rc, .int v0_11, .int v1_12, .int v2_13]) := (hB1.2.2.2 h0 (by rw [hT_h0]; simp)).trans hF_40
  generalize H1 = H at hP hS ⊢
  refine W.widen (k := 0) (n := 0) (by omega) (by omega) ?_
  exact W.vret hx hb hr (fun t ht hWm => ⟨⟨(), rfl, trivial, ⟨F_42, QT.mk ht hP hD hO hR, ⟨_, _, _, _, hq_46, hq_47, hq_48⟩⟩⟩, hS.F ht⟩) hS.2.2 dX5_setPlace_35
