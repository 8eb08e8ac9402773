def blx (T : Nat → Nat) (x : Int32) : Nat → Nat → Int32 → List (Nat × Nat)
  | 0, _, _ => []
  | k + 1, i, w => if T i = 0 then (2, 10) :: blx T x k (i + 1) 0 else if ¬ x = 0 ∧ T i = 1 then blx T x k (i + 1) 1 else (if w = 0 then [] else [(2, 32)]) ++ (0, i) :: blx T x k (i + 1) 0
theorem blx_s (T : Nat → Nat) (x : Int32) (k i : Nat) (w : Int32) : blx T x (k + 1) i w = if T i = 0 then (2, 10) :: blx T x k (i + 1) 0 else if ¬ x = 0 ∧ T i = 1 then blx T x k (i + 1) 1 else (if w = 0 then [] else [(2, 32)]) ++ (0, i) :: blx T x k (i + 1) 0 := rfl
theorem bl_0 {T : Nat → Nat} {i b : Nat} {x w : Int32} {A Z : List (Nat × Nat)} (h : Z = A ++ blx T x (b - i) i w) (hi : i < b) (c : T i = 0) : Z = (A ++ [(2, 10)]) ++ blx T x (b - (i + 1)) (i + 1) 0 := by
  rw [show b - i = b - (i + 1) + 1 by omega, blx_s, if_pos c] at h
  rw [h, List.append_assoc]
  rfl
theorem bl_1 {T : Nat → Nat} {i b : Nat} {x w : Int32} {A Z : List (Nat × Nat)} (h : Z = A ++ blx T x (b - i) i w) (hi : i < b) (hx : ¬ x = 0) (c : T i = 1) : Z = A ++ blx T x (b - (i + 1)) (i + 1) 1 := by
  rw [show b - i = b - (i + 1) + 1 by omega, blx_s, if_neg (by rw [c]; decide), if_pos ⟨hx, c⟩] at h
  exact h
theorem bl_a {T : Nat → Nat} {i b : Nat} {x w : Int32} {A Z : List (Nat × Nat)} (h : Z = A ++ blx T x (b - i) i w) (hi : i < b) (c0 : ¬ T i = 0) (c1 : ¬ (¬ x = 0 ∧ T i = 1)) (hw : w = 0) : Z = (A ++ [(0, i)]) ++ blx T x (b - (i + 1)) (i + 1) 0 := by
  rw [show b - i = b - (i + 1) + 1 by omega, blx_s, if_neg c0, if_neg c1, if_pos hw] at h
  rw [h, List.nil_append, List.append_assoc]
  rfl
theorem bl_b {T : Nat → Nat} {i b : Nat} {x w : Int32} {A Z : List (Nat × Nat)} (h : Z = A ++ blx T x (b - i) i w) (hi : i < b) (c0 : ¬ T i = 0) (c1 : ¬ (¬ x = 0 ∧ T i = 1)) (hw : ¬ w = 0) : Z = (A ++ [(2, 32)] ++ [(0, i)]) ++ blx T x (b - (i + 1)) (i + 1) 0 := by
  rw [show b - i = b - (i + 1) + 1 by omega, blx_s, if_neg c0, if_neg c1, if_neg hw] at h
  rw [h, List.append_assoc, List.append_assoc]
  rfl
theorem bl_e {T : Nat → Nat} {i b : Nat} {x w : Int32} {A Z : List (Nat × Nat)} (h : Z = A ++ blx T x (b - i) i w) (hi : b ≤ i) : Z = A := by
  rw [show b - i = 0 by omega] at h
  rw [h]
  exact List.append_nil A
theorem blx_len (T : Nat → Nat) (x : Int32) : ∀ (k i : Nat) (w : Int32), (blx T x k i w).length ≤ k + (if w = 0 then 0 else 1) := by
  intro k
  induction k with
  | zero => intro i w; exact Nat.zero_le _
  | succ k ih =>
    intro i w
    rw [blx_s]
    have a1 := ih (i + 1) 0
    have a2 := ih (i + 1) 1
    rw [if_pos rfl] at a1
    rw [if_neg (by decide)] at a2
    by_cases c0 : T i = 0
    · rw [if_pos c0, List.length_cons]
      omega
    rw [if_neg c0]
    by_cases c1 : ¬ x = 0 ∧ T i = 1
    · rw [if_pos c1]
      omega
    rw [if_neg c1, List.length_append, List.length_cons]
    by_cases c2 : w = 0
    · rw [if_pos c2, if_pos c2]
      show 0 + _ ≤ _
      omega
    · rw [if_neg c2, if_neg c2]
      show 1 + _ ≤ _
      omega
theorem blx_cg {T U : Nat → Nat} {z : Nat} {x : Int32} (h : ∀ j, j < z → T j = U j) : ∀ (k i : Nat) (w : Int32), i + k ≤ z → blx T x k i w = blx U x k i w := by
  intro k
  induction k with
  | zero => intro i w _; rfl
  | succ k ih =>
    intro i w hi
    rw [blx_s, blx_s, h i (by omega), ih (i + 1) 0 (by omega), ih (i + 1) 1 (by omega)]
def NLS (w : List (Nat × Nat)) (j : Nat) : Prop := w[j]? = some (2, 10)
def STL (w : List (Nat × Nat)) (r : Nat) : Prop := r ≤ w.length ∧ (∀ j, r ≤ j → j < w.length → NLS w j) ∧ (r = 0 ∨ (2 ≤ r ∧ NLS w (r - 1) ∧ ¬ NLS w (r - 2)))
theorem STL.uniq {w : List (Nat × Nat)} {r q : Nat} (h : STL w r) (h9 : STL w q) : r = q := by
  obtain ⟨a1, a2, a3⟩ := h
  obtain ⟨b1, b2, b3⟩ := h9
  rcases Nat.lt_trichotomy r q with c | c | c
  · rcases b3 with d | ⟨d1, d2, d3⟩
    · omega
    · rcases Nat.lt_or_ge (q - 2) r with e | e
      · have e2 : q = r + 1 := by omega
        rcases a3 with f | ⟨f1, f2, f3⟩
        · omega
        · exact absurd f2 (by rw [show r - 1 = q - 2 by omega]; exact d3)
      · exact absurd (a2 (q - 2) e (by omega)) d3
  · exact c
  · rcases a3 with d | ⟨d1, d2, d3⟩
    · omega
    · rcases Nat.lt_or_ge (r - 2) q with e | e
      · have e2 : r = q + 1 := by omega
        rcases b3 with f | ⟨f1, f2, f3⟩
        · omega
        · exact absurd f2 (by rw [show q - 1 = r - 2 by omega]; exact d3)
      · exact absurd (b2 (r - 2) e (by omega)) d3
theorem nls_l {w : List (Nat × Nat)} {y : Nat × Nat} {j : Nat} (h : j < w.length) : NLS (w ++ [y]) j ↔ NLS w j := by
  unfold NLS
  rw [List.getElem?_append_left h]
theorem nls_r {w : List (Nat × Nat)} {y : Nat × Nat} : NLS (w ++ [y]) w.length ↔ y = (2, 10) := by
  unfold NLS
  rw [List.getElem?_append_right (Nat.le_refl _), Nat.sub_self]
  exact ⟨fun q => Option.some.inj q, fun q => congrArg some q⟩
theorem STL.nl {w : List (Nat × Nat)} {r : Nat} (h : STL w r) : STL (w ++ [(2, 10)]) r := by
  obtain ⟨a1, a2, a3⟩ := h
  refine ⟨by rw [len1]; omega, fun j h1 h2 => ?_, ?_⟩
  · rw [len1] at h2
    rcases Nat.lt_or_ge j w.length with c | c
    · exact (nls_l c).mpr (a2 j h1 c)
    · rw [show j = w.length by omega]
      exact nls_r.mpr rfl
  · rcases a3 with d | ⟨d1, d2, d3⟩
    · exact Or.inl d
    · exact Or.inr ⟨d1, (nls_l (by omega)).mpr d2, fun q => d3 ((nls_l (by omega)).mp q)⟩
theorem STL.nil : STL [] 0 := ⟨Nat.le_refl _, fun j _ h2 => absurd h2 (Nat.not_lt_zero _), Or.inl rfl⟩
theorem STL.line {w : List (Nat × Nat)} {y : Nat × Nat} (hy : ¬ y = (2, 10)) : STL (w ++ [y] ++ [(2, 10)]) (w.length + 2) := by
  refine ⟨by rw [len1, len1]; omega, fun j h1 h2 => ?_, Or.inr ⟨by omega, ?_, fun q => ?_⟩⟩
  · rw [len1, len1] at h2
    omega
  · rw [show w.length + 2 - 1 = (w ++ [y]).length by rw [len1]; omega]
    exact nls_r.mpr rfl
  · rw [show w.length + 2 - 2 = w.length by omega] at q
    exact hy (nls_r.mp ((nls_l (by rw [len1]; omega)).mp q))
def BDN (T : Nat → Nat) (x : Int32) (b z : Nat) (r : Int32) : Prop := ∃ q, STL (blx T x (z - b) b 0 ++ [(2, 10)]) q ∧ ((q = 0 ∧ x = 0 ∧ r = 1) ∨ (¬ (q = 0 ∧ x = 0) ∧ r = nI q))
theorem BDN.same {T U : Nat → Nat} {x r q : Int32} {b z : Nat} (hb : b ≤ z) (h : ∀ j, j < z → T j = U j) (h1 : BDN T x b z r) (h2 : BDN U x b z q) : r = q := by
  obtain ⟨r1, a1, a2⟩ := h1
  obtain ⟨q1, b1, b2⟩ := h2
  rw [← blx_cg h (z - b) b 0 (by omega)] at b1
  have e := a1.uniq b1
  rw [← e] at b2
  rcases a2 with ⟨c1, c2, c3⟩ | ⟨c1, c2⟩ <;> rcases b2 with ⟨d1, d2, d3⟩ | ⟨d1, d2⟩
  · rw [c3, d3]
  · exact absurd ⟨c1, c2⟩ d1
  · exact absurd ⟨d1, d2⟩ c1
  · rw [c2, d2]
def WFS (f : Nat → Int32) (w : List (Nat × Nat)) : Prop := ∀ (j : Nat) (y : Nat × Nat), w[j]? = some y → y = (2, 10) ∨ ¬ evs f y = 10
theorem WFS.nil {f : Nat → Int32} : WFS f [] := fun j y h => by
  rw [List.getElem?_nil] at h
  cases h
theorem WFS.add {f : Nat → Int32} {w : List (Nat × Nat)} {y : Nat × Nat} (h : WFS f w) (hy : y = (2, 10) ∨ ¬ evs f y = 10) : WFS f (w ++ [y]) := by
  intro j y9 hj
  rcases Nat.lt_trichotomy j w.length with c | c | c
  · rw [List.getElem?_append_left c] at hj
    exact h j y9 hj
  · rw [c, List.getElem?_append_right (Nat.le_refl _), Nat.sub_self] at hj
    have e : y = y9 := Option.some.inj hj
    rw [← e]
    exact hy
  · rw [List.getElem?_append_right (by omega), List.getElem?_eq_none (by show 1 ≤ _; omega)] at hj
    cases hj
theorem nls_v {f g : Nat → Int32} {w : List (Nat × Nat)} {j : Nat} (ho : OUTS f g w) (hw : WFS f w) (hj : j < w.length) : NLS w j ↔ g j = 10 := by
  have e := List.getElem?_eq_getElem hj
  have a1 := ho j _ e
  unfold NLS
  rw [e, a1]
  constructor
  · intro q
    rw [Option.some.inj q]
    rfl
  · intro q
    rcases hw j _ e with c | c
    · rw [c]
    · exact absurd q c
set_option maxHeartbeats 4000000 in
set_option maxRecDepth 100000 in
theorem s_X4_addRelaxedLines_e (l : Launch) (dC : Nat → ClassId) (dI : Nat → Nat → Nat) (cs : Nat → ClassId) (ty : TyM) (L : List Nat) (sz : Nat) (F : Nat → va_E) (h0 : Nat) (ρ : Nat) (tx : Nat) (y0 : Nat) (y1 : Nat) (y2 : Nat) (g1 : Nat) (σ : Nat) (r1 : Nat) (n1 : Nat) (rx : Nat) (zm : Nat) (nn : Nat) (bs : Nat) (f : Nat → Int32) (fo : Nat → Int32) (oo : Int32) (ZZ : List (Nat × Nat)) (x2 : Int32) (hW : WT ty L) (hL_h0 : h0 ∈ L) (hT_h0 : ty h0 = (4, ρ, [tx, y0, y1, y2])) (hL_tx : tx ∈ L) (hT_tx : ty tx = (0, ρ + 1, [rx, 3000])) (hL_g1 : g1 ∈ L) (hT_g1 : ty g1 = (0, σ, [r1, n1])) (hF0 : F h0 = .inr (4, [.ref tx, .ref y0, .ref y1, .ref y2, .int (nI nn), .int (nI bs)])) (hFx : F tx = .inr (0, [.ref rx, .int (nI zm), .int oo])) (hFr : F rx = .inl (cs 16, 3000, .inl f)) (hFg : F g1 = .inr (0, [.ref r1, .int (nI 0), .int 0])) (hFo : F r1 = .inl (cs 16, n1, .inl fo)) (hbz : bs ≤ zm) (hz3 : zm ≤ 3000) (hroom : zm - bs + 1 ≤ n1) (hn9 : n1 ≤ 10000) (hfar : ρ + 10 ≤ σ ∨ σ + 10 ≤ ρ) (hx2 : ¬ x2 = 0) (hZ : ZZ = blx (clf f) x2 (zm - bs) bs 0) : Met l yX4_addRelaxedLines (.code yX4_addRelaxedLines cX4_addRelaxedLines 5 none :: tb) ({ frames := 1, cells := 0, slots := 0, locals := 21 }) (va_Pc [.ref h0, .ref g1] (PT (dC, dI) cs ty L F sz)) (va_Qv (fun _ : Unit => True) (fun _ T9 => ∃ F2 : Nat → va_E, ∃ fo2 : Nat → Int32, QT (dC, dI) cs ty L [σ] F F2 (va_A (va_pl L F) sz) T9 ∧ F2 g1 = .inr (0, [.ref r1, .int (nI ZZ.length), .int 0]) ∧ F2 r1 = .inl (cs 16, n1, .inl fo2) ∧ OUTS f fo2 ZZ ∧ WFS f ZZ) (va_A (va_pl L F) sz)) 0 0 (va_A (va_pl L F) sz) := by
  refine Met.ofW (cc := cX4_addRelaxedLines) (maxL := 5) (ret := none) (by decide) rfl ?_
  intro p e s m args below meth c s₁ B hml hv
  obtain ⟨rfl, hsz, hP, hK, hD0, hE, hO⟩ := hv
  have hx := B.exec
  have hb := B.bytes
  have hr := B.returns
  have hts : ∀ w ∈ tb, w.before _ s = true := fun w h => atoms_spec (ws := .code yX4_addRelaxedLines cX4_addRelaxedLines 5 none :: tb) B.pre w (List.mem_cons_of_mem _ h)
  have hown : s.vm.findClass RX4 = some m.cls := findClass_of_methodNamed B.named
  have hlocks := B.notSynchronized
  subst hsz
  have hD := hD0.self (sz := s.heap.size)
  generalize hAe : va_A (va_pl L F) s.heap.size = A at hD ⊢
  have hA : ∀ q : Nat, s.heap.size ≤ q → A q := fun q h => by rw [← hAe]; exact Or.inr h
  have hS : va_S A s.heap s.heap [] := va_S.rf
  have hR : FR ty [σ] F F := FR.refl
  have hl := lv_entry ([.ref h0, .ref g1]) (n := 5) (Nat.le_of_ble_eq_true rfl)
  rw [lg_entry_eq]
  generalize (lg_sl ([.ref h0, .ref g1]) ++ List.replicate (5 - (lg_sl ([.ref h0, .ref g1])).length) Slot.unset).toArray = ls at hl ⊢
  have hl : lv_has ls 5 [(0, .ref h0), (1, .ref g1)] := hl
  obtain ⟨_, hi_1, hi_2, hi_3, _, ht_4, ht_5, ht_6⟩ := hW.msg hL_h0 hT_h0
  obtain ⟨hi_7, ht_8, hq_9⟩ := hW.bytes hL_tx hT_tx
  obtain ⟨hi_10, ht_11, hq_12⟩ := hW.bytes hL_g1 hT_g1
  refine lv_iconst (v := 0) hx hb dX4_addRelaxedLines_0 (by decide) ?_
  refine lv_istore_n (lv' := [(2, .int 0), (0, .ref h0), (1, .ref g1)]) hx hb dX4_addRelaxedLines_1 rfl hl (by decide) rfl (fun ls hl => ?_)
  refine lv_aload_n hx hb dX4_addRelaxedLines_2 rfl (lv_at hl 1 rfl) ?_
  refine pg_get (ci := 4) (v := .int (nI bs)) (C := RX4) (T := TX4) (N := 6) hx hb hts it_4 hown hK hP hL_h0 hF0 rfl 5 (by decide) (hts _ kt_225) (fun _ h9 => h9) rfl dX4_addRelaxedLines_3 ?_
  refine lv_istore_n (lv' := [(3, .int (nI bs)), (2, .int 0), (0, .ref h0), (1, .ref g1)]) hx hb dX4_addRelaxedLines_6 rfl hl (by decide) rfl (fun ls hl => ?_)
  refine W.widen (k := 0) (n := 0) (by omega) (by omega) ?_
  have hF_14 : F h0 = .inr (4, [.ref tx, .ref y0, .ref y1, .ref y2, .int (nI nn), .int (nI bs)]) := (hR h0 (by rw [hT_h0]; simp only [List.mem_cons, List.not_mem_nil, or_false]; omega)).symm.trans hF0
  have hF_15 : F tx = .inr (0, [.ref rx, .int (nI zm), .int oo]) := (hR tx (by rw [hT_tx]; simp only [List.mem_cons, List.not_mem_nil, or_false]; omega)).symm.trans hFx
  have hF_16 : F rx = .inl (cs 16, 3000, .inl f) := (hR rx (by rw [ht_8]; simp only [List.mem_cons, List.not_mem_nil, or_false]; omega)).symm.trans hFr
  refine pl_loop (σ := Nat × Int32 × (List (Nat × Nat)) × (Nat → Int32)) A (dC, dI) cs ty L [σ] F 7 5 (fun (i1, w2, aa, fq) => [(3, .int (nI i1)), (2, .int w2), (0, .ref h0), (1, .ref g1)]) (fun (i1, w2, aa, fq) => []) (fun (i1, w2, aa, fq) FF => bs ≤ i1 ∧ i1 ≤ zm ∧ aa.length ≤ i1 - bs ∧ (w2 = 0 ∨ aa.length + 1 ≤ i1 - bs) ∧ ZZ = aa ++ blx (clf f) x2 (zm - i1) i1 w2 ∧ FF g1 = .inr (0, [.ref r1, .int (nI aa.length), .int 0]) ∧ FF r1 = .inl (cs 16, n1, .inl fq) ∧ OUTS f fq aa ∧ WFS f aa) (fun (i1, w2, aa, fq) => zm - i1) ?_ (bs, 0, [], fo) F (⟨by omega, by omega, Nat.zero_le _, Or.inl rfl, hZ, hFg, hFo, OUTS.nil, WFS.nil⟩) hO hR _ _ hP hD hS ls (lv_sub hl [0, 1, 2, 3] rfl)
  rintro ⟨i1, w2, aa, fq⟩ F_13 hv_17 hO hR ih_18 H locs hP hD hS ls hl
  have hl : lv_has ls 5 [(3, .int (nI i1)), (2, .int w2), (0, .ref h0), (1, .ref g1)] := hl
  have hv_17 : bs ≤ i1 ∧ i1 ≤ zm ∧ aa.length ≤ i1 - bs ∧ (w2 = 0 ∨ aa.length + 1 ≤ i1 - bs) ∧ ZZ = aa ++ blx (clf f) x2 (zm - i1) i1 w2 ∧ F_13 g1 = .inr (0, [.ref r1, .int (nI aa.length), .int 0]) ∧ F_13 r1 = .inl (cs 16, n1, .inl fq) ∧ OUTS f fq aa ∧ WFS f aa := hv_17
  refine W.eq (g2 := F0 m 7 ls []) rfl ?_
  have hF_19 : F_13 h0 = .inr (4, [.ref tx, .ref y0, .ref y1, .ref y2, .int (nI nn), .int (nI bs)]) := (hR h0 (by rw [hT_h0]; simp only [List.mem_cons, List.not_mem_nil, or_false]; omega)).trans hF_14
  have hF_20 : F_13 tx = .inr (0, [.ref rx, .int (nI zm), .int oo]) := (hR tx (by rw [hT_tx]; simp only [List.mem_cons, List.not_mem_nil, or_false]; omega)).trans hF_15
  have hF_21 : F_13 rx = .inl (cs 16, 3000, .inl f) := (hR rx (by rw [ht_8]; simp only [List.mem_cons, List.not_mem_nil, or_false]; omega)).trans hF_16
  obtain ⟨hv1, hv2, hv4, hv5, hv6, hN1, hN2, hN3, hN4⟩ := id hv_17
  refine lv_iload_n hx hb dX4_addRelaxedLines_7 rfl (lv_at hl 0 rfl) ?_
  refine lv_aload_n hx hb dX4_addRelaxedLines_8 rfl (lv_at hl 2 rfl) ?_
  refine pg_get (ci := 4) (v := .ref tx) (C := RX4) (T := TX4) (N := 6) hx hb hts it_4 hown hK hP hL_h0 hF_19 rfl 0 (by decide) (hts _ kt_207) (fun _ h9 => h9) rfl dX4_addRelaxedLines_9 ?_
  refine pg_getN (ci := 0) (v := .int (nI zm)) (C := RX0) (T := TX0) (N := 3) hx hb hts it_0 hown hK hP hL_tx hF_20 rfl 1 (by decide) (hE.nest kn_6) (fun _ h9 => h9) rfl dX4_addRelaxedLines_12 ?_
  refine lv_icmp_ge (tgt := 72) hx hb dX4_addRelaxedLines_15 (by decide) (fun c_22 => ?_) (fun c_22 => ?_)
  ·
    have hi_23 : zm ≤ i1 := leN (N := zm) c_22
    have hib : zm ≤ i1 := (nI_leI (by omega) (by omega)).mp c_22
    refine W.widen (k := 0) (n := 0) (by omega) (by omega) ?_
    exact W.vret hx hb hr (fun t ht hWm => ⟨⟨(), rfl, trivial, ⟨F_13, fq, QT.mk ht hP hD hO hR, (by rw [bl_e hv6 hib]; exact hN1), hN2, (by rw [bl_e hv6 hib]; exact hN3), (by rw [bl_e hv6 hib]; exact hN4)⟩⟩, hS.F ht⟩) hS.2.2 dX4_addRelaxedLines_72
  ·
    have hi_24 : i1 < zm := ltN (N := zm) c_22
    have hib : i1 < zm := Nat.not_le.mp (fun q => c_22 ((nI_leI (by omega) (by omega)).mpr q))
    refine lv_aload_n hx hb dX4_addRelaxedLines_18 rfl (lv_at hl 2 rfl) ?_
    refine pg_get (ci := 4) (v := .ref tx) (C := RX4) (T := TX4) (N := 6) hx hb hts it_4 hown hK hP hL_h0 hF_19 rfl 0 (by decide) (hts _ kt_207) (fun _ h9 => h9) rfl dX4_addRelaxedLines_19 ?_
    refine lv_iload_n hx hb dX4_addRelaxedLines_22 rfl (lv_at hl 0 rfl) ?_
    have hFc := pg_free hD hS hA
    refine va_calli (va_runV (As := [.int (nI i1)]) (rest := []) ⟨hx, hb, hml, hown, hts⟩ (s_X0_at_o l dC dI cs ty L H.size F_13 tx (ρ + 1) rx 3000 zm i1 f oo hW hL_tx hT_tx hF_20 hF_21 (by omega) (by omega) (by omega)) ⟨callB_of 1 hts (gi kt_21) rfl rfl rfl (hts _ kt_1) (hts _ kt_199) (by decide +kernel) ⟨Nat.le_of_ble_eq_true rfl, Nat.le_of_ble_eq_true rfl⟩, (hts _ kt_23), (hts _ kt_24)⟩ ⟨fun a U g mk q => ⟨q.1, PT.calling q.2⟩, pg_recv hK hP hL_tx hF_20 (q := (RX0, TX0, 3)) rfl, fun U hU hWm => ⟨rfl, PT.mk hU hWm hP hK hD hE hO⟩⟩ rfl rfl hl.1 rfl (lv_room (Nat.le_of_ble_eq_true rfl)) dX4_addRelaxedLines_23 ⟨by show _ + 0 ≤ 0; omega, by show _ + 0 ≤ 0; omega⟩) hS (fun q _ h => hFc q h) hFc (fun r_25 u t H1 locs ht hvm hw hB hz1 hk1 hS => ?_)
    obtain ⟨F_26, hB1⟩ := hB
    obtain rfl : F_13 = F_26 := (funext (fun a => hB1.2.2.2 a List.not_mem_nil)).symm
    obtain ⟨hP, hD, hO, hR⟩ := QT.back hB1 ht hFc hR (fun q h => absurd h List.not_mem_nil)
    generalize H1 = H at hP hS ⊢
    have hw : r_25 = f i1 := hw
    have hw_27 := hw
    subst hw_27
    refine lv_istore (lv' := [(4, .int (f i1)), (3, .int (nI i1)), (2, .int w2), (0, .ref h0), (1, .ref g1)]) hx hb dX4_addRelaxedLines_26 hl (by decide) rfl (fun ls hl => ?_)
    refine lv_iload hx hb dX4_addRelaxedLines_28 (lv_at hl 0 rfl) ?_
    have hFc := pg_free hD hS hA
    refine va_calli (va_runS (As := [.int (f i1)]) (rest := []) ⟨hx, hb, hml, hown, hts⟩ (s_X0_isWhite_e l dC dI cs ty L H.size F_13 (f i1) hW ) ⟨callB_of 1 hts (gi kt_195) rfl rfl rfl (hts _ kt_1) (hts _ kt_215) (by decide +kernel) ⟨Nat.le_of_ble_eq_true rfl, Nat.le_of_ble_eq_true rfl⟩, (hts _ kt_197)⟩ ⟨fun a U g mk q => ⟨q.1, PT.calling q.2⟩, fun U hU hWm => ⟨rfl, PT.mk hU hWm hP hK hD hE hO⟩⟩ rfl rfl hl.1 rfl (lv_room (Nat.le_of_ble_eq_true rfl)) dX4_addRelaxedLines_30 ⟨by show _ + 0 ≤ 0; omega, by show _ + 0 ≤ 0; omega⟩) hS (fun q _ h => hFc q h) hFc (fun r_28 u t H1 locs ht hvm hw hB hz1 hk1 hS => ?_)
    obtain ⟨F_29, hB1⟩ := hB
    obtain rfl : F_13 = F_29 := (funext (fun a => hB1.2.2.2 a List.not_mem_nil)).symm
    obtain ⟨hP, hD, hO, hR⟩ := QT.back hB1 ht hFc hR (fun q h => absurd h List.not_mem_nil)
    generalize H1 = H at hP hS ⊢
    have hw : r_28 = (if (f i1) = 32 ∨ (f i1) = 9 then 1 else 0) := hw
    have hw_30 := hw
    refine lv_if_eq (tgt := 41) hx hb dX4_addRelaxedLines_33 (by decide) (fun c_31 => ?_) (fun c_31 => ?_)
    ·
      refine lv_iload_n hx hb dX4_addRelaxedLines_41 rfl (lv_at hl 2 rfl) ?_
      refine lv_if_eq (tgt := 58) hx hb dX4_addRelaxedLines_42 (by decide) (fun c_32 => ?_) (fun c_32 => ?_)
      ·
        by_cases c_33 : f i1 = 10
        ·
          refine lv_aload_n hx hb dX4_addRelaxedLines_58 rfl (lv_at hl 4 rfl) ?_
          refine lv_iload hx hb dX4_addRelaxedLines_59 (lv_at hl 0 rfl) ?_
          have hFc := pg_free hD hS hA
          refine va_callv (va_runV (As := [.int (f i1)]) (rest := []) ⟨hx, hb, hml, hown, hts⟩ (s_X0_add_e l dC dI cs ty L H.size F_13 g1 σ r1 n1 aa.length fq (f i1) hW hL_g1 hT_g1 hN1 hN2 (by omega) (by omega)) ⟨callB_of 1 hts (gi kt_13) rfl rfl rfl (hts _ kt_1) (hts _ kt_230) (by decide +kernel) ⟨Nat.le_of_ble_eq_true rfl, Nat.le_of_ble_eq_true rfl⟩, (hts _ kt_15), (hts _ kt_16)⟩ ⟨fun a U g mk q => ⟨q.1, PT.calling q.2⟩, pg_recv hK hP hL_g1 hN1 (q := (RX0, TX0, 3)) rfl, fun U hU hWm => ⟨rfl, PT.mk hU hWm hP hK hD hE hO⟩⟩ rfl rfl hl.1 rfl (lv_room (Nat.le_of_ble_eq_true rfl)) dX4_addRelaxedLines_61 ⟨by show _ + 0 ≤ 0; omega, by show _ + 0 ≤ 0; omega⟩) hS (fun q _ h => hFc q h) hFc (fun u t H1 locs ht hvm hw hB hz1 hk1 hS => ?_)
          obtain ⟨F_35, hB1, hq_36, hq_37⟩ := hB
          obtain ⟨hP, hD, hO, hR⟩ := QT.back hB1 ht hFc hR (fun q h => by simp only [List.mem_cons, List.not_mem_nil, or_false] at h ⊢; omega)
          have hF_38 : F_35 h0 = .inr (4, [.ref tx, .ref y0, .ref y1, .ref y2, .int (nI nn), .int (nI bs)]) := (hB1.2.2.2 h0 (by rw [hT_h0]; simp only [List.mem_cons, List.not_mem_nil, or_false]; omega)).trans hF_19
          have hF_39 : F_35 tx = .inr (0, [.ref rx, .int (nI zm), .int oo]) := (hB1.2.2.2 tx (by rw [hT_tx]; simp only [List.mem_cons, List.not_mem_nil, or_false]; omega)).trans hF_20
          have hF_40 : F_35 rx = .inl (cs 16, 3000, .inl f) := (hB1.2.2.2 rx (by rw [ht_8]; simp only [List.mem_cons, List.not_mem_nil, or_false]; omega)).trans hF_21
          generalize H1 = H at hP hS ⊢
          have hou_41 := OUTS.add (y := (2, 10)) hN3 c_33
          have hwf_42 := WFS.add (y := (2, 10)) hN4 (Or.inl rfl)
          have hF_43 : F_35 g1 = .inr (0, [.ref r1, .int (nI (aa ++ [(2, 10)]).length), .int 0]) := by rw [len1]; exact hq_36
          refine lv_iconst (v := 0) hx hb dX4_addRelaxedLines_64 (by decide) ?_
          refine lv_istore_n (lv' := [(2, .int 0), (4, .int (f i1)), (3, .int (nI i1)), (0, .ref h0), (1, .ref g1)]) hx hb dX4_addRelaxedLines_65 rfl hl (by decide) rfl (fun ls hl => ?_)
          refine lv_iinc (v := (nI (i1 + 1))) (lv' := [(3, .int (nI (i1 + 1))), (2, .int 0), (4, .int (f i1)), (0, .ref h0), (1, .ref g1)]) hx hb dX4_addRelaxedLines_66 hl (k := 2) rfl (nI_1 _) (by decide) rfl (fun ls hl => ?_)
          refine lv_goto (tgt := 7) hx hb dX4_addRelaxedLines_69 (by decide) ?_
          refine W.widen (k := 0) (n := 0) (by omega) (by omega) ?_
          exact ih_18 ((i1 + 1), 0, (aa ++ [(2, 10)]), (upd fq aa.length (f i1))) F_35 (⟨by omega, by omega, by rw [len1]; omega, Or.inl rfl, bl_0 hv6 hib (clg0 c_33), hF_43, hq_37, hou_41, hwf_42⟩) (by show zm - (i1 + 1) < zm - i1; omega) hO hR _ _ hP hD hS ls (lv_sub hl [0, 1, 3, 4] rfl)
        ·
          refine lv_aload_n hx hb dX4_addRelaxedLines_58 rfl (lv_at hl 4 rfl) ?_
          refine lv_iload hx hb dX4_addRelaxedLines_59 (lv_at hl 0 rfl) ?_
          have hFc := pg_free hD hS hA
          refine va_callv (va_runV (As := [.int (f i1)]) (rest := []) ⟨hx, hb, hml, hown, hts⟩ (s_X0_add_e l dC dI cs ty L H.size F_13 g1 σ r1 n1 aa.length fq (f i1) hW hL_g1 hT_g1 hN1 hN2 (by omega) (by omega)) ⟨callB_of 1 hts (gi kt_13) rfl rfl rfl (hts _ kt_1) (hts _ kt_230) (by decide +kernel) ⟨Nat.le_of_ble_eq_true rfl, Nat.le_of_ble_eq_true rfl⟩, (hts _ kt_15), (hts _ kt_16)⟩ ⟨fun a U g mk q => ⟨q.1, PT.calling q.2⟩, pg_recv hK hP hL_g1 hN1 (q := (RX0, TX0, 3)) rfl, fun U hU hWm => ⟨rfl, PT.mk hU hWm hP hK hD hE hO⟩⟩ rfl rfl hl.1 rfl (lv_room (Nat.le_of_ble_eq_true rfl)) dX4_addRelaxedLines_61 ⟨by show _ + 0 ≤ 0; omega, by show _ + 0 ≤ 0; omega⟩) hS (fun q _ h => hFc q h) hFc (fun u t H1 locs ht hvm hw hB hz1 hk1 hS => ?_)
          obtain ⟨F_45, hB1, hq_46, hq_47⟩ := hB
          obtain ⟨hP, hD, hO, hR⟩ := QT.back hB1 ht hFc hR (fun q h => by simp only [List.mem_cons, List.not_mem_nil, or_false] at h ⊢; omega)
          have hF_48 : F_45 h0 = .inr (4, [.ref tx, .ref y0, .ref y1, .ref y2, .int (nI nn), .int (nI bs)]) := (hB1.2.2.2 h0 (by rw [hT_h0]; simp only [List.mem_cons, List.not_mem_nil, or_false]; omega)).trans hF_19
          have hF_49 : F_45 tx = .inr (0, [.ref rx, .int (nI zm), .int oo]) := (hB1.2.2.2 tx (by rw [hT_tx]; simp only [List.mem_cons, List.not_mem_nil, or_false]; omega)).trans hF_20
          have hF_50 : F_45 rx = .inl (cs 16, 3000, .inl f) := (hB1.2.2.2 rx (by rw [ht_8]; simp only [List.mem_cons, List.not_mem_nil, or_false]; omega)).trans hF_21
          generalize H1 = H at hP hS ⊢
          have hou_51 := OUTS.add (y := (0, i1)) hN3 ev_0
          have hwf_52 := WFS.add (y := (0, i1)) hN4 (Or.inr c_33)
          have hF_53 : F_45 g1 = .inr (0, [.ref r1, .int (nI (aa ++ [(0, i1)]).length), .int 0]) := by rw [len1]; exact hq_46
          refine lv_iconst (v := 0) hx hb dX4_addRelaxedLines_64 (by decide) ?_
          refine lv_istore_n (lv' := [(2, .int 0), (4, .int (f i1)), (3, .int (nI i1)), (0, .ref h0), (1, .ref g1)]) hx hb dX4_addRelaxedLines_65 rfl hl (by decide) rfl (fun ls hl => ?_)
          refine lv_iinc (v := (nI (i1 + 1))) (lv' := [(3, .int (nI (i1 + 1))), (2, .int 0), (4, .int (f i1)), (0, .ref h0), (1, .ref g1)]) hx hb dX4_addRelaxedLines_66 hl (k := 2) rfl (nI_1 _) (by decide) rfl (fun ls hl => ?_)
          refine lv_goto (tgt := 7) hx hb dX4_addRelaxedLines_69 (by decide) ?_
          refine W.widen (k := 0) (n := 0) (by omega) (by omega) ?_
          exact ih_18 ((i1 + 1), 0, (aa ++ [(0, i1)]), (upd fq aa.length (f i1))) F_45 (⟨by omega, by omega, by rw [len1]; omega, Or.inl rfl, bl_a hv6 hib (clg0n c_33) (fun q => clg1n (ifb0 hw_30 c_31) q.2) c_32, hF_53, hq_47, hou_51, hwf_52⟩) (by show zm - (i1 + 1) < zm - i1; omega) hO hR _ _ hP hD hS ls (lv_sub hl [0, 1, 3, 4] rfl)
      ·
        refine lv_iload hx hb dX4_addRelaxedLines_45 (lv_at hl 0 rfl) ?_
        refine lv_bipush (v := 10) hx hb dX4_addRelaxedLines_47 (by decide) ?_
        refine lv_icmp_eq (tgt := 58) hx hb dX4_addRelaxedLines_49 (by decide) (fun c_54 => ?_) (fun c_54 => ?_)
        ·
          refine lv_aload_n hx hb dX4_addRelaxedLines_58 rfl (lv_at hl 4 rfl) ?_
          refine lv_iload hx hb dX4_addRelaxedLines_59 (lv_at hl 0 rfl) ?_
          have hFc := pg_free hD hS hA
          refine va_callv (va_runV (As := [.int (f i1)]) (rest := []) ⟨hx, hb, hml, hown, hts⟩ (s_X0_add_e l dC dI cs ty L H.size F_13 g1 σ r1 n1 aa.length fq (f i1) hW hL_g1 hT_g1 hN1 hN2 (by omega) (by omega)) ⟨callB_of 1 hts (gi kt_13) rfl rfl rfl (hts _ kt_1) (hts _ kt_230) (by decide +kernel) ⟨Nat.le_of_ble_eq_true rfl, Nat.le_of_ble_eq_true rfl⟩, (hts _ kt_15), (hts _ kt_16)⟩ ⟨fun a U g mk q => ⟨q.1, PT.calling q.2⟩, pg_recv hK hP hL_g1 hN1 (q := (RX0, TX0, 3)) rfl, fun U hU hWm => ⟨rfl, PT.mk hU hWm hP hK hD hE hO⟩⟩ rfl rfl hl.1 rfl (lv_room (Nat.le_of_ble_eq_true rfl)) dX4_addRelaxedLines_61 ⟨by show _ + 0 ≤ 0; omega, by show _ + 0 ≤ 0; omega⟩) hS (fun q _ h => hFc q h) hFc (fun u t H1 locs ht hvm hw hB hz1 hk1 hS => ?_)
          obtain ⟨F_56, hB1, hq_57, hq_58⟩ := hB
          obtain ⟨hP, hD, hO, hR⟩ := QT.back hB1 ht hFc hR (fun q h => by simp only [List.mem_cons, List.not_mem_nil, or_false] at h ⊢; omega)
          have hF_59 : F_56 h0 = .inr (4, [.ref tx, .ref y0, .ref y1, .ref y2, .int (nI nn), .int (nI bs)]) := (hB1.2.2.2 h0 (by rw [hT_h0]; simp only [List.mem_cons, List.not_mem_nil, or_false]; omega)).trans hF_19
          have hF_60 : F_56 tx = .inr (0, [.ref rx, .int (nI zm), .int oo]) := (hB1.2.2.2 tx (by rw [hT_tx]; simp only [List.mem_cons, List.not_mem_nil, or_false]; omega)).trans hF_20
          have hF_61 : F_56 rx = .inl (cs 16, 3000, .inl f) := (hB1.2.2.2 rx (by rw [ht_8]; simp only [List.mem_cons, List.not_mem_nil, or_false]; omega)).trans hF_21
          generalize H1 = H at hP hS ⊢
          have hou_62 := OUTS.add (y := (2, 10)) hN3 c_54
          have hwf_63 := WFS.add (y := (2, 10)) hN4 (Or.inl rfl)
          have hF_64 : F_56 g1 = .inr (0, [.ref r1, .int (nI (aa ++ [(2, 10)]).length), .int 0]) := by rw [len1]; exact hq_57
          refine lv_iconst (v := 0) hx hb dX4_addRelaxedLines_64 (by decide) ?_
          refine lv_istore_n (lv' := [(2, .int 0), (4, .int (f i1)), (3, .int (nI i1)), (0, .ref h0), (1, .ref g1)]) hx hb dX4_addRelaxedLines_65 rfl hl (by decide) rfl (fun ls hl => ?_)
          refine lv_iinc (v := (nI (i1 + 1))) (lv' := [(3, .int (nI (i1 + 1))), (2, .int 0), (4, .int (f i1)), (0, .ref h0), (1, .ref g1)]) hx hb dX4_addRelaxedLines_66 hl (k := 2) rfl (nI_1 _) (by decide) rfl (fun ls hl => ?_)
          refine lv_goto (tgt := 7) hx hb dX4_addRelaxedLines_69 (by decide) ?_
          refine W.widen (k := 0) (n := 0) (by omega) (by omega) ?_
          exact ih_18 ((i1 + 1), 0, (aa ++ [(2, 10)]), (upd fq aa.length (f i1))) F_56 (⟨by omega, by omega, by rw [len1]; omega, Or.inl rfl, bl_0 hv6 hib (clg0 c_54), hF_64, hq_58, hou_62, hwf_63⟩) (by show zm - (i1 + 1) < zm - i1; omega) hO hR _ _ hP hD hS ls (lv_sub hl [0, 1, 3, 4] rfl)
        ·
          refine lv_aload_n hx hb dX4_addRelaxedLines_52 rfl (lv_at hl 4 rfl) ?_
          refine lv_bipush (v := 32) hx hb dX4_addRelaxedLines_53 (by decide) ?_
          have hFc := pg_free hD hS hA
          refine va_callv (va_runV (As := [.int 32]) (rest := []) ⟨hx, hb, hml, hown, hts⟩ (s_X0_add_e l dC dI cs ty L H.size F_13 g1 σ r1 n1 aa.length fq 32 hW hL_g1 hT_g1 hN1 hN2 (by have h9 := hv5.resolve_left c_32; omega) (by omega)) ⟨callB_of 1 hts (gi kt_13) rfl rfl rfl (hts _ kt_1) (hts _ kt_230) (by decide +kernel) ⟨Nat.le_of_ble_eq_true rfl, Nat.le_of_ble_eq_true rfl⟩, (hts _ kt_15), (hts _ kt_16)⟩ ⟨fun a U g mk q => ⟨q.1, PT.calling q.2⟩, pg_recv hK hP hL_g1 hN1 (q := (RX0, TX0, 3)) rfl, fun U hU hWm => ⟨rfl, PT.mk hU hWm hP hK hD hE hO⟩⟩ rfl rfl hl.1 rfl (lv_room (Nat.le_of_ble_eq_true rfl)) dX4_addRelaxedLines_55 ⟨by show _ + 0 ≤ 0; omega, by show _ + 0 ≤ 0; omega⟩) hS (fun q _ h => hFc q h) hFc (fun u t H1 locs ht hvm hw hB hz1 hk1 hS => ?_)
          obtain ⟨F_66, hB1, hq_67, hq_68⟩ := hB
          obtain ⟨hP, hD, hO, hR⟩ := QT.back hB1 ht hFc hR (fun q h => by simp only [List.mem_cons, List.not_mem_nil, or_false] at h ⊢; omega)
          have hF_69 : F_66 h0 = .inr (4, [.ref tx, .ref y0, .ref y1, .ref y2, .int (nI nn), .int (nI bs)]) := (hB1.2.2.2 h0 (by rw [hT_h0]; simp only [List.mem_cons, List.not_mem_nil, or_false]; omega)).trans hF_19
          have hF_70 : F_66 tx = .inr (0, [.ref rx, .int (nI zm), .int oo]) := (hB1.2.2.2 tx (by rw [hT_tx]; simp only [List.mem_cons, List.not_mem_nil, or_false]; omega)).trans hF_20
          have hF_71 : F_66 rx = .inl (cs 16, 3000, .inl f) := (hB1.2.2.2 rx (by rw [ht_8]; simp only [List.mem_cons, List.not_mem_nil, or_false]; omega)).trans hF_21
          generalize H1 = H at hP hS ⊢
          have hou_72 := OUTS.add (y := (2, 32)) hN3 (show (32 : Int32) = evs f (2, 32) from rfl)
          have hwf_73 := WFS.add (y := (2, 32)) hN4 (Or.inr (show ¬ nI 32 = 10 by decide))
          have hF_74 : F_66 g1 = .inr (0, [.ref r1, .int (nI (aa ++ [(2, 32)]).length), .int 0]) := by rw [len1]; exact hq_67
          refine lv_aload_n hx hb dX4_addRelaxedLines_58 rfl (lv_at hl 4 rfl) ?_
          refine lv_iload hx hb dX4_addRelaxedLines_59 (lv_at hl 0 rfl) ?_
          have hFc := pg_free hD hS hA
          refine va_callv (va_runV (As := [.int (f i1)]) (rest := []) ⟨hx, hb, hml, hown, hts⟩ (s_X0_add_e l dC dI cs ty L H.size F_66 g1 σ r1 n1 ((aa ++ [(2, 32)]).length) (upd fq aa.length 32) (f i1) hW hL_g1 hT_g1 hF_74 hq_68 (by rw [len1]; have h9 := hv5.resolve_left c_32; omega) (by omega)) ⟨callB_of 1 hts (gi kt_13) rfl rfl rfl (hts _ kt_1) (hts _ kt_230) (by decide +kernel) ⟨Nat.le_of_ble_eq_true rfl, Nat.le_of_ble_eq_true rfl⟩, (hts _ kt_15), (hts _ kt_16)⟩ ⟨fun a U g mk q => ⟨q.1, PT.calling q.2⟩, pg_recv hK hP hL_g1 hF_74 (q := (RX0, TX0, 3)) rfl, fun U hU hWm => ⟨rfl, PT.mk hU hWm hP hK hD hE hO⟩⟩ rfl rfl hl.1 rfl (lv_room (Nat.le_of_ble_eq_true rfl)) dX4_addRelaxedLines_61 ⟨by show _ + 0 ≤ 0; omega, by show _ + 0 ≤ 0; omega⟩) hS (fun q _ h => hFc q h) hFc (fun u t H1 locs ht hvm hw hB hz1 hk1 hS => ?_)
          obtain ⟨F_76, hB1, hq_77, hq_78⟩ := hB
          obtain ⟨hP, hD, hO, hR⟩ := QT.back hB1 ht hFc hR (fun q h => by simp only [List.mem_cons, List.not_mem_nil, or_false] at h ⊢; omega)
          have hF_79 : F_76 h0 = .inr (4, [.ref tx, .ref y0, .ref y1, .ref y2, .int (nI nn), .int (nI bs)]) := (hB1.2.2.2 h0 (by rw [hT_h0]; simp only [List.mem_cons, List.not_mem_nil, or_false]; omega)).trans hF_69
          have hF_80 : F_76 tx = .inr (0, [.ref rx, .int (nI zm), .int oo]) := (hB1.2.2.2 tx (by rw [hT_tx]; simp only [List.mem_cons, List.not_mem_nil, or_false]; omega)).trans hF_70
          have hF_81 : F_76 rx = .inl (cs 16, 3000, .inl f) := (hB1.2.2.2 rx (by rw [ht_8]; simp only [List.mem_cons, List.not_mem_nil, or_false]; omega)).trans hF_71
          generalize H1 = H at hP hS ⊢
          have hou_82 := OUTS.add (y := (0, i1)) hou_72 ev_0
          have hwf_83 := WFS.add (y := (0, i1)) hwf_73 (Or.inr c_54)
          have hF_84 : F_76 g1 = .inr (0, [.ref r1, .int (nI ((aa ++ [(2, 32)]) ++ [(0, i1)]).length), .int 0]) := by rw [len1]; exact hq_77
          refine lv_iconst (v := 0) hx hb dX4_addRelaxedLines_64 (by decide) ?_
          refine lv_istore_n (lv' := [(2, .int 0), (4, .int (f i1)), (3, .int (nI i1)), (0, .ref h0), (1, .ref g1)]) hx hb dX4_addRelaxedLines_65 rfl hl (by decide) rfl (fun ls hl => ?_)
          refine lv_iinc (v := (nI (i1 + 1))) (lv' := [(3, .int (nI (i1 + 1))), (2, .int 0), (4, .int (f i1)), (0, .ref h0), (1, .ref g1)]) hx hb dX4_addRelaxedLines_66 hl (k := 2) rfl (nI_1 _) (by decide) rfl (fun ls hl => ?_)
          refine lv_goto (tgt := 7) hx hb dX4_addRelaxedLines_69 (by decide) ?_
          refine W.widen (k := 0) (n := 0) (by omega) (by omega) ?_
          exact ih_18 ((i1 + 1), 0, ((aa ++ [(2, 32)]) ++ [(0, i1)]), (upd (upd fq aa.length 32) (aa ++ [(2, 32)]).length (f i1))) F_76 (⟨by omega, by omega, by rw [len1, len1]; have h9 := hv5.resolve_left c_32; omega, Or.inl rfl, bl_b hv6 hib (clg0n c_54) (fun q => clg1n (ifb0 hw_30 c_31) q.2) c_32, hF_84, hq_78, hou_82, hwf_83⟩) (by show zm - (i1 + 1) < zm - i1; omega) hO hR _ _ hP hD hS ls (lv_sub hl [0, 1, 3, 4] rfl)
    ·
      refine lv_iconst (v := 1) hx hb dX4_addRelaxedLines_36 (by decide) ?_
      refine lv_istore_n (lv' := [(2, .int 1), (4, .int (f i1)), (3, .int (nI i1)), (0, .ref h0), (1, .ref g1)]) hx hb dX4_addRelaxedLines_37 rfl hl (by decide) rfl (fun ls hl => ?_)
      refine lv_goto (tgt := 66) hx hb dX4_addRelaxedLines_38 (by decide) ?_
      refine lv_iinc (v := (nI (i1 + 1))) (lv' := [(3, .int (nI (i1 + 1))), (2, .int 1), (4, .int (f i1)), (0, .ref h0), (1, .ref g1)]) hx hb dX4_addRelaxedLines_66 hl (k := 2) rfl (nI_1 _) (by decide) rfl (fun ls hl => ?_)
      refine lv_goto (tgt := 7) hx hb dX4_addRelaxedLines_69 (by decide) ?_
      refine W.widen (k := 0) (n := 0) (by omega) (by omega) ?_
      exact ih_18 ((i1 + 1), 1, aa, fq) F_13 (⟨by omega, by omega, by omega, Or.inr (by omega), bl_1 hv6 hib hx2 (clg1 (ifb1 hw_30 c_31)), hN1, hN2, hN3, hN4⟩) (by show zm - (i1 + 1) < zm - i1; omega) hO hR _ _ hP hD hS ls (lv_sub hl [0, 1, 3, 4] rfl)
theorem OUTS.cons {f g : Nat → Int32} {w : List (Nat × Nat)} {y : Nat × Nat} (h0 : g 0 = evs f y) (h : OUTS f (fun j => g (j + 1)) w) : OUTS f g (y :: w) := by
  intro j y9 hj
  cases j with
  | zero =>
    have e : y = y9 := Option.some.inj hj
    rw [← e]
    exact h0
  | succ j =>
    rw [List.getElem?_cons_succ] at hj
    exact h j y9 hj
theorem WFS.cons {f : Nat → Int32} {w : List (Nat × Nat)} {y : Nat × Nat} (h0 : y = (2, 10) ∨ ¬ evs f y = 10) (h : WFS f w) : WFS f (y :: w) := by
  intro j y9 hj
  cases j with
  | zero =>
    have e : y = y9 := Option.some.inj hj
    rw [← e]
    exact h0
  | succ j =>
    rw [List.getElem?_cons_succ] at hj
    exact h j y9 hj
theorem bl_un {f : Nat → Int32} {x : Int32} (hx : x = 0) : ∀ (n b : Nat) (g : Nat → Int32), (∀ j, j < n → g j = f (b + j)) → OUTS f g (blx (clf f) x n b 0) ∧ WFS f (blx (clf f) x n b 0) ∧ (blx (clf f) x n b 0).length = n := by
  intro n
  induction n with
  | zero => intro b g _; exact ⟨OUTS.nil, WFS.nil, rfl⟩
  | succ n ih =>
    intro b g h
    obtain ⟨a1, a2, a3⟩ := ih (b + 1) (fun j => g (j + 1)) (fun j hj => by rw [h (j + 1) (by omega), show b + (j + 1) = b + 1 + j by omega])
    have h0 := h 0 (by omega)
    rw [Nat.add_zero] at h0
    rw [blx_s]
    by_cases c : f b = 10
    · rw [if_pos (show clf f b = 0 from clg0 c)]
      exact ⟨OUTS.cons (h0.trans (c.trans (show (10 : Int32) = evs f (2, 10) from rfl))) a1, WFS.cons (Or.inl rfl) a2, by rw [List.length_cons, a3]⟩
    · rw [if_neg (show ¬ clf f b = 0 from clg0n c), if_neg (fun q => q.1 hx), if_pos rfl, List.nil_append]
      exact ⟨OUTS.cons h0 a1, WFS.cons (Or.inr c) a2, by rw [List.length_cons, a3]⟩
theorem stl_v {f g : Nat → Int32} {w : List (Nat × Nat)} {k : Nat} (ho : OUTS f g w) (hw : WFS f w) (h1 : k ≤ w.length) (h2 : ∀ j, k ≤ j → j < w.length → g j = 10) (h3 : k = 0 ∨ (2 ≤ k ∧ g (k - 1) = 10 ∧ ¬ g (k - 2) = 10)) : STL w k := by
  refine ⟨h1, fun j a1 a2 => (nls_v ho hw a2).mpr (h2 j a1 a2), ?_⟩
  rcases h3 with c | ⟨c1, c2, c3⟩
  · exact Or.inl c
  · exact Or.inr ⟨c1, (nls_v ho hw (by omega)).mpr c2, fun q => c3 ((nls_v ho hw (by omega)).mp q)⟩
theorem bdn_0 {T : Nat → Nat} {x : Int32} {b z k : Nat} (h : STL (blx T x (z - b) b 0 ++ [(2, 10)]) k) (hk : k = 0) (hx : x = 0) : BDN T x b z (nI 1) := ⟨k, h, Or.inl ⟨hk, hx, rfl⟩⟩
theorem bdn_n {T : Nat → Nat} {x : Int32} {b z k : Nat} (h : STL (blx T x (z - b) b 0 ++ [(2, 10)]) k) (hk : ¬ (k = 0 ∧ x = 0)) : BDN T x b z (nI k) := ⟨k, h, Or.inr ⟨hk, rfl⟩⟩
set_option maxHeartbeats 4000000 in
set_option maxRecDepth 100000 in
theorem s_X4_addBody_e (l : Launch) (dC : Nat → ClassId) (dI : Nat → Nat → Nat) (cs : Nat → ClassId) (ty : TyM) (L : List Nat) (sz : Nat) (F : Nat → va_E) (h0 : Nat) (ρ : Nat) (tx : Nat) (y0 : Nat) (y1 : Nat) (y2 : Nat) (g1 : Nat) (σ : Nat) (r1 : Nat) (n1 : Nat) (rx : Nat) (zm : Nat) (nn : Nat) (bs : Nat) (f : Nat → Int32) (fo : Nat → Int32) (oo : Int32) (x2 : Int32) (hW : WT ty L) (hL_h0 : h0 ∈ L) (hT_h0 : ty h0 = (4, ρ, [tx, y0, y1, y2])) (hL_tx : tx ∈ L) (hT_tx : ty tx = (0, ρ + 1, [rx, 3000])) (hL_g1 : g1 ∈ L) (hT_g1 : ty g1 = (0, σ, [r1, n1])) (hF0 : F h0 = .inr (4, [.ref tx, .ref y0, .ref y1, .ref y2, .int (nI nn), .int (nI bs)])) (hFx : F tx = .inr (0, [.ref rx, .int (nI zm), .int oo])) (hFr : F rx = .inl (cs 16, 3000, .inl f)) (hFg : F g1 = .inr (0, [.ref r1, .int (nI 0), .int 0])) (hFo : F r1 = .inl (cs 16, n1, .inl fo)) (hbz : bs ≤ zm) (hz3 : zm ≤ 3000) (hroom : zm - bs + 1 ≤ n1) (hn9 : n1 ≤ 10000) (hfar : ρ + 10 ≤ σ ∨ σ + 10 ≤ ρ) : Met l yX4_addBody (.code yX4_addBody cX4_addBody 4 none :: tb) ({ frames := 2, cells := 0, slots := 0, locals := 74 }) (va_Pc [.ref h0, .ref g1, .int x2] (PT (dC, dI) cs ty L F sz)) (va_Qv (fun _ : Unit => True) (fun _ T9 => ∃ F2 : Nat → va_E, ∃ NN : Nat, QT (dC, dI) cs ty L [σ] F F2 (va_A (va_pl L F) sz) T9 ∧ F2 g1 = .inr (0, [.ref r1, .int (nI NN), .int 0]) ∧ BDN (clf f) x2 bs zm (nI NN)) (va_A (va_pl L F) sz)) 0 0 (va_A (va_pl L F) sz) := by
  refine Met.ofW (cc := cX4_addBody) (maxL := 4) (ret := none) (by decide) rfl ?_
  intro p e s m args below meth c s₁ B hml hv
  obtain ⟨rfl, hsz, hP, hK, hD0, hE, hO⟩ := hv
  have hx := B.exec
  have hb := B.bytes
  have hr := B.returns
  have hts : ∀ w ∈ tb, w.before _ s = true := fun w h => atoms_spec (ws := .code yX4_addBody cX4_addBody 4 none :: tb) B.pre w (List.mem_cons_of_mem _ h)
  have hown : s.vm.findClass RX4 = some m.cls := findClass_of_methodNamed B.named
  have hlocks := B.notSynchronized
  subst hsz
  have hD := hD0.self (sz := s.heap.size)
  generalize hAe : va_A (va_pl L F) s.heap.size = A at hD ⊢
  have hA : ∀ q : Nat, s.heap.size ≤ q → A q := fun q h => by rw [← hAe]; exact Or.inr h
  have hS : va_S A s.heap s.heap [] := va_S.rf
  have hR : FR ty [σ] F F := FR.refl
  have hl := lv_entry ([.ref h0, .ref g1, .int x2]) (n := 4) (Nat.le_of_ble_eq_true rfl)
  rw [lg_entry_eq]
  generalize (lg_sl ([.ref h0, .ref g1, .int x2]) ++ List.replicate (4 - (lg_sl ([.ref h0, .ref g1, .int x2])).length) Slot.unset).toArray = ls at hl ⊢
  have hl : lv_has ls 4 [(0, .ref h0), (1, .ref g1), (2, .int x2)] := hl
  obtain ⟨_, hi_1, hi_2, hi_3, _, ht_4, ht_5, ht_6⟩ := hW.msg hL_h0 hT_h0
  obtain ⟨hi_7, ht_8, hq_9⟩ := hW.bytes hL_tx hT_tx
  obtain ⟨hi_10, ht_11, hq_12⟩ := hW.bytes hL_g1 hT_g1
  obtain ⟨LL, hLL⟩ : ∃ w, w = blx (clf f) x2 (zm - bs) bs 0 := ⟨_, rfl⟩
  have hlen : LL.length ≤ zm - bs := by rw [hLL]; have h9 := blx_len (clf f) x2 (zm - bs) bs 0; rw [if_pos rfl] at h9; exact h9
  refine lv_iload_n hx hb dX4_addBody_0 rfl (lv_at hl 2 rfl) ?_
  refine lv_if_eq (tgt := 12) hx hb dX4_addBody_1 (by decide) (fun c_13 => ?_) (fun c_13 => ?_)
  ·
    refine lv_aload_n hx hb dX4_addBody_12 rfl (lv_at hl 1 rfl) ?_
    refine lv_aload_n hx hb dX4_addBody_13 rfl (lv_at hl 0 rfl) ?_
    refine pg_get (ci := 4) (v := .ref tx) (C := RX4) (T := TX4) (N := 6) hx hb hts it_4 hown hK hP hL_h0 hF0 rfl 0 (by decide) (hts _ kt_207) (fun _ h9 => h9) rfl dX4_addBody_14 ?_
    refine lv_aload_n hx hb dX4_addBody_17 rfl (lv_at hl 0 rfl) ?_
    refine pg_get (ci := 4) (v := .int (nI bs)) (C := RX4) (T := TX4) (N := 6) hx hb hts it_4 hown hK hP hL_h0 hF0 rfl 5 (by decide) (hts _ kt_225) (fun _ h9 => h9) rfl dX4_addBody_18 ?_
    refine lv_aload_n hx hb dX4_addBody_21 rfl (lv_at hl 0 rfl) ?_
    refine pg_get (ci := 4) (v := .ref tx) (C := RX4) (T := TX4) (N := 6) hx hb hts it_4 hown hK hP hL_h0 hF0 rfl 0 (by decide) (hts _ kt_207) (fun _ h9 => h9) rfl dX4_addBody_22 ?_
    refine pg_getN (ci := 0) (v := .int (nI zm)) (C := RX0) (T := TX0) (N := 3) hx hb hts it_0 hown hK hP hL_tx hFx rfl 1 (by decide) (hE.nest kn_6) (fun _ h9 => h9) rfl dX4_addBody_25 ?_
    have hFc := pg_free hD hS hA
    refine va_callv (va_runV (As := [.ref tx, .int (nI bs), .int (nI zm)]) (rest := []) ⟨hx, hb, hml, hown, hts⟩ (s_X0_addRange_o l dC dI cs ty L s.heap.size F g1 σ r1 n1 tx (ρ + 1) rx 3000 zm bs zm f oo hW hL_g1 hT_g1 hL_tx hT_tx hFg hFx hFr (by omega) (by omega) (by omega) (hbz) (Nat.le_refl _) (by omega)) ⟨callB_of 3 hts (gi kt_36) rfl rfl rfl (hts _ kt_1) (hts _ kt_231) (by decide +kernel) ⟨Nat.le_of_ble_eq_true rfl, Nat.le_of_ble_eq_true rfl⟩, (hts _ kt_38), (hts _ kt_39)⟩ ⟨fun a U g mk q => ⟨q.1, PT.calling q.2⟩, pg_recv hK hP hL_g1 hFg (q := (RX0, TX0, 3)) rfl, fun U hU hWm => ⟨rfl, PT.mk hU hWm hP hK hD hE hO⟩⟩ rfl rfl hl.1 rfl (lv_room (Nat.le_of_ble_eq_true rfl)) dX4_addBody_28 ⟨by show _ + 0 ≤ 0; omega, by show _ + 0 ≤ 0; omega⟩) hS (fun q _ h => hFc q h) hFc (fun u t H1 locs ht hvm hw hB hz1 hk1 hS => ?_)
    obtain ⟨F_15, fc_16, hB1, hq_17, hq_18, hq_19⟩ := hB
    obtain ⟨hP, hD, hO, hR⟩ := QT.back hB1 ht hFc hR (fun q h => by simp only [List.mem_cons, List.not_mem_nil, or_false] at h ⊢; omega)
    have hF_20 : F_15 h0 = .inr (4, [.ref tx, .ref y0, .ref y1, .ref y2, .int (nI nn), .int (nI bs)]) := (hB1.2.2.2 h0 (by rw [hT_h0]; simp only [List.mem_cons, List.not_mem_nil, or_false]; omega)).trans hF0
    have hF_21 : F_15 tx = .inr (0, [.ref rx, .int (nI zm), .int oo]) := (hB1.2.2.2 tx (by rw [hT_tx]; simp only [List.mem_cons, List.not_mem_nil, or_false]; omega)).trans hFx
    have hF_22 : F_15 rx = .inl (cs 16, 3000, .inl f) := (hB1.2.2.2 rx (by rw [ht_8]; simp only [List.mem_cons, List.not_mem_nil, or_false]; omega)).trans hFr
    generalize H1 = H at hP hS ⊢
    obtain ⟨hun_23a, hun_23b, hun_23c⟩ := bl_un c_13 (zm - bs) bs fc_16 hq_19
    rw [← hLL] at hun_23a hun_23b hun_23c
    have hF_24 : F_15 g1 = .inr (0, [.ref r1, .int (nI LL.length), .int 0]) := by rw [hun_23c]; exact hq_17
    refine lv_aload_n hx hb dX4_addBody_31 rfl (lv_at hl 1 rfl) ?_
    refine pg_getN (ci := 0) (v := .int (nI LL.length)) (C := RX0) (T := TX0) (N := 3) hx hb hts it_0 hown hK hP hL_g1 hF_24 rfl 1 (by decide) (hE.nest kn_6) (fun _ h9 => h9) rfl dX4_addBody_32 ?_
    refine lv_if_le (tgt := 59) hx hb dX4_addBody_35 (by decide) (fun c_25 => ?_) (fun c_25 => ?_)
    ·
      have hl0 : LL.length = 0 := by have h9 : LL.length ≤ 0 := (nI_leI (b := 0) (by omega) (by omega)).mp c_25; omega
      have hWl : LL.length ≤ zm - bs + 1 := by omega
      have hend : LL.length = 0 ∨ fc_16 (LL.length - 1) = 10 := Or.inl hl0
      refine lv_aload_n hx hb dX4_addBody_59 rfl (lv_at hl 1 rfl) ?_
      refine pg_getN (ci := 0) (v := .int (nI LL.length)) (C := RX0) (T := TX0) (N := 3) hx hb hts it_0 hown hK hP hL_g1 hF_24 rfl 1 (by decide) (hE.nest kn_6) (fun _ h9 => h9) rfl dX4_addBody_60 ?_
      refine lv_istore_n (lv' := [(3, .int (nI LL.length)), (0, .ref h0), (1, .ref g1), (2, .int x2)]) hx hb dX4_addBody_63 rfl hl (by decide) rfl (fun ls hl => ?_)
      refine W.widen (k := 0) (n := 0) (by omega) (by omega) ?_
      have hF_28 : F h0 = .inr (4, [.ref tx, .ref y0, .ref y1, .ref y2, .int (nI nn), .int (nI bs)]) := (hR h0 (by rw [hT_h0]; simp only [List.mem_cons, List.not_mem_nil, or_false]; omega)).symm.trans hF_20
      have hF_29 : F tx = .inr (0, [.ref rx, .int (nI zm), .int oo]) := (hR tx (by rw [hT_tx]; simp only [List.mem_cons, List.not_mem_nil, or_false]; omega)).symm.trans hF_21
      have hF_30 : F rx = .inl (cs 16, 3000, .inl f) := (hR rx (by rw [ht_8]; simp only [List.mem_cons, List.not_mem_nil, or_false]; omega)).symm.trans hF_22
      refine pl_loop (σ := Nat) A (dC, dI) cs ty L [σ] F 64 4 (fun ke => [(3, .int (nI ke)), (0, .ref h0), (1, .ref g1), (2, .int x2)]) (fun ke => []) (fun ke FF => ke ≤ LL.length ∧ (∀ j, ke ≤ j → j < LL.length → fc_16 j = 10) ∧ (ke = 0 ∨ fc_16 (ke - 1) = 10) ∧ FF g1 = .inr (0, [.ref r1, .int (nI LL.length), .int 0]) ∧ FF r1 = .inl (cs 16, n1, .inl fc_16)) (fun ke => ke) ?_ LL.length F_15 (⟨Nat.le_refl _, fun j h1 h2 => by omega, hend, hF_24, hq_18⟩) hO hR _ _ hP hD hS ls (lv_sub hl [0, 1, 2, 3] rfl)
      rintro ke F_27 hv_31 hO hR ih_32 H locs hP hD hS ls hl
      have hl : lv_has ls 4 [(3, .int (nI ke)), (0, .ref h0), (1, .ref g1), (2, .int x2)] := hl
      have hv_31 : ke ≤ LL.length ∧ (∀ j, ke ≤ j → j < LL.length → fc_16 j = 10) ∧ (ke = 0 ∨ fc_16 (ke - 1) = 10) ∧ F_27 g1 = .inr (0, [.ref r1, .int (nI LL.length), .int 0]) ∧ F_27 r1 = .inl (cs 16, n1, .inl fc_16) := hv_31
      refine W.eq (g2 := F0 m 64 ls []) rfl ?_
      have hF_33 : F_27 h0 = .inr (4, [.ref tx, .ref y0, .ref y1, .ref y2, .int (nI nn), .int (nI bs)]) := (hR h0 (by rw [hT_h0]; simp only [List.mem_cons, List.not_mem_nil, or_false]; omega)).trans hF_28
      have hF_34 : F_27 tx = .inr (0, [.ref rx, .int (nI zm), .int oo]) := (hR tx (by rw [hT_tx]; simp only [List.mem_cons, List.not_mem_nil, or_false]; omega)).trans hF_29
      have hF_35 : F_27 rx = .inl (cs 16, 3000, .inl f) := (hR rx (by rw [ht_8]; simp only [List.mem_cons, List.not_mem_nil, or_false]; omega)).trans hF_30
      obtain ⟨hv1, hv2, hv3, hN1, hN2⟩ := id hv_31
      refine lv_iload_n hx hb dX4_addBody_64 rfl (lv_at hl 0 rfl) ?_
      refine lv_if_le (tgt := 103) hx hb dX4_addBody_65 (by decide) (fun c_36 => ?_) (fun c_36 => ?_)
      ·
        have hk0 : ke = 0 := by have h9 : ke ≤ 0 := (nI_leI (b := 0) (by omega) (by omega)).mp c_36; omega
        have hst := stl_v hun_23a hun_23b hv1 hv2 (Or.inl hk0)
        have hst := hst.nl
        rw [hLL] at hst
        refine lv_aload_n hx hb dX4_addBody_103 rfl (lv_at hl 2 rfl) ?_
        refine lv_iload_n hx hb dX4_addBody_104 rfl (lv_at hl 0 rfl) ?_
        have hFc := pg_free hD hS hA
        refine va_callv (va_runV (As := [.int (nI ke)]) (rest := []) ⟨hx, hb, hml, hown, hts⟩ (s_X0_cut_e l dC dI cs ty L H.size F_27 g1 σ r1 n1 LL.length ke fc_16 hW hL_g1 hT_g1 hN1 hN2 (hv1) (by omega) (by omega)) ⟨callB_of 1 hts (gi kt_236) rfl rfl rfl (hts _ kt_1) (hts _ kt_237) (by decide +kernel) ⟨Nat.le_of_ble_eq_true rfl, Nat.le_of_ble_eq_true rfl⟩, (hts _ kt_238), (hts _ kt_239)⟩ ⟨fun a U g mk q => ⟨q.1, PT.calling q.2⟩, pg_recv hK hP hL_g1 hN1 (q := (RX0, TX0, 3)) rfl, fun U hU hWm => ⟨rfl, PT.mk hU hWm hP hK hD hE hO⟩⟩ rfl rfl hl.1 rfl (lv_room (Nat.le_of_ble_eq_true rfl)) dX4_addBody_105 ⟨by show _ + 0 ≤ 0; omega, by show _ + 0 ≤ 0; omega⟩) hS (fun q _ h => hFc q h) hFc (fun u t H1 locs ht hvm hw hB hz1 hk1 hS => ?_)
        obtain ⟨F_39, hB1, hq_40, hq_41⟩ := hB
        obtain ⟨hP, hD, hO, hR⟩ := QT.back hB1 ht hFc hR (fun q h => by simp only [List.mem_cons, List.not_mem_nil, or_false] at h ⊢; omega)
        have hF_42 : F_39 h0 = .inr (4, [.ref tx, .ref y0, .ref y1, .ref y2, .int (nI nn), .int (nI bs)]) := (hB1.2.2.2 h0 (by rw [hT_h0]; simp only [List.mem_cons, List.not_mem_nil, or_false]; omega)).trans hF_33
        have hF_43 : F_39 tx = .inr (0, [.ref rx, .int (nI zm), .int oo]) := (hB1.2.2.2 tx (by rw [hT_tx]; simp only [List.mem_cons, List.not_mem_nil, or_false]; omega)).trans hF_34
        have hF_44 : F_39 rx = .inl (cs 16, 3000, .inl f) := (hB1.2.2.2 rx (by rw [ht_8]; simp only [List.mem_cons, List.not_mem_nil, or_false]; omega)).trans hF_35
        generalize H1 = H at hP hS ⊢
        refine lv_iload_n hx hb dX4_addBody_108 rfl (lv_at hl 0 rfl) ?_
        refine lv_if_ne (tgt := 122) hx hb dX4_addBody_109 (by decide) (fun c_45 => absurd (by rw [hk0]; rfl) c_45) (fun c_45 => ?_)
        refine lv_iload_n hx hb dX4_addBody_112 rfl (lv_at hl 3 rfl) ?_
        refine lv_if_ne (tgt := 122) hx hb dX4_addBody_113 (by decide) (fun c_46 => ?_) (fun c_46 => ?_)
        ·
          refine W.widen (k := 0) (n := 0) (by omega) (by omega) ?_
          exact W.vret hx hb hr (fun t ht hWm => ⟨⟨(), rfl, trivial, ⟨F_39, ke, QT.mk ht hP hD hO hR, hq_40, (bdn_n hst (fun q => c_46 q.2))⟩⟩, hS.F ht⟩) hS.2.2 dX4_addBody_122
        ·
          refine lv_aload_n hx hb dX4_addBody_116 rfl (lv_at hl 2 rfl) ?_
          refine lv_bipush (v := 10) hx hb dX4_addBody_117 (by decide) ?_
          have hFc := pg_free hD hS hA
          refine va_callv (va_runV (As := [.int 10]) (rest := []) ⟨hx, hb, hml, hown, hts⟩ (s_X0_add_e l dC dI cs ty L H.size F_39 g1 σ r1 n1 ke fc_16 10 hW hL_g1 hT_g1 hq_40 hq_41 (by omega) (by omega)) ⟨callB_of 1 hts (gi kt_13) rfl rfl rfl (hts _ kt_1) (hts _ kt_230) (by decide +kernel) ⟨Nat.le_of_ble_eq_true rfl, Nat.le_of_ble_eq_true rfl⟩, (hts _ kt_15), (hts _ kt_16)⟩ ⟨fun a U g mk q => ⟨q.1, PT.calling q.2⟩, pg_recv hK hP hL_g1 hq_40 (q := (RX0, TX0, 3)) rfl, fun U hU hWm => ⟨rfl, PT.mk hU hWm hP hK hD hE hO⟩⟩ rfl rfl hl.1 rfl (lv_room (Nat.le_of_ble_eq_true rfl)) dX4_addBody_119 ⟨by show _ + 0 ≤ 0; omega, by show _ + 0 ≤ 0; omega⟩) hS (fun q _ h => hFc q h) hFc (fun u t H1 locs ht hvm hw hB hz1 hk1 hS => ?_)
          obtain ⟨F_48, hB1, hq_49, hq_50⟩ := hB
          obtain ⟨hP, hD, hO, hR⟩ := QT.back hB1 ht hFc hR (fun q h => by simp only [List.mem_cons, List.not_mem_nil, or_false] at h ⊢; omega)
          have hF_51 : F_48 h0 = .inr (4, [.ref tx, .ref y0, .ref y1, .ref y2, .int (nI nn), .int (nI bs)]) := (hB1.2.2.2 h0 (by rw [hT_h0]; simp only [List.mem_cons, List.not_mem_nil, or_false]; omega)).trans hF_42
          have hF_52 : F_48 tx = .inr (0, [.ref rx, .int (nI zm), .int oo]) := (hB1.2.2.2 tx (by rw [hT_tx]; simp only [List.mem_cons, List.not_mem_nil, or_false]; omega)).trans hF_43
          have hF_53 : F_48 rx = .inl (cs 16, 3000, .inl f) := (hB1.2.2.2 rx (by rw [ht_8]; simp only [List.mem_cons, List.not_mem_nil, or_false]; omega)).trans hF_44
          generalize H1 = H at hP hS ⊢
          refine W.widen (k := 0) (n := 0) (by omega) (by omega) ?_
          exact W.vret hx hb hr (fun t ht hWm => ⟨⟨(), rfl, trivial, ⟨F_48, 1, QT.mk ht hP hD hO hR, (by have h9 := hq_49; rw [hk0] at h9; exact h9), (bdn_0 hst hk0 c_46)⟩⟩, hS.F ht⟩) hS.2.2 dX4_addBody_122
      ·
        have hkp : 0 < ke := posN c_36
        refine lv_aload_n hx hb dX4_addBody_68 rfl (lv_at hl 2 rfl) ?_
        refine lv_iload_n hx hb dX4_addBody_69 rfl (lv_at hl 0 rfl) ?_
        refine lv_iconst (v := 1) hx hb dX4_addBody_70 (by decide) ?_
        refine lv_isub hx hb dX4_addBody_71 ?_
        refine lv_topi (fun x_55 ex_55 => ?_)
        obtain rfl : x_55 = (nI (ke - 1)) := ex_55.trans (pk_sub (b := 1) (by omega))
        have hFc := pg_free hD hS hA
        refine va_calli (va_runV (As := [.int (nI (ke - 1))]) (rest := []) ⟨hx, hb, hml, hown, hts⟩ (s_X0_at_o l dC dI cs ty L H.size F_27 g1 σ r1 n1 LL.length (ke - 1) fc_16 0 hW hL_g1 hT_g1 hN1 hN2 (by omega) (by omega) (by omega)) ⟨callB_of 1 hts (gi kt_21) rfl rfl rfl (hts _ kt_1) (hts _ kt_199) (by decide +kernel) ⟨Nat.le_of_ble_eq_true rfl, Nat.le_of_ble_eq_true rfl⟩, (hts _ kt_23), (hts _ kt_24)⟩ ⟨fun a U g mk q => ⟨q.1, PT.calling q.2⟩, pg_recv hK hP hL_g1 hN1 (q := (RX0, TX0, 3)) rfl, fun U hU hWm => ⟨rfl, PT.mk hU hWm hP hK hD hE hO⟩⟩ rfl rfl hl.1 rfl (lv_room (Nat.le_of_ble_eq_true rfl)) dX4_addBody_72 ⟨by show _ + 0 ≤ 0; omega, by show _ + 0 ≤ 0; omega⟩) hS (fun q _ h => hFc q h) hFc (fun r_56 u t H1 locs ht hvm hw hB hz1 hk1 hS => ?_)
        obtain ⟨F_57, hB1⟩ := hB
        obtain rfl : F_27 = F_57 := (funext (fun a => hB1.2.2.2 a List.not_mem_nil)).symm
        obtain ⟨hP, hD, hO, hR⟩ := QT.back hB1 ht hFc hR (fun q h => absurd h List.not_mem_nil)
        generalize H1 = H at hP hS ⊢
        have hw : r_56 = fc_16 (ke - 1) := hw
        have hw_58 := hw
        subst hw_58
        refine lv_bipush (v := 10) hx hb dX4_addBody_75 (by decide) ?_
        refine lv_icmp_ne (tgt := 103) hx hb dX4_addBody_77 (by decide) (fun c_59 => absurd (hv3.resolve_left (by omega)) c_59) (fun c_59 => ?_)
        refine lv_iload_n hx hb dX4_addBody_80 rfl (lv_at hl 0 rfl) ?_
        refine lv_iconst (v := 1) hx hb dX4_addBody_81 (by decide) ?_
        refine lv_icmp_eq (tgt := 97) hx hb dX4_addBody_82 (by decide) (fun c_60 => ?_) (fun c_60 => ?_)
        ·
          have hk1 : ke = 1 := (nI_eq (b := 1) (by omega) (by omega)).mp c_60
          refine lv_iinc (v := (nI (ke - 1))) (lv' := [(3, .int (nI (ke - 1))), (0, .ref h0), (1, .ref g1), (2, .int x2)]) hx hb dX4_addBody_97 hl (k := 0) rfl (m1N (by omega)) (by decide) rfl (fun ls hl => ?_)
          refine lv_goto (tgt := 64) hx hb dX4_addBody_100 (by decide) ?_
          refine W.widen (k := 0) (n := 0) (by omega) (by omega) ?_
          exact ih_32 (ke - 1) F_27 (⟨by omega, fun j h1 h2 => by rcases Nat.lt_or_ge j ke with q | q; rw [show j = ke - 1 by omega]; exact hv3.resolve_left (by omega); exact hv2 j q h2, Or.inl (by omega), hN1, hN2⟩) (by show (ke - 1) < ke; omega) hO hR _ _ hP hD hS ls (lv_sub hl [0, 1, 2, 3] rfl)
        ·
          have hk2 : 2 ≤ ke := by have h9 : ke ≠ 1 := fun q => c_60 (by rw [q]; rfl); omega
          refine lv_aload_n hx hb dX4_addBody_85 rfl (lv_at hl 2 rfl) ?_
          refine lv_iload_n hx hb dX4_addBody_86 rfl (lv_at hl 0 rfl) ?_
          refine lv_iconst (v := 2) hx hb dX4_addBody_87 (by decide) ?_
          refine lv_isub hx hb dX4_addBody_88 ?_
          refine lv_topi (fun x_63 ex_63 => ?_)
          obtain rfl : x_63 = (nI (ke - 2)) := ex_63.trans (pk_sub (b := 2) (by omega))
          have hFc := pg_free hD hS hA
          refine va_calli (va_runV (As := [.int (nI (ke - 2))]) (rest := []) ⟨hx, hb, hml, hown, hts⟩ (s_X0_at_o l dC dI cs ty L H.size F_27 g1 σ r1 n1 LL.length (ke - 2) fc_16 0 hW hL_g1 hT_g1 hN1 hN2 (by omega) (by omega) (by omega)) ⟨callB_of 1 hts (gi kt_21) rfl rfl rfl (hts _ kt_1) (hts _ kt_199) (by decide +kernel) ⟨Nat.le_of_ble_eq_true rfl, Nat.le_of_ble_eq_true rfl⟩, (hts _ kt_23), (hts _ kt_24)⟩ ⟨fun a U g mk q => ⟨q.1, PT.calling q.2⟩, pg_recv hK hP hL_g1 hN1 (q := (RX0, TX0, 3)) rfl, fun U hU hWm => ⟨rfl, PT.mk hU hWm hP hK hD hE hO⟩⟩ rfl rfl hl.1 rfl (lv_room (Nat.le_of_ble_eq_true rfl)) dX4_addBody_89 ⟨by show _ + 0 ≤ 0; omega, by show _ + 0 ≤ 0; omega⟩) hS (fun q _ h => hFc q h) hFc (fun r_64 u t H1 locs ht hvm hw hB hz1 hk1 hS => ?_)
          obtain ⟨F_65, hB1⟩ := hB
          obtain rfl : F_27 = F_65 := (funext (fun a => hB1.2.2.2 a List.not_mem_nil)).symm
          obtain ⟨hP, hD, hO, hR⟩ := QT.back hB1 ht hFc hR (fun q h => absurd h List.not_mem_nil)
          generalize H1 = H at hP hS ⊢
          have hw : r_64 = fc_16 (ke - 2) := hw
          have hw_66 := hw
          subst hw_66
          refine lv_bipush (v := 10) hx hb dX4_addBody_92 (by decide) ?_
          refine lv_icmp_ne (tgt := 103) hx hb dX4_addBody_94 (by decide) (fun c_67 => ?_) (fun c_67 => ?_)
          ·
            have hst := stl_v hun_23a hun_23b hv1 hv2 (Or.inr ⟨hk2, hv3.resolve_left (by omega), c_67⟩)
            have hst := hst.nl
            rw [hLL] at hst
            refine lv_aload_n hx hb dX4_addBody_103 rfl (lv_at hl 2 rfl) ?_
            refine lv_iload_n hx hb dX4_addBody_104 rfl (lv_at hl 0 rfl) ?_
            have hFc := pg_free hD hS hA
            refine va_callv (va_runV (As := [.int (nI ke)]) (rest := []) ⟨hx, hb, hml, hown, hts⟩ (s_X0_cut_e l dC dI cs ty L H.size F_27 g1 σ r1 n1 LL.length ke fc_16 hW hL_g1 hT_g1 hN1 hN2 (hv1) (by omega) (by omega)) ⟨callB_of 1 hts (gi kt_236) rfl rfl rfl (hts _ kt_1) (hts _ kt_237) (by decide +kernel) ⟨Nat.le_of_ble_eq_true rfl, Nat.le_of_ble_eq_true rfl⟩, (hts _ kt_238), (hts _ kt_239)⟩ ⟨fun a U g mk q => ⟨q.1, PT.calling q.2⟩, pg_recv hK hP hL_g1 hN1 (q := (RX0, TX0, 3)) rfl, fun U hU hWm => ⟨rfl, PT.mk hU hWm hP hK hD hE hO⟩⟩ rfl rfl hl.1 rfl (lv_room (Nat.le_of_ble_eq_true rfl)) dX4_addBody_105 ⟨by show _ + 0 ≤ 0; omega, by show _ + 0 ≤ 0; omega⟩) hS (fun q _ h => hFc q h) hFc (fun u t H1 locs ht hvm hw hB hz1 hk1 hS => ?_)
            obtain ⟨F_69, hB1, hq_70, hq_71⟩ := hB
            obtain ⟨hP, hD, hO, hR⟩ := QT.back hB1 ht hFc hR (fun q h => by simp only [List.mem_cons, List.not_mem_nil, or_false] at h ⊢; omega)
            have hF_72 : F_69 h0 = .inr (4, [.ref tx, .ref y0, .ref y1, .ref y2, .int (nI nn), .int (nI bs)]) := (hB1.2.2.2 h0 (by rw [hT_h0]; simp only [List.mem_cons, List.not_mem_nil, or_false]; omega)).trans hF_33
            have hF_73 : F_69 tx = .inr (0, [.ref rx, .int (nI zm), .int oo]) := (hB1.2.2.2 tx (by rw [hT_tx]; simp only [List.mem_cons, List.not_mem_nil, or_false]; omega)).trans hF_34
            have hF_74 : F_69 rx = .inl (cs 16, 3000, .inl f) := (hB1.2.2.2 rx (by rw [ht_8]; simp only [List.mem_cons, List.not_mem_nil, or_false]; omega)).trans hF_35
            generalize H1 = H at hP hS ⊢
            refine lv_iload_n hx hb dX4_addBody_108 rfl (lv_at hl 0 rfl) ?_
            refine lv_if_ne (tgt := 122) hx hb dX4_addBody_109 (by decide) (fun c_75 => ?_) (fun c_75 => absurd c_75 (fun q => absurd ((nI_eq (b := 0) (by omega) (by omega)).mp q) (by omega)))
            refine W.widen (k := 0) (n := 0) (by omega) (by omega) ?_
            exact W.vret hx hb hr (fun t ht hWm => ⟨⟨(), rfl, trivial, ⟨F_69, ke, QT.mk ht hP hD hO hR, hq_70, (bdn_n hst (fun q => by have q1 := q.1; omega))⟩⟩, hS.F ht⟩) hS.2.2 dX4_addBody_122
          ·
            refine lv_iinc (v := (nI (ke - 1))) (lv' := [(3, .int (nI (ke - 1))), (0, .ref h0), (1, .ref g1), (2, .int x2)]) hx hb dX4_addBody_97 hl (k := 0) rfl (m1N (by omega)) (by decide) rfl (fun ls hl => ?_)
            refine lv_goto (tgt := 64) hx hb dX4_addBody_100 (by decide) ?_
            refine W.widen (k := 0) (n := 0) (by omega) (by omega) ?_
            exact ih_32 (ke - 1) F_27 (⟨by omega, fun j h1 h2 => by rcases Nat.lt_or_ge j ke with q | q; rw [show j = ke - 1 by omega]; exact hv3.resolve_left (by omega); exact hv2 j q h2, Or.inr (by rw [show ke - 1 - 1 = ke - 2 by omega]; exact c_67), hN1, hN2⟩) (by show (ke - 1) < ke; omega) hO hR _ _ hP hD hS ls (lv_sub hl [0, 1, 2, 3] rfl)
    ·
      have hlp : 0 < LL.length := posN c_25
      refine lv_aload_n hx hb dX4_addBody_38 rfl (lv_at hl 1 rfl) ?_
      refine lv_aload_n hx hb dX4_addBody_39 rfl (lv_at hl 1 rfl) ?_
      refine pg_getN (ci := 0) (v := .int (nI LL.length)) (C := RX0) (T := TX0) (N := 3) hx hb hts it_0 hown hK hP hL_g1 hF_24 rfl 1 (by decide) (hE.nest kn_6) (fun _ h9 => h9) rfl dX4_addBody_40 ?_
      refine lv_iconst (v := 1) hx hb dX4_addBody_43 (by decide) ?_
      refine lv_isub hx hb dX4_addBody_44 ?_
      refine lv_topi (fun x_77 ex_77 => ?_)
      obtain rfl : x_77 = (nI (LL.length - 1)) := ex_77.trans (pk_sub (b := 1) (by omega))
      have hFc := pg_free hD hS hA
      refine va_calli (va_runV (As := [.int (nI (LL.length - 1))]) (rest := []) ⟨hx, hb, hml, hown, hts⟩ (s_X0_at_o l dC dI cs ty L H.size F_15 g1 σ r1 n1 LL.length (LL.length - 1) fc_16 0 hW hL_g1 hT_g1 hF_24 hq_18 (by omega) (by omega) (by omega)) ⟨callB_of 1 hts (gi kt_21) rfl rfl rfl (hts _ kt_1) (hts _ kt_199) (by decide +kernel) ⟨Nat.le_of_ble_eq_true rfl, Nat.le_of_ble_eq_true rfl⟩, (hts _ kt_23), (hts _ kt_24)⟩ ⟨fun a U g mk q => ⟨q.1, PT.calling q.2⟩, pg_recv hK hP hL_g1 hF_24 (q := (RX0, TX0, 3)) rfl, fun U hU hWm => ⟨rfl, PT.mk hU hWm hP hK hD hE hO⟩⟩ rfl rfl hl.1 rfl (lv_room (Nat.le_of_ble_eq_true rfl)) dX4_addBody_45 ⟨by show _ + 0 ≤ 0; omega, by show _ + 0 ≤ 0; omega⟩) hS (fun q _ h => hFc q h) hFc (fun r_78 u t H1 locs ht hvm hw hB hz1 hk1 hS => ?_)
      obtain ⟨F_79, hB1⟩ := hB
      obtain rfl : F_15 = F_79 := (funext (fun a => hB1.2.2.2 a List.not_mem_nil)).symm
      obtain ⟨hP, hD, hO, hR⟩ := QT.back hB1 ht hFc hR (fun q h => absurd h List.not_mem_nil)
      generalize H1 = H at hP hS ⊢
      have hw : r_78 = fc_16 (LL.length - 1) := hw
      have hw_80 := hw
      subst hw_80
      refine lv_bipush (v := 10) hx hb dX4_addBody_48 (by decide) ?_
      refine lv_icmp_eq (tgt := 59) hx hb dX4_addBody_50 (by decide) (fun c_81 => ?_) (fun c_81 => ?_)
      ·
        have hWl : LL.length ≤ zm - bs + 1 := by omega
        have hend : LL.length = 0 ∨ fc_16 (LL.length - 1) = 10 := Or.inr c_81
        refine lv_aload_n hx hb dX4_addBody_59 rfl (lv_at hl 1 rfl) ?_
        refine pg_getN (ci := 0) (v := .int (nI LL.length)) (C := RX0) (T := TX0) (N := 3) hx hb hts it_0 hown hK hP hL_g1 hF_24 rfl 1 (by decide) (hE.nest kn_6) (fun _ h9 => h9) rfl dX4_addBody_60 ?_
        refine lv_istore_n (lv' := [(3, .int (nI LL.length)), (0, .ref h0), (1, .ref g1), (2, .int x2)]) hx hb dX4_addBody_63 rfl hl (by decide) rfl (fun ls hl => ?_)
        refine W.widen (k := 0) (n := 0) (by omega) (by omega) ?_
        have hF_83 : F h0 = .inr (4, [.ref tx, .ref y0, .ref y1, .ref y2, .int (nI nn), .int (nI bs)]) := (hR h0 (by rw [hT_h0]; simp only [List.mem_cons, List.not_mem_nil, or_false]; omega)).symm.trans hF_20
        have hF_84 : F tx = .inr (0, [.ref rx, .int (nI zm), .int oo]) := (hR tx (by rw [hT_tx]; simp only [List.mem_cons, List.not_mem_nil, or_false]; omega)).symm.trans hF_21
        have hF_85 : F rx = .inl (cs 16, 3000, .inl f) := (hR rx (by rw [ht_8]; simp only [List.mem_cons, List.not_mem_nil, or_false]; omega)).symm.trans hF_22
        refine pl_loop (σ := Nat) A (dC, dI) cs ty L [σ] F 64 4 (fun ke => [(3, .int (nI ke)), (0, .ref h0), (1, .ref g1), (2, .int x2)]) (fun ke => []) (fun ke FF => ke ≤ LL.length ∧ (∀ j, ke ≤ j → j < LL.length → fc_16 j = 10) ∧ (ke = 0 ∨ fc_16 (ke - 1) = 10) ∧ FF g1 = .inr (0, [.ref r1, .int (nI LL.length), .int 0]) ∧ FF r1 = .inl (cs 16, n1, .inl fc_16)) (fun ke => ke) ?_ LL.length F_15 (⟨Nat.le_refl _, fun j h1 h2 => by omega, hend, hF_24, hq_18⟩) hO hR _ _ hP hD hS ls (lv_sub hl [0, 1, 2, 3] rfl)
        rintro ke F_82 hv_86 hO hR ih_87 H locs hP hD hS ls hl
        have hl : lv_has ls 4 [(3, .int (nI ke)), (0, .ref h0), (1, .ref g1), (2, .int x2)] := hl
        have hv_86 : ke ≤ LL.length ∧ (∀ j, ke ≤ j → j < LL.length → fc_16 j = 10) ∧ (ke = 0 ∨ fc_16 (ke - 1) = 10) ∧ F_82 g1 = .inr (0, [.ref r1, .int (nI LL.length), .int 0]) ∧ F_82 r1 = .inl (cs 16, n1, .inl fc_16) := hv_86
        refine W.eq (g2 := F0 m 64 ls []) rfl ?_
        have hF_88 : F_82 h0 = .inr (4, [.ref tx, .ref y0, .ref y1, .ref y2, .int (nI nn), .int (nI bs)]) := (hR h0 (by rw [hT_h0]; simp only [List.mem_cons, List.not_mem_nil, or_false]; omega)).trans hF_83
        have hF_89 : F_82 tx = .inr (0, [.ref rx, .int (nI zm), .int oo]) := (hR tx (by rw [hT_tx]; simp only [List.mem_cons, List.not_mem_nil, or_false]; omega)).trans hF_84
        have hF_90 : F_82 rx = .inl (cs 16, 3000, .inl f) := (hR rx (by rw [ht_8]; simp only [List.mem_cons, List.not_mem_nil, or_false]; omega)).trans hF_85
        obtain ⟨hv1, hv2, hv3, hN1, hN2⟩ := id hv_86
        refine lv_iload_n hx hb dX4_addBody_64 rfl (lv_at hl 0 rfl) ?_
        refine lv_if_le (tgt := 103) hx hb dX4_addBody_65 (by decide) (fun c_91 => ?_) (fun c_91 => ?_)
        ·
          have hk0 : ke = 0 := by have h9 : ke ≤ 0 := (nI_leI (b := 0) (by omega) (by omega)).mp c_91; omega
          have hst := stl_v hun_23a hun_23b hv1 hv2 (Or.inl hk0)
          have hst := hst.nl
          rw [hLL] at hst
          refine lv_aload_n hx hb dX4_addBody_103 rfl (lv_at hl 2 rfl) ?_
          refine lv_iload_n hx hb dX4_addBody_104 rfl (lv_at hl 0 rfl) ?_
          have hFc := pg_free hD hS hA
          refine va_callv (va_runV (As := [.int (nI ke)]) (rest := []) ⟨hx, hb, hml, hown, hts⟩ (s_X0_cut_e l dC dI cs ty L H.size F_82 g1 σ r1 n1 LL.length ke fc_16 hW hL_g1 hT_g1 hN1 hN2 (hv1) (by omega) (by omega)) ⟨callB_of 1 hts (gi kt_236) rfl rfl rfl (hts _ kt_1) (hts _ kt_237) (by decide +kernel) ⟨Nat.le_of_ble_eq_true rfl, Nat.le_of_ble_eq_true rfl⟩, (hts _ kt_238), (hts _ kt_239)⟩ ⟨fun a U g mk q => ⟨q.1, PT.calling q.2⟩, pg_recv hK hP hL_g1 hN1 (q := (RX0, TX0, 3)) rfl, fun U hU hWm => ⟨rfl, PT.mk hU hWm hP hK hD hE hO⟩⟩ rfl rfl hl.1 rfl (lv_room (Nat.le_of_ble_eq_true rfl)) dX4_addBody_105 ⟨by show _ + 0 ≤ 0; omega, by show _ + 0 ≤ 0; omega⟩) hS (fun q _ h => hFc q h) hFc (fun u t H1 locs ht hvm hw hB hz1 hk1 hS => ?_)
          obtain ⟨F_94, hB1, hq_95, hq_96⟩ := hB
          obtain ⟨hP, hD, hO, hR⟩ := QT.back hB1 ht hFc hR (fun q h => by simp only [List.mem_cons, List.not_mem_nil, or_false] at h ⊢; omega)
          have hF_97 : F_94 h0 = .inr (4, [.ref tx, .ref y0, .ref y1, .ref y2, .int (nI nn), .int (nI bs)]) := (hB1.2.2.2 h0 (by rw [hT_h0]; simp only [List.mem_cons, List.not_mem_nil, or_false]; omega)).trans hF_88
          have hF_98 : F_94 tx = .inr (0, [.ref rx, .int (nI zm), .int oo]) := (hB1.2.2.2 tx (by rw [hT_tx]; simp only [List.mem_cons, List.not_mem_nil, or_false]; omega)).trans hF_89
          have hF_99 : F_94 rx = .inl (cs 16, 3000, .inl f) := (hB1.2.2.2 rx (by rw [ht_8]; simp only [List.mem_cons, List.not_mem_nil, or_false]; omega)).trans hF_90
          generalize H1 = H at hP hS ⊢
          refine lv_iload_n hx hb dX4_addBody_108 rfl (lv_at hl 0 rfl) ?_
          refine lv_if_ne (tgt := 122) hx hb dX4_addBody_109 (by decide) (fun c_100 => absurd (by rw [hk0]; rfl) c_100) (fun c_100 => ?_)
          refine lv_iload_n hx hb dX4_addBody_112 rfl (lv_at hl 3 rfl) ?_
          refine lv_if_ne (tgt := 122) hx hb dX4_addBody_113 (by decide) (fun c_101 => ?_) (fun c_101 => ?_)
          ·
            refine W.widen (k := 0) (n := 0) (by omega) (by omega) ?_
            exact W.vret hx hb hr (fun t ht hWm => ⟨⟨(), rfl, trivial, ⟨F_94, ke, QT.mk ht hP hD hO hR, hq_95, (bdn_n hst (fun q => c_101 q.2))⟩⟩, hS.F ht⟩) hS.2.2 dX4_addBody_122
          ·
            refine lv_aload_n hx hb dX4_addBody_116 rfl (lv_at hl 2 rfl) ?_
            refine lv_bipush (v := 10) hx hb dX4_addBody_117 (by decide) ?_
            have hFc := pg_free hD hS hA
            refine va_callv (va_runV (As := [.int 10]) (rest := []) ⟨hx, hb, hml, hown, hts⟩ (s_X0_add_e l dC dI cs ty L H.size F_94 g1 σ r1 n1 ke fc_16 10 hW hL_g1 hT_g1 hq_95 hq_96 (by omega) (by omega)) ⟨callB_of 1 hts (gi kt_13) rfl rfl rfl (hts _ kt_1) (hts _ kt_230) (by decide +kernel) ⟨Nat.le_of_ble_eq_true rfl, Nat.le_of_ble_eq_true rfl⟩, (hts _ kt_15), (hts _ kt_16)⟩ ⟨fun a U g mk q => ⟨q.1, PT.calling q.2⟩, pg_recv hK hP hL_g1 hq_95 (q := (RX0, TX0, 3)) rfl, fun U hU hWm => ⟨rfl, PT.mk hU hWm hP hK hD hE hO⟩⟩ rfl rfl hl.1 rfl (lv_room (Nat.le_of_ble_eq_true rfl)) dX4_addBody_119 ⟨by show _ + 0 ≤ 0; omega, by show _ + 0 ≤ 0; omega⟩) hS (fun q _ h => hFc q h) hFc (fun u t H1 locs ht hvm hw hB hz1 hk1 hS => ?_)
            obtain ⟨F_103, hB1, hq_104, hq_105⟩ := hB
            obtain ⟨hP, hD, hO, hR⟩ := QT.back hB1 ht hFc hR (fun q h => by simp only [List.mem_cons, List.not_mem_nil, or_false] at h ⊢; omega)
            have hF_106 : F_103 h0 = .inr (4, [.ref tx, .ref y0, .ref y1, .ref y2, .int (nI nn), .int (nI bs)]) := (hB1.2.2.2 h0 (by rw [hT_h0]; simp only [List.mem_cons, List.not_mem_nil, or_false]; omega)).trans hF_97
            have hF_107 : F_103 tx = .inr (0, [.ref rx, .int (nI zm), .int oo]) := (hB1.2.2.2 tx (by rw [hT_tx]; simp only [List.mem_cons, List.not_mem_nil, or_false]; omega)).trans hF_98
            have hF_108 : F_103 rx = .inl (cs 16, 3000, .inl f) := (hB1.2.2.2 rx (by rw [ht_8]; simp only [List.mem_cons, List.not_mem_nil, or_false]; omega)).trans hF_99
            generalize H1 = H at hP hS ⊢
            refine W.widen (k := 0) (n := 0) (by omega) (by omega) ?_
            exact W.vret hx hb hr (fun t ht hWm => ⟨⟨(), rfl, trivial, ⟨F_103, 1, QT.mk ht hP hD hO hR, (by have h9 := hq_104; rw [hk0] at h9; exact h9), (bdn_0 hst hk0 c_101)⟩⟩, hS.F ht⟩) hS.2.2 dX4_addBody_122
        ·
          have hkp : 0 < ke := posN c_91
          refine lv_aload_n hx hb dX4_addBody_68 rfl (lv_at hl 2 rfl) ?_
          refine lv_iload_n hx hb dX4_addBody_69 rfl (lv_at hl 0 rfl) ?_
          refine lv_iconst (v := 1) hx hb dX4_addBody_70 (by decide) ?_
          refine lv_isub hx hb dX4_addBody_71 ?_
          refine lv_topi (fun x_110 ex_110 => ?_)
          obtain rfl : x_110 = (nI (ke - 1)) := ex_110.trans (pk_sub (b := 1) (by omega))
          have hFc := pg_free hD hS hA
          refine va_calli (va_runV (As := [.int (nI (ke - 1))]) (rest := []) ⟨hx, hb, hml, hown, hts⟩ (s_X0_at_o l dC dI cs ty L H.size F_82 g1 σ r1 n1 LL.length (ke - 1) fc_16 0 hW hL_g1 hT_g1 hN1 hN2 (by omega) (by omega) (by omega)) ⟨callB_of 1 hts (gi kt_21) rfl rfl rfl (hts _ kt_1) (hts _ kt_199) (by decide +kernel) ⟨Nat.le_of_ble_eq_true rfl, Nat.le_of_ble_eq_true rfl⟩, (hts _ kt_23), (hts _ kt_24)⟩ ⟨fun a U g mk q => ⟨q.1, PT.calling q.2⟩, pg_recv hK hP hL_g1 hN1 (q := (RX0, TX0, 3)) rfl, fun U hU hWm => ⟨rfl, PT.mk hU hWm hP hK hD hE hO⟩⟩ rfl rfl hl.1 rfl (lv_room (Nat.le_of_ble_eq_true rfl)) dX4_addBody_72 ⟨by show _ + 0 ≤ 0; omega, by show _ + 0 ≤ 0; omega⟩) hS (fun q _ h => hFc q h) hFc (fun r_111 u t H1 locs ht hvm hw hB hz1 hk1 hS => ?_)
          obtain ⟨F_112, hB1⟩ := hB
          obtain rfl : F_82 = F_112 := (funext (fun a => hB1.2.2.2 a List.not_mem_nil)).symm
          obtain ⟨hP, hD, hO, hR⟩ := QT.back hB1 ht hFc hR (fun q h => absurd h List.not_mem_nil)
          generalize H1 = H at hP hS ⊢
          have hw : r_111 = fc_16 (ke - 1) := hw
          have hw_113 := hw
          subst hw_113
          refine lv_bipush (v := 10) hx hb dX4_addBody_75 (by decide) ?_
          refine lv_icmp_ne (tgt := 103) hx hb dX4_addBody_77 (by decide) (fun c_114 => absurd (hv3.resolve_left (by omega)) c_114) (fun c_114 => ?_)
          refine lv_iload_n hx hb dX4_addBody_80 rfl (lv_at hl 0 rfl) ?_
          refine lv_iconst (v := 1) hx hb dX4_addBody_81 (by decide) ?_
          refine lv_icmp_eq (tgt := 97) hx hb dX4_addBody_82 (by decide) (fun c_115 => ?_) (fun c_115 => ?_)
          ·
            have hk1 : ke = 1 := (nI_eq (b := 1) (by omega) (by omega)).mp c_115
            refine lv_iinc (v := (nI (ke - 1))) (lv' := [(3, .int (nI (ke - 1))), (0, .ref h0), (1, .ref g1), (2, .int x2)]) hx hb dX4_addBody_97 hl (k := 0) rfl (m1N (by omega)) (by decide) rfl (fun ls hl => ?_)
            refine lv_goto (tgt := 64) hx hb dX4_addBody_100 (by decide) ?_
            refine W.widen (k := 0) (n := 0) (by omega) (by omega) ?_
            exact ih_87 (ke - 1) F_82 (⟨by omega, fun j h1 h2 => by rcases Nat.lt_or_ge j ke with q | q; rw [show j = ke - 1 by omega]; exact hv3.resolve_left (by omega); exact hv2 j q h2, Or.inl (by omega), hN1, hN2⟩) (by show (ke - 1) < ke; omega) hO hR _ _ hP hD hS ls (lv_sub hl [0, 1, 2, 3] rfl)
          ·
            have hk2 : 2 ≤ ke := by have h9 : ke ≠ 1 := fun q => c_115 (by rw [q]; rfl); omega
            refine lv_aload_n hx hb dX4_addBody_85 rfl (lv_at hl 2 rfl) ?_
            refine lv_iload_n hx hb dX4_addBody_86 rfl (lv_at hl 0 rfl) ?_
            refine lv_iconst (v := 2) hx hb dX4_addBody_87 (by decide) ?_
            refine lv_isub hx hb dX4_addBody_88 ?_
            refine lv_topi (fun x_118 ex_118 => ?_)
            obtain rfl : x_118 = (nI (ke - 2)) := ex_118.trans (pk_sub (b := 2) (by omega))
            have hFc := pg_free hD hS hA
            refine va_calli (va_runV (As := [.int (nI (ke - 2))]) (rest := []) ⟨hx, hb, hml, hown, hts⟩ (s_X0_at_o l dC dI cs ty L H.size F_82 g1 σ r1 n1 LL.length (ke - 2) fc_16 0 hW hL_g1 hT_g1 hN1 hN2 (by omega) (by omega) (by omega)) ⟨callB_of 1 hts (gi kt_21) rfl rfl rfl (hts _ kt_1) (hts _ kt_199) (by decide +kernel) ⟨Nat.le_of_ble_eq_true rfl, Nat.le_of_ble_eq_true rfl⟩, (hts _ kt_23), (hts _ kt_24)⟩ ⟨fun a U g mk q => ⟨q.1, PT.calling q.2⟩, pg_recv hK hP hL_g1 hN1 (q := (RX0, TX0, 3)) rfl, fun U hU hWm => ⟨rfl, PT.mk hU hWm hP hK hD hE hO⟩⟩ rfl rfl hl.1 rfl (lv_room (Nat.le_of_ble_eq_true rfl)) dX4_addBody_89 ⟨by show _ + 0 ≤ 0; omega, by show _ + 0 ≤ 0; omega⟩) hS (fun q _ h => hFc q h) hFc (fun r_119 u t H1 locs ht hvm hw hB hz1 hk1 hS => ?_)
            obtain ⟨F_120, hB1⟩ := hB
            obtain rfl : F_82 = F_120 := (funext (fun a => hB1.2.2.2 a List.not_mem_nil)).symm
            obtain ⟨hP, hD, hO, hR⟩ := QT.back hB1 ht hFc hR (fun q h => absurd h List.not_mem_nil)
            generalize H1 = H at hP hS ⊢
            have hw : r_119 = fc_16 (ke - 2) := hw
            have hw_121 := hw
            subst hw_121
            refine lv_bipush (v := 10) hx hb dX4_addBody_92 (by decide) ?_
            refine lv_icmp_ne (tgt := 103) hx hb dX4_addBody_94 (by decide) (fun c_122 => ?_) (fun c_122 => ?_)
            ·
              have hst := stl_v hun_23a hun_23b hv1 hv2 (Or.inr ⟨hk2, hv3.resolve_left (by omega), c_122⟩)
              have hst := hst.nl
              rw [hLL] at hst
              refine lv_aload_n hx hb dX4_addBody_103 rfl (lv_at hl 2 rfl) ?_
              refine lv_iload_n hx hb dX4_addBody_104 rfl (lv_at hl 0 rfl) ?_
              have hFc := pg_free hD hS hA
              refine va_callv (va_runV (As := [.int (nI ke)]) (rest := []) ⟨hx, hb, hml, hown, hts⟩ (s_X0_cut_e l dC dI cs ty L H.size F_82 g1 σ r1 n1 LL.length ke fc_16 hW hL_g1 hT_g1 hN1 hN2 (hv1) (by omega) (by omega)) ⟨callB_of 1 hts (gi kt_236) rfl rfl rfl (hts _ kt_1) (hts _ kt_237) (by decide +kernel) ⟨Nat.le_of_ble_eq_true rfl, Nat.le_of_ble_eq_true rfl⟩, (hts _ kt_238), (hts _ kt_239)⟩ ⟨fun a U g mk q => ⟨q.1, PT.calling q.2⟩, pg_recv hK hP hL_g1 hN1 (q := (RX0, TX0, 3)) rfl, fun U hU hWm => ⟨rfl, PT.mk hU hWm hP hK hD hE hO⟩⟩ rfl rfl hl.1 rfl (lv_room (Nat.le_of_ble_eq_true rfl)) dX4_addBody_105 ⟨by show _ + 0 ≤ 0; omega, by show _ + 0 ≤ 0; omega⟩) hS (fun q _ h => hFc q h) hFc (fun u t H1 locs ht hvm hw hB hz1 hk1 hS => ?_)
              obtain ⟨F_124, hB1, hq_125, hq_126⟩ := hB
              obtain ⟨hP, hD, hO, hR⟩ := QT.back hB1 ht hFc hR (fun q h => by simp only [List.mem_cons, List.not_mem_nil, or_false] at h ⊢; omega)
              have hF_127 : F_124 h0 = .inr (4, [.ref tx, .ref y0, .ref y1, .ref y2, .int (nI nn), .int (nI bs)]) := (hB1.2.2.2 h0 (by rw [hT_h0]; simp only [List.mem_cons, List.not_mem_nil, or_false]; omega)).trans hF_88
              have hF_128 : F_124 tx = .inr (0, [.ref rx, .int (nI zm), .int oo]) := (hB1.2.2.2 tx (by rw [hT_tx]; simp only [List.mem_cons, List.not_mem_nil, or_false]; omega)).trans hF_89
              have hF_129 : F_124 rx = .inl (cs 16, 3000, .inl f) := (hB1.2.2.2 rx (by rw [ht_8]; simp only [List.mem_cons, List.not_mem_nil, or_false]; omega)).trans hF_90
              generalize H1 = H at hP hS ⊢
              refine lv_iload_n hx hb dX4_addBody_108 rfl (lv_at hl 0 rfl) ?_
              refine lv_if_ne (tgt := 122) hx hb dX4_addBody_109 (by decide) (fun c_130 => ?_) (fun c_130 => absurd c_130 (fun q => absurd ((nI_eq (b := 0) (by omega) (by omega)).mp q) (by omega)))
              refine W.widen (k := 0) (n := 0) (by omega) (by omega) ?_
              exact W.vret hx hb hr (fun t ht hWm => ⟨⟨(), rfl, trivial, ⟨F_124, ke, QT.mk ht hP hD hO hR, hq_125, (bdn_n hst (fun q => by have q1 := q.1; omega))⟩⟩, hS.F ht⟩) hS.2.2 dX4_addBody_122
            ·
              refine lv_iinc (v := (nI (ke - 1))) (lv' := [(3, .int (nI (ke - 1))), (0, .ref h0), (1, .ref g1), (2, .int x2)]) hx hb dX4_addBody_97 hl (k := 0) rfl (m1N (by omega)) (by decide) rfl (fun ls hl => ?_)
              refine lv_goto (tgt := 64) hx hb dX4_addBody_100 (by decide) ?_
              refine W.widen (k := 0) (n := 0) (by omega) (by omega) ?_
              exact ih_87 (ke - 1) F_82 (⟨by omega, fun j h1 h2 => by rcases Nat.lt_or_ge j ke with q | q; rw [show j = ke - 1 by omega]; exact hv3.resolve_left (by omega); exact hv2 j q h2, Or.inr (by rw [show ke - 1 - 1 = ke - 2 by omega]; exact c_122), hN1, hN2⟩) (by show (ke - 1) < ke; omega) hO hR _ _ hP hD hS ls (lv_sub hl [0, 1, 2, 3] rfl)
      ·
        refine lv_aload_n hx hb dX4_addBody_53 rfl (lv_at hl 1 rfl) ?_
        refine lv_bipush (v := 10) hx hb dX4_addBody_54 (by decide) ?_
        have hFc := pg_free hD hS hA
        refine va_callv (va_runV (As := [.int 10]) (rest := []) ⟨hx, hb, hml, hown, hts⟩ (s_X0_add_e l dC dI cs ty L H.size F_15 g1 σ r1 n1 LL.length fc_16 10 hW hL_g1 hT_g1 hF_24 hq_18 (by omega) (by omega)) ⟨callB_of 1 hts (gi kt_13) rfl rfl rfl (hts _ kt_1) (hts _ kt_230) (by decide +kernel) ⟨Nat.le_of_ble_eq_true rfl, Nat.le_of_ble_eq_true rfl⟩, (hts _ kt_15), (hts _ kt_16)⟩ ⟨fun a U g mk q => ⟨q.1, PT.calling q.2⟩, pg_recv hK hP hL_g1 hF_24 (q := (RX0, TX0, 3)) rfl, fun U hU hWm => ⟨rfl, PT.mk hU hWm hP hK hD hE hO⟩⟩ rfl rfl hl.1 rfl (lv_room (Nat.le_of_ble_eq_true rfl)) dX4_addBody_56 ⟨by show _ + 0 ≤ 0; omega, by show _ + 0 ≤ 0; omega⟩) hS (fun q _ h => hFc q h) hFc (fun u t H1 locs ht hvm hw hB hz1 hk1 hS => ?_)
        obtain ⟨F_132, hB1, hq_133, hq_134⟩ := hB
        obtain ⟨hP, hD, hO, hR⟩ := QT.back hB1 ht hFc hR (fun q h => by simp only [List.mem_cons, List.not_mem_nil, or_false] at h ⊢; omega)
        have hF_135 : F_132 h0 = .inr (4, [.ref tx, .ref y0, .ref y1, .ref y2, .int (nI nn), .int (nI bs)]) := (hB1.2.2.2 h0 (by rw [hT_h0]; simp only [List.mem_cons, List.not_mem_nil, or_false]; omega)).trans hF_20
        have hF_136 : F_132 tx = .inr (0, [.ref rx, .int (nI zm), .int oo]) := (hB1.2.2.2 tx (by rw [hT_tx]; simp only [List.mem_cons, List.not_mem_nil, or_false]; omega)).trans hF_21
        have hF_137 : F_132 rx = .inl (cs 16, 3000, .inl f) := (hB1.2.2.2 rx (by rw [ht_8]; simp only [List.mem_cons, List.not_mem_nil, or_false]; omega)).trans hF_22
        generalize H1 = H at hP hS ⊢
        have hou_138 := OUTS.add (y := (2, 10)) hun_23a (show (10 : Int32) = evs f (2, 10) from rfl)
        have hwf_139 := WFS.add (y := (2, 10)) hun_23b (Or.inl rfl)
        have hF_140 : F_132 g1 = .inr (0, [.ref r1, .int (nI (LL ++ [(2, 10)]).length), .int 0]) := by rw [len1]; exact hq_133
        have hWl : (LL ++ [(2, 10)]).length ≤ zm - bs + 1 := by rw [len1]; omega
        have hend : (LL ++ [(2, 10)]).length = 0 ∨ (upd fc_16 LL.length 10) ((LL ++ [(2, 10)]).length - 1) = 10 := Or.inr (by rw [len1, Nat.add_sub_cancel]; exact updc_at)
        refine lv_aload_n hx hb dX4_addBody_59 rfl (lv_at hl 1 rfl) ?_
        refine pg_getN (ci := 0) (v := .int (nI (LL ++ [(2, 10)]).length)) (C := RX0) (T := TX0) (N := 3) hx hb hts it_0 hown hK hP hL_g1 hF_140 rfl 1 (by decide) (hE.nest kn_6) (fun _ h9 => h9) rfl dX4_addBody_60 ?_
        refine lv_istore_n (lv' := [(3, .int (nI (LL ++ [(2, 10)]).length)), (0, .ref h0), (1, .ref g1), (2, .int x2)]) hx hb dX4_addBody_63 rfl hl (by decide) rfl (fun ls hl => ?_)
        refine W.widen (k := 0) (n := 0) (by omega) (by omega) ?_
        have hF_142 : F h0 = .inr (4, [.ref tx, .ref y0, .ref y1, .ref y2, .int (nI nn), .int (nI bs)]) := (hR h0 (by rw [hT_h0]; simp only [List.mem_cons, List.not_mem_nil, or_false]; omega)).symm.trans hF_135
        have hF_143 : F tx = .inr (0, [.ref rx, .int (nI zm), .int oo]) := (hR tx (by rw [hT_tx]; simp only [List.mem_cons, List.not_mem_nil, or_false]; omega)).symm.trans hF_136
        have hF_144 : F rx = .inl (cs 16, 3000, .inl f) := (hR rx (by rw [ht_8]; simp only [List.mem_cons, List.not_mem_nil, or_false]; omega)).symm.trans hF_137
        refine pl_loop (σ := Nat) A (dC, dI) cs ty L [σ] F 64 4 (fun ke => [(3, .int (nI ke)), (0, .ref h0), (1, .ref g1), (2, .int x2)]) (fun ke => []) (fun ke FF => ke ≤ (LL ++ [(2, 10)]).length ∧ (∀ j, ke ≤ j → j < (LL ++ [(2, 10)]).length → (upd fc_16 LL.length 10) j = 10) ∧ (ke = 0 ∨ (upd fc_16 LL.length 10) (ke - 1) = 10) ∧ FF g1 = .inr (0, [.ref r1, .int (nI (LL ++ [(2, 10)]).length), .int 0]) ∧ FF r1 = .inl (cs 16, n1, .inl (upd fc_16 LL.length 10))) (fun ke => ke) ?_ ((LL ++ [(2, 10)]).length) F_132 (⟨Nat.le_refl _, fun j h1 h2 => by omega, hend, hF_140, hq_134⟩) hO hR _ _ hP hD hS ls (lv_sub hl [0, 1, 2, 3] rfl)
        rintro ke F_141 hv_145 hO hR ih_146 H locs hP hD hS ls hl
        have hl : lv_has ls 4 [(3, .int (nI ke)), (0, .ref h0), (1, .ref g1), (2, .int x2)] := hl
        have hv_145 : ke ≤ (LL ++ [(2, 10)]).length ∧ (∀ j, ke ≤ j → j < (LL ++ [(2, 10)]).length → (upd fc_16 LL.length 10) j = 10) ∧ (ke = 0 ∨ (upd fc_16 LL.length 10) (ke - 1) = 10) ∧ F_141 g1 = .inr (0, [.ref r1, .int (nI (LL ++ [(2, 10)]).length), .int 0]) ∧ F_141 r1 = .inl (cs 16, n1, .inl (upd fc_16 LL.length 10)) := hv_145
        refine W.eq (g2 := F0 m 64 ls []) rfl ?_
        have hF_147 : F_141 h0 = .inr (4, [.ref tx, .ref y0, .ref y1, .ref y2, .int (nI nn), .int (nI bs)]) := (hR h0 (by rw [hT_h0]; simp only [List.mem_cons, List.not_mem_nil, or_false]; omega)).trans hF_142
        have hF_148 : F_141 tx = .inr (0, [.ref rx, .int (nI zm), .int oo]) := (hR tx (by rw [hT_tx]; simp only [List.mem_cons, List.not_mem_nil, or_false]; omega)).trans hF_143
        have hF_149 : F_141 rx = .inl (cs 16, 3000, .inl f) := (hR rx (by rw [ht_8]; simp only [List.mem_cons, List.not_mem_nil, or_false]; omega)).trans hF_144
        obtain ⟨hv1, hv2, hv3, hN1, hN2⟩ := id hv_145
        refine lv_iload_n hx hb dX4_addBody_64 rfl (lv_at hl 0 rfl) ?_
        refine lv_if_le (tgt := 103) hx hb dX4_addBody_65 (by decide) (fun c_150 => ?_) (fun c_150 => ?_)
        ·
          have hk0 : ke = 0 := by have h9 : ke ≤ 0 := (nI_leI (b := 0) (by omega) (by omega)).mp c_150; omega
          have hst := stl_v hou_138 hwf_139 hv1 hv2 (Or.inl hk0)
          rw [hLL] at hst
          refine lv_aload_n hx hb dX4_addBody_103 rfl (lv_at hl 2 rfl) ?_
          refine lv_iload_n hx hb dX4_addBody_104 rfl (lv_at hl 0 rfl) ?_
          have hFc := pg_free hD hS hA
          refine va_callv (va_runV (As := [.int (nI ke)]) (rest := []) ⟨hx, hb, hml, hown, hts⟩ (s_X0_cut_e l dC dI cs ty L H.size F_141 g1 σ r1 n1 ((LL ++ [(2, 10)]).length) ke (upd fc_16 LL.length 10) hW hL_g1 hT_g1 hN1 hN2 (hv1) (by omega) (by omega)) ⟨callB_of 1 hts (gi kt_236) rfl rfl rfl (hts _ kt_1) (hts _ kt_237) (by decide +kernel) ⟨Nat.le_of_ble_eq_true rfl, Nat.le_of_ble_eq_true rfl⟩, (hts _ kt_238), (hts _ kt_239)⟩ ⟨fun a U g mk q => ⟨q.1, PT.calling q.2⟩, pg_recv hK hP hL_g1 hN1 (q := (RX0, TX0, 3)) rfl, fun U hU hWm => ⟨rfl, PT.mk hU hWm hP hK hD hE hO⟩⟩ rfl rfl hl.1 rfl (lv_room (Nat.le_of_ble_eq_true rfl)) dX4_addBody_105 ⟨by show _ + 0 ≤ 0; omega, by show _ + 0 ≤ 0; omega⟩) hS (fun q _ h => hFc q h) hFc (fun u t H1 locs ht hvm hw hB hz1 hk1 hS => ?_)
          obtain ⟨F_153, hB1, hq_154, hq_155⟩ := hB
          obtain ⟨hP, hD, hO, hR⟩ := QT.back hB1 ht hFc hR (fun q h => by simp only [List.mem_cons, List.not_mem_nil, or_false] at h ⊢; omega)
          have hF_156 : F_153 h0 = .inr (4, [.ref tx, .ref y0, .ref y1, .ref y2, .int (nI nn), .int (nI bs)]) := (hB1.2.2.2 h0 (by rw [hT_h0]; simp only [List.mem_cons, List.not_mem_nil, or_false]; omega)).trans hF_147
          have hF_157 : F_153 tx = .inr (0, [.ref rx, .int (nI zm), .int oo]) := (hB1.2.2.2 tx (by rw [hT_tx]; simp only [List.mem_cons, List.not_mem_nil, or_false]; omega)).trans hF_148
          have hF_158 : F_153 rx = .inl (cs 16, 3000, .inl f) := (hB1.2.2.2 rx (by rw [ht_8]; simp only [List.mem_cons, List.not_mem_nil, or_false]; omega)).trans hF_149
          generalize H1 = H at hP hS ⊢
          refine lv_iload_n hx hb dX4_addBody_108 rfl (lv_at hl 0 rfl) ?_
          refine lv_if_ne (tgt := 122) hx hb dX4_addBody_109 (by decide) (fun c_159 => absurd (by rw [hk0]; rfl) c_159) (fun c_159 => ?_)
          refine lv_iload_n hx hb dX4_addBody_112 rfl (lv_at hl 3 rfl) ?_
          refine lv_if_ne (tgt := 122) hx hb dX4_addBody_113 (by decide) (fun c_160 => ?_) (fun c_160 => ?_)
          ·
            refine W.widen (k := 0) (n := 0) (by omega) (by omega) ?_
            exact W.vret hx hb hr (fun t ht hWm => ⟨⟨(), rfl, trivial, ⟨F_153, ke, QT.mk ht hP hD hO hR, hq_154, (bdn_n hst (fun q => c_160 q.2))⟩⟩, hS.F ht⟩) hS.2.2 dX4_addBody_122
          ·
            refine lv_aload_n hx hb dX4_addBody_116 rfl (lv_at hl 2 rfl) ?_
            refine lv_bipush (v := 10) hx hb dX4_addBody_117 (by decide) ?_
            have hFc := pg_free hD hS hA
            refine va_callv (va_runV (As := [.int 10]) (rest := []) ⟨hx, hb, hml, hown, hts⟩ (s_X0_add_e l dC dI cs ty L H.size F_153 g1 σ r1 n1 ke (upd fc_16 LL.length 10) 10 hW hL_g1 hT_g1 hq_154 hq_155 (by omega) (by omega)) ⟨callB_of 1 hts (gi kt_13) rfl rfl rfl (hts _ kt_1) (hts _ kt_230) (by decide +kernel) ⟨Nat.le_of_ble_eq_true rfl, Nat.le_of_ble_eq_true rfl⟩, (hts _ kt_15), (hts _ kt_16)⟩ ⟨fun a U g mk q => ⟨q.1, PT.calling q.2⟩, pg_recv hK hP hL_g1 hq_154 (q := (RX0, TX0, 3)) rfl, fun U hU hWm => ⟨rfl, PT.mk hU hWm hP hK hD hE hO⟩⟩ rfl rfl hl.1 rfl (lv_room (Nat.le_of_ble_eq_true rfl)) dX4_addBody_119 ⟨by show _ + 0 ≤ 0; omega, by show _ + 0 ≤ 0; omega⟩) hS (fun q _ h => hFc q h) hFc (fun u t H1 locs ht hvm hw hB hz1 hk1 hS => ?_)
            obtain ⟨F_162, hB1, hq_163, hq_164⟩ := hB
            obtain ⟨hP, hD, hO, hR⟩ := QT.back hB1 ht hFc hR (fun q h => by simp only [List.mem_cons, List.not_mem_nil, or_false] at h ⊢; omega)
            have hF_165 : F_162 h0 = .inr (4, [.ref tx, .ref y0, .ref y1, .ref y2, .int (nI nn), .int (nI bs)]) := (hB1.2.2.2 h0 (by rw [hT_h0]; simp only [List.mem_cons, List.not_mem_nil, or_false]; omega)).trans hF_156
            have hF_166 : F_162 tx = .inr (0, [.ref rx, .int (nI zm), .int oo]) := (hB1.2.2.2 tx (by rw [hT_tx]; simp only [List.mem_cons, List.not_mem_nil, or_false]; omega)).trans hF_157
            have hF_167 : F_162 rx = .inl (cs 16, 3000, .inl f) := (hB1.2.2.2 rx (by rw [ht_8]; simp only [List.mem_cons, List.not_mem_nil, or_false]; omega)).trans hF_158
            generalize H1 = H at hP hS ⊢
            refine W.widen (k := 0) (n := 0) (by omega) (by omega) ?_
            exact W.vret hx hb hr (fun t ht hWm => ⟨⟨(), rfl, trivial, ⟨F_162, 1, QT.mk ht hP hD hO hR, (by have h9 := hq_163; rw [hk0] at h9; exact h9), (bdn_0 hst hk0 c_160)⟩⟩, hS.F ht⟩) hS.2.2 dX4_addBody_122
        ·
          have hkp : 0 < ke := posN c_150
          refine lv_aload_n hx hb dX4_addBody_68 rfl (lv_at hl 2 rfl) ?_
          refine lv_iload_n hx hb dX4_addBody_69 rfl (lv_at hl 0 rfl) ?_
          refine lv_iconst (v := 1) hx hb dX4_addBody_70 (by decide) ?_
          refine lv_isub hx hb dX4_addBody_71 ?_
          refine lv_topi (fun x_169 ex_169 => ?_)
          obtain rfl : x_169 = (nI (ke - 1)) := ex_169.trans (pk_sub (b := 1) (by omega))
          have hFc := pg_free hD hS hA
          refine va_calli (va_runV (As := [.int (nI (ke - 1))]) (rest := []) ⟨hx, hb, hml, hown, hts⟩ (s_X0_at_o l dC dI cs ty L H.size F_141 g1 σ r1 n1 ((LL ++ [(2, 10)]).length) (ke - 1) (upd fc_16 LL.length 10) 0 hW hL_g1 hT_g1 hN1 hN2 (by omega) (by omega) (by omega)) ⟨callB_of 1 hts (gi kt_21) rfl rfl rfl (hts _ kt_1) (hts _ kt_199) (by decide +kernel) ⟨Nat.le_of_ble_eq_true rfl, Nat.le_of_ble_eq_true rfl⟩, (hts _ kt_23), (hts _ kt_24)⟩ ⟨fun a U g mk q => ⟨q.1, PT.calling q.2⟩, pg_recv hK hP hL_g1 hN1 (q := (RX0, TX0, 3)) rfl, fun U hU hWm => ⟨rfl, PT.mk hU hWm hP hK hD hE hO⟩⟩ rfl rfl hl.1 rfl (lv_room (Nat.le_of_ble_eq_true rfl)) dX4_addBody_72 ⟨by show _ + 0 ≤ 0; omega, by show _ + 0 ≤ 0; omega⟩) hS (fun q _ h => hFc q h) hFc (fun r_170 u t H1 locs ht hvm hw hB hz1 hk1 hS => ?_)
          obtain ⟨F_171, hB1⟩ := hB
          obtain rfl : F_141 = F_171 := (funext (fun a => hB1.2.2.2 a List.not_mem_nil)).symm
          obtain ⟨hP, hD, hO, hR⟩ := QT.back hB1 ht hFc hR (fun q h => absurd h List.not_mem_nil)
          generalize H1 = H at hP hS ⊢
          have hw : r_170 = (upd fc_16 LL.length 10) (ke - 1) := hw
          have hw_172 := hw
          subst hw_172
          refine lv_bipush (v := 10) hx hb dX4_addBody_75 (by decide) ?_
          refine lv_icmp_ne (tgt := 103) hx hb dX4_addBody_77 (by decide) (fun c_173 => absurd (hv3.resolve_left (by omega)) c_173) (fun c_173 => ?_)
          refine lv_iload_n hx hb dX4_addBody_80 rfl (lv_at hl 0 rfl) ?_
          refine lv_iconst (v := 1) hx hb dX4_addBody_81 (by decide) ?_
          refine lv_icmp_eq (tgt := 97) hx hb dX4_addBody_82 (by decide) (fun c_174 => ?_) (fun c_174 => ?_)
          ·
            have hk1 : ke = 1 := (nI_eq (b := 1) (by omega) (by omega)).mp c_174
            refine lv_iinc (v := (nI (ke - 1))) (lv' := [(3, .int (nI (ke - 1))), (0, .ref h0), (1, .ref g1), (2, .int x2)]) hx hb dX4_addBody_97 hl (k := 0) rfl (m1N (by omega)) (by decide) rfl (fun ls hl => ?_)
            refine lv_goto (tgt := 64) hx hb dX4_addBody_100 (by decide) ?_
            refine W.widen (k := 0) (n := 0) (by omega) (by omega) ?_
            exact ih_146 (ke - 1) F_141 (⟨by omega, fun j h1 h2 => by rcases Nat.lt_or_ge j ke with q | q; rw [show j = ke - 1 by omega]; exact hv3.resolve_left (by omega); exact hv2 j q h2, Or.inl (by omega), hN1, hN2⟩) (by show (ke - 1) < ke; omega) hO hR _ _ hP hD hS ls (lv_sub hl [0, 1, 2, 3] rfl)
          ·
            have hk2 : 2 ≤ ke := by have h9 : ke ≠ 1 := fun q => c_174 (by rw [q]; rfl); omega
            refine lv_aload_n hx hb dX4_addBody_85 rfl (lv_at hl 2 rfl) ?_
            refine lv_iload_n hx hb dX4_addBody_86 rfl (lv_at hl 0 rfl) ?_
            refine lv_iconst (v := 2) hx hb dX4_addBody_87 (by decide) ?_
            refine lv_isub hx hb dX4_addBody_88 ?_
            refine lv_topi (fun x_177 ex_177 => ?_)
            obtain rfl : x_177 = (nI (ke - 2)) := ex_177.trans (pk_sub (b := 2) (by omega))
            have hFc := pg_free hD hS hA
            refine va_calli (va_runV (As := [.int (nI (ke - 2))]) (rest := []) ⟨hx, hb, hml, hown, hts⟩ (s_X0_at_o l dC dI cs ty L H.size F_141 g1 σ r1 n1 ((LL ++ [(2, 10)]).length) (ke - 2) (upd fc_16 LL.length 10) 0 hW hL_g1 hT_g1 hN1 hN2 (by omega) (by omega) (by omega)) ⟨callB_of 1 hts (gi kt_21) rfl rfl rfl (hts _ kt_1) (hts _ kt_199) (by decide +kernel) ⟨Nat.le_of_ble_eq_true rfl, Nat.le_of_ble_eq_true rfl⟩, (hts _ kt_23), (hts _ kt_24)⟩ ⟨fun a U g mk q => ⟨q.1, PT.calling q.2⟩, pg_recv hK hP hL_g1 hN1 (q := (RX0, TX0, 3)) rfl, fun U hU hWm => ⟨rfl, PT.mk hU hWm hP hK hD hE hO⟩⟩ rfl rfl hl.1 rfl (lv_room (Nat.le_of_ble_eq_true rfl)) dX4_addBody_89 ⟨by show _ + 0 ≤ 0; omega, by show _ + 0 ≤ 0; omega⟩) hS (fun q _ h => hFc q h) hFc (fun r_178 u t H1 locs ht hvm hw hB hz1 hk1 hS => ?_)
            obtain ⟨F_179, hB1⟩ := hB
            obtain rfl : F_141 = F_179 := (funext (fun a => hB1.2.2.2 a List.not_mem_nil)).symm
            obtain ⟨hP, hD, hO, hR⟩ := QT.back hB1 ht hFc hR (fun q h => absurd h List.not_mem_nil)
            generalize H1 = H at hP hS ⊢
            have hw : r_178 = (upd fc_16 LL.length 10) (ke - 2) := hw
            have hw_180 := hw
            subst hw_180
            refine lv_bipush (v := 10) hx hb dX4_addBody_92 (by decide) ?_
            refine lv_icmp_ne (tgt := 103) hx hb dX4_addBody_94 (by decide) (fun c_181 => ?_) (fun c_181 => ?_)
            ·
              have hst := stl_v hou_138 hwf_139 hv1 hv2 (Or.inr ⟨hk2, hv3.resolve_left (by omega), c_181⟩)
              rw [hLL] at hst
              refine lv_aload_n hx hb dX4_addBody_103 rfl (lv_at hl 2 rfl) ?_
              refine lv_iload_n hx hb dX4_addBody_104 rfl (lv_at hl 0 rfl) ?_
              have hFc := pg_free hD hS hA
              refine va_callv (va_runV (As := [.int (nI ke)]) (rest := []) ⟨hx, hb, hml, hown, hts⟩ (s_X0_cut_e l dC dI cs ty L H.size F_141 g1 σ r1 n1 ((LL ++ [(2, 10)]).length) ke (upd fc_16 LL.length 10) hW hL_g1 hT_g1 hN1 hN2 (hv1) (by omega) (by omega)) ⟨callB_of 1 hts (gi kt_236) rfl rfl rfl (hts _ kt_1) (hts _ kt_237) (by decide +kernel) ⟨Nat.le_of_ble_eq_true rfl, Nat.le_of_ble_eq_true rfl⟩, (hts _ kt_238), (hts _ kt_239)⟩ ⟨fun a U g mk q => ⟨q.1, PT.calling q.2⟩, pg_recv hK hP hL_g1 hN1 (q := (RX0, TX0, 3)) rfl, fun U hU hWm => ⟨rfl, PT.mk hU hWm hP hK hD hE hO⟩⟩ rfl rfl hl.1 rfl (lv_room (Nat.le_of_ble_eq_true rfl)) dX4_addBody_105 ⟨by show _ + 0 ≤ 0; omega, by show _ + 0 ≤ 0; omega⟩) hS (fun q _ h => hFc q h) hFc (fun u t H1 locs ht hvm hw hB hz1 hk1 hS => ?_)
              obtain ⟨F_183, hB1, hq_184, hq_185⟩ := hB
              obtain ⟨hP, hD, hO, hR⟩ := QT.back hB1 ht hFc hR (fun q h => by simp only [List.mem_cons, List.not_mem_nil, or_false] at h ⊢; omega)
              have hF_186 : F_183 h0 = .inr (4, [.ref tx, .ref y0, .ref y1, .ref y2, .int (nI nn), .int (nI bs)]) := (hB1.2.2.2 h0 (by rw [hT_h0]; simp only [List.mem_cons, List.not_mem_nil, or_false]; omega)).trans hF_147
              have hF_187 : F_183 tx = .inr (0, [.ref rx, .int (nI zm), .int oo]) := (hB1.2.2.2 tx (by rw [hT_tx]; simp only [List.mem_cons, List.not_mem_nil, or_false]; omega)).trans hF_148
              have hF_188 : F_183 rx = .inl (cs 16, 3000, .inl f) := (hB1.2.2.2 rx (by rw [ht_8]; simp only [List.mem_cons, List.not_mem_nil, or_false]; omega)).trans hF_149
              generalize H1 = H at hP hS ⊢
              refine lv_iload_n hx hb dX4_addBody_108 rfl (lv_at hl 0 rfl) ?_
              refine lv_if_ne (tgt := 122) hx hb dX4_addBody_109 (by decide) (fun c_189 => ?_) (fun c_189 => absurd c_189 (fun q => absurd ((nI_eq (b := 0) (by omega) (by omega)).mp q) (by omega)))
              refine W.widen (k := 0) (n := 0) (by omega) (by omega) ?_
              exact W.vret hx hb hr (fun t ht hWm => ⟨⟨(), rfl, trivial, ⟨F_183, ke, QT.mk ht hP hD hO hR, hq_184, (bdn_n hst (fun q => by have q1 := q.1; omega))⟩⟩, hS.F ht⟩) hS.2.2 dX4_addBody_122
            ·
              refine lv_iinc (v := (nI (ke - 1))) (lv' := [(3, .int (nI (ke - 1))), (0, .ref h0), (1, .ref g1), (2, .int x2)]) hx hb dX4_addBody_97 hl (k := 0) rfl (m1N (by omega)) (by decide) rfl (fun ls hl => ?_)
              refine lv_goto (tgt := 64) hx hb dX4_addBody_100 (by decide) ?_
              refine W.widen (k := 0) (n := 0) (by omega) (by omega) ?_
              exact ih_146 (ke - 1) F_141 (⟨by omega, fun j h1 h2 => by rcases Nat.lt_or_ge j ke with q | q; rw [show j = ke - 1 by omega]; exact hv3.resolve_left (by omega); exact hv2 j q h2, Or.inr (by rw [show ke - 1 - 1 = ke - 2 by omega]; exact c_181), hN1, hN2⟩) (by show (ke - 1) < ke; omega) hO hR _ _ hP hD hS ls (lv_sub hl [0, 1, 2, 3] rfl)
  ·
    refine lv_aload_n hx hb dX4_addBody_4 rfl (lv_at hl 0 rfl) ?_
    refine lv_aload_n hx hb dX4_addBody_5 rfl (lv_at hl 1 rfl) ?_
    have hFc := pg_free hD hS hA
    refine va_callv (va_runV (As := [.ref g1]) (rest := []) ⟨hx, hb, hml, hown, hts⟩ (s_X4_addRelaxedLines_e l dC dI cs ty L s.heap.size F h0 ρ tx y0 y1 y2 g1 σ r1 n1 rx zm nn bs f fo oo LL x2 hW hL_h0 hT_h0 hL_tx hT_tx hL_g1 hT_g1 hF0 hFx hFr hFg hFo (by omega) (by omega) (by omega) (by omega) (hfar) (c_13) (hLL)) ⟨callB_of 1 hts (gi kt_240) rfl rfl rfl (hts _ kt_211) (hts _ kt_241) (by decide +kernel) ⟨Nat.le_of_ble_eq_true rfl, Nat.le_of_ble_eq_true rfl⟩, (hts _ kt_242), (hts _ kt_243)⟩ ⟨fun a U g mk q => ⟨q.1, PT.calling q.2⟩, pg_recv hK hP hL_h0 hF0 (q := (RX4, TX4, 6)) rfl, fun U hU hWm => ⟨rfl, PT.mk hU hWm hP hK hD hE hO⟩⟩ rfl rfl hl.1 rfl (lv_room (Nat.le_of_ble_eq_true rfl)) dX4_addBody_6 ⟨by show _ + 0 ≤ 0; omega, by show _ + 0 ≤ 0; omega⟩) hS (fun q _ h => hFc q h) hFc (fun u t H1 locs ht hvm hw hB hz1 hk1 hS => ?_)
    obtain ⟨F_191, fo2_192, hB1, hq_193, hq_194, hq_195, hq_196⟩ := hB
    obtain ⟨hP, hD, hO, hR⟩ := QT.back hB1 ht hFc hR (fun q h => by simp only [List.mem_cons, List.not_mem_nil, or_false] at h ⊢; omega)
    have hF_197 : F_191 h0 = .inr (4, [.ref tx, .ref y0, .ref y1, .ref y2, .int (nI nn), .int (nI bs)]) := (hB1.2.2.2 h0 (by rw [hT_h0]; simp only [List.mem_cons, List.not_mem_nil, or_false]; omega)).trans hF0
    have hF_198 : F_191 tx = .inr (0, [.ref rx, .int (nI zm), .int oo]) := (hB1.2.2.2 tx (by rw [hT_tx]; simp only [List.mem_cons, List.not_mem_nil, or_false]; omega)).trans hFx
    have hF_199 : F_191 rx = .inl (cs 16, 3000, .inl f) := (hB1.2.2.2 rx (by rw [ht_8]; simp only [List.mem_cons, List.not_mem_nil, or_false]; omega)).trans hFr
    generalize H1 = H at hP hS ⊢
    refine lv_goto (tgt := 31) hx hb dX4_addBody_9 (by decide) ?_
    refine lv_aload_n hx hb dX4_addBody_31 rfl (lv_at hl 1 rfl) ?_
    refine pg_getN (ci := 0) (v := .int (nI LL.length)) (C := RX0) (T := TX0) (N := 3) hx hb hts it_0 hown hK hP hL_g1 hq_193 rfl 1 (by decide) (hE.nest kn_6) (fun _ h9 => h9) rfl dX4_addBody_32 ?_
    refine lv_if_le (tgt := 59) hx hb dX4_addBody_35 (by decide) (fun c_200 => ?_) (fun c_200 => ?_)
    ·
      have hl0 : LL.length = 0 := by have h9 : LL.length ≤ 0 := (nI_leI (b := 0) (by omega) (by omega)).mp c_200; omega
      have hWl : LL.length ≤ zm - bs + 1 := by omega
      have hend : LL.length = 0 ∨ fo2_192 (LL.length - 1) = 10 := Or.inl hl0
      refine lv_aload_n hx hb dX4_addBody_59 rfl (lv_at hl 1 rfl) ?_
      refine pg_getN (ci := 0) (v := .int (nI LL.length)) (C := RX0) (T := TX0) (N := 3) hx hb hts it_0 hown hK hP hL_g1 hq_193 rfl 1 (by decide) (hE.nest kn_6) (fun _ h9 => h9) rfl dX4_addBody_60 ?_
      refine lv_istore_n (lv' := [(3, .int (nI LL.length)), (0, .ref h0), (1, .ref g1), (2, .int x2)]) hx hb dX4_addBody_63 rfl hl (by decide) rfl (fun ls hl => ?_)
      refine W.widen (k := 0) (n := 0) (by omega) (by omega) ?_
      have hF_203 : F h0 = .inr (4, [.ref tx, .ref y0, .ref y1, .ref y2, .int (nI nn), .int (nI bs)]) := (hR h0 (by rw [hT_h0]; simp only [List.mem_cons, List.not_mem_nil, or_false]; omega)).symm.trans hF_197
      have hF_204 : F tx = .inr (0, [.ref rx, .int (nI zm), .int oo]) := (hR tx (by rw [hT_tx]; simp only [List.mem_cons, List.not_mem_nil, or_false]; omega)).symm.trans hF_198
      have hF_205 : F rx = .inl (cs 16, 3000, .inl f) := (hR rx (by rw [ht_8]; simp only [List.mem_cons, List.not_mem_nil, or_false]; omega)).symm.trans hF_199
      refine pl_loop (σ := Nat) A (dC, dI) cs ty L [σ] F 64 4 (fun ke => [(3, .int (nI ke)), (0, .ref h0), (1, .ref g1), (2, .int x2)]) (fun ke => []) (fun ke FF => ke ≤ LL.length ∧ (∀ j, ke ≤ j → j < LL.length → fo2_192 j = 10) ∧ (ke = 0 ∨ fo2_192 (ke - 1) = 10) ∧ FF g1 = .inr (0, [.ref r1, .int (nI LL.length), .int 0]) ∧ FF r1 = .inl (cs 16, n1, .inl fo2_192)) (fun ke => ke) ?_ LL.length F_191 (⟨Nat.le_refl _, fun j h1 h2 => by omega, hend, hq_193, hq_194⟩) hO hR _ _ hP hD hS ls (lv_sub hl [0, 1, 2, 3] rfl)
      rintro ke F_202 hv_206 hO hR ih_207 H locs hP hD hS ls hl
      have hl : lv_has ls 4 [(3, .int (nI ke)), (0, .ref h0), (1, .ref g1), (2, .int x2)] := hl
      have hv_206 : ke ≤ LL.length ∧ (∀ j, ke ≤ j → j < LL.length → fo2_192 j = 10) ∧ (ke = 0 ∨ fo2_192 (ke - 1) = 10) ∧ F_202 g1 = .inr (0, [.ref r1, .int (nI LL.length), .int 0]) ∧ F_202 r1 = .inl (cs 16, n1, .inl fo2_192) := hv_206
      refine W.eq (g2 := F0 m 64 ls []) rfl ?_
      have hF_208 : F_202 h0 = .inr (4, [.ref tx, .ref y0, .ref y1, .ref y2, .int (nI nn), .int (nI bs)]) := (hR h0 (by rw [hT_h0]; simp only [List.mem_cons, List.not_mem_nil, or_false]; omega)).trans hF_203
      have hF_209 : F_202 tx = .inr (0, [.ref rx, .int (nI zm), .int oo]) := (hR tx (by rw [hT_tx]; simp only [List.mem_cons, List.not_mem_nil, or_false]; omega)).trans hF_204
      have hF_210 : F_202 rx = .inl (cs 16, 3000, .inl f) := (hR rx (by rw [ht_8]; simp only [List.mem_cons, List.not_mem_nil, or_false]; omega)).trans hF_205
      obtain ⟨hv1, hv2, hv3, hN1, hN2⟩ := id hv_206
      refine lv_iload_n hx hb dX4_addBody_64 rfl (lv_at hl 0 rfl) ?_
      refine lv_if_le (tgt := 103) hx hb dX4_addBody_65 (by decide) (fun c_211 => ?_) (fun c_211 => ?_)
      ·
        have hk0 : ke = 0 := by have h9 : ke ≤ 0 := (nI_leI (b := 0) (by omega) (by omega)).mp c_211; omega
        have hst := stl_v hq_195 hq_196 hv1 hv2 (Or.inl hk0)
        have hst := hst.nl
        rw [hLL] at hst
        refine lv_aload_n hx hb dX4_addBody_103 rfl (lv_at hl 2 rfl) ?_
        refine lv_iload_n hx hb dX4_addBody_104 rfl (lv_at hl 0 rfl) ?_
        have hFc := pg_free hD hS hA
        refine va_callv (va_runV (As := [.int (nI ke)]) (rest := []) ⟨hx, hb, hml, hown, hts⟩ (s_X0_cut_e l dC dI cs ty L H.size F_202 g1 σ r1 n1 LL.length ke fo2_192 hW hL_g1 hT_g1 hN1 hN2 (hv1) (by omega) (by omega)) ⟨callB_of 1 hts (gi kt_236) rfl rfl rfl (hts _ kt_1) (hts _ kt_237) (by decide +kernel) ⟨Nat.le_of_ble_eq_true rfl, Nat.le_of_ble_eq_true rfl⟩, (hts _ kt_238), (hts _ kt_239)⟩ ⟨fun a U g mk q => ⟨q.1, PT.calling q.2⟩, pg_recv hK hP hL_g1 hN1 (q := (RX0, TX0, 3)) rfl, fun U hU hWm => ⟨rfl, PT.mk hU hWm hP hK hD hE hO⟩⟩ rfl rfl hl.1 rfl (lv_room (Nat.le_of_ble_eq_true rfl)) dX4_addBody_105 ⟨by show _ + 0 ≤ 0; omega, by show _ + 0 ≤ 0; omega⟩) hS (fun q _ h => hFc q h) hFc (fun u t H1 locs ht hvm hw hB hz1 hk1 hS => ?_)
        obtain ⟨F_214, hB1, hq_215, hq_216⟩ := hB
        obtain ⟨hP, hD, hO, hR⟩ := QT.back hB1 ht hFc hR (fun q h => by simp only [List.mem_cons, List.not_mem_nil, or_false] at h ⊢; omega)
        have hF_217 : F_214 h0 = .inr (4, [.ref tx, .ref y0, .ref y1, .ref y2, .int (nI nn), .int (nI bs)]) := (hB1.2.2.2 h0 (by rw [hT_h0]; simp only [List.mem_cons, List.not_mem_nil, or_false]; omega)).trans hF_208
        have hF_218 : F_214 tx = .inr (0, [.ref rx, .int (nI zm), .int oo]) := (hB1.2.2.2 tx (by rw [hT_tx]; simp only [List.mem_cons, List.not_mem_nil, or_false]; omega)).trans hF_209
        have hF_219 : F_214 rx = .inl (cs 16, 3000, .inl f) := (hB1.2.2.2 rx (by rw [ht_8]; simp only [List.mem_cons, List.not_mem_nil, or_false]; omega)).trans hF_210
        generalize H1 = H at hP hS ⊢
        refine lv_iload_n hx hb dX4_addBody_108 rfl (lv_at hl 0 rfl) ?_
        refine lv_if_ne (tgt := 122) hx hb dX4_addBody_109 (by decide) (fun c_220 => absurd (by rw [hk0]; rfl) c_220) (fun c_220 => ?_)
        refine lv_iload_n hx hb dX4_addBody_112 rfl (lv_at hl 3 rfl) ?_
        refine lv_if_ne (tgt := 122) hx hb dX4_addBody_113 (by decide) (fun c_221 => ?_) (fun c_221 => ?_)
        ·
          refine W.widen (k := 0) (n := 0) (by omega) (by omega) ?_
          exact W.vret hx hb hr (fun t ht hWm => ⟨⟨(), rfl, trivial, ⟨F_214, ke, QT.mk ht hP hD hO hR, hq_215, (bdn_n hst (fun q => c_221 q.2))⟩⟩, hS.F ht⟩) hS.2.2 dX4_addBody_122
        ·
          refine lv_aload_n hx hb dX4_addBody_116 rfl (lv_at hl 2 rfl) ?_
          refine lv_bipush (v := 10) hx hb dX4_addBody_117 (by decide) ?_
          have hFc := pg_free hD hS hA
          refine va_callv (va_runV (As := [.int 10]) (rest := []) ⟨hx, hb, hml, hown, hts⟩ (s_X0_add_e l dC dI cs ty L H.size F_214 g1 σ r1 n1 ke fo2_192 10 hW hL_g1 hT_g1 hq_215 hq_216 (by omega) (by omega)) ⟨callB_of 1 hts (gi kt_13) rfl rfl rfl (hts _ kt_1) (hts _ kt_230) (by decide +kernel) ⟨Nat.le_of_ble_eq_true rfl, Nat.le_of_ble_eq_true rfl⟩, (hts _ kt_15), (hts _ kt_16)⟩ ⟨fun a U g mk q => ⟨q.1, PT.calling q.2⟩, pg_recv hK hP hL_g1 hq_215 (q := (RX0, TX0, 3)) rfl, fun U hU hWm => ⟨rfl, PT.mk hU hWm hP hK hD hE hO⟩⟩ rfl rfl hl.1 rfl (lv_room (Nat.le_of_ble_eq_true rfl)) dX4_addBody_119 ⟨by show _ + 0 ≤ 0; omega, by show _ + 0 ≤ 0; omega⟩) hS (fun q _ h => hFc q h) hFc (fun u t H1 locs ht hvm hw hB hz1 hk1 hS => ?_)
          obtain ⟨F_223, hB1, hq_224, hq_225⟩ := hB
          obtain ⟨hP, hD, hO, hR⟩ := QT.back hB1 ht hFc hR (fun q h => by simp only [List.mem_cons, List.not_mem_nil, or_false] at h ⊢; omega)
          have hF_226 : F_223 h0 = .inr (4, [.ref tx, .ref y0, .ref y1, .ref y2, .int (nI nn), .int (nI bs)]) := (hB1.2.2.2 h0 (by rw [hT_h0]; simp only [List.mem_cons, List.not_mem_nil, or_false]; omega)).trans hF_217
          have hF_227 : F_223 tx = .inr (0, [.ref rx, .int (nI zm), .int oo]) := (hB1.2.2.2 tx (by rw [hT_tx]; simp only [List.mem_cons, List.not_mem_nil, or_false]; omega)).trans hF_218
          have hF_228 : F_223 rx = .inl (cs 16, 3000, .inl f) := (hB1.2.2.2 rx (by rw [ht_8]; simp only [List.mem_cons, List.not_mem_nil, or_false]; omega)).trans hF_219
          generalize H1 = H at hP hS ⊢
          refine W.widen (k := 0) (n := 0) (by omega) (by omega) ?_
          exact W.vret hx hb hr (fun t ht hWm => ⟨⟨(), rfl, trivial, ⟨F_223, 1, QT.mk ht hP hD hO hR, (by have h9 := hq_224; rw [hk0] at h9; exact h9), (bdn_0 hst hk0 c_221)⟩⟩, hS.F ht⟩) hS.2.2 dX4_addBody_122
      ·
        have hkp : 0 < ke := posN c_211
        refine lv_aload_n hx hb dX4_addBody_68 rfl (lv_at hl 2 rfl) ?_
        refine lv_iload_n hx hb dX4_addBody_69 rfl (lv_at hl 0 rfl) ?_
        refine lv_iconst (v := 1) hx hb dX4_addBody_70 (by decide) ?_
        refine lv_isub hx hb dX4_addBody_71 ?_
        refine lv_topi (fun x_230 ex_230 => ?_)
        obtain rfl : x_230 = (nI (ke - 1)) := ex_230.trans (pk_sub (b := 1) (by omega))
        have hFc := pg_free hD hS hA
        refine va_calli (va_runV (As := [.int (nI (ke - 1))]) (rest := []) ⟨hx, hb, hml, hown, hts⟩ (s_X0_at_o l dC dI cs ty L H.size F_202 g1 σ r1 n1 LL.length (ke - 1) fo2_192 0 hW hL_g1 hT_g1 hN1 hN2 (by omega) (by omega) (by omega)) ⟨callB_of 1 hts (gi kt_21) rfl rfl rfl (hts _ kt_1) (hts _ kt_199) (by decide +kernel) ⟨Nat.le_of_ble_eq_true rfl, Nat.le_of_ble_eq_true rfl⟩, (hts _ kt_23), (hts _ kt_24)⟩ ⟨fun a U g mk q => ⟨q.1, PT.calling q.2⟩, pg_recv hK hP hL_g1 hN1 (q := (RX0, TX0, 3)) rfl, fun U hU hWm => ⟨rfl, PT.mk hU hWm hP hK hD hE hO⟩⟩ rfl rfl hl.1 rfl (lv_room (Nat.le_of_ble_eq_true rfl)) dX4_addBody_72 ⟨by show _ + 0 ≤ 0; omega, by show _ + 0 ≤ 0; omega⟩) hS (fun q _ h => hFc q h) hFc (fun r_231 u t H1 locs ht hvm hw hB hz1 hk1 hS => ?_)
        obtain ⟨F_232, hB1⟩ := hB
        obtain rfl : F_202 = F_232 := (funext (fun a => hB1.2.2.2 a List.not_mem_nil)).symm
        obtain ⟨hP, hD, hO, hR⟩ := QT.back hB1 ht hFc hR (fun q h => absurd h List.not_mem_nil)
        generalize H1 = H at hP hS ⊢
        have hw : r_231 = fo2_192 (ke - 1) := hw
        have hw_233 := hw
        subst hw_233
        refine lv_bipush (v := 10) hx hb dX4_addBody_75 (by decide) ?_
        refine lv_icmp_ne (tgt := 103) hx hb dX4_addBody_77 (by decide) (fun c_234 => absurd (hv3.resolve_left (by omega)) c_234) (fun c_234 => ?_)
        refine lv_iload_n hx hb dX4_addBody_80 rfl (lv_at hl 0 rfl) ?_
        refine lv_iconst (v := 1) hx hb dX4_addBody_81 (by decide) ?_
        refine lv_icmp_eq (tgt := 97) hx hb dX4_addBody_82 (by decide) (fun c_235 => ?_) (fun c_235 => ?_)
        ·
          have hk1 : ke = 1 := (nI_eq (b := 1) (by omega) (by omega)).mp c_235
          refine lv_iinc (v := (nI (ke - 1))) (lv' := [(3, .int (nI (ke - 1))), (0, .ref h0), (1, .ref g1), (2, .int x2)]) hx hb dX4_addBody_97 hl (k := 0) rfl (m1N (by omega)) (by decide) rfl (fun ls hl => ?_)
          refine lv_goto (tgt := 64) hx hb dX4_addBody_100 (by decide) ?_
          refine W.widen (k := 0) (n := 0) (by omega) (by omega) ?_
          exact ih_207 (ke - 1) F_202 (⟨by omega, fun j h1 h2 => by rcases Nat.lt_or_ge j ke with q | q; rw [show j = ke - 1 by omega]; exact hv3.resolve_left (by omega); exact hv2 j q h2, Or.inl (by omega), hN1, hN2⟩) (by show (ke - 1) < ke; omega) hO hR _ _ hP hD hS ls (lv_sub hl [0, 1, 2, 3] rfl)
        ·
          have hk2 : 2 ≤ ke := by have h9 : ke ≠ 1 := fun q => c_235 (by rw [q]; rfl); omega
          refine lv_aload_n hx hb dX4_addBody_85 rfl (lv_at hl 2 rfl) ?_
          refine lv_iload_n hx hb dX4_addBody_86 rfl (lv_at hl 0 rfl) ?_
          refine lv_iconst (v := 2) hx hb dX4_addBody_87 (by decide) ?_
          refine lv_isub hx hb dX4_addBody_88 ?_
          refine lv_topi (fun x_238 ex_238 => ?_)
          obtain rfl : x_238 = (nI (ke - 2)) := ex_238.trans (pk_sub (b := 2) (by omega))
          have hFc := pg_free hD hS hA
          refine va_calli (va_runV (As := [.int (nI (ke - 2))]) (rest := []) ⟨hx, hb, hml, hown, hts⟩ (s_X0_at_o l dC dI cs ty L H.size F_202 g1 σ r1 n1 LL.length (ke - 2) fo2_192 0 hW hL_g1 hT_g1 hN1 hN2 (by omega) (by omega) (by omega)) ⟨callB_of 1 hts (gi kt_21) rfl rfl rfl (hts _ kt_1) (hts _ kt_199) (by decide +kernel) ⟨Nat.le_of_ble_eq_true rfl, Nat.le_of_ble_eq_true rfl⟩, (hts _ kt_23), (hts _ kt_24)⟩ ⟨fun a U g mk q => ⟨q.1, PT.calling q.2⟩, pg_recv hK hP hL_g1 hN1 (q := (RX0, TX0, 3)) rfl, fun U hU hWm => ⟨rfl, PT.mk hU hWm hP hK hD hE hO⟩⟩ rfl rfl hl.1 rfl (lv_room (Nat.le_of_ble_eq_true rfl)) dX4_addBody_89 ⟨by show _ + 0 ≤ 0; omega, by show _ + 0 ≤ 0; omega⟩) hS (fun q _ h => hFc q h) hFc (fun r_239 u t H1 locs ht hvm hw hB hz1 hk1 hS => ?_)
          obtain ⟨F_240, hB1⟩ := hB
          obtain rfl : F_202 = F_240 := (funext (fun a => hB1.2.2.2 a List.not_mem_nil)).symm
          obtain ⟨hP, hD, hO, hR⟩ := QT.back hB1 ht hFc hR (fun q h => absurd h List.not_mem_nil)
          generalize H1 = H at hP hS ⊢
          have hw : r_239 = fo2_192 (ke - 2) := hw
          have hw_241 := hw
          subst hw_241
          refine lv_bipush (v := 10) hx hb dX4_addBody_92 (by decide) ?_
          refine lv_icmp_ne (tgt := 103) hx hb dX4_addBody_94 (by decide) (fun c_242 => ?_) (fun c_242 => ?_)
          ·
            have hst := stl_v hq_195 hq_196 hv1 hv2 (Or.inr ⟨hk2, hv3.resolve_left (by omega), c_242⟩)
            have hst := hst.nl
            rw [hLL] at hst
            refine lv_aload_n hx hb dX4_addBody_103 rfl (lv_at hl 2 rfl) ?_
            refine lv_iload_n hx hb dX4_addBody_104 rfl (lv_at hl 0 rfl) ?_
            have hFc := pg_free hD hS hA
            refine va_callv (va_runV (As := [.int (nI ke)]) (rest := []) ⟨hx, hb, hml, hown, hts⟩ (s_X0_cut_e l dC dI cs ty L H.size F_202 g1 σ r1 n1 LL.length ke fo2_192 hW hL_g1 hT_g1 hN1 hN2 (hv1) (by omega) (by omega)) ⟨callB_of 1 hts (gi kt_236) rfl rfl rfl (hts _ kt_1) (hts _ kt_237) (by decide +kernel) ⟨Nat.le_of_ble_eq_true rfl, Nat.le_of_ble_eq_true rfl⟩, (hts _ kt_238), (hts _ kt_239)⟩ ⟨fun a U g mk q => ⟨q.1, PT.calling q.2⟩, pg_recv hK hP hL_g1 hN1 (q := (RX0, TX0, 3)) rfl, fun U hU hWm => ⟨rfl, PT.mk hU hWm hP hK hD hE hO⟩⟩ rfl rfl hl.1 rfl (lv_room (Nat.le_of_ble_eq_true rfl)) dX4_addBody_105 ⟨by show _ + 0 ≤ 0; omega, by show _ + 0 ≤ 0; omega⟩) hS (fun q _ h => hFc q h) hFc (fun u t H1 locs ht hvm hw hB hz1 hk1 hS => ?_)
            obtain ⟨F_244, hB1, hq_245, hq_246⟩ := hB
            obtain ⟨hP, hD, hO, hR⟩ := QT.back hB1 ht hFc hR (fun q h => by simp only [List.mem_cons, List.not_mem_nil, or_false] at h ⊢; omega)
            have hF_247 : F_244 h0 = .inr (4, [.ref tx, .ref y0, .ref y1, .ref y2, .int (nI nn), .int (nI bs)]) := (hB1.2.2.2 h0 (by rw [hT_h0]; simp only [List.mem_cons, List.not_mem_nil, or_false]; omega)).trans hF_208
            have hF_248 : F_244 tx = .inr (0, [.ref rx, .int (nI zm), .int oo]) := (hB1.2.2.2 tx (by rw [hT_tx]; simp only [List.mem_cons, List.not_mem_nil, or_false]; omega)).trans hF_209
            have hF_249 : F_244 rx = .inl (cs 16, 3000, .inl f) := (hB1.2.2.2 rx (by rw [ht_8]; simp only [List.mem_cons, List.not_mem_nil, or_false]; omega)).trans hF_210
            generalize H1 = H at hP hS ⊢
            refine lv_iload_n hx hb dX4_addBody_108 rfl (lv_at hl 0 rfl) ?_
            refine lv_if_ne (tgt := 122) hx hb dX4_addBody_109 (by decide) (fun c_250 => ?_) (fun c_250 => absurd c_250 (fun q => absurd ((nI_eq (b := 0) (by omega) (by omega)).mp q) (by omega)))
            refine W.widen (k := 0) (n := 0) (by omega) (by omega) ?_
            exact W.vret hx hb hr (fun t ht hWm => ⟨⟨(), rfl, trivial, ⟨F_244, ke, QT.mk ht hP hD hO hR, hq_245, (bdn_n hst (fun q => by have q1 := q.1; omega))⟩⟩, hS.F ht⟩) hS.2.2 dX4_addBody_122
          ·
            refine lv_iinc (v := (nI (ke - 1))) (lv' := [(3, .int (nI (ke - 1))), (0, .ref h0), (1, .ref g1), (2, .int x2)]) hx hb dX4_addBody_97 hl (k := 0) rfl (m1N (by omega)) (by decide) rfl (fun ls hl => ?_)
            refine lv_goto (tgt := 64) hx hb dX4_addBody_100 (by decide) ?_
            refine W.widen (k := 0) (n := 0) (by omega) (by omega) ?_
            exact ih_207 (ke - 1) F_202 (⟨by omega, fun j h1 h2 => by rcases Nat.lt_or_ge j ke with q | q; rw [show j = ke - 1 by omega]; exact hv3.resolve_left (by omega); exact hv2 j q h2, Or.inr (by rw [show ke - 1 - 1 = ke - 2 by omega]; exact c_242), hN1, hN2⟩) (by show (ke - 1) < ke; omega) hO hR _ _ hP hD hS ls (lv_sub hl [0, 1, 2, 3] rfl)
    ·
      have hlp : 0 < LL.length := posN c_200
      refine lv_aload_n hx hb dX4_addBody_38 rfl (lv_at hl 1 rfl) ?_
      refine lv_aload_n hx hb dX4_addBody_39 rfl (lv_at hl 1 rfl) ?_
      refine pg_getN (ci := 0) (v := .int (nI LL.length)) (C := RX0) (T := TX0) (N := 3) hx hb hts it_0 hown hK hP hL_g1 hq_193 rfl 1 (by decide) (hE.nest kn_6) (fun _ h9 => h9) rfl dX4_addBody_40 ?_
      refine lv_iconst (v := 1) hx hb dX4_addBody_43 (by decide) ?_
      refine lv_isub hx hb dX4_addBody_44 ?_
      refine lv_topi (fun x_252 ex_252 => ?_)
      obtain rfl : x_252 = (nI (LL.length - 1)) := ex_252.trans (pk_sub (b := 1) (by omega))
      have hFc := pg_free hD hS hA
      refine va_calli (va_runV (As := [.int (nI (LL.length - 1))]) (rest := []) ⟨hx, hb, hml, hown, hts⟩ (s_X0_at_o l dC dI cs ty L H.size F_191 g1 σ r1 n1 LL.length (LL.length - 1) fo2_192 0 hW hL_g1 hT_g1 hq_193 hq_194 (by omega) (by omega) (by omega)) ⟨callB_of 1 hts (gi kt_21) rfl rfl rfl (hts _ kt_1) (hts _ kt_199) (by decide +kernel) ⟨Nat.le_of_ble_eq_true rfl, Nat.le_of_ble_eq_true rfl⟩, (hts _ kt_23), (hts _ kt_24)⟩ ⟨fun a U g mk q => ⟨q.1, PT.calling q.2⟩, pg_recv hK hP hL_g1 hq_193 (q := (RX0, TX0, 3)) rfl, fun U hU hWm => ⟨rfl, PT.mk hU hWm hP hK hD hE hO⟩⟩ rfl rfl hl.1 rfl (lv_room (Nat.le_of_ble_eq_true rfl)) dX4_addBody_45 ⟨by show _ + 0 ≤ 0; omega, by show _ + 0 ≤ 0; omega⟩) hS (fun q _ h => hFc q h) hFc (fun r_253 u t H1 locs ht hvm hw hB hz1 hk1 hS => ?_)
      obtain ⟨F_254, hB1⟩ := hB
      obtain rfl : F_191 = F_254 := (funext (fun a => hB1.2.2.2 a List.not_mem_nil)).symm
      obtain ⟨hP, hD, hO, hR⟩ := QT.back hB1 ht hFc hR (fun q h => absurd h List.not_mem_nil)
      generalize H1 = H at hP hS ⊢
      have hw : r_253 = fo2_192 (LL.length - 1) := hw
      have hw_255 := hw
      subst hw_255
      refine lv_bipush (v := 10) hx hb dX4_addBody_48 (by decide) ?_
      refine lv_icmp_eq (tgt := 59) hx hb dX4_addBody_50 (by decide) (fun c_256 => ?_) (fun c_256 => ?_)
      ·
        have hWl : LL.length ≤ zm - bs + 1 := by omega
        have hend : LL.length = 0 ∨ fo2_192 (LL.length - 1) = 10 := Or.inr c_256
        refine lv_aload_n hx hb dX4_addBody_59 rfl (lv_at hl 1 rfl) ?_
        refine pg_getN (ci := 0) (v := .int (nI LL.length)) (C := RX0) (T := TX0) (N := 3) hx hb hts it_0 hown hK hP hL_g1 hq_193 rfl 1 (by decide) (hE.nest kn_6) (fun _ h9 => h9) rfl dX4_addBody_60 ?_
        refine lv_istore_n (lv' := [(3, .int (nI LL.length)), (0, .ref h0), (1, .ref g1), (2, .int x2)]) hx hb dX4_addBody_63 rfl hl (by decide) rfl (fun ls hl => ?_)
        refine W.widen (k := 0) (n := 0) (by omega) (by omega) ?_
        have hF_258 : F h0 = .inr (4, [.ref tx, .ref y0, .ref y1, .ref y2, .int (nI nn), .int (nI bs)]) := (hR h0 (by rw [hT_h0]; simp only [List.mem_cons, List.not_mem_nil, or_false]; omega)).symm.trans hF_197
        have hF_259 : F tx = .inr (0, [.ref rx, .int (nI zm), .int oo]) := (hR tx (by rw [hT_tx]; simp only [List.mem_cons, List.not_mem_nil, or_false]; omega)).symm.trans hF_198
        have hF_260 : F rx = .inl (cs 16, 3000, .inl f) := (hR rx (by rw [ht_8]; simp only [List.mem_cons, List.not_mem_nil, or_false]; omega)).symm.trans hF_199
        refine pl_loop (σ := Nat) A (dC, dI) cs ty L [σ] F 64 4 (fun ke => [(3, .int (nI ke)), (0, .ref h0), (1, .ref g1), (2, .int x2)]) (fun ke => []) (fun ke FF => ke ≤ LL.length ∧ (∀ j, ke ≤ j → j < LL.length → fo2_192 j = 10) ∧ (ke = 0 ∨ fo2_192 (ke - 1) = 10) ∧ FF g1 = .inr (0, [.ref r1, .int (nI LL.length), .int 0]) ∧ FF r1 = .inl (cs 16, n1, .inl fo2_192)) (fun ke => ke) ?_ LL.length F_191 (⟨Nat.le_refl _, fun j h1 h2 => by omega, hend, hq_193, hq_194⟩) hO hR _ _ hP hD hS ls (lv_sub hl [0, 1, 2, 3] rfl)
        rintro ke F_257 hv_261 hO hR ih_262 H locs hP hD hS ls hl
        have hl : lv_has ls 4 [(3, .int (nI ke)), (0, .ref h0), (1, .ref g1), (2, .int x2)] := hl
        have hv_261 : ke ≤ LL.length ∧ (∀ j, ke ≤ j → j < LL.length → fo2_192 j = 10) ∧ (ke = 0 ∨ fo2_192 (ke - 1) = 10) ∧ F_257 g1 = .inr (0, [.ref r1, .int (nI LL.length), .int 0]) ∧ F_257 r1 = .inl (cs 16, n1, .inl fo2_192) := hv_261
        refine W.eq (g2 := F0 m 64 ls []) rfl ?_
        have hF_263 : F_257 h0 = .inr (4, [.ref tx, .ref y0, .ref y1, .ref y2, .int (nI nn), .int (nI bs)]) := (hR h0 (by rw [hT_h0]; simp only [List.mem_cons, List.not_mem_nil, or_false]; omega)).trans hF_258
        have hF_264 : F_257 tx = .inr (0, [.ref rx, .int (nI zm), .int oo]) := (hR tx (by rw [hT_tx]; simp only [List.mem_cons, List.not_mem_nil, or_false]; omega)).trans hF_259
        have hF_265 : F_257 rx = .inl (cs 16, 3000, .inl f) := (hR rx (by rw [ht_8]; simp only [List.mem_cons, List.not_mem_nil, or_false]; omega)).trans hF_260
        obtain ⟨hv1, hv2, hv3, hN1, hN2⟩ := id hv_261
        refine lv_iload_n hx hb dX4_addBody_64 rfl (lv_at hl 0 rfl) ?_
        refine lv_if_le (tgt := 103) hx hb dX4_addBody_65 (by decide) (fun c_266 => ?_) (fun c_266 => ?_)
        ·
          have hk0 : ke = 0 := by have h9 : ke ≤ 0 := (nI_leI (b := 0) (by omega) (by omega)).mp c_266; omega
          have hst := stl_v hq_195 hq_196 hv1 hv2 (Or.inl hk0)
          have hst := hst.nl
          rw [hLL] at hst
          refine lv_aload_n hx hb dX4_addBody_103 rfl (lv_at hl 2 rfl) ?_
          refine lv_iload_n hx hb dX4_addBody_104 rfl (lv_at hl 0 rfl) ?_
          have hFc := pg_free hD hS hA
          refine va_callv (va_runV (As := [.int (nI ke)]) (rest := []) ⟨hx, hb, hml, hown, hts⟩ (s_X0_cut_e l dC dI cs ty L H.size F_257 g1 σ r1 n1 LL.length ke fo2_192 hW hL_g1 hT_g1 hN1 hN2 (hv1) (by omega) (by omega)) ⟨callB_of 1 hts (gi kt_236) rfl rfl rfl (hts _ kt_1) (hts _ kt_237) (by decide +kernel) ⟨Nat.le_of_ble_eq_true rfl, Nat.le_of_ble_eq_true rfl⟩, (hts _ kt_238), (hts _ kt_239)⟩ ⟨fun a U g mk q => ⟨q.1, PT.calling q.2⟩, pg_recv hK hP hL_g1 hN1 (q := (RX0, TX0, 3)) rfl, fun U hU hWm => ⟨rfl, PT.mk hU hWm hP hK hD hE hO⟩⟩ rfl rfl hl.1 rfl (lv_room (Nat.le_of_ble_eq_true rfl)) dX4_addBody_105 ⟨by show _ + 0 ≤ 0; omega, by show _ + 0 ≤ 0; omega⟩) hS (fun q _ h => hFc q h) hFc (fun u t H1 locs ht hvm hw hB hz1 hk1 hS => ?_)
          obtain ⟨F_269, hB1, hq_270, hq_271⟩ := hB
          obtain ⟨hP, hD, hO, hR⟩ := QT.back hB1 ht hFc hR (fun q h => by simp only [List.mem_cons, List.not_mem_nil, or_false] at h ⊢; omega)
          have hF_272 : F_269 h0 = .inr (4, [.ref tx, .ref y0, .ref y1, .ref y2, .int (nI nn), .int (nI bs)]) := (hB1.2.2.2 h0 (by rw [hT_h0]; simp only [List.mem_cons, List.not_mem_nil, or_false]; omega)).trans hF_263
          have hF_273 : F_269 tx = .inr (0, [.ref rx, .int (nI zm), .int oo]) := (hB1.2.2.2 tx (by rw [hT_tx]; simp only [List.mem_cons, List.not_mem_nil, or_false]; omega)).trans hF_264
          have hF_274 : F_269 rx = .inl (cs 16, 3000, .inl f) := (hB1.2.2.2 rx (by rw [ht_8]; simp only [List.mem_cons, List.not_mem_nil, or_false]; omega)).trans hF_265
          generalize H1 = H at hP hS ⊢
          refine lv_iload_n hx hb dX4_addBody_108 rfl (lv_at hl 0 rfl) ?_
          refine lv_if_ne (tgt := 122) hx hb dX4_addBody_109 (by decide) (fun c_275 => absurd (by rw [hk0]; rfl) c_275) (fun c_275 => ?_)
          refine lv_iload_n hx hb dX4_addBody_112 rfl (lv_at hl 3 rfl) ?_
          refine lv_if_ne (tgt := 122) hx hb dX4_addBody_113 (by decide) (fun c_276 => ?_) (fun c_276 => ?_)
          ·
            refine W.widen (k := 0) (n := 0) (by omega) (by omega) ?_
            exact W.vret hx hb hr (fun t ht hWm => ⟨⟨(), rfl, trivial, ⟨F_269, ke, QT.mk ht hP hD hO hR, hq_270, (bdn_n hst (fun q => c_276 q.2))⟩⟩, hS.F ht⟩) hS.2.2 dX4_addBody_122
          ·
            refine lv_aload_n hx hb dX4_addBody_116 rfl (lv_at hl 2 rfl) ?_
            refine lv_bipush (v := 10) hx hb dX4_addBody_117 (by decide) ?_
            have hFc := pg_free hD hS hA
            refine va_callv (va_runV (As := [.int 10]) (rest := []) ⟨hx, hb, hml, hown, hts⟩ (s_X0_add_e l dC dI cs ty L H.size F_269 g1 σ r1 n1 ke fo2_192 10 hW hL_g1 hT_g1 hq_270 hq_271 (by omega) (by omega)) ⟨callB_of 1 hts (gi kt_13) rfl rfl rfl (hts _ kt_1) (hts _ kt_230) (by decide +kernel) ⟨Nat.le_of_ble_eq_true rfl, Nat.le_of_ble_eq_true rfl⟩, (hts _ kt_15), (hts _ kt_16)⟩ ⟨fun a U g mk q => ⟨q.1, PT.calling q.2⟩, pg_recv hK hP hL_g1 hq_270 (q := (RX0, TX0, 3)) rfl, fun U hU hWm => ⟨rfl, PT.mk hU hWm hP hK hD hE hO⟩⟩ rfl rfl hl.1 rfl (lv_room (Nat.le_of_ble_eq_true rfl)) dX4_addBody_119 ⟨by show _ + 0 ≤ 0; omega, by show _ + 0 ≤ 0; omega⟩) hS (fun q _ h => hFc q h) hFc (fun u t H1 locs ht hvm hw hB hz1 hk1 hS => ?_)
            obtain ⟨F_278, hB1, hq_279, hq_280⟩ := hB
            obtain ⟨hP, hD, hO, hR⟩ := QT.back hB1 ht hFc hR (fun q h => by simp only [List.mem_cons, List.not_mem_nil, or_false] at h ⊢; omega)
            have hF_281 : F_278 h0 = .inr (4, [.ref tx, .ref y0, .ref y1, .ref y2, .int (nI nn), .int (nI bs)]) := (hB1.2.2.2 h0 (by rw [hT_h0]; simp only [List.mem_cons, List.not_mem_nil, or_false]; omega)).trans hF_272
            have hF_282 : F_278 tx = .inr (0, [.ref rx, .int (nI zm), .int oo]) := (hB1.2.2.2 tx (by rw [hT_tx]; simp only [List.mem_cons, List.not_mem_nil, or_false]; omega)).trans hF_273
            have hF_283 : F_278 rx = .inl (cs 16, 3000, .inl f) := (hB1.2.2.2 rx (by rw [ht_8]; simp only [List.mem_cons, List.not_mem_nil, or_false]; omega)).trans hF_274
            generalize H1 = H at hP hS ⊢
            refine W.widen (k := 0) (n := 0) (by omega) (by omega) ?_
            exact W.vret hx hb hr (fun t ht hWm => ⟨⟨(), rfl, trivial, ⟨F_278, 1, QT.mk ht hP hD hO hR, (by have h9 := hq_279; rw [hk0] at h9; exact h9), (bdn_0 hst hk0 c_276)⟩⟩, hS.F ht⟩) hS.2.2 dX4_addBody_122
        ·
          have hkp : 0 < ke := posN c_266
          refine lv_aload_n hx hb dX4_addBody_68 rfl (lv_at hl 2 rfl) ?_
          refine lv_iload_n hx hb dX4_addBody_69 rfl (lv_at hl 0 rfl) ?_
          refine lv_iconst (v := 1) hx hb dX4_addBody_70 (by decide) ?_
          refine lv_isub hx hb dX4_addBody_71 ?_
          refine lv_topi (fun x_285 ex_285 => ?_)
          obtain rfl : x_285 = (nI (ke - 1)) := ex_285.trans (pk_sub (b := 1) (by omega))
          have hFc := pg_free hD hS hA
          refine va_calli (va_runV (As := [.int (nI (ke - 1))]) (rest := []) ⟨hx, hb, hml, hown, hts⟩ (s_X0_at_o l dC dI cs ty L H.size F_257 g1 σ r1 n1 LL.length (ke - 1) fo2_192 0 hW hL_g1 hT_g1 hN1 hN2 (by omega) (by omega) (by omega)) ⟨callB_of 1 hts (gi kt_21) rfl rfl rfl (hts _ kt_1) (hts _ kt_199) (by decide +kernel) ⟨Nat.le_of_ble_eq_true rfl, Nat.le_of_ble_eq_true rfl⟩, (hts _ kt_23), (hts _ kt_24)⟩ ⟨fun a U g mk q => ⟨q.1, PT.calling q.2⟩, pg_recv hK hP hL_g1 hN1 (q := (RX0, TX0, 3)) rfl, fun U hU hWm => ⟨rfl, PT.mk hU hWm hP hK hD hE hO⟩⟩ rfl rfl hl.1 rfl (lv_room (Nat.le_of_ble_eq_true rfl)) dX4_addBody_72 ⟨by show _ + 0 ≤ 0; omega, by show _ + 0 ≤ 0; omega⟩) hS (fun q _ h => hFc q h) hFc (fun r_286 u t H1 locs ht hvm hw hB hz1 hk1 hS => ?_)
          obtain ⟨F_287, hB1⟩ := hB
          obtain rfl : F_257 = F_287 := (funext (fun a => hB1.2.2.2 a List.not_mem_nil)).symm
          obtain ⟨hP, hD, hO, hR⟩ := QT.back hB1 ht hFc hR (fun q h => absurd h List.not_mem_nil)
          generalize H1 = H at hP hS ⊢
          have hw : r_286 = fo2_192 (ke - 1) := hw
          have hw_288 := hw
          subst hw_288
          refine lv_bipush (v := 10) hx hb dX4_addBody_75 (by decide) ?_
          refine lv_icmp_ne (tgt := 103) hx hb dX4_addBody_77 (by decide) (fun c_289 => absurd (hv3.resolve_left (by omega)) c_289) (fun c_289 => ?_)
          refine lv_iload_n hx hb dX4_addBody_80 rfl (lv_at hl 0 rfl) ?_
          refine lv_iconst (v := 1) hx hb dX4_addBody_81 (by decide) ?_
          refine lv_icmp_eq (tgt := 97) hx hb dX4_addBody_82 (by decide) (fun c_290 => ?_) (fun c_290 => ?_)
          ·
            have hk1 : ke = 1 := (nI_eq (b := 1) (by omega) (by omega)).mp c_290
            refine lv_iinc (v := (nI (ke - 1))) (lv' := [(3, .int (nI (ke - 1))), (0, .ref h0), (1, .ref g1), (2, .int x2)]) hx hb dX4_addBody_97 hl (k := 0) rfl (m1N (by omega)) (by decide) rfl (fun ls hl => ?_)
            refine lv_goto (tgt := 64) hx hb dX4_addBody_100 (by decide) ?_
            refine W.widen (k := 0) (n := 0) (by omega) (by omega) ?_
            exact ih_262 (ke - 1) F_257 (⟨by omega, fun j h1 h2 => by rcases Nat.lt_or_ge j ke with q | q; rw [show j = ke - 1 by omega]; exact hv3.resolve_left (by omega); exact hv2 j q h2, Or.inl (by omega), hN1, hN2⟩) (by show (ke - 1) < ke; omega) hO hR _ _ hP hD hS ls (lv_sub hl [0, 1, 2, 3] rfl)
          ·
            have hk2 : 2 ≤ ke := by have h9 : ke ≠ 1 := fun q => c_290 (by rw [q]; rfl); omega
            refine lv_aload_n hx hb dX4_addBody_85 rfl (lv_at hl 2 rfl) ?_
            refine lv_iload_n hx hb dX4_addBody_86 rfl (lv_at hl 0 rfl) ?_
            refine lv_iconst (v := 2) hx hb dX4_addBody_87 (by decide) ?_
            refine lv_isub hx hb dX4_addBody_88 ?_
            refine lv_topi (fun x_293 ex_293 => ?_)
            obtain rfl : x_293 = (nI (ke - 2)) := ex_293.trans (pk_sub (b := 2) (by omega))
            have hFc := pg_free hD hS hA
            refine va_calli (va_runV (As := [.int (nI (ke - 2))]) (rest := []) ⟨hx, hb, hml, hown, hts⟩ (s_X0_at_o l dC dI cs ty L H.size F_257 g1 σ r1 n1 LL.length (ke - 2) fo2_192 0 hW hL_g1 hT_g1 hN1 hN2 (by omega) (by omega) (by omega)) ⟨callB_of 1 hts (gi kt_21) rfl rfl rfl (hts _ kt_1) (hts _ kt_199) (by decide +kernel) ⟨Nat.le_of_ble_eq_true rfl, Nat.le_of_ble_eq_true rfl⟩, (hts _ kt_23), (hts _ kt_24)⟩ ⟨fun a U g mk q => ⟨q.1, PT.calling q.2⟩, pg_recv hK hP hL_g1 hN1 (q := (RX0, TX0, 3)) rfl, fun U hU hWm => ⟨rfl, PT.mk hU hWm hP hK hD hE hO⟩⟩ rfl rfl hl.1 rfl (lv_room (Nat.le_of_ble_eq_true rfl)) dX4_addBody_89 ⟨by show _ + 0 ≤ 0; omega, by show _ + 0 ≤ 0; omega⟩) hS (fun q _ h => hFc q h) hFc (fun r_294 u t H1 locs ht hvm hw hB hz1 hk1 hS => ?_)
            obtain ⟨F_295, hB1⟩ := hB
            obtain rfl : F_257 = F_295 := (funext (fun a => hB1.2.2.2 a List.not_mem_nil)).symm
            obtain ⟨hP, hD, hO, hR⟩ := QT.back hB1 ht hFc hR (fun q h => absurd h List.not_mem_nil)
            generalize H1 = H at hP hS ⊢
            have hw : r_294 = fo2_192 (ke - 2) := hw
            have hw_296 := hw
            subst hw_296
            refine lv_bipush (v := 10) hx hb dX4_addBody_92 (by decide) ?_
            refine lv_icmp_ne (tgt := 103) hx hb dX4_addBody_94 (by decide) (fun c_297 => ?_) (fun c_297 => ?_)
            ·
              have hst := stl_v hq_195 hq_196 hv1 hv2 (Or.inr ⟨hk2, hv3.resolve_left (by omega), c_297⟩)
              have hst := hst.nl
              rw [hLL] at hst
              refine lv_aload_n hx hb dX4_addBody_103 rfl (lv_at hl 2 rfl) ?_
              refine lv_iload_n hx hb dX4_addBody_104 rfl (lv_at hl 0 rfl) ?_
              have hFc := pg_free hD hS hA
              refine va_callv (va_runV (As := [.int (nI ke)]) (rest := []) ⟨hx, hb, hml, hown, hts⟩ (s_X0_cut_e l dC dI cs ty L H.size F_257 g1 σ r1 n1 LL.length ke fo2_192 hW hL_g1 hT_g1 hN1 hN2 (hv1) (by omega) (by omega)) ⟨callB_of 1 hts (gi kt_236) rfl rfl rfl (hts _ kt_1) (hts _ kt_237) (by decide +kernel) ⟨Nat.le_of_ble_eq_true rfl, Nat.le_of_ble_eq_true rfl⟩, (hts _ kt_238), (hts _ kt_239)⟩ ⟨fun a U g mk q => ⟨q.1, PT.calling q.2⟩, pg_recv hK hP hL_g1 hN1 (q := (RX0, TX0, 3)) rfl, fun U hU hWm => ⟨rfl, PT.mk hU hWm hP hK hD hE hO⟩⟩ rfl rfl hl.1 rfl (lv_room (Nat.le_of_ble_eq_true rfl)) dX4_addBody_105 ⟨by show _ + 0 ≤ 0; omega, by show _ + 0 ≤ 0; omega⟩) hS (fun q _ h => hFc q h) hFc (fun u t H1 locs ht hvm hw hB hz1 hk1 hS => ?_)
              obtain ⟨F_299, hB1, hq_300, hq_301⟩ := hB
              obtain ⟨hP, hD, hO, hR⟩ := QT.back hB1 ht hFc hR (fun q h => by simp only [List.mem_cons, List.not_mem_nil, or_false] at h ⊢; omega)
              have hF_302 : F_299 h0 = .inr (4, [.ref tx, .ref y0, .ref y1, .ref y2, .int (nI nn), .int (nI bs)]) := (hB1.2.2.2 h0 (by rw [hT_h0]; simp only [List.mem_cons, List.not_mem_nil, or_false]; omega)).trans hF_263
              have hF_303 : F_299 tx = .inr (0, [.ref rx, .int (nI zm), .int oo]) := (hB1.2.2.2 tx (by rw [hT_tx]; simp only [List.mem_cons, List.not_mem_nil, or_false]; omega)).trans hF_264
              have hF_304 : F_299 rx = .inl (cs 16, 3000, .inl f) := (hB1.2.2.2 rx (by rw [ht_8]; simp only [List.mem_cons, List.not_mem_nil, or_false]; omega)).trans hF_265
              generalize H1 = H at hP hS ⊢
              refine lv_iload_n hx hb dX4_addBody_108 rfl (lv_at hl 0 rfl) ?_
              refine lv_if_ne (tgt := 122) hx hb dX4_addBody_109 (by decide) (fun c_305 => ?_) (fun c_305 => absurd c_305 (fun q => absurd ((nI_eq (b := 0) (by omega) (by omega)).mp q) (by omega)))
              refine W.widen (k := 0) (n := 0) (by omega) (by omega) ?_
              exact W.vret hx hb hr (fun t ht hWm => ⟨⟨(), rfl, trivial, ⟨F_299, ke, QT.mk ht hP hD hO hR, hq_300, (bdn_n hst (fun q => by have q1 := q.1; omega))⟩⟩, hS.F ht⟩) hS.2.2 dX4_addBody_122
            ·
              refine lv_iinc (v := (nI (ke - 1))) (lv' := [(3, .int (nI (ke - 1))), (0, .ref h0), (1, .ref g1), (2, .int x2)]) hx hb dX4_addBody_97 hl (k := 0) rfl (m1N (by omega)) (by decide) rfl (fun ls hl => ?_)
              refine lv_goto (tgt := 64) hx hb dX4_addBody_100 (by decide) ?_
              refine W.widen (k := 0) (n := 0) (by omega) (by omega) ?_
              exact ih_262 (ke - 1) F_257 (⟨by omega, fun j h1 h2 => by rcases Nat.lt_or_ge j ke with q | q; rw [show j = ke - 1 by omega]; exact hv3.resolve_left (by omega); exact hv2 j q h2, Or.inr (by rw [show ke - 1 - 1 = ke - 2 by omega]; exact c_297), hN1, hN2⟩) (by show (ke - 1) < ke; omega) hO hR _ _ hP hD hS ls (lv_sub hl [0, 1, 2, 3] rfl)
      ·
        refine lv_aload_n hx hb dX4_addBody_53 rfl (lv_at hl 1 rfl) ?_
        refine lv_bipush (v := 10) hx hb dX4_addBody_54 (by decide) ?_
        have hFc := pg_free hD hS hA
        refine va_callv (va_runV (As := [.int 10]) (rest := []) ⟨hx, hb, hml, hown, hts⟩ (s_X0_add_e l dC dI cs ty L H.size F_191 g1 σ r1 n1 LL.length fo2_192 10 hW hL_g1 hT_g1 hq_193 hq_194 (by omega) (by omega)) ⟨callB_of 1 hts (gi kt_13) rfl rfl rfl (hts _ kt_1) (hts _ kt_230) (by decide +kernel) ⟨Nat.le_of_ble_eq_true rfl, Nat.le_of_ble_eq_true rfl⟩, (hts _ kt_15), (hts _ kt_16)⟩ ⟨fun a U g mk q => ⟨q.1, PT.calling q.2⟩, pg_recv hK hP hL_g1 hq_193 (q := (RX0, TX0, 3)) rfl, fun U hU hWm => ⟨rfl, PT.mk hU hWm hP hK hD hE hO⟩⟩ rfl rfl hl.1 rfl (lv_room (Nat.le_of_ble_eq_true rfl)) dX4_addBody_56 ⟨by show _ + 0 ≤ 0; omega, by show _ + 0 ≤ 0; omega⟩) hS (fun q _ h => hFc q h) hFc (fun u t H1 locs ht hvm hw hB hz1 hk1 hS => ?_)
        obtain ⟨F_307, hB1, hq_308, hq_309⟩ := hB
        obtain ⟨hP, hD, hO, hR⟩ := QT.back hB1 ht hFc hR (fun q h => by simp only [List.mem_cons, List.not_mem_nil, or_false] at h ⊢; omega)
        have hF_310 : F_307 h0 = .inr (4, [.ref tx, .ref y0, .ref y1, .ref y2, .int (nI nn), .int (nI bs)]) := (hB1.2.2.2 h0 (by rw [hT_h0]; simp only [List.mem_cons, List.not_mem_nil, or_false]; omega)).trans hF_197
        have hF_311 : F_307 tx = .inr (0, [.ref rx, .int (nI zm), .int oo]) := (hB1.2.2.2 tx (by rw [hT_tx]; simp only [List.mem_cons, List.not_mem_nil, or_false]; omega)).trans hF_198
        have hF_312 : F_307 rx = .inl (cs 16, 3000, .inl f) := (hB1.2.2.2 rx (by rw [ht_8]; simp only [List.mem_cons, List.not_mem_nil, or_false]; omega)).trans hF_199
        generalize H1 = H at hP hS ⊢
        have hou_313 := OUTS.add (y := (2, 10)) hq_195 (show (10 : Int32) = evs f (2, 10) from rfl)
        have hwf_314 := WFS.add (y := (2, 10)) hq_196 (Or.inl rfl)
        have hF_315 : F_307 g1 = .inr (0, [.ref r1, .int (nI (LL ++ [(2, 10)]).length), .int 0]) := by rw [len1]; exact hq_308
        have hWl : (LL ++ [(2, 10)]).length ≤ zm - bs + 1 := by rw [len1]; omega
        have hend : (LL ++ [(2, 10)]).length = 0 ∨ (upd fo2_192 LL.length 10) ((LL ++ [(2, 10)]).length - 1) = 10 := Or.inr (by rw [len1, Nat.add_sub_cancel]; exact updc_at)
        refine lv_aload_n hx hb dX4_addBody_59 rfl (lv_at hl 1 rfl) ?_
        refine pg_getN (ci := 0) (v := .int (nI (LL ++ [(2, 10)]).length)) (C := RX0) (T := TX0) (N := 3) hx hb hts it_0 hown hK hP hL_g1 hF_315 rfl 1 (by decide) (hE.nest kn_6) (fun _ h9 => h9) rfl dX4_addBody_60 ?_
        refine lv_istore_n (lv' := [(3, .int (nI (LL ++ [(2, 10)]).length)), (0, .ref h0), (1, .ref g1), (2, .int x2)]) hx hb dX4_addBody_63 rfl hl (by decide) rfl (fun ls hl => ?_)
        refine W.widen (k := 0) (n := 0) (by omega) (by omega) ?_
        have hF_317 : F h0 = .inr (4, [.ref tx, .ref y0, .ref y1, .ref y2, .int (nI nn), .int (nI bs)]) := (hR h0 (by rw [hT_h0]; simp only [List.mem_cons, List.not_mem_nil, or_false]; omega)).symm.trans hF_310
        have hF_318 : F tx = .inr (0, [.ref rx, .int (nI zm), .int oo]) := (hR tx (by rw [hT_tx]; simp only [List.mem_cons, List.not_mem_nil, or_false]; omega)).symm.trans hF_311
        have hF_319 : F rx = .inl (cs 16, 3000, .inl f) := (hR rx (by rw [ht_8]; simp only [List.mem_cons, List.not_mem_nil, or_false]; omega)).symm.trans hF_312
        refine pl_loop (σ := Nat) A (dC, dI) cs ty L [σ] F 64 4 (fun ke => [(3, .int (nI ke)), (0, .ref h0), (1, .ref g1), (2, .int x2)]) (fun ke => []) (fun ke FF => ke ≤ (LL ++ [(2, 10)]).length ∧ (∀ j, ke ≤ j → j < (LL ++ [(2, 10)]).length → (upd fo2_192 LL.length 10) j = 10) ∧ (ke = 0 ∨ (upd fo2_192 LL.length 10) (ke - 1) = 10) ∧ FF g1 = .inr (0, [.ref r1, .int (nI (LL ++ [(2, 10)]).length), .int 0]) ∧ FF r1 = .inl (cs 16, n1, .inl (upd fo2_192 LL.length 10))) (fun ke => ke) ?_ ((LL ++ [(2, 10)]).length) F_307 (⟨Nat.le_refl _, fun j h1 h2 => by omega, hend, hF_315, hq_309⟩) hO hR _ _ hP hD hS ls (lv_sub hl [0, 1, 2, 3] rfl)
        rintro ke F_316 hv_320 hO hR ih_321 H locs hP hD hS ls hl
        have hl : lv_has ls 4 [(3, .int (nI ke)), (0, .ref h0), (1, .ref g1), (2, .int x2)] := hl
        have hv_320 : ke ≤ (LL ++ [(2, 10)]).length ∧ (∀ j, ke ≤ j → j < (LL ++ [(2, 10)]).length → (upd fo2_192 LL.length 10) j = 10) ∧ (ke = 0 ∨ (upd fo2_192 LL.length 10) (ke - 1) = 10) ∧ F_316 g1 = .inr (0, [.ref r1, .int (nI (LL ++ [(2, 10)]).length), .int 0]) ∧ F_316 r1 = .inl (cs 16, n1, .inl (upd fo2_192 LL.length 10)) := hv_320
        refine W.eq (g2 := F0 m 64 ls []) rfl ?_
        have hF_322 : F_316 h0 = .inr (4, [.ref tx, .ref y0, .ref y1, .ref y2, .int (nI nn), .int (nI bs)]) := (hR h0 (by rw [hT_h0]; simp only [List.mem_cons, List.not_mem_nil, or_false]; omega)).trans hF_317
        have hF_323 : F_316 tx = .inr (0, [.ref rx, .int (nI zm), .int oo]) := (hR tx (by rw [hT_tx]; simp only [List.mem_cons, List.not_mem_nil, or_false]; omega)).trans hF_318
        have hF_324 : F_316 rx = .inl (cs 16, 3000, .inl f) := (hR rx (by rw [ht_8]; simp only [List.mem_cons, List.not_mem_nil, or_false]; omega)).trans hF_319
        obtain ⟨hv1, hv2, hv3, hN1, hN2⟩ := id hv_320
        refine lv_iload_n hx hb dX4_addBody_64 rfl (lv_at hl 0 rfl) ?_
        refine lv_if_le (tgt := 103) hx hb dX4_addBody_65 (by decide) (fun c_325 => ?_) (fun c_325 => ?_)
        ·
          have hk0 : ke = 0 := by have h9 : ke ≤ 0 := (nI_leI (b := 0) (by omega) (by omega)).mp c_325; omega
          have hst := stl_v hou_313 hwf_314 hv1 hv2 (Or.inl hk0)
          rw [hLL] at hst
          refine lv_aload_n hx hb dX4_addBody_103 rfl (lv_at hl 2 rfl) ?_
          refine lv_iload_n hx hb dX4_addBody_104 rfl (lv_at hl 0 rfl) ?_
          have hFc := pg_free hD hS hA
          refine va_callv (va_runV (As := [.int (nI ke)]) (rest := []) ⟨hx, hb, hml, hown, hts⟩ (s_X0_cut_e l dC dI cs ty L H.size F_316 g1 σ r1 n1 ((LL ++ [(2, 10)]).length) ke (upd fo2_192 LL.length 10) hW hL_g1 hT_g1 hN1 hN2 (hv1) (by omega) (by omega)) ⟨callB_of 1 hts (gi kt_236) rfl rfl rfl (hts _ kt_1) (hts _ kt_237) (by decide +kernel) ⟨Nat.le_of_ble_eq_true rfl, Nat.le_of_ble_eq_true rfl⟩, (hts _ kt_238), (hts _ kt_239)⟩ ⟨fun a U g mk q => ⟨q.1, PT.calling q.2⟩, pg_recv hK hP hL_g1 hN1 (q := (RX0, TX0, 3)) rfl, fun U hU hWm => ⟨rfl, PT.mk hU hWm hP hK hD hE hO⟩⟩ rfl rfl hl.1 rfl (lv_room (Nat.le_of_ble_eq_true rfl)) dX4_addBody_105 ⟨by show _ + 0 ≤ 0; omega, by show _ + 0 ≤ 0; omega⟩) hS (fun q _ h => hFc q h) hFc (fun u t H1 locs ht hvm hw hB hz1 hk1 hS => ?_)
          obtain ⟨F_328, hB1, hq_329, hq_330⟩ := hB
          obtain ⟨hP, hD, hO, hR⟩ := QT.back hB1 ht hFc hR (fun q h => by simp only [List.mem_cons, List.not_mem_nil, or_false] at h ⊢; omega)
          have hF_331 : F_328 h0 = .inr (4, [.ref tx, .ref y0, .ref y1, .ref y2, .int (nI nn), .int (nI bs)]) := (hB1.2.2.2 h0 (by rw [hT_h0]; simp only [List.mem_cons, List.not_mem_nil, or_false]; omega)).trans hF_322
          have hF_332 : F_328 tx = .inr (0, [.ref rx, .int (nI zm), .int oo]) := (hB1.2.2.2 tx (by rw [hT_tx]; simp only [List.mem_cons, List.not_mem_nil, or_false]; omega)).trans hF_323
          have hF_333 : F_328 rx = .inl (cs 16, 3000, .inl f) := (hB1.2.2.2 rx (by rw [ht_8]; simp only [List.mem_cons, List.not_mem_nil, or_false]; omega)).trans hF_324
          generalize H1 = H at hP hS ⊢
          refine lv_iload_n hx hb dX4_addBody_108 rfl (lv_at hl 0 rfl) ?_
          refine lv_if_ne (tgt := 122) hx hb dX4_addBody_109 (by decide) (fun c_334 => absurd (by rw [hk0]; rfl) c_334) (fun c_334 => ?_)
          refine lv_iload_n hx hb dX4_addBody_112 rfl (lv_at hl 3 rfl) ?_
          refine lv_if_ne (tgt := 122) hx hb dX4_addBody_113 (by decide) (fun c_335 => ?_) (fun c_335 => ?_)
          ·
            refine W.widen (k := 0) (n := 0) (by omega) (by omega) ?_
            exact W.vret hx hb hr (fun t ht hWm => ⟨⟨(), rfl, trivial, ⟨F_328, ke, QT.mk ht hP hD hO hR, hq_329, (bdn_n hst (fun q => c_335 q.2))⟩⟩, hS.F ht⟩) hS.2.2 dX4_addBody_122
          ·
            refine lv_aload_n hx hb dX4_addBody_116 rfl (lv_at hl 2 rfl) ?_
            refine lv_bipush (v := 10) hx hb dX4_addBody_117 (by decide) ?_
            have hFc := pg_free hD hS hA
            refine va_callv (va_runV (As := [.int 10]) (rest := []) ⟨hx, hb, hml, hown, hts⟩ (s_X0_add_e l dC dI cs ty L H.size F_328 g1 σ r1 n1 ke (upd fo2_192 LL.length 10) 10 hW hL_g1 hT_g1 hq_329 hq_330 (by omega) (by omega)) ⟨callB_of 1 hts (gi kt_13) rfl rfl rfl (hts _ kt_1) (hts _ kt_230) (by decide +kernel) ⟨Nat.le_of_ble_eq_true rfl, Nat.le_of_ble_eq_true rfl⟩, (hts _ kt_15), (hts _ kt_16)⟩ ⟨fun a U g mk q => ⟨q.1, PT.calling q.2⟩, pg_recv hK hP hL_g1 hq_329 (q := (RX0, TX0, 3)) rfl, fun U hU hWm => ⟨rfl, PT.mk hU hWm hP hK hD hE hO⟩⟩ rfl rfl hl.1 rfl (lv_room (Nat.le_of_ble_eq_true rfl)) dX4_addBody_119 ⟨by show _ + 0 ≤ 0; omega, by show _ + 0 ≤ 0; omega⟩) hS (fun q _ h => hFc q h) hFc (fun u t H1 locs ht hvm hw hB hz1 hk1 hS => ?_)
            obtain ⟨F_337, hB1, hq_338, hq_339⟩ := hB
            obtain ⟨hP, hD, hO, hR⟩ := QT.back hB1 ht hFc hR (fun q h => by simp only [List.mem_cons, List.not_mem_nil, or_false] at h ⊢; omega)
            have hF_340 : F_337 h0 = .inr (4, [.ref tx, .ref y0, .ref y1, .ref y2, .int (nI nn), .int (nI bs)]) := (hB1.2.2.2 h0 (by rw [hT_h0]; simp only [List.mem_cons, List.not_mem_nil, or_false]; omega)).trans hF_331
            have hF_341 : F_337 tx = .inr (0, [.ref rx, .int (nI zm), .int oo]) := (hB1.2.2.2 tx (by rw [hT_tx]; simp only [List.mem_cons, List.not_mem_nil, or_false]; omega)).trans hF_332
            have hF_342 : F_337 rx = .inl (cs 16, 3000, .inl f) := (hB1.2.2.2 rx (by rw [ht_8]; simp only [List.mem_cons, List.not_mem_nil, or_false]; omega)).trans hF_333
            generalize H1 = H at hP hS ⊢
            refine W.widen (k := 0) (n := 0) (by omega) (by omega) ?_
            exact W.vret hx hb hr (fun t ht hWm => ⟨⟨(), rfl, trivial, ⟨F_337, 1, QT.mk ht hP hD hO hR, (by have h9 := hq_338; rw [hk0] at h9; exact h9), (bdn_0 hst hk0 c_335)⟩⟩, hS.F ht⟩) hS.2.2 dX4_addBody_122
        ·
          have hkp : 0 < ke := posN c_325
          refine lv_aload_n hx hb dX4_addBody_68 rfl (lv_at hl 2 rfl) ?_
          refine lv_iload_n hx hb dX4_addBody_69 rfl (lv_at hl 0 rfl) ?_
          refine lv_iconst (v := 1) hx hb dX4_addBody_70 (by decide) ?_
          refine lv_isub hx hb dX4_addBody_71 ?_
          refine lv_topi (fun x_344 ex_344 => ?_)
          obtain rfl : x_344 = (nI (ke - 1)) := ex_344.trans (pk_sub (b := 1) (by omega))
          have hFc := pg_free hD hS hA
          refine va_calli (va_runV (As := [.int (nI (ke - 1))]) (rest := []) ⟨hx, hb, hml, hown, hts⟩ (s_X0_at_o l dC dI cs ty L H.size F_316 g1 σ r1 n1 ((LL ++ [(2, 10)]).length) (ke - 1) (upd fo2_192 LL.length 10) 0 hW hL_g1 hT_g1 hN1 hN2 (by omega) (by omega) (by omega)) ⟨callB_of 1 hts (gi kt_21) rfl rfl rfl (hts _ kt_1) (hts _ kt_199) (by decide +kernel) ⟨Nat.le_of_ble_eq_true rfl, Nat.le_of_ble_eq_true rfl⟩, (hts _ kt_23), (hts _ kt_24)⟩ ⟨fun a U g mk q => ⟨q.1, PT.calling q.2⟩, pg_recv hK hP hL_g1 hN1 (q := (RX0, TX0, 3)) rfl, fun U hU hWm => ⟨rfl, PT.mk hU hWm hP hK hD hE hO⟩⟩ rfl rfl hl.1 rfl (lv_room (Nat.le_of_ble_eq_true rfl)) dX4_addBody_72 ⟨by show _ + 0 ≤ 0; omega, by show _ + 0 ≤ 0; omega⟩) hS (fun q _ h => hFc q h) hFc (fun r_345 u t H1 locs ht hvm hw hB hz1 hk1 hS => ?_)
          obtain ⟨F_346, hB1⟩ := hB
          obtain rfl : F_316 = F_346 := (funext (fun a => hB1.2.2.2 a List.not_mem_nil)).symm
          obtain ⟨hP, hD, hO, hR⟩ := QT.back hB1 ht hFc hR (fun q h => absurd h List.not_mem_nil)
          generalize H1 = H at hP hS ⊢
          have hw : r_345 = (upd fo2_192 LL.length 10) (ke - 1) := hw
          have hw_347 := hw
          subst hw_347
          refine lv_bipush (v := 10) hx hb dX4_addBody_75 (by decide) ?_
          refine lv_icmp_ne (tgt := 103) hx hb dX4_addBody_77 (by decide) (fun c_348 => absurd (hv3.resolve_left (by omega)) c_348) (fun c_348 => ?_)
          refine lv_iload_n hx hb dX4_addBody_80 rfl (lv_at hl 0 rfl) ?_
          refine lv_iconst (v := 1) hx hb dX4_addBody_81 (by decide) ?_
          refine lv_icmp_eq (tgt := 97) hx hb dX4_addBody_82 (by decide) (fun c_349 => ?_) (fun c_349 => ?_)
          ·
            have hk1 : ke = 1 := (nI_eq (b := 1) (by omega) (by omega)).mp c_349
            refine lv_iinc (v := (nI (ke - 1))) (lv' := [(3, .int (nI (ke - 1))), (0, .ref h0), (1, .ref g1), (2, .int x2)]) hx hb dX4_addBody_97 hl (k := 0) rfl (m1N (by omega)) (by decide) rfl (fun ls hl => ?_)
            refine lv_goto (tgt := 64) hx hb dX4_addBody_100 (by decide) ?_
            refine W.widen (k := 0) (n := 0) (by omega) (by omega) ?_
            exact ih_321 (ke - 1) F_316 (⟨by omega, fun j h1 h2 => by rcases Nat.lt_or_ge j ke with q | q; rw [show j = ke - 1 by omega]; exact hv3.resolve_left (by omega); exact hv2 j q h2, Or.inl (by omega), hN1, hN2⟩) (by show (ke - 1) < ke; omega) hO hR _ _ hP hD hS ls (lv_sub hl [0, 1, 2, 3] rfl)
          ·
            have hk2 : 2 ≤ ke := by have h9 : ke ≠ 1 := fun q => c_349 (by rw [q]; rfl); omega
            refine lv_aload_n hx hb dX4_addBody_85 rfl (lv_at hl 2 rfl) ?_
            refine lv_iload_n hx hb dX4_addBody_86 rfl (lv_at hl 0 rfl) ?_
            refine lv_iconst (v := 2) hx hb dX4_addBody_87 (by decide) ?_
            refine lv_isub hx hb dX4_addBody_88 ?_
            refine lv_topi (fun x_352 ex_352 => ?_)
            obtain rfl : x_352 = (nI (ke - 2)) := ex_352.trans (pk_sub (b := 2) (by omega))
            have hFc := pg_free hD hS hA
            refine va_calli (va_runV (As := [.int (nI (ke - 2))]) (rest := []) ⟨hx, hb, hml, hown, hts⟩ (s_X0_at_o l dC dI cs ty L H.size F_316 g1 σ r1 n1 ((LL ++ [(2, 10)]).length) (ke - 2) (upd fo2_192 LL.length 10) 0 hW hL_g1 hT_g1 hN1 hN2 (by omega) (by omega) (by omega)) ⟨callB_of 1 hts (gi kt_21) rfl rfl rfl (hts _ kt_1) (hts _ kt_199) (by decide +kernel) ⟨Nat.le_of_ble_eq_true rfl, Nat.le_of_ble_eq_true rfl⟩, (hts _ kt_23), (hts _ kt_24)⟩ ⟨fun a U g mk q => ⟨q.1, PT.calling q.2⟩, pg_recv hK hP hL_g1 hN1 (q := (RX0, TX0, 3)) rfl, fun U hU hWm => ⟨rfl, PT.mk hU hWm hP hK hD hE hO⟩⟩ rfl rfl hl.1 rfl (lv_room (Nat.le_of_ble_eq_true rfl)) dX4_addBody_89 ⟨by show _ + 0 ≤ 0; omega, by show _ + 0 ≤ 0; omega⟩) hS (fun q _ h => hFc q h) hFc (fun r_353 u t H1 locs ht hvm hw hB hz1 hk1 hS => ?_)
            obtain ⟨F_354, hB1⟩ := hB
            obtain rfl : F_316 = F_354 := (funext (fun a => hB1.2.2.2 a List.not_mem_nil)).symm
            obtain ⟨hP, hD, hO, hR⟩ := QT.back hB1 ht hFc hR (fun q h => absurd h List.not_mem_nil)
            generalize H1 = H at hP hS ⊢
            have hw : r_353 = (upd fo2_192 LL.length 10) (ke - 2) := hw
            have hw_355 := hw
            subst hw_355
            refine lv_bipush (v := 10) hx hb dX4_addBody_92 (by decide) ?_
            refine lv_icmp_ne (tgt := 103) hx hb dX4_addBody_94 (by decide) (fun c_356 => ?_) (fun c_356 => ?_)
            ·
              have hst := stl_v hou_313 hwf_314 hv1 hv2 (Or.inr ⟨hk2, hv3.resolve_left (by omega), c_356⟩)
              rw [hLL] at hst
              refine lv_aload_n hx hb dX4_addBody_103 rfl (lv_at hl 2 rfl) ?_
              refine lv_iload_n hx hb dX4_addBody_104 rfl (lv_at hl 0 rfl) ?_
              have hFc := pg_free hD hS hA
              refine va_callv (va_runV (As := [.int (nI ke)]) (rest := []) ⟨hx, hb, hml, hown, hts⟩ (s_X0_cut_e l dC dI cs ty L H.size F_316 g1 σ r1 n1 ((LL ++ [(2, 10)]).length) ke (upd fo2_192 LL.length 10) hW hL_g1 hT_g1 hN1 hN2 (hv1) (by omega) (by omega)) ⟨callB_of 1 hts (gi kt_236) rfl rfl rfl (hts _ kt_1) (hts _ kt_237) (by decide +kernel) ⟨Nat.le_of_ble_eq_true rfl, Nat.le_of_ble_eq_true rfl⟩, (hts _ kt_238), (hts _ kt_239)⟩ ⟨fun a U g mk q => ⟨q.1, PT.calling q.2⟩, pg_recv hK hP hL_g1 hN1 (q := (RX0, TX0, 3)) rfl, fun U hU hWm => ⟨rfl, PT.mk hU hWm hP hK hD hE hO⟩⟩ rfl rfl hl.1 rfl (lv_room (Nat.le_of_ble_eq_true rfl)) dX4_addBody_105 ⟨by show _ + 0 ≤ 0; omega, by show _ + 0 ≤ 0; omega⟩) hS (fun q _ h => hFc q h) hFc (fun u t H1 locs ht hvm hw hB hz1 hk1 hS => ?_)
              obtain ⟨F_358, hB1, hq_359, hq_360⟩ := hB
              obtain ⟨hP, hD, hO, hR⟩ := QT.back hB1 ht hFc hR (fun q h => by simp only [List.mem_cons, List.not_mem_nil, or_false] at h ⊢; omega)
              have hF_361 : F_358 h0 = .inr (4, [.ref tx, .ref y0, .ref y1, .ref y2, .int (nI nn), .int (nI bs)]) := (hB1.2.2.2 h0 (by rw [hT_h0]; simp only [List.mem_cons, List.not_mem_nil, or_false]; omega)).trans hF_322
              have hF_362 : F_358 tx = .inr (0, [.ref rx, .int (nI zm), .int oo]) := (hB1.2.2.2 tx (by rw [hT_tx]; simp only [List.mem_cons, List.not_mem_nil, or_false]; omega)).trans hF_323
              have hF_363 : F_358 rx = .inl (cs 16, 3000, .inl f) := (hB1.2.2.2 rx (by rw [ht_8]; simp only [List.mem_cons, List.not_mem_nil, or_false]; omega)).trans hF_324
              generalize H1 = H at hP hS ⊢
              refine lv_iload_n hx hb dX4_addBody_108 rfl (lv_at hl 0 rfl) ?_
              refine lv_if_ne (tgt := 122) hx hb dX4_addBody_109 (by decide) (fun c_364 => ?_) (fun c_364 => absurd c_364 (fun q => absurd ((nI_eq (b := 0) (by omega) (by omega)).mp q) (by omega)))
              refine W.widen (k := 0) (n := 0) (by omega) (by omega) ?_
              exact W.vret hx hb hr (fun t ht hWm => ⟨⟨(), rfl, trivial, ⟨F_358, ke, QT.mk ht hP hD hO hR, hq_359, (bdn_n hst (fun q => by have q1 := q.1; omega))⟩⟩, hS.F ht⟩) hS.2.2 dX4_addBody_122
            ·
              refine lv_iinc (v := (nI (ke - 1))) (lv' := [(3, .int (nI (ke - 1))), (0, .ref h0), (1, .ref g1), (2, .int x2)]) hx hb dX4_addBody_97 hl (k := 0) rfl (m1N (by omega)) (by decide) rfl (fun ls hl => ?_)
              refine lv_goto (tgt := 64) hx hb dX4_addBody_100 (by decide) ?_
              refine W.widen (k := 0) (n := 0) (by omega) (by omega) ?_
              exact ih_321 (ke - 1) F_316 (⟨by omega, fun j h1 h2 => by rcases Nat.lt_or_ge j ke with q | q; rw [show j = ke - 1 by omega]; exact hv3.resolve_left (by omega); exact hv2 j q h2, Or.inr (by rw [show ke - 1 - 1 = ke - 2 by omega]; exact c_356), hN1, hN2⟩) (by show (ke - 1) < ke; omega) hO hR _ _ hP hD hS ls (lv_sub hl [0, 1, 2, 3] rfl)
def PBR (T : Nat → Nat) (n b z : Nat) (x r : Int32) : Prop := (n = 0 ∧ r = (-2)) ∨ (¬ n = 0 ∧ BDN T x b z r)
theorem PBR.same {T U : Nat → Nat} {n b z : Nat} {x r q : Int32} (hb : n = 0 ∨ b ≤ z) (h : n = 0 ∨ ∀ j, j < z → T j = U j) (h1 : PBR T n b z x r) (h2 : PBR U n b z x q) : r = q := by
  rcases h1 with ⟨a1, a2⟩ | ⟨a1, a2⟩ <;> rcases h2 with ⟨b1, b2⟩ | ⟨b1, b2⟩
  · rw [a2, b2]
  · exact absurd a1 b1
  · exact absurd b1 a1
  · exact BDN.same (hb.resolve_left a1) (h.resolve_left a1) a2 b2
set_option maxHeartbeats 4000000 in
set_option maxRecDepth 100000 in
theorem s_X11_plainBody_x (l : Launch) (dC : Nat → ClassId) (dI : Nat → Nat → Nat) (cs : Nat → ClassId) (ty : TyM) (L : List Nat) (sz : Nat) (F : Nat → va_E) (h0 : Nat) (ρ : Nat) (ta : Nat) (ou : Nat) (di : Nat) (ea : Nat) (ck : Nat) (sl : Nat) (po : Nat) (hs : Nat) (le : Nat) (x : Nat) (y0 : Nat) (y1 : Nat) (y2 : Nat) (sp : Nat) (rx : Nat) (ro : Nat) (nn : Nat) (zm : Nat) (μ : Nat) (bs : Nat) (f : Nat → Int32) (bb : Int32) (oo : Int32) (x1 : Int32) (hW : WT ty L) (hL_h0 : h0 ∈ L) (hT_h0 : ty h0 = (11, ρ, [ta, ou, di, ea, ck, sl, po, hs])) (hL_ou : ou ∈ L) (hT_ou : ty ou = (0, ρ + 2, [ro, 3000])) (hL_le : le ∈ L) (hT_le : ty le = (4, μ, [x, y0, y1, y2])) (hL_x : x ∈ L) (hT_x : ty x = (0, μ + 1, [rx, 3000])) (hF0 : F h0 = .inr (11, [.ref ta, .ref ou, .ref di, .ref ck, .ref sl, .ref po, .ref hs, .ref le, .ref sp])) (hFe : F le = .inr (4, [.ref x, .ref y0, .ref y1, .ref y2, .int (nI nn), .int bb])) (hFx : F x = .inr (0, [.ref rx, .int (nI zm), .int oo])) (hFr : F rx = .inl (cs 16, 3000, .inl f)) (hn20 : nn ≤ 20) (hz3 : zm ≤ 3000) (hmu : μ = ρ + 20 ∨ μ = ρ + 30) (hbs : nn = 0 ∨ (bb = nI bs ∧ bs ≤ zm ∧ zm ≤ 2000)) : Met l yX11_plainBody (.code yX11_plainBody cX11_plainBody 2 (some .int) :: tb) ({ frames := 3, cells := 0, slots := 0, locals := 97 }) (va_Pc [.ref h0, .int x1] (PT (dC, dI) cs ty L F sz)) (va_Qi (fun (r : Int32) (_ : Unit) => PBR (clf f) nn bs zm x1 r) (fun _ T9 => ∃ F2 : Nat → va_E, QT (dC, dI) cs ty L [ρ + 2] F F2 (va_A (va_pl L F) sz) T9) (va_A (va_pl L F) sz)) 0 0 (va_A (va_pl L F) sz) := by
  refine Met.ofW (cc := cX11_plainBody) (maxL := 2) (ret := (some .int)) (by decide) rfl ?_
  intro p e s m args below meth c s₁ B hml hv
  obtain ⟨rfl, hsz, hP, hK, hD0, hE, hO⟩ := hv
  have hx := B.exec
  have hb := B.bytes
  have hr := B.returns
  have hts : ∀ w ∈ tb, w.before _ s = true := fun w h => atoms_spec (ws := .code yX11_plainBody cX11_plainBody 2 (some .int) :: tb) B.pre w (List.mem_cons_of_mem _ h)
  have hown : s.vm.findClass RX11 = some m.cls := findClass_of_methodNamed B.named
  have hlocks := B.notSynchronized
  subst hsz
  have hD := hD0.self (sz := s.heap.size)
  generalize hAe : va_A (va_pl L F) s.heap.size = A at hD ⊢
  have hA : ∀ q : Nat, s.heap.size ≤ q → A q := fun q h => by rw [← hAe]; exact Or.inr h
  have hS : va_S A s.heap s.heap [] := va_S.rf
  have hR : FR ty [ρ + 2] F F := FR.refl
  have hl := lv_entry ([.ref h0, .int x1]) (n := 2) (Nat.le_of_ble_eq_true rfl)
  rw [lg_entry_eq]
  generalize (lg_sl ([.ref h0, .int x1]) ++ List.replicate (2 - (lg_sl ([.ref h0, .int x1])).length) Slot.unset).toArray = ls at hl ⊢
  have hl : lv_has ls 2 [(0, .ref h0), (1, .int x1)] := hl
  obtain ⟨hi_1, ⟨r_2, ht_3⟩, _, _, hi_4, ht_5, hi_6, ⟨w0_7, w1_8, w2_9, w3_10, nm_11, te_12, ht_13⟩, hi_14, ⟨l1_15, lx_16, ly0_17, ly1_18, ly2_19, k1_20, kx_21, ky0_22, ky1_23, ky2_24, w0_25, w1_26, w2_27, w3_28, w4_29, w5_30, w6_31, w7_32, w8_33, tk_34, h1_35, hx_36, hy_37, hw_38, pw_39, px_40, py_41, pz_42, pu_43, ht_44⟩, hi_45, ⟨w0_46, w1_47, rc_48, rx_49, ry0_50, ry1_51, ry2_52, ht_53⟩, hi_54, ⟨hx_55, hy_56, hw_57, ht_58⟩⟩ := hW.gate hL_h0 hT_h0
  obtain ⟨_, hi_59, hi_60, hi_61, _, ht_62, ht_63, ht_64⟩ := hW.msg hL_le hT_le
  obtain ⟨hi_65, ht_66, hq_67⟩ := hW.bytes hL_x hT_x
  obtain ⟨hi_68, ht_69, hq_70⟩ := hW.bytes hL_ou hT_ou
  refine lv_aload_n hx hb dX11_plainBody_0 rfl (lv_at hl 0 rfl) ?_
  refine pg_get (ci := 11) (v := .ref le) (C := RX11) (T := TX11) (N := 9) hx hb hts it_11 hown hK hP hL_h0 hF0 rfl 7 (by decide) (hts _ kt_518) (fun _ h9 => h9) rfl dX11_plainBody_1 ?_
  refine pg_getN (ci := 4) (v := .int (nI nn)) (C := RX4) (T := TX4) (N := 6) hx hb hts it_4 hown hK hP hL_le hFe rfl 4 (by decide) (hE.nest kn_20) (fun _ h9 => h9) rfl dX11_plainBody_4 ?_
  refine lv_if_ne (tgt := 13) hx hb dX11_plainBody_7 (by decide) (fun c_71 => ?_) (fun c_71 => ?_)
  ·
    have hnn : ¬ nn = 0 := fun q => c_71 (by rw [q]; rfl)
    obtain ⟨q1, q2, q3⟩ := hbs.resolve_left hnn
    subst q1
    refine lv_aload_n hx hb dX11_plainBody_13 rfl (lv_at hl 0 rfl) ?_
    refine pg_get (ci := 11) (v := .ref ou) (C := RX11) (T := TX11) (N := 9) hx hb hts it_11 hown hK hP hL_h0 hF0 rfl 1 (by decide) (hts _ kt_526) (fun _ h9 => h9) rfl dX11_plainBody_14 ?_
    have hFc := pg_free hD hS hA
    obtain ⟨z_73, o_74, hF_75, hq_76, hq_77⟩ := hO.bytes hL_ou hT_ou
    refine va_callv (va_runV (As := []) (rest := []) ⟨hx, hb, hml, hown, hts⟩ (s_X0_clear l dC dI cs ty L s.heap.size F ou (ρ + 2) ro 3000 hW hL_ou hT_ou) ⟨callB_of 0 hts (gi kt_32) rfl rfl rfl (hts _ kt_1) (hts _ kt_527) (by decide +kernel) ⟨Nat.le_of_ble_eq_true rfl, Nat.le_of_ble_eq_true rfl⟩, (hts _ kt_34), (hts _ kt_35)⟩ ⟨fun a U g mk q => ⟨q.1, PT.calling q.2⟩, pg_recv hK hP hL_ou hF_75 (q := (RX0, TX0, 3)) rfl, fun U hU hWm => ⟨rfl, PT.mk hU hWm hP hK hD hE hO⟩⟩ rfl rfl hl.1 rfl (lv_room (Nat.le_of_ble_eq_true rfl)) dX11_plainBody_17 ⟨by show _ + 0 ≤ 0; omega, by show _ + 0 ≤ 0; omega⟩) hS (fun q _ h => hFc q h) hFc (fun u t H1 locs ht hvm hw hB hz1 hk1 hS => ?_)
    obtain ⟨F_79, hB1, hq_80⟩ := hB
    obtain ⟨hP, hD, hO, hR⟩ := QT.back hB1 ht hFc hR (fun q h => by simp only [List.mem_cons, List.not_mem_nil, or_false] at h ⊢; omega)
    have hF_81 : F_79 h0 = .inr (11, [.ref ta, .ref ou, .ref di, .ref ck, .ref sl, .ref po, .ref hs, .ref le, .ref sp]) := (hB1.2.2.2 h0 (by rw [hT_h0]; simp)).trans hF0
    have hF_82 : F_79 le = .inr (4, [.ref x, .ref y0, .ref y1, .ref y2, .int (nI nn), .int (nI bs)]) := (hB1.2.2.2 le (by rw [hT_le]; simp only [List.mem_cons, List.not_mem_nil, or_false]; omega)).trans hFe
    have hF_83 : F_79 x = .inr (0, [.ref rx, .int (nI zm), .int oo]) := (hB1.2.2.2 x (by rw [hT_x]; simp only [List.mem_cons, List.not_mem_nil, or_false]; omega)).trans hFx
    have hF_84 : F_79 rx = .inl (cs 16, 3000, .inl f) := (hB1.2.2.2 rx (by rw [ht_66]; simp only [List.mem_cons, List.not_mem_nil, or_false]; omega)).trans hFr
    generalize H1 = H at hP hS ⊢
    refine lv_aload_n hx hb dX11_plainBody_20 rfl (lv_at hl 0 rfl) ?_
    refine pg_get (ci := 11) (v := .ref le) (C := RX11) (T := TX11) (N := 9) hx hb hts it_11 hown hK hP hL_h0 hF_81 rfl 7 (by decide) (hts _ kt_518) (fun _ h9 => h9) rfl dX11_plainBody_21 ?_
    refine lv_aload_n hx hb dX11_plainBody_24 rfl (lv_at hl 0 rfl) ?_
    refine pg_get (ci := 11) (v := .ref ou) (C := RX11) (T := TX11) (N := 9) hx hb hts it_11 hown hK hP hL_h0 hF_81 rfl 1 (by decide) (hts _ kt_526) (fun _ h9 => h9) rfl dX11_plainBody_25 ?_
    refine lv_iload_n hx hb dX11_plainBody_28 rfl (lv_at hl 1 rfl) ?_
    obtain ⟨f_85, hF_86⟩ := hO.ints hi_68 ht_69
    have hFc := pg_free hD hS hA
    refine va_callv (va_runV (As := [.ref ou, .int x1]) (rest := []) ⟨hx, hb, hml, hown, hts⟩ (s_X4_addBody_e l dC dI cs ty L H.size F_79 le μ x y0 y1 y2 ou (ρ + 2) ro 3000 rx zm nn bs f f_85 oo x1 hW hL_le hT_le hL_x hT_x hL_ou hT_ou hF_82 hF_83 hF_84 hq_80 hF_86 (q2) (by omega) (by omega) (by omega) (by omega)) ⟨callB_of 2 hts (gi kt_392) rfl rfl rfl (hts _ kt_211) (hts _ kt_528) (by decide +kernel) ⟨Nat.le_of_ble_eq_true rfl, Nat.le_of_ble_eq_true rfl⟩, (hts _ kt_394), (hts _ kt_395)⟩ ⟨fun a U g mk q => ⟨q.1, PT.calling q.2⟩, pg_recv hK hP hL_le hF_82 (q := (RX4, TX4, 6)) rfl, fun U hU hWm => ⟨rfl, PT.mk hU hWm hP hK hD hE hO⟩⟩ rfl rfl hl.1 rfl (lv_room (Nat.le_of_ble_eq_true rfl)) dX11_plainBody_29 ⟨by show _ + 0 ≤ 0; omega, by show _ + 0 ≤ 0; omega⟩) hS (fun q _ h => hFc q h) hFc (fun u t H1 locs ht hvm hw hB hz1 hk1 hS => ?_)
    obtain ⟨F_88, NN_89, hB1, hq_90, hq_91⟩ := hB
    obtain ⟨hP, hD, hO, hR⟩ := QT.back hB1 ht hFc hR (fun q h => by simp only [List.mem_cons, List.not_mem_nil, or_false] at h ⊢; omega)
    have hF_92 : F_88 h0 = .inr (11, [.ref ta, .ref ou, .ref di, .ref ck, .ref sl, .ref po, .ref hs, .ref le, .ref sp]) := (hB1.2.2.2 h0 (by rw [hT_h0]; simp)).trans hF_81
    have hF_93 : F_88 le = .inr (4, [.ref x, .ref y0, .ref y1, .ref y2, .int (nI nn), .int (nI bs)]) := (hB1.2.2.2 le (by rw [hT_le]; simp only [List.mem_cons, List.not_mem_nil, or_false]; omega)).trans hF_82
    have hF_94 : F_88 x = .inr (0, [.ref rx, .int (nI zm), .int oo]) := (hB1.2.2.2 x (by rw [hT_x]; simp only [List.mem_cons, List.not_mem_nil, or_false]; omega)).trans hF_83
    have hF_95 : F_88 rx = .inl (cs 16, 3000, .inl f) := (hB1.2.2.2 rx (by rw [ht_66]; simp only [List.mem_cons, List.not_mem_nil, or_false]; omega)).trans hF_84
    generalize H1 = H at hP hS ⊢
    refine lv_aload_n hx hb dX11_plainBody_32 rfl (lv_at hl 0 rfl) ?_
    refine pg_get (ci := 11) (v := .ref ou) (C := RX11) (T := TX11) (N := 9) hx hb hts it_11 hown hK hP hL_h0 hF_92 rfl 1 (by decide) (hts _ kt_526) (fun _ h9 => h9) rfl dX11_plainBody_33 ?_
    refine pg_getN (ci := 0) (v := .int (nI NN_89)) (C := RX0) (T := TX0) (N := 3) hx hb hts it_0 hown hK hP hL_ou hq_90 rfl 1 (by decide) (hE.nest kn_17) (fun _ h9 => h9) rfl dX11_plainBody_36 ?_
    refine W.widen (k := 0) (n := 0) (by omega) (by omega) ?_
    exact W.iret (v := (nI NN_89)) hx hb hr (fun t ht hWm => ⟨⟨(nI NN_89), (), rfl, (Or.inr ⟨hnn, hq_91⟩), ⟨F_88, QT.mk ht hP hD hO hR⟩⟩, hS.F ht⟩) hS.2.2 dX11_plainBody_39
  ·
    have hnn : nn = 0 := (nI_eq (b := 0) (by omega) (by omega)).mp c_71
    refine lv_bipush (v := (-2)) hx hb dX11_plainBody_10 (by decide) ?_
    refine W.widen (k := 0) (n := 0) (by omega) (by omega) ?_
    exact W.iret (v := (-2)) hx hb hr (fun t ht hWm => ⟨⟨(-2), (), rfl, (Or.inl ⟨hnn, rfl⟩), ⟨F, QT.mk ht hP hD hO hR⟩⟩, hS.F ht⟩) hS.2.2 dX11_plainBody_12
