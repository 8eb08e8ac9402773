def EOK (T : Nat → Nat) (z e : Nat) : Prop := (e < z ∧ T e = 0) ∨ (e = z ∧ ¬ T (z - 1) = 0)
theorem fdt_no (T : Nat → Nat) (t : Nat) : ∀ d i j : Nat, i ≤ j → j < fdt T t d i → ¬ T j = t := by
  intro d
  induction d with
  | zero =>
    intro i j h1 h2
    have h3 : j < i := h2
    omega
  | succ d ih =>
    intro i j h1 h2
    rw [fdt_s] at h2
    by_cases q : T i = t
    · rw [if_pos q] at h2
      omega
    · rw [if_neg q] at h2
      rcases Nat.lt_or_ge i j with c | c
      · exact ih (i + 1) j (by omega) h2
      · rw [show j = i by omega]
        exact q
theorem eok_of {T : Nat → Nat} {z a : Nat} (h : ¬ z ≤ a) (h0 : ¬ T a = 0) : EOK T z (fdt T 0 (z - a) a) ∧ a < fdt T 0 (z - a) a := by
  have h1 := fdt_le T 0 (z - a) a
  have h2 := fdt_ge T 0 (z - a) a
  have h3 := fdt_hit T 0 (z - a) a
  have h4 := fdt_no T 0 (z - a) a
  generalize fdt T 0 (z - a) a = e at h1 h2 h3 h4 ⊢
  have h5 : a < e := by
    rcases Nat.lt_or_ge a e with c | c
    · exact c
    · have e1 : e = a := by omega
      rw [e1] at h3
      exact absurd (h3 (by omega)) h0
  refine ⟨?_, h5⟩
  rcases Nat.lt_or_ge e z with c | c
  · exact Or.inl ⟨c, h3 (by omega)⟩
  · have e1 : e = z := by omega
    exact Or.inr ⟨e1, h4 (z - 1) (by omega) (by omega)⟩
def MRG (T : Nat → Nat) (z n : Nat) (g : Nat → Nat → Nat) : Prop := ∀ j, j < n → g 0 j < g 1 j ∧ g 1 j < g 2 j ∧ EOK T z (g 2 j)
theorem fin_inv {n n2 b b2 : Nat} {g g2 : Nat → Nat → Nat} (h : finm n g b = some (n2, g2, b2)) : n = n2 ∧ g = g2 := by
  by_cases c : n = 0
  · rw [finm_0 c] at h
    cases h
  · rw [finm_p c] at h
    have e := Option.some.inj h
    exact ⟨congrArg Prod.fst e, congrArg (fun q => q.2.1) e⟩
theorem mri (T : Nat → Nat) (z : Nat) : ∀ (k n : Nat) (g : Nat → Nat → Nat) (a n2 : Nat) (g2 : Nat → Nat → Nat) (b : Nat), MRG T z n g → (n = 0 ∨ g 2 (n - 1) < a) → mrw T z k n g a = some (some (n2, g2, b)) → MRG T z n2 g2 := by
  intro k
  induction k with
  | zero =>
    intro n g a n2 g2 b _ _ h
    have h9 : (none : Option MRA) = some (some (n2, g2, b)) := h
    cases h9
  | succ k ih =>
    intro n g a n2 g2 b hI hA h
    rw [mrw_s] at h
    by_cases c1 : z ≤ a
    · rw [if_pos c1] at h
      obtain ⟨e1, e2⟩ := fin_inv (Option.some.inj h)
      rw [← e1, ← e2]
      exact hI
    rw [if_neg c1] at h
    by_cases c2 : T a = 0
    · rw [if_pos c2] at h
      obtain ⟨e1, e2⟩ := fin_inv (Option.some.inj h)
      rw [← e1, ← e2]
      exact hI
    rw [if_neg c2] at h
    obtain ⟨hE, hL⟩ := eok_of c1 c2
    by_cases c3 : T a = 1
    · rw [if_pos c3] at h
      by_cases c4 : n = 0
      · rw [if_pos c4] at h
        cases h
      · rw [if_neg c4] at h
        have hA2 := hA.resolve_left c4
        refine ih _ _ _ _ _ _ ?_ (Or.inr (by rw [gpt_2]; omega)) h
        intro j hj
        have w := hI j hj
        by_cases q : j = n - 1
        · rw [q] at w ⊢
          rw [gpt_0, gpt_1, gpt_2]
          exact ⟨w.1, by omega, hE⟩
        · rw [gpt_ne q, gpt_ne q, gpt_ne q]
          exact w
    rw [if_neg c3] at h
    by_cases c5 : n < 20 ∧ FLN T a (fdt T 0 (z - a) a) = true
    · rw [if_pos c5] at h
      have hF := c5.2
      unfold FLN at hF
      rw [Bool.and_eq_true] at hF
      obtain ⟨f1, f2, f3⟩ := of_decide_eq_true hF.1
      refine ih _ _ _ _ _ _ ?_ (Or.inr (by rw [Nat.add_sub_cancel, gpt_2]; omega)) h
      intro j hj
      by_cases q : j = n
      · rw [q, gpt_0, gpt_1, gpt_2]
        exact ⟨by omega, f3, hE⟩
      · rw [gpt_ne q, gpt_ne q, gpt_ne q]
        exact hI j (by omega)
    · rw [if_neg c5] at h
      cases h
theorem MR.mrg {T : Nat → Nat} {z n b : Nat} {g : Nat → Nat → Nat} (h : MR T z 0 gz 0 (some (n, g, b))) : MRG T z n g := by
  obtain ⟨k, hk⟩ := h
  exact mri T z k 0 gz 0 n g b (fun _ q => absurd q (Nat.not_lt_zero _)) (Or.inl rfl) hk
theorem rvl_cg {T U : Nat → Nat} {z : Nat} (h : ∀ j, j < z → T j = U j) : ∀ (k i : Nat) (x w : Int32), i + k ≤ z → rvl T k i x w = rvl U k i x w := by
  intro k
  induction k with
  | zero => intro i x w _; rfl
  | succ k ih =>
    intro i x w hi
    rw [rvl_s, rvl_s, h i (by omega), ih (i + 1) x w (by omega), ih (i + 1) x x (by omega), ih (i + 1) 1 0 (by omega)]
theorem FPL_cg {T U : Nat → Nat} {z b c d : Nat} {x : Int32} (h : ∀ j, j < z → T j = U j) (hd : d ≤ z) (hc : c < d) : FPL T x b c d = FPL U x b c d := by
  unfold FPL
  rw [rvl_cg h _ _ _ _ (by omega)]
theorem PFR.same {T U : Nat → Nat} {n z : Nat} {gb gc gd : Nat → Nat} {x1 x2 r q : Int32} (hn : n ≤ 20) (hT : ∀ j, j < z → T j = U j) (hg : ∀ j, j < n → gc j < gd j ∧ gd j ≤ z) (h1 : PFR T n gb gc gd x1 x2 r) (h2 : PFR U n gb gc gd x1 x2 q) : r = q := by
  rcases h1 with ⟨a1, a2⟩ | ⟨j, a1, a2, a3⟩ <;> rcases h2 with ⟨b1, b2⟩ | ⟨i, b1, b2, b3⟩
  · rw [a2, b2]
  · exact absurd ⟨by rw [b2]; exact nI_pos (by omega), by rw [b2]; exact (nI_ltI (by omega) (by omega)).mpr b1⟩ a1
  · exact absurd ⟨by rw [a2]; exact nI_pos (by omega), by rw [a2]; exact (nI_ltI (by omega) (by omega)).mpr a1⟩ b1
  · have e : j = i := (nI_eq (by omega) (by omega)).mp (a2.symm.trans b2)
    rw [a3, b3, ← e, FPL_cg hT (hg j a1).2 (hg j a1).1]
def LTC (cs : Nat → ClassId) (ty : TyM) (L : List Nat) (F : Nat → va_E) (xq ρ ta ou di ck sl po hs : Nat) (n : Nat) (bb : Int32) (zm : Nat) (fL sA sB sC : Nat → Int32) : Prop := ∃ (le sp μ ν x y0 y1 y2 rx x9 w0 w1 w2 rx9 : Nat) (o : Int32), ((μ = ρ + 20 ∧ ν = ρ + 30) ∨ (μ = ρ + 30 ∧ ν = ρ + 20)) ∧ F xq = .inr (11, [.ref ta, .ref ou, .ref di, .ref ck, .ref sl, .ref po, .ref hs, .ref le, .ref sp]) ∧ le ∈ L ∧ ty le = (4, μ, [x, y0, y1, y2]) ∧ sp ∈ L ∧ ty sp = (4, ν, [x9, w0, w1, w2]) ∧ ty x = (0, μ + 1, [rx, 3000]) ∧ ty x9 = (0, ν + 1, [rx9, 3000]) ∧ n ≤ 20 ∧ F le = .inr (4, [.ref x, .ref y0, .ref y1, .ref y2, .int (nI n), .int bb]) ∧ F x = .inr (0, [.ref rx, .int (nI zm), .int o]) ∧ F rx = .inl (cs 16, 3000, .inl fL) ∧ F y0 = .inl (cs 16, 20, .inl sA) ∧ F y1 = .inl (cs 16, 20, .inl sB) ∧ F y2 = .inl (cs 16, 20, .inl sC) ∧ zm ≤ 3000 ∧ (n = 0 ∨ o = 0)
theorem fr_k {ty : TyM} {S : List Nat} {F G : Nat → va_E} {a k q : Nat} {im : List Nat} (hR : FR ty S F G) (e : ty a = (k, q, im)) (h : q ∉ S) : G a = F a := hR a (by rw [e]; exact h)
theorem LTC.fr {cs : Nat → ClassId} {ty : TyM} {L S im : List Nat} {F G : Nat → va_E} {xq ρ ta ou di ck sl po hs : Nat} {n : Nat} {bb : Int32} {zm : Nat} {fL sA sB sC : Nat → Int32} (h : LTC cs ty L F xq ρ ta ou di ck sl po hs n bb zm fL sA sB sC) (hW : WT ty L) (hT : ty xq = (11, ρ, im)) (hR : FR ty S F G) (hS : ∀ q ∈ S, ρ < q ∧ (q < ρ + 20 ∨ (ρ + 24 ≤ q ∧ q < ρ + 30) ∨ ρ + 34 ≤ q)) : LTC cs ty L G xq ρ ta ou di ck sl po hs n bb zm fL sA sB sC := by
  obtain ⟨le, sp, μ, ν, x, y0, y1, y2, rx, x9, w0, w1, w2, rx9, o, hm, l1, l2, l3, l4, l5, l6, l7, l8, l9, l10, l11, l12, l13, l14, l15, l16⟩ := h
  obtain ⟨m1, m2, m3, m4, -, t1, t2, t3⟩ := hW.msg l2 l3
  obtain ⟨m5, t4, -⟩ := hW.bytes m1 l6
  have k0 : ρ ∉ S := fun w => by
    have h9 := hS _ w
    omega
  have k1 : ∀ q : Nat, ρ + 20 ≤ q ∧ q < ρ + 24 ∨ ρ + 30 ≤ q ∧ q < ρ + 34 → q ∉ S := fun q hq w => by
    have h9 := hS _ w
    omega
  exact ⟨le, sp, μ, ν, x, y0, y1, y2, rx, x9, w0, w1, w2, rx9, o, hm, (fr_k hR hT k0).trans l1, l2, l3, l4, l5, l6, l7, l8, (fr_k hR l3 (k1 _ (by omega))).trans l9, (fr_k hR l6 (k1 _ (by omega))).trans l10, (fr_k hR t4 (k1 _ (by omega))).trans l11, (fr_k hR t1 (k1 _ (by omega))).trans l12, (fr_k hR t2 (k1 _ (by omega))).trans l13, (fr_k hR t3 (k1 _ (by omega))).trans l14, l15, l16⟩
def MLC (f : Nat → Int32) (zt : Nat) (gh : MRA) (n : Nat) (bb : Int32) (zm : Nat) (fL sA sB sC : Nat → Int32) (n2 : Nat) (bb2 : Int32) (zm2 : Nat) (fL2 p0 p1 p2 : Nat → Int32) : Prop := (gh = none ∧ n2 = n ∧ bb2 = bb ∧ zm2 = zm ∧ fL2 = fL ∧ p0 = sA ∧ p1 = sB ∧ p2 = sC) ∨ ∃ q : Nat × (Nat → Nat → Nat) × Nat, gh = some q ∧ n2 = q.1 ∧ bb2 = nI q.2.2 ∧ zm2 = zt ∧ (∀ j, j < zt → fL2 j = f j) ∧ HLD p0 p1 p2 q.1 q.2.1
theorem LTC.msg {cs : Nat → ClassId} {ty : TyM} {L im : List Nat} {F F2 : Nat → va_E} {xq ρ ta ou di ck sl po hs zt : Nat} {f : Nat → Int32} {gh : MRA} {r : Int32} {n : Nat} {bb : Int32} {zm : Nat} {fL sA sB sC : Nat → Int32} {le sp μ ν x y0 y1 y2 rx x9 w0 w1 w2 rx9 : Nat} {o : Int32} (hX : MSX (clf f) zt r gh) (hW : WT ty L) (hT : ty xq = (11, ρ, im)) (hm : (μ = ρ + 20 ∧ ν = ρ + 30) ∨ (μ = ρ + 30 ∧ ν = ρ + 20)) (l2 : le ∈ L) (l3 : ty le = (4, μ, [x, y0, y1, y2])) (l4 : sp ∈ L) (l5 : ty sp = (4, ν, [x9, w0, w1, w2])) (l6 : ty x = (0, μ + 1, [rx, 3000])) (l7 : ty x9 = (0, ν + 1, [rx9, 3000])) (l8 : n ≤ 20) (l9 : F le = .inr (4, [.ref x, .ref y0, .ref y1, .ref y2, .int (nI n), .int bb])) (l10 : F x = .inr (0, [.ref rx, .int (nI zm), .int o])) (l11 : F rx = .inl (cs 16, 3000, .inl fL)) (l12 : F y0 = .inl (cs 16, 20, .inl sA)) (l13 : F y1 = .inl (cs 16, 20, .inl sB)) (l14 : F y2 = .inl (cs 16, 20, .inl sC)) (l15 : zm ≤ 3000) (l16 : n = 0 ∨ o = 0) (hzt : zt ≤ 3000) (hR : FR ty [ρ, ρ + 1, ν, ν + 1, ν + 2, ν + 3] F F2) (hO : ((gh = none ∧ F2 xq = .inr (11, [.ref ta, .ref ou, .ref di, .ref ck, .ref sl, .ref po, .ref hs, .ref le, .ref sp])) ∨ ∃ (q : Nat × (Nat → Nat → Nat) × Nat) (p0 p1 p2 fc : Nat → Int32), gh = some q ∧ F2 xq = .inr (11, [.ref ta, .ref ou, .ref di, .ref ck, .ref sl, .ref po, .ref hs, .ref sp, .ref le]) ∧ F2 sp = .inr (4, [.ref x9, .ref w0, .ref w1, .ref w2, .int (nI q.1), .int (nI q.2.2)]) ∧ F2 x9 = .inr (0, [.ref rx9, .int (nI zt), .int 0]) ∧ F2 rx9 = .inl (cs 16, 3000, .inl fc) ∧ F2 w0 = .inl (cs 16, 20, .inl p0) ∧ F2 w1 = .inl (cs 16, 20, .inl p1) ∧ F2 w2 = .inl (cs 16, 20, .inl p2) ∧ (∀ j, j < zt → fc j = f j) ∧ HLD p0 p1 p2 q.1 q.2.1)) : ∃ (n2 : Nat) (bb2 : Int32) (zm2 : Nat) (fL2 p0 p1 p2 : Nat → Int32), LTC cs ty L F2 xq ρ ta ou di ck sl po hs n2 bb2 zm2 fL2 p0 p1 p2 ∧ MLC f zt gh n bb zm fL sA sB sC n2 bb2 zm2 fL2 p0 p1 p2 := by
  rcases hO with ⟨hg, h1⟩ | ⟨q, p0, p1, p2, fc, hg, h1, h2, h3, h4, h5, h6, h7, h8, h9⟩
  · obtain ⟨m1, m2, m3, m4, -, t1, t2, t3⟩ := hW.msg l2 l3
    obtain ⟨m5, t4, -⟩ := hW.bytes m1 l6
    have k1 : ∀ q : Nat, μ ≤ q → q < μ + 10 → q ∉ [ρ, ρ + 1, ν, ν + 1, ν + 2, ν + 3] := fun q q1 q2 w => by
      simp only [List.mem_cons, List.not_mem_nil, or_false] at w
      omega
    exact ⟨n, bb, zm, fL, sA, sB, sC, ⟨le, sp, μ, ν, x, y0, y1, y2, rx, x9, w0, w1, w2, rx9, o, hm, h1, l2, l3, l4, l5, l6, l7, l8, (fr_k hR l3 (k1 _ (by omega) (by omega))).trans l9, (fr_k hR l6 (k1 _ (by omega) (by omega))).trans l10, (fr_k hR t4 (k1 _ (by omega) (by omega))).trans l11, (fr_k hR t1 (k1 _ (by omega) (by omega))).trans l12, (fr_k hR t2 (k1 _ (by omega) (by omega))).trans l13, (fr_k hR t3 (k1 _ (by omega) (by omega))).trans l14, l15, l16⟩, Or.inl ⟨hg, rfl, rfl, rfl, rfl, rfl, rfl, rfl⟩⟩
  · have hn : q.1 ≤ 20 := by
      rcases hX.2 with ⟨e1, -⟩ | ⟨q9, e1, -, -, e2⟩
      · rw [hg] at e1
        cases e1
      · rw [hg] at e1
        have e3 := Option.some.inj e1
        rw [e3]
        exact e2
    exact ⟨q.1, nI q.2.2, zt, fc, p0, p1, p2, ⟨sp, le, ν, μ, x9, w0, w1, w2, rx9, x, y0, y1, y2, rx, 0, (by omega), h1, l4, l5, l2, l3, l7, l6, hn, h2, h3, h4, h5, h6, h7, hzt, Or.inr rfl⟩, Or.inr ⟨q, hg, rfl, rfl, rfl, h8, h9⟩⟩
def LRL (n : Nat) (bb : Int32) (zm : Nat) (fL sA sB sC : Nat → Int32) (nf bd mm : Nat) (gm : Nat → Nat → Nat) (gl : Nat → Int32) : Prop := n = nf ∧ (n = 0 ∨ (zm = mm ∧ mm ≤ 1280 ∧ REL fL gl mm ∧ bb = nI bd ∧ bd ≤ mm ∧ ∀ j, j < n → sA j = nI (gm 0 j) ∧ sB j = nI (gm 1 j) ∧ gm 0 j < gm 1 j ∧ gm 1 j < gm 2 j ∧ gm 2 j ≤ mm ∧ ∃ e, sC j = nI e ∧ gm 2 j = min mm (e + 1) ∧ gm 1 j < e ∧ e ≤ mm ∧ EOK (clr gl) mm e ∧ (j + 1 < n → gm 2 j ≤ gm 0 (j + 1))))
theorem eok_cg {T U : Nat → Nat} {z e : Nat} (hz : 0 < z) (h : ∀ j, j < z → T j = U j) (q : EOK T z e) : EOK U z e := by
  rcases q with ⟨a1, a2⟩ | ⟨a1, a2⟩
  · exact Or.inl ⟨a1, by rw [← h e a1]; exact a2⟩
  · exact Or.inr ⟨a1, by rw [← h (z - 1) (by omega)]; exact a2⟩
def cln (q : Nat → Int32) (j : Nat) : Nat := (q j).toNatClampNeg
theorem LRL.start {bb : Int32} {zm bd mm : Nat} {fL sA sB sC gl : Nat → Int32} {gm : Nat → Nat → Nat} : LRL 0 bb zm fL sA sB sC 0 bd mm gm gl := ⟨rfl, Or.inl rfl⟩
theorem LRL.msg {n : Nat} {bb : Int32} {zm : Nat} {fL sA sB sC : Nat → Int32} {nf bd mm : Nat} {gm : Nat → Nat → Nat} {gl : Nat → Int32} {f gt : Nat → Int32} {zt n2 zm2 nf2 bd2 mm2 : Nat} {bb2 : Int32} {fL2 p0 p1 p2 : Nat → Int32} {gm2 : Nat → Nat → Nat} {gh : MRA} {gl2 : Nat → Int32} {r9 : Int32} (hX : MSX (clf f) zt r9 gh) (h : LRL n bb zm fL sA sB sC nf bd mm gm gl) (hrel : REL f gt zt) (hC : MLC f zt gh n bb zm fL sA sB sC n2 bb2 zm2 fL2 p0 p1 p2) (hM : (gh = none ∧ gm2 = gm ∧ nf2 = nf ∧ bd2 = bd ∧ mm2 = mm ∧ gl2 = gl) ∨ ∃ q : Nat × (Nat → Nat → Nat) × Nat, gh = some q ∧ nf2 = q.1 ∧ bd2 = q.2.2 ∧ mm2 = zt ∧ (∀ j, j < zt → gl2 j = gt j) ∧ ∀ j, j < q.1 → gm2 0 j = q.2.1 0 j ∧ gm2 1 j = q.2.1 1 j ∧ gm2 2 j = min zt (q.2.1 2 j + 1)) (h80 : mm2 ≤ 1280) (hbm : bd2 ≤ mm2) (hO : ∀ j, j < nf2 → gm2 0 j < gm2 1 j ∧ gm2 1 j < gm2 2 j ∧ gm2 2 j ≤ mm2) (hO2 : ∀ j, j + 1 < nf2 → gm2 2 j ≤ gm2 0 (j + 1)) : LRL n2 bb2 zm2 fL2 p0 p1 p2 nf2 bd2 mm2 gm2 gl2 := by
  rcases hC with ⟨c0, c1, c2, c3, c4, c5, c6, c7⟩ | ⟨q, c0, c1, c2, c3, c4, c5⟩ <;> rcases hM with ⟨d0, d1, d2, d3, d4, d5⟩ | ⟨q9, d0, d1, d2, d3, d4, d5⟩
  · rw [c1, c2, c3, c4, c5, c6, c7, d1, d2, d3, d4, d5]
    exact h
  · rw [c0] at d0
    cases d0
  · rw [c0] at d0
    cases d0
  · rw [c0] at d0
    have e := Option.some.inj d0
    rw [← e] at d1 d2 d5
    refine ⟨c1.trans d1.symm, Or.inr ⟨c3.trans d3.symm, h80, fun j hj => ?_, by rw [c2, d2], hbm, fun j hj => ?_⟩⟩
    · rw [d3] at hj
      obtain ⟨k, k1, k2, k3⟩ := hrel j hj
      exact ⟨k, k1, (c4 j hj).trans k2, (d4 j hj).trans k3⟩
    · rw [c1] at hj
      obtain ⟨a1, a2, a3⟩ := c5 j hj
      obtain ⟨b1, b2, b3⟩ := d5 j hj
      obtain ⟨o1, o2, o3⟩ := hO j (by rw [d1]; exact hj)
      have hG : MRG (clf f) zt q.1 q.2.1 := MR.mrg (n := q.1) (g := q.2.1) (b := q.2.2) (show MR (clf f) zt 0 gz 0 (some q) from by rw [← c0]; exact hX.1)
      obtain ⟨u1, u2, u3⟩ := hG j hj
      have u4 : q.2.1 2 j ≤ zt := by
        rcases u3 with ⟨w, -⟩ | ⟨w, -⟩ <;> omega
      exact ⟨by rw [a1, b1], by rw [a2, b2], o1, o2, o3, q.2.1 2 j, a3, by rw [b3, d3], by rw [b2]; exact u2, by rw [d3]; exact u4, by rw [d3]; exact eok_cg (by omega) (fun i hi => (REL.cl hrel i hi).trans (congrArg (clg FSR) (d4 i hi).symm)) u3, fun hj2 => hO2 j (by omega)⟩
theorem sm_all : ∀ k, k < 256 → (vp_nar .byte (nI k) = nI k) ∨ (¬ smv (nI k) < 128 ∧ smv (vp_nar .byte (nI k)) < 0) := by decide +kernel
theorem sm_iff {fL gl : Nat → Int32} {z j : Nat} {c : Int32} (h : REL fL gl z) (hj : j < z) (h0 : ¬ c < 0) (h1 : c < 128) : smv (fL j) = c ↔ smv (gl j) = c := by
  obtain ⟨k, k1, k2, k3⟩ := h j hj
  rw [k2, k3]
  rcases sm_all k k1 with e | ⟨e1, e2⟩
  · rw [e]
  · constructor
    · intro w
      rw [w] at e1
      exact absurd h1 e1
    · intro w
      rw [w] at e2
      exact absurd e2 h0
theorem nmd_al {F : Nat → va_E} {x y0 y1 rx zm a b i k : Nat} {o : Int32} {c0 c1 c2 : ClassId} {m0 m1 m2 : Nat} {fL sA sB gl C : Nat → Int32} (hx : F x = .inr (0, [.ref rx, .int (nI zm), .int o])) (hr : F rx = .inl (c0, m0, .inl fL)) (h0 : F y0 = .inl (c1, m1, .inl sA)) (h1 : F y1 = .inl (c2, m2, .inl sB)) (e0 : sA i = nI a) (e1 : sB i = nI b) (hab : a < b) (hbz : b ≤ zm) (hz : zm ≤ 3000) (hR : REL fL gl zm) (hk : k ≤ 100) (hC : ∀ j, j < k → ¬ chv (C j) < 0 ∧ chv (C j) < 128) : nmd F x y0 y1 C k i ↔ alP gl a b C k := by
  have g1 : gA (F y1) i = nI b := by
    rw [h1]
    exact e1
  have g0 : gA (F y0) i = nI a := by
    rw [h0]
    exact e0
  have hat : ∀ j, a + j < b → atv F x (nI a + nI j) = fL (a + j) := fun j hj => by
    rw [nI_add, at_in (x := nI (a + j)) hx hr (nI_pos (by omega)) ((nI_ltI (by omega) (by omega)).mpr (by omega)), nI_clamp (by omega)]
  unfold nmd alP
  rw [g1, g0, pk_sub (by omega)]
  constructor
  · rintro ⟨q1, q2⟩
    have q3 : b - a = k := (nI_eq (by omega) (by omega)).mp q1
    refine ⟨by omega, fun j hj => ?_⟩
    have q4 := q2 j hj
    rw [hat j (by omega)] at q4
    exact (sm_iff hR (by omega) (hC j hj).1 (hC j hj).2).mp q4
  · rintro ⟨q1, q2⟩
    refine ⟨by rw [show b - a = k by omega], fun j hj => ?_⟩
    rw [hat j (by omega)]
    exact (sm_iff hR (by omega) (hC j hj).1 (hC j hj).2).mpr (q2 j hj)
theorem dk_c : ∀ j, j < 14 → ¬ chv ((cct [100, 107, 105, 109, 45, 115, 105, 103, 110, 97, 116, 117, 114, 101]) j) < 0 ∧ chv ((cct [100, 107, 105, 109, 45, 115, 105, 103, 110, 97, 116, 117, 114, 101]) j) < 128 := by decide +kernel
theorem sl_iff {F : Nat → va_E} {cs : Nat → ClassId} {x y0 y1 rx : Nat} {o : Int32} {n : Nat} {bb : Int32} {zm : Nat} {fL sA sB sC : Nat → Int32} {nf bd mm : Nat} {gm : Nat → Nat → Nat} {gl : Nat → Int32} (h : LRL n bb zm fL sA sB sC nf bd mm gm gl) (hx : F x = .inr (0, [.ref rx, .int (nI zm), .int o])) (hr : F rx = .inl (cs 16, 3000, .inl fL)) (h0 : F y0 = .inl (cs 16, 20, .inl sA)) (h1 : F y1 = .inl (cs 16, 20, .inl sB)) : ∀ j, j < n → (nmd F x y0 y1 (cct [100, 107, 105, 109, 45, 115, 105, 103, 110, 97, 116, 117, 114, 101]) 14 j ↔ alP gl (gm 0 j) (gm 1 j) (cct [100, 107, 105, 109, 45, 115, 105, 103, 110, 97, 116, 117, 114, 101]) 14) := by
  intro j hj
  rcases h.2 with q | ⟨q1, q2, q3, -, -, q4⟩
  · omega
  · obtain ⟨a1, a2, a3, a4, a5, -⟩ := q4 j hj
    exact nmd_al hx hr h0 h1 a1 a2 a3 (by omega) (by omega) (by rw [q1]; exact q3) (by decide) dk_c
theorem seal_same {n nf : Nat} {P Q : Nat → Prop} {r q : Int32} (hn : n = nf) (hi : ∀ j, j < n → (P j ↔ Q j)) (h1 : ∃ w : Nat, r = nI w ∧ CNT P n w) (h2 : ∃ w : Nat, q = nI w ∧ CNT Q nf w) : r = q := by
  obtain ⟨w1, e1, c1⟩ := h1
  obtain ⟨w2, e2, c2⟩ := h2
  subst hn
  rw [e1, e2, CNT.uniq n w1 w2 hi c1 c2]
theorem LRL.pos {n : Nat} {bb : Int32} {zm : Nat} {fL sA sB sC : Nat → Int32} {nf bd mm : Nat} {gm : Nat → Nat → Nat} {gl : Nat → Int32} (h : LRL n bb zm fL sA sB sC nf bd mm gm gl) : (∀ j, j < n → sA j = nI (gm 0 j) ∧ sB j = nI (gm 1 j) ∧ sC j = nI (cln sC j) ∧ gm 0 j < gm 1 j ∧ gm 1 j < cln sC j ∧ cln sC j ≤ zm) ∧ (∀ j, j < nf → gm 2 j = min mm (cln sC j + 1) ∧ gm 1 j < cln sC j ∧ cln sC j ≤ mm ∧ EOK (clr gl) mm (cln sC j)) := by
  have hn := h.1
  rcases h.2 with q | ⟨q1, q2, q3, -, -, q4⟩
  · exact ⟨fun j hj => by omega, fun j hj => by omega⟩
  · have hc : ∀ j, j < n → ∃ e, cln sC j = e ∧ sC j = nI e ∧ gm 2 j = min mm (e + 1) ∧ gm 1 j < e ∧ e ≤ mm ∧ EOK (clr gl) mm e := fun j hj => by
      obtain ⟨-, -, -, -, -, e, e1, e2, e3, e4, e5, -⟩ := q4 j hj
      refine ⟨e, ?_, e1, e2, e3, e4, e5⟩
      unfold cln
      rw [e1, nI_clamp (by omega)]
    refine ⟨fun j hj => ?_, fun j hj => ?_⟩
    · obtain ⟨a1, a2, a3, -⟩ := q4 j hj
      obtain ⟨e, e0, e1, e2, e3, e4, e5⟩ := hc j hj
      rw [e0]
      exact ⟨a1, a2, e1, a3, e3, by omega⟩
    · obtain ⟨e, e0, e1, e2, e3, e4, e5⟩ := hc j (by omega)
      rw [e0]
      exact ⟨e2, e3, e4, e5⟩
theorem LRL.pf {n : Nat} {bb : Int32} {zm : Nat} {fL sA sB sC : Nat → Int32} {nf bd mm : Nat} {gm : Nat → Nat → Nat} {gl : Nat → Int32} {x1 x2 r q : Int32} (h : LRL n bb zm fL sA sB sC nf bd mm gm gl) (h1 : PFR (clf fL) n (gm 0) (gm 1) (cln sC) x1 x2 r) (h2 : PFR (clr gl) nf (gm 0) (gm 1) (cln sC) x1 x2 q) (hn : n ≤ 20) : r = q := by
  have hp := h.pos
  have e := h.1
  rw [← e] at h2
  rcases h.2 with c | ⟨q1, q2, q3, -, -, -⟩
  · exact PFR.same (z := 0) hn (fun j hj => absurd hj (Nat.not_lt_zero _)) (fun j hj => by omega) h1 h2
  · exact PFR.same (z := mm) hn q3.cl (fun j hj => ⟨(hp.1 j hj).2.2.2.2.1, (hp.2 j (by omega)).2.2.1⟩) h1 h2
theorem LRL.bs {n : Nat} {bb : Int32} {zm : Nat} {fL sA sB sC : Nat → Int32} {nf bd mm : Nat} {gm : Nat → Nat → Nat} {gl : Nat → Int32} (h : LRL n bb zm fL sA sB sC nf bd mm gm gl) : n = 0 ∨ (bb = nI bd ∧ bd ≤ zm ∧ zm ≤ 2000) := by
  rcases h.2 with c | ⟨q1, q2, -, q4, q5, -⟩
  · exact Or.inl c
  · exact Or.inr ⟨q4, by omega, by omega⟩
theorem LRL.pb {n : Nat} {bb : Int32} {zm : Nat} {fL sA sB sC : Nat → Int32} {nf bd mm : Nat} {gm : Nat → Nat → Nat} {gl : Nat → Int32} {x r q : Int32} (h : LRL n bb zm fL sA sB sC nf bd mm gm gl) (h1 : PBR (clf fL) n bd zm x r) (h2 : PBR (clr gl) nf bd mm x q) : r = q := by
  rw [← h.1] at h2
  rcases h.2 with c | ⟨q1, q2, q3, -, q5, -⟩
  · rcases h1 with ⟨a1, a2⟩ | ⟨a1, a2⟩ <;> rcases h2 with ⟨b1, b2⟩ | ⟨b1, b2⟩
    · rw [a2, b2]
    · exact absurd c b1
    · exact absurd c a1
    · exact absurd c a1
  · rw [q1] at h1
    exact PBR.same (Or.inr q5) (Or.inr q3.cl) h1 h2
theorem LRL.ord {n : Nat} {bb : Int32} {zm : Nat} {fL sA sB sC : Nat → Int32} {nf bd mm : Nat} {gm : Nat → Nat → Nat} {gl : Nat → Int32} (h : LRL n bb zm fL sA sB sC nf bd mm gm gl) : ∀ j, j + 1 < n → cln sC j ≤ gm 0 (j + 1) := by
  intro j hj
  rcases h.2 with q | ⟨q1, q2, q3, -, -, q4⟩
  · omega
  · obtain ⟨-, -, -, -, -, e, e1, e2, e3, e4, -, e6⟩ := q4 j (by omega)
    have e7 := e6 hj
    have e8 : cln sC j = e := by
      unfold cln
      rw [e1, nI_clamp (by omega)]
    omega
theorem fr_c : ∀ j, j < 4 → ¬ chv ((cct [102, 114, 111, 109]) j) < 0 ∧ chv ((cct [102, 114, 111, 109]) j) < 128 := by decide +kernel
theorem fr_iff {F : Nat → va_E} {cs : Nat → ClassId} {x y0 y1 rx : Nat} {o : Int32} {n : Nat} {bb : Int32} {zm : Nat} {fL sA sB sC : Nat → Int32} {nf bd mm : Nat} {gm : Nat → Nat → Nat} {gl : Nat → Int32} (h : LRL n bb zm fL sA sB sC nf bd mm gm gl) (hx : F x = .inr (0, [.ref rx, .int (nI zm), .int o])) (hr : F rx = .inl (cs 16, 3000, .inl fL)) (h0 : F y0 = .inl (cs 16, 20, .inl sA)) (h1 : F y1 = .inl (cs 16, 20, .inl sB)) : ∀ j, j < n → (nmd F x y0 y1 (cct [102, 114, 111, 109]) 4 j ↔ alP gl (gm 0 j) (gm 1 j) (cct [102, 114, 111, 109]) 4) := by
  intro j hj
  rcases h.2 with q | ⟨q1, q2, q3, -, -, q4⟩
  · omega
  · obtain ⟨a1, a2, a3, a4, a5, -⟩ := q4 j hj
    exact nmd_al hx hr h0 h1 a1 a2 a3 (by omega) (by omega) (by rw [q1]; exact q3) (by decide) fr_c
theorem mom_gl {F2 : Nat → va_E} {ml zt : Nat} {gm gm2 : Nat → Nat → Nat} {nf bd mm n2 b2 m2 : Nat} {gl gt : Nat → Int32} {cs : Nat → ClassId} {gh : MRA} (h : ((gh = none ∧ gm2 = gm ∧ n2 = nf ∧ b2 = bd ∧ m2 = mm ∧ F2 ml = .inl (cs 17, 3000, .inl gl)) ∨ ∃ (q : Nat × (Nat → Nat → Nat) × Nat) (gl2 : Nat → Int32), gh = some q ∧ n2 = q.1 ∧ b2 = q.2.2 ∧ m2 = zt ∧ F2 ml = .inl (cs 17, 3000, .inl gl2) ∧ (∀ j, j < zt → gl2 j = gt j) ∧ ∀ j, j < q.1 → gm2 0 j = q.2.1 0 j ∧ gm2 1 j = q.2.1 1 j ∧ gm2 2 j = min zt (q.2.1 2 j + 1))) : ∃ gl2 : Nat → Int32, F2 ml = .inl (cs 17, 3000, .inl gl2) ∧ ((gh = none ∧ gm2 = gm ∧ n2 = nf ∧ b2 = bd ∧ m2 = mm ∧ gl2 = gl) ∨ ∃ q : Nat × (Nat → Nat → Nat) × Nat, gh = some q ∧ n2 = q.1 ∧ b2 = q.2.2 ∧ m2 = zt ∧ (∀ j, j < zt → gl2 j = gt j) ∧ ∀ j, j < q.1 → gm2 0 j = q.2.1 0 j ∧ gm2 1 j = q.2.1 1 j ∧ gm2 2 j = min zt (q.2.1 2 j + 1)) := by
  rcases h with ⟨a0, a1, a2, a3, a4, a5⟩ | ⟨q, g9, a0, a1, a2, a3, a4, a5, a6⟩
  · exact ⟨gl, a5, Or.inl ⟨a0, a1, a2, a3, a4, rfl⟩⟩
  · exact ⟨g9, a4, Or.inr ⟨q, a0, a1, a2, a3, a5, a6⟩⟩
theorem msx_same {T U : Nat → Nat} {z y : Nat} {r q : Int32} {X : MRA} (h1 : MSX T z r X) (h2 : MSX U y q X) : r = q := by
  rcases h1.2 with ⟨a1, a2⟩ | ⟨p, a1, a2, -⟩ <;> rcases h2.2 with ⟨b1, b2⟩ | ⟨p9, b1, b2, -⟩
  · rw [a2, b2]
  · rw [a1] at b1
    cases b1
  · rw [a1] at b1
    cases b1
  · rw [a1] at b1
    rw [a2, b2, Option.some.inj b1]
set_option maxHeartbeats 4000000 in
set_option maxRecDepth 100000 in
theorem s_X11_plainField_x (l : Launch) (dC : Nat → ClassId) (dI : Nat → Nat → Nat) (cs : Nat → ClassId) (ty : TyM) (L : List Nat) (sz : Nat) (F : Nat → va_E) (h0 : Nat) (ρ : Nat) (ta : Nat) (ou : Nat) (di : Nat) (ea : Nat) (ck : Nat) (sl : Nat) (po : Nat) (hs : Nat) (le : Nat) (x : Nat) (y0 : Nat) (y1 : Nat) (y2 : Nat) (sp : Nat) (rx : Nat) (ro : Nat) (nn : Nat) (zm : Nat) (μ : Nat) (f : Nat → Int32) (e0 : Nat → Int32) (e1 : Nat → Int32) (e2 : Nat → Int32) (gb : Nat → Nat) (gc : Nat → Nat) (gd : Nat → Nat) (bb : Int32) (oo : Int32) (x1 : Int32) (x2 : Int32) (hW : WT ty L) (hL_h0 : h0 ∈ L) (hT_h0 : ty h0 = (11, ρ, [ta, ou, di, ea, ck, sl, po, hs])) (hL_ou : ou ∈ L) (hT_ou : ty ou = (0, ρ + 2, [ro, 3000])) (hL_le : le ∈ L) (hT_le : ty le = (4, μ, [x, y0, y1, y2])) (hL_x : x ∈ L) (hT_x : ty x = (0, μ + 1, [rx, 3000])) (hF0 : F h0 = .inr (11, [.ref ta, .ref ou, .ref di, .ref ck, .ref sl, .ref po, .ref hs, .ref le, .ref sp])) (hFe : F le = .inr (4, [.ref x, .ref y0, .ref y1, .ref y2, .int (nI nn), .int bb])) (hFx : F x = .inr (0, [.ref rx, .int (nI zm), .int oo])) (hFr : F rx = .inl (cs 16, 3000, .inl f)) (hFy0 : F y0 = .inl (cs 16, 20, .inl e0)) (hFy1 : F y1 = .inl (cs 16, 20, .inl e1)) (hFy2 : F y2 = .inl (cs 16, 20, .inl e2)) (hn20 : nn ≤ 20) (hz3 : zm ≤ 3000) (hmu : μ = ρ + 20 ∨ μ = ρ + 30) (hpos : ∀ j, j < nn → e0 j = nI (gb j) ∧ e1 j = nI (gc j) ∧ e2 j = nI (gd j) ∧ gb j < gc j ∧ gc j < gd j ∧ gd j ≤ zm) : Met l yX11_plainField (.code yX11_plainField cX11_plainField 3 (some .int) :: tb) ({ frames := 3, cells := 0, slots := 0, locals := 100 }) (va_Pc [.ref h0, .int x1, .int x2] (PT (dC, dI) cs ty L F sz)) (va_Qi (fun (r : Int32) (_ : Unit) => PFR (clf f) nn gb gc gd x1 x2 r) (fun _ T9 => ∃ F2 : Nat → va_E, QT (dC, dI) cs ty L [ρ + 2] F F2 (va_A (va_pl L F) sz) T9) (va_A (va_pl L F) sz)) 0 0 (va_A (va_pl L F) sz) := by
  refine Met.ofW (cc := cX11_plainField) (maxL := 3) (ret := (some .int)) (by decide) rfl ?_
  intro p e s m args below meth c s₁ B hml hv
  obtain ⟨rfl, hsz, hP, hK, hD0, hE, hO⟩ := hv
  have hx := B.exec
  have hb := B.bytes
  have hr := B.returns
  have hts : ∀ w ∈ tb, w.before _ s = true := fun w h => atoms_spec (ws := .code yX11_plainField cX11_plainField 3 (some .int) :: tb) B.pre w (List.mem_cons_of_mem _ h)
  have hown : s.vm.findClass RX11 = some m.cls := findClass_of_methodNamed B.named
  have hlocks := B.notSynchronized
  subst hsz
  have hD := hD0.self (sz := s.heap.size)
  generalize hAe : va_A (va_pl L F) s.heap.size = A at hD ⊢
  have hA : ∀ q : Nat, s.heap.size ≤ q → A q := fun q h => by rw [← hAe]; exact Or.inr h
  have hS : va_S A s.heap s.heap [] := va_S.rf
  have hR : FR ty [ρ + 2] F F := FR.refl
  have hl := lv_entry ([.ref h0, .int x1, .int x2]) (n := 3) (Nat.le_of_ble_eq_true rfl)
  rw [lg_entry_eq]
  generalize (lg_sl ([.ref h0, .int x1, .int x2]) ++ List.replicate (3 - (lg_sl ([.ref h0, .int x1, .int x2])).length) Slot.unset).toArray = ls at hl ⊢
  have hl : lv_has ls 3 [(0, .ref h0), (1, .int x1), (2, .int x2)] := hl
  obtain ⟨hi_1, ⟨r_2, ht_3⟩, _, _, hi_4, ht_5, hi_6, ⟨w0_7, w1_8, w2_9, w3_10, nm_11, te_12, ht_13⟩, hi_14, ⟨l1_15, lx_16, ly0_17, ly1_18, ly2_19, k1_20, kx_21, ky0_22, ky1_23, ky2_24, w0_25, w1_26, w2_27, w3_28, w4_29, w5_30, w6_31, w7_32, w8_33, tk_34, h1_35, hx_36, hy_37, hw_38, pw_39, px_40, py_41, pz_42, pu_43, ht_44⟩, hi_45, ⟨w0_46, w1_47, rc_48, rx_49, ry0_50, ry1_51, ry2_52, ht_53⟩, hi_54, ⟨hx_55, hy_56, hw_57, ht_58⟩⟩ := hW.gate hL_h0 hT_h0
  obtain ⟨_, hi_59, hi_60, hi_61, _, ht_62, ht_63, ht_64⟩ := hW.msg hL_le hT_le
  obtain ⟨hi_65, ht_66, hq_67⟩ := hW.bytes hL_x hT_x
  obtain ⟨hi_68, ht_69, hq_70⟩ := hW.bytes hL_ou hT_ou
  refine lv_iload_n hx hb dX11_plainField_0 rfl (lv_at hl 1 rfl) ?_
  refine lv_if_lt (tgt := 15) hx hb dX11_plainField_1 (by decide) (fun c_71 => ?_) (fun c_71 => ?_)
  ·
    refine lv_bipush (v := (-2)) hx hb dX11_plainField_15 (by decide) ?_
    refine W.widen (k := 0) (n := 0) (by omega) (by omega) ?_
    exact W.iret (v := (-2)) hx hb hr (fun t ht hWm => ⟨⟨(-2), (), rfl, (Or.inl ⟨fun q => q.1 c_71, rfl⟩), ⟨F, QT.mk ht hP hD hO hR⟩⟩, hS.F ht⟩) hS.2.2 dX11_plainField_17
  ·
    refine lv_iload_n hx hb dX11_plainField_4 rfl (lv_at hl 1 rfl) ?_
    refine lv_aload_n hx hb dX11_plainField_5 rfl (lv_at hl 0 rfl) ?_
    refine pg_get (ci := 11) (v := .ref le) (C := RX11) (T := TX11) (N := 9) hx hb hts it_11 hown hK hP hL_h0 hF0 rfl 7 (by decide) (hts _ kt_518) (fun _ h9 => h9) rfl dX11_plainField_6 ?_
    refine pg_getN (ci := 4) (v := .int (nI nn)) (C := RX4) (T := TX4) (N := 6) hx hb hts it_4 hown hK hP hL_le hFe rfl 4 (by decide) (hE.nest kn_20) (fun _ h9 => h9) rfl dX11_plainField_9 ?_
    refine lv_icmp_lt (tgt := 18) hx hb dX11_plainField_12 (by decide) (fun c_72 => ?_) (fun c_72 => ?_)
    ·
      obtain ⟨jk, hjk0, rfl⟩ := nI_of c_71
      have hjk : jk < nn := (nI_ltI hjk0 (by omega)).mp c_72
      obtain ⟨q1, q2, q3, q4, q5, q6⟩ := hpos jk hjk
      refine lv_aload_n hx hb dX11_plainField_18 rfl (lv_at hl 0 rfl) ?_
      refine pg_get (ci := 11) (v := .ref ou) (C := RX11) (T := TX11) (N := 9) hx hb hts it_11 hown hK hP hL_h0 hF0 rfl 1 (by decide) (hts _ kt_526) (fun _ h9 => h9) rfl dX11_plainField_19 ?_
      have hFc := pg_free hD hS hA
      obtain ⟨z_73, o_74, hF_75, hq_76, hq_77⟩ := hO.bytes hL_ou hT_ou
      refine va_callv (va_runV (As := []) (rest := []) ⟨hx, hb, hml, hown, hts⟩ (s_X0_clear l dC dI cs ty L s.heap.size F ou (ρ + 2) ro 3000 hW hL_ou hT_ou) ⟨callB_of 0 hts (gi kt_32) rfl rfl rfl (hts _ kt_1) (hts _ kt_527) (by decide +kernel) ⟨Nat.le_of_ble_eq_true rfl, Nat.le_of_ble_eq_true rfl⟩, (hts _ kt_34), (hts _ kt_35)⟩ ⟨fun a U g mk q => ⟨q.1, PT.calling q.2⟩, pg_recv hK hP hL_ou hF_75 (q := (RX0, TX0, 3)) rfl, fun U hU hWm => ⟨rfl, PT.mk hU hWm hP hK hD hE hO⟩⟩ rfl rfl hl.1 rfl (lv_room (Nat.le_of_ble_eq_true rfl)) dX11_plainField_22 ⟨by show _ + 0 ≤ 0; omega, by show _ + 0 ≤ 0; omega⟩) hS (fun q _ h => hFc q h) hFc (fun u t H1 locs ht hvm hw hB hz1 hk1 hS => ?_)
      obtain ⟨F_79, hB1, hq_80⟩ := hB
      obtain ⟨hP, hD, hO, hR⟩ := QT.back hB1 ht hFc hR (fun q h => by simp only [List.mem_cons, List.not_mem_nil, or_false] at h ⊢; omega)
      have hF_81 : F_79 h0 = .inr (11, [.ref ta, .ref ou, .ref di, .ref ck, .ref sl, .ref po, .ref hs, .ref le, .ref sp]) := (hB1.2.2.2 h0 (by rw [hT_h0]; simp)).trans hF0
      have hF_82 : F_79 le = .inr (4, [.ref x, .ref y0, .ref y1, .ref y2, .int (nI nn), .int bb]) := (hB1.2.2.2 le (by rw [hT_le]; simp only [List.mem_cons, List.not_mem_nil, or_false]; omega)).trans hFe
      have hF_83 : F_79 x = .inr (0, [.ref rx, .int (nI zm), .int oo]) := (hB1.2.2.2 x (by rw [hT_x]; simp only [List.mem_cons, List.not_mem_nil, or_false]; omega)).trans hFx
      have hF_84 : F_79 rx = .inl (cs 16, 3000, .inl f) := (hB1.2.2.2 rx (by rw [ht_66]; simp only [List.mem_cons, List.not_mem_nil, or_false]; omega)).trans hFr
      have hF_85 : F_79 y0 = .inl (cs 16, 20, .inl e0) := (hB1.2.2.2 y0 (by rw [ht_62]; simp only [List.mem_cons, List.not_mem_nil, or_false]; omega)).trans hFy0
      have hF_86 : F_79 y1 = .inl (cs 16, 20, .inl e1) := (hB1.2.2.2 y1 (by rw [ht_63]; simp only [List.mem_cons, List.not_mem_nil, or_false]; omega)).trans hFy1
      have hF_87 : F_79 y2 = .inl (cs 16, 20, .inl e2) := (hB1.2.2.2 y2 (by rw [ht_64]; simp only [List.mem_cons, List.not_mem_nil, or_false]; omega)).trans hFy2
      generalize H1 = H at hP hS ⊢
      refine lv_aload_n hx hb dX11_plainField_25 rfl (lv_at hl 0 rfl) ?_
      refine pg_get (ci := 11) (v := .ref le) (C := RX11) (T := TX11) (N := 9) hx hb hts it_11 hown hK hP hL_h0 hF_81 rfl 7 (by decide) (hts _ kt_518) (fun _ h9 => h9) rfl dX11_plainField_26 ?_
      refine lv_aload_n hx hb dX11_plainField_29 rfl (lv_at hl 0 rfl) ?_
      refine pg_get (ci := 11) (v := .ref ou) (C := RX11) (T := TX11) (N := 9) hx hb hts it_11 hown hK hP hL_h0 hF_81 rfl 1 (by decide) (hts _ kt_526) (fun _ h9 => h9) rfl dX11_plainField_30 ?_
      refine lv_iload_n hx hb dX11_plainField_33 rfl (lv_at hl 1 rfl) ?_
      refine lv_iload_n hx hb dX11_plainField_34 rfl (lv_at hl 2 rfl) ?_
      refine lv_iconst (v := 0) hx hb dX11_plainField_35 (by decide) ?_
      refine lv_iconst (v := 0) hx hb dX11_plainField_36 (by decide) ?_
      obtain ⟨f_88, hF_89⟩ := hO.ints hi_68 ht_69
      have hFc := pg_free hD hS hA
      refine va_callv (va_runV (As := [.ref ou, .int (nI jk), .int x2, .int 0, .int 0]) (rest := []) ⟨hx, hb, hml, hown, hts⟩ (s_X4_addFieldWithout_e l dC dI cs ty L H.size F_79 le μ x y0 y1 y2 ou (ρ + 2) ro 3000 rx zm nn jk (gb jk) (gc jk) (gd jk) f e0 e1 e2 f_88 bb oo x2 hW hL_le hT_le hL_x hT_x hL_ou hT_ou hF_82 hF_83 hF_84 hF_86 hF_87 hF_85 hq_80 hF_89 (by omega) (by omega) (q4) (q5) (q6) (by omega) (by omega) (by omega) (by omega) (q1) (q2) (q3)) ⟨callB_of 5 hts (gi kt_417) rfl rfl rfl (hts _ kt_211) (hts _ kt_529) (by decide +kernel) ⟨Nat.le_of_ble_eq_true rfl, Nat.le_of_ble_eq_true rfl⟩, (hts _ kt_419), (hts _ kt_420)⟩ ⟨fun a U g mk q => ⟨q.1, PT.calling q.2⟩, pg_recv hK hP hL_le hF_82 (q := (RX4, TX4, 6)) rfl, fun U hU hWm => ⟨rfl, PT.mk hU hWm hP hK hD hE hO⟩⟩ rfl rfl hl.1 rfl (lv_room (Nat.le_of_ble_eq_true rfl)) dX11_plainField_37 ⟨by show _ + 0 ≤ 0; omega, by show _ + 0 ≤ 0; omega⟩) hS (fun q _ h => hFc q h) hFc (fun u t H1 locs ht hvm hw hB hz1 hk1 hS => ?_)
      obtain ⟨F_91, fo2_92, hB1, hq_93, hq_94, hq_95⟩ := hB
      obtain ⟨hP, hD, hO, hR⟩ := QT.back hB1 ht hFc hR (fun q h => by simp only [List.mem_cons, List.not_mem_nil, or_false] at h ⊢; omega)
      have hF_96 : F_91 h0 = .inr (11, [.ref ta, .ref ou, .ref di, .ref ck, .ref sl, .ref po, .ref hs, .ref le, .ref sp]) := (hB1.2.2.2 h0 (by rw [hT_h0]; simp)).trans hF_81
      have hF_97 : F_91 le = .inr (4, [.ref x, .ref y0, .ref y1, .ref y2, .int (nI nn), .int bb]) := (hB1.2.2.2 le (by rw [hT_le]; simp only [List.mem_cons, List.not_mem_nil, or_false]; omega)).trans hF_82
      have hF_98 : F_91 x = .inr (0, [.ref rx, .int (nI zm), .int oo]) := (hB1.2.2.2 x (by rw [hT_x]; simp only [List.mem_cons, List.not_mem_nil, or_false]; omega)).trans hF_83
      have hF_99 : F_91 rx = .inl (cs 16, 3000, .inl f) := (hB1.2.2.2 rx (by rw [ht_66]; simp only [List.mem_cons, List.not_mem_nil, or_false]; omega)).trans hF_84
      have hF_100 : F_91 y0 = .inl (cs 16, 20, .inl e0) := (hB1.2.2.2 y0 (by rw [ht_62]; simp only [List.mem_cons, List.not_mem_nil, or_false]; omega)).trans hF_85
      have hF_101 : F_91 y1 = .inl (cs 16, 20, .inl e1) := (hB1.2.2.2 y1 (by rw [ht_63]; simp only [List.mem_cons, List.not_mem_nil, or_false]; omega)).trans hF_86
      have hF_102 : F_91 y2 = .inl (cs 16, 20, .inl e2) := (hB1.2.2.2 y2 (by rw [ht_64]; simp only [List.mem_cons, List.not_mem_nil, or_false]; omega)).trans hF_87
      generalize H1 = H at hP hS ⊢
      refine lv_aload_n hx hb dX11_plainField_40 rfl (lv_at hl 0 rfl) ?_
      refine pg_get (ci := 11) (v := .ref ou) (C := RX11) (T := TX11) (N := 9) hx hb hts it_11 hown hK hP hL_h0 hF_96 rfl 1 (by decide) (hts _ kt_526) (fun _ h9 => h9) rfl dX11_plainField_41 ?_
      refine pg_getN (ci := 0) (v := .int (nI (FPL (clf f) x2 (gb jk) (gc jk) (gd jk)).length)) (C := RX0) (T := TX0) (N := 3) hx hb hts it_0 hown hK hP hL_ou hq_93 rfl 1 (by decide) (hE.nest kn_17) (fun _ h9 => h9) rfl dX11_plainField_44 ?_
      refine W.widen (k := 0) (n := 0) (by omega) (by omega) ?_
      exact W.iret (v := (nI (FPL (clf f) x2 (gb jk) (gc jk) (gd jk)).length)) hx hb hr (fun t ht hWm => ⟨⟨(nI (FPL (clf f) x2 (gb jk) (gc jk) (gd jk)).length), (), rfl, (Or.inr ⟨jk, hjk, rfl, rfl⟩), ⟨F_91, QT.mk ht hP hD hO hR⟩⟩, hS.F ht⟩) hS.2.2 dX11_plainField_47
    ·
      refine lv_bipush (v := (-2)) hx hb dX11_plainField_15 (by decide) ?_
      refine W.widen (k := 0) (n := 0) (by omega) (by omega) ?_
      exact W.iret (v := (-2)) hx hb hr (fun t ht hWm => ⟨⟨(-2), (), rfl, (Or.inl ⟨fun q => c_72 q.2, rfl⟩), ⟨F, QT.mk ht hP hD hO hR⟩⟩, hS.F ht⟩) hS.2.2 dX11_plainField_17
