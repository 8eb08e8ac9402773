theorem rel_feed {f g g2 : Nat → Int32} {zt : Nat} {x1 x2 x3 x4 x5 : Int32} (h : REL f g zt) (h1 : ∀ i, i < zt → g2 i = g i) (h2 : ∀ k, k < 20 → g2 (zt + k) = byv (fv5 x1 x2 x3 x4 x5) k) : REL (up4 (up4 (up4 (up4 (up4 f zt (ocT x1 24) (ocT x1 16) (ocT x1 8) (ocT x1 0)) (zt + 4) (ocT x2 24) (ocT x2 16) (ocT x2 8) (ocT x2 0)) (zt + 8) (ocT x3 24) (ocT x3 16) (ocT x3 8) (ocT x3 0)) (zt + 12) (ocT x4 24) (ocT x4 16) (ocT x4 8) (ocT x4 0)) (zt + 16) (ocT x5 24) (ocT x5 16) (ocT x5 8) (ocT x5 0)) g2 (zt + 20) := by
  intro j hj
  rcases Nat.lt_or_ge j zt with q | q
  · obtain ⟨n, a1, a2, a3⟩ := h j q
    refine ⟨n, a1, ?_, (h1 j q).trans a3⟩
    rw [up4_lo (by omega), up4_lo (by omega), up4_lo (by omega), up4_lo (by omega), up4_lo (by omega)]
    exact a2
  · obtain ⟨k, rfl⟩ : ∃ k, j = zt + k := ⟨j - zt, by omega⟩
    have e := h2 k (by omega)
    rcases (show k = 0 ∨ k = 1 ∨ k = 2 ∨ k = 3 ∨ k = 4 ∨ k = 5 ∨ k = 6 ∨ k = 7 ∨ k = 8 ∨ k = 9 ∨ k = 10 ∨ k = 11 ∨ k = 12 ∨ k = 13 ∨ k = 14 ∨ k = 15 ∨ k = 16 ∨ k = 17 ∨ k = 18 ∨ k = 19 by omega) with rfl | rfl | rfl | rfl | rfl | rfl | rfl | rfl | rfl | rfl | rfl | rfl | rfl | rfl | rfl | rfl | rfl | rfl | rfl | rfl
    · obtain ⟨n, a1, a2, a3⟩ := ob_24 x1
      refine ⟨n, a1, ?_, e.trans a3⟩
      rw [up4_lo (by omega), up4_lo (by omega), up4_lo (by omega), up4_lo (by omega), show zt + 0 = zt by omega, up4_0]
      exact a2
    · obtain ⟨n, a1, a2, a3⟩ := ob_16 x1
      refine ⟨n, a1, ?_, e.trans a3⟩
      rw [up4_lo (by omega), up4_lo (by omega), up4_lo (by omega), up4_lo (by omega), show zt + 1 = zt + 1 by omega, up4_1]
      exact a2
    · obtain ⟨n, a1, a2, a3⟩ := ob_8 x1
      refine ⟨n, a1, ?_, e.trans a3⟩
      rw [up4_lo (by omega), up4_lo (by omega), up4_lo (by omega), up4_lo (by omega), show zt + 2 = zt + 2 by omega, up4_2]
      exact a2
    · obtain ⟨n, a1, a2, a3⟩ := ob_0 x1
      refine ⟨n, a1, ?_, e.trans a3⟩
      rw [up4_lo (by omega), up4_lo (by omega), up4_lo (by omega), up4_lo (by omega), show zt + 3 = zt + 3 by omega, up4_3]
      exact a2
    · obtain ⟨n, a1, a2, a3⟩ := ob_24 x2
      refine ⟨n, a1, ?_, e.trans a3⟩
      rw [up4_lo (by omega), up4_lo (by omega), up4_lo (by omega), show zt + 4 = (zt + 4) by omega, up4_0]
      exact a2
    · obtain ⟨n, a1, a2, a3⟩ := ob_16 x2
      refine ⟨n, a1, ?_, e.trans a3⟩
      rw [up4_lo (by omega), up4_lo (by omega), up4_lo (by omega), show zt + 5 = (zt + 4) + 1 by omega, up4_1]
      exact a2
    · obtain ⟨n, a1, a2, a3⟩ := ob_8 x2
      refine ⟨n, a1, ?_, e.trans a3⟩
      rw [up4_lo (by omega), up4_lo (by omega), up4_lo (by omega), show zt + 6 = (zt + 4) + 2 by omega, up4_2]
      exact a2
    · obtain ⟨n, a1, a2, a3⟩ := ob_0 x2
      refine ⟨n, a1, ?_, e.trans a3⟩
      rw [up4_lo (by omega), up4_lo (by omega), up4_lo (by omega), show zt + 7 = (zt + 4) + 3 by omega, up4_3]
      exact a2
    · obtain ⟨n, a1, a2, a3⟩ := ob_24 x3
      refine ⟨n, a1, ?_, e.trans a3⟩
      rw [up4_lo (by omega), up4_lo (by omega), show zt + 8 = (zt + 8) by omega, up4_0]
      exact a2
    · obtain ⟨n, a1, a2, a3⟩ := ob_16 x3
      refine ⟨n, a1, ?_, e.trans a3⟩
      rw [up4_lo (by omega), up4_lo (by omega), show zt + 9 = (zt + 8) + 1 by omega, up4_1]
      exact a2
    · obtain ⟨n, a1, a2, a3⟩ := ob_8 x3
      refine ⟨n, a1, ?_, e.trans a3⟩
      rw [up4_lo (by omega), up4_lo (by omega), show zt + 10 = (zt + 8) + 2 by omega, up4_2]
      exact a2
    · obtain ⟨n, a1, a2, a3⟩ := ob_0 x3
      refine ⟨n, a1, ?_, e.trans a3⟩
      rw [up4_lo (by omega), up4_lo (by omega), show zt + 11 = (zt + 8) + 3 by omega, up4_3]
      exact a2
    · obtain ⟨n, a1, a2, a3⟩ := ob_24 x4
      refine ⟨n, a1, ?_, e.trans a3⟩
      rw [up4_lo (by omega), show zt + 12 = (zt + 12) by omega, up4_0]
      exact a2
    · obtain ⟨n, a1, a2, a3⟩ := ob_16 x4
      refine ⟨n, a1, ?_, e.trans a3⟩
      rw [up4_lo (by omega), show zt + 13 = (zt + 12) + 1 by omega, up4_1]
      exact a2
    · obtain ⟨n, a1, a2, a3⟩ := ob_8 x4
      refine ⟨n, a1, ?_, e.trans a3⟩
      rw [up4_lo (by omega), show zt + 14 = (zt + 12) + 2 by omega, up4_2]
      exact a2
    · obtain ⟨n, a1, a2, a3⟩ := ob_0 x4
      refine ⟨n, a1, ?_, e.trans a3⟩
      rw [up4_lo (by omega), show zt + 15 = (zt + 12) + 3 by omega, up4_3]
      exact a2
    · obtain ⟨n, a1, a2, a3⟩ := ob_24 x5
      refine ⟨n, a1, ?_, e.trans a3⟩
      rw [show zt + 16 = (zt + 16) by omega, up4_0]
      exact a2
    · obtain ⟨n, a1, a2, a3⟩ := ob_16 x5
      refine ⟨n, a1, ?_, e.trans a3⟩
      rw [show zt + 17 = (zt + 16) + 1 by omega, up4_1]
      exact a2
    · obtain ⟨n, a1, a2, a3⟩ := ob_8 x5
      refine ⟨n, a1, ?_, e.trans a3⟩
      rw [show zt + 18 = (zt + 16) + 2 by omega, up4_2]
      exact a2
    · obtain ⟨n, a1, a2, a3⟩ := ob_0 x5
      refine ⟨n, a1, ?_, e.trans a3⟩
      rw [show zt + 19 = (zt + 16) + 3 by omega, up4_3]
      exact a2
def PCl (D : va_G) (cs : Nat → ClassId) (A Bq : Nat → Prop) (xq zt cn : Nat) (f : Nat → Int32) (n : Nat) (bb : Int32) (zm : Nat) (fL sA sB sC : Nat → Int32) (DX : Nat → ETY) (H : Heap) : Prop := ∃ (L : List Nat) (F : Nat → va_E) (ty : TyM) (ρ ta ou di ea ck sl po hs rt : Nat), NEW D cs ty L F A H ∧ xq ∈ L ∧ ty xq = (11, ρ, [ta, ou, di, ea, ck, sl, po, hs]) ∧ ty ta = (0, ρ + 1, [rt, 3000]) ∧ F ta = .inr (0, [.ref rt, .int (nI zt), .int 0]) ∧ F rt = .inl (cs 16, 3000, .inl f) ∧ zt ≤ 3000 ∧ F di = .inr (2, [.ref ea, .int (nI cn)]) ∧ cn ≤ 40 ∧ LTC cs ty L F xq ρ ta ou di ck sl po hs n bb zm fL sA sB sC ∧ DIRC cs F ea cn DX ∧ ∀ a ∈ L, Bq a
def PMl (D : va_G) (cs : Nat → ClassId) (A Bq : Nat → Prop) (h0 zt ze : Nat) (gt : Nat → Int32) (nf bd mm : Nat) (gm : Nat → Nat → Nat) (gl : Nat → Int32) (EX : Nat → ETY) (H : Heap) : Prop := ∃ (L : List Nat) (F : Nat → va_E) (ty : TyM) (ρ ta ou so ad na va lc dm tg pe ml bg co sp nb0 nb1 nb2 pl se ke wi hs mo po nu pr sq xa sa n64 m64 ex wh sd tk hd ak ho ot sx s0 s1 s2 : Nat), NEWm D cs ty gm L F A H ∧ h0 ∈ L ∧ ty h0 = (15, ρ, [ta, ou, so, ad, na, va, lc, dm, tg, pe, ml, bg, co, sp, nb0, nb1, nb2, pl, se, ke, wi, hs, mo, po, nu, pr, sq, xa, sa, n64, m64, ex, wh, sd, tk, hd, ak, ho, ot, sx, s0, s1, s2, nf, bd, mm, ze, zt]) ∧ F ta = .inl (cs 17, 3000, .inl gt) ∧ F ml = .inl (cs 17, 3000, .inl gl) ∧ DIRM cs F so ad na va ze EX ∧ nb0 ≠ nb1 ∧ nb0 ≠ nb2 ∧ nb1 ≠ nb2 ∧ (∀ a ∈ L, (ty a).1 = 26 → a = bg ∨ a = co ∨ a = sp) ∧ (∀ a ∈ L, (ty a).1 = 15 → a = h0) ∧ ∀ a ∈ L, ¬ Bq a
theorem PCl.kept {D : va_G} {cs : Nat → ClassId} {A Bq : Nat → Prop} {xq zt cn : Nat} {f : Nat → Int32} {n : Nat} {bb : Int32} {zm : Nat} {fL sA sB sC : Nat → Int32} {DX : Nat → ETY} {H H1 : Heap} {L1 : List Nat} {F1 : Nat → va_E} (h : PCl D cs A Bq xq zt cn f n bb zm fL sA sB sC DX H) (hB : ∀ a ∈ L1, ¬ Bq a) (hk : ∀ q : Nat, q < H.size → ¬ va_A (va_pl L1 F1) H.size q → H1[q]? = H[q]?) : PCl D cs A Bq xq zt cn f n bb zm fL sA sB sC DX H1 := by
  obtain ⟨L, F, ty, ρ, ta, ou, di, ea, ck, sl, po, hs, rt, ⟨hP, hD, hO, hW⟩, h1, h2, h3, h5, h6, h7, h8, h9, h10, h11, h4⟩ := h
  exact ⟨L, F, ty, ρ, ta, ou, di, ea, ck, sl, po, hs, rt, ⟨pl_kept hP hk (fun a ha w => hB a w (h4 a ha)), hD, hO, hW⟩, h1, h2, h3, h5, h6, h7, h8, h9, h10, h11, h4⟩
theorem PMl.kept {D : va_G} {cs : Nat → ClassId} {A Bq : Nat → Prop} {h0 zt ze : Nat} {gt : Nat → Int32} {nf bd mm : Nat} {gm : Nat → Nat → Nat} {gl : Nat → Int32} {EX : Nat → ETY} {H H1 : Heap} {L1 : List Nat} {F1 : Nat → va_E} (h : PMl D cs A Bq h0 zt ze gt nf bd mm gm gl EX H) (hB : ∀ a ∈ L1, Bq a) (hk : ∀ q : Nat, q < H.size → ¬ va_A (va_pl L1 F1) H.size q → H1[q]? = H[q]?) : PMl D cs A Bq h0 zt ze gt nf bd mm gm gl EX H1 := by
  obtain ⟨L, F, ty, ρ, ta, ou, so, ad, na, va, lc, dm, tg, pe, ml, bg, co, sp, nb0, nb1, nb2, pl, se, ke, wi, hs, mo, po, nu, pr, sq, xa, sa, n64, m64, ex, wh, sd, tk, hd, ak, ho, ot, sx, s0, s1, s2, ⟨hP, hD, hO, hW⟩, h1, h2, h3, h10, h11, h4, h5, h6, h7, h8, h9⟩ := h
  exact ⟨L, F, ty, ρ, ta, ou, so, ad, na, va, lc, dm, tg, pe, ml, bg, co, sp, nb0, nb1, nb2, pl, se, ke, wi, hs, mo, po, nu, pr, sq, xa, sa, n64, m64, ex, wh, sd, tk, hd, ak, ho, ot, sx, s0, s1, s2, ⟨pl_kept hP hk (fun a ha w => h9 a ha (hB a w)), hD, hO, hW⟩, h1, h2, h3, h10, h11, h4, h5, h6, h7, h8, h9⟩
def DR1 (d dE : ETY) : Prop := d.1 = dE.1 ∧ d.2.1 = dE.2.1 ∧ d.2.2.1 = dE.2.2.1 ∧ REL d.2.2.2.1 dE.2.2.2.1 d.2.2.1 ∧ d.2.2.2.2.1 = dE.2.2.2.2.1 ∧ REL d.2.2.2.2.2 dE.2.2.2.2.2 d.2.2.2.2.1
def DREL (D E : Nat → ETY) (ze : Nat) : Prop := ∀ k, k < ze → DR1 (D k) (E k)
theorem DREL.zero {D E : Nat → ETY} : DREL D E 0 := fun k hk => absurd hk (Nat.not_lt_zero _)
theorem enx_rel {x1 x2 : Int32} {f g : Nat → Int32} {z : Nat} {d dE : ETY} (h1 : ENX x1 x2 f z d) (h2 : ENX x1 x2 g z dE) (hrel : REL f g z) : DR1 d dE := by
  obtain ⟨a1, a2, a3, a4, a5⟩ := h1
  obtain ⟨b1, b2, b3, b4, b5⟩ := h2
  have hN : d.2.2.1 ≤ z → d.2.2.1 = dE.2.2.1 → REL d.2.2.2.1 dE.2.2.2.1 d.2.2.1 := fun hz he j hj => by
    obtain ⟨n, e1, e2, e3⟩ := hrel j (by omega)
    exact ⟨n, e1, (a3 j hj).trans e2, (b3 j (by omega)).trans e3⟩
  rcases a5 with ⟨p1, p2, p3, p4, p5⟩ | ⟨p1, p2, p3⟩
  · rcases b5 with ⟨q1, q2, q3, q4, q5⟩ | ⟨q1, -, -⟩
    · have he : d.2.2.1 = dE.2.2.1 := ((FST_rel hrel).mp p2).uniq q2
      refine ⟨a1.trans b1.symm, a2.trans b2.symm, he, hN (by omega) he, by omega, fun j hj => ?_⟩
      obtain ⟨n, e1, e2, e3⟩ := hrel (d.2.2.1 + 1 + j) (by omega)
      exact ⟨n, e1, (p5 j hj).trans e2, by rw [q5 j (by omega), ← he]; exact e3⟩
    · exact absurd p1 q1
  · rcases b5 with ⟨q1, -, -⟩ | ⟨q1, q2, q3⟩
    · exact absurd q1 p1
    · have he : d.2.2.1 = dE.2.2.1 := p2.trans q2.symm
      refine ⟨a1.trans b1.symm, a2.trans b2.symm, he, hN (by omega) he, p3.trans q3.symm, ?_⟩
      rw [p3]
      exact REL.zero
theorem DREL.add {D E : Nat → ETY} {d dE : ETY} {f g : Nat → Int32} {z ze c2 : Nat} {x1 x2 : Int32} (h : DREL D E ze) (hc : c2 ≤ ze + 1) (hrel : REL f g z) (h1 : c2 = ze + 1 → ENX x1 x2 f z d) (h2 : c2 = ze + 1 → ENX x1 x2 g z dE) : DREL (fun k => if k = ze then d else D k) (fun k => if k = ze then dE else E k) c2 := by
  intro k hk
  show DR1 (if k = ze then d else D k) (if k = ze then dE else E k)
  by_cases c : k = ze
  · rw [if_pos c, if_pos c]
    exact enx_rel (h1 (by omega)) (h2 (by omega)) hrel
  · rw [if_neg c, if_neg c]
    exact h k (by omega)
theorem nar_inv : ∀ n, n < 256 → ((vp_nar .byte (nI n)).toInt % 256).toNat = n := by decide +kernel
theorem REL.eqq {f g f2 g2 : Nat → Int32} {z z2 i j : Nat} (h : REL f g z) (h2 : REL f2 g2 z2) (hi : i < z) (hj : j < z2) : f i = f2 j ↔ g i = g2 j := by
  obtain ⟨n, a1, a2, a3⟩ := h i hi
  obtain ⟨n2, b1, b2, b3⟩ := h2 j hj
  rw [a2, a3, b2, b3]
  constructor
  · intro q
    rw [q]
  · intro q
    have e1 := nar_inv n a1
    rw [q, nar_inv n2 b1] at e1
    rw [e1]
theorem nm_first {f : Nat → Int32} {z : Nat} (h : NM f 0 z = true) : ¬ f 0 = 46 := fun q => by
  have h9 := NM_len h
  unfold NM at h
  rw [Bool.and_eq_true] at h
  exact absurd (nm_dot0 h.2 (by omega) q rfl) (by decide)
theorem und_unm {f g f2 g2 : Nat → Int32} {z y : Nat} (h : REL f g z) (h2 : REL f2 g2 y) (hn : NM f 0 z = true) : UND f z f2 y ↔ UNM g z g2 y := by
  constructor
  · rintro ⟨a1, a2, a3⟩
    refine ⟨a1, ?_, fun j hj => ?_⟩
    · by_cases c : z = y
      · exact Or.inl c
      · have a4 := a3.resolve_left c
        refine Or.inr ⟨fun q => ?_, (h.ok (by omega)).2.1.mp a4⟩
        rw [show z - y - 1 = 0 by omega] at a4
        exact nm_first hn a4
    · have e1 := a2 (y - j) (by omega) (by omega)
      rw [show z - (y - j) = z - y + j by omega, show y - (y - j) = j by omega] at e1
      exact (h.eqq h2 (by omega) hj).mp e1
  · rintro ⟨a1, a2, a3⟩
    refine ⟨a1, fun i h1 h9 => ?_, ?_⟩
    · have e1 := a3 (y - i) (by omega)
      rw [show z - y + (y - i) = z - i by omega] at e1
      exact (h.eqq h2 (by omega) (by omega)).mpr e1
    · by_cases c : z = y
      · exact Or.inl c
      · exact Or.inr ((h.ok (by omega)).2.1.mpr (a2.resolve_left c).2)
theorem hst_rel {f g : Nat → Int32} {z : Nat} {D E : Nat → ETY} {ze : Nat} (h : REL f g z) (hn : NM f 0 z = true) (hd : DREL D E ze) : HST (UND f z) f z D ze = HST (UNM g z) g z E ze := by
  refine hst_cg (lgw_cg ze (fun i hi => ?_)) (fun j hj => (h.ok hj).2.1)
  obtain ⟨d1, d2, d3, d4, -, -⟩ := hd i hi
  refine ⟨?_, d3⟩
  rw [← d1, ← d3]
  exact and_congr_right (fun _ => und_unm h d4 hn)
theorem house_same {f g : Nat → Int32} {z : Nat} {D E : Nat → ETY} {ze : Nat} (h : REL f g z) (hd : DREL D E ze) : HSA f z D ze = HSM g z E ze := by
  unfold HSA HSM
  have e1 := NM_rel (a := 0) h (Nat.le_refl z)
  by_cases c : NM f 0 z = true
  · rw [if_pos c, if_pos (e1.symm.trans c), hst_rel h c hd]
  · rw [if_neg c, if_neg (fun q => c (e1.trans q))]
