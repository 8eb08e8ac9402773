theorem rel_feed {f g g2 : Nat → Int32} {zt : Nat} {x1 x2 x3 x4 x5 : Int32} (h : REL f g zt) (h1 : ∀ i, i < zt → g2 i = g i) (h2 : ∀ k, k < 20 → g2 (zt + k) = byv (fv5 x1 x2 x3 x4 x5) k) : REL (up4 (up4 (up4 (up4 (up4 f zt (ocT x1 24) (ocT x1 16) (ocT x1 8) (ocT x1 0)) (zt + 4) (ocT x2 24) (ocT x2 16) (ocT x2 8) (ocT x2 0)) (zt + 8) (ocT x3 24) (ocT x3 16) (ocT x3 8) (ocT x3 0)) (zt + 12) (ocT x4 24) (ocT x4 16) (ocT x4 8) (ocT x4 0)) (zt + 16) (ocT x5 24) (ocT x5 16) (ocT x5 8) (ocT x5 0)) g2 (zt + 20) := by
  intro j hj
  rcases Nat.lt_or_ge j zt with q | q
  · obtain ⟨n, a1, a2, a3⟩ := h j q
    refine ⟨n, a1, ?_, (h1 j q).trans a3⟩
    rw [up4_lo (by omega), up4_lo (by omega), up4_lo (by omega), up4_lo (by omega), up4_lo (by omega)]
    exact a2
  · obtain ⟨k, rfl⟩ : ∃ k, j = zt + k := ⟨j - zt, by omega⟩
    have e := h2 k (by omega)
    rcases (show k = 0 ∨ k = 1 ∨ k = 2 ∨ k = 3 ∨ k = 4 ∨ k = 5 ∨ k = 6 ∨ k = 7 ∨ k = 8 ∨ k = 9 ∨ k = 10 ∨ k = 11 ∨ k = 12 ∨ k = 13 ∨ k = 14 ∨ k = 15 ∨ k = 16 ∨ k = 17 ∨ k = 18 ∨ k = 19 by omega) with rfl | rfl | rfl | rfl | rfl | rfl | rfl | rfl | rfl | rfl | rfl | rfl | rfl | rfl | rfl | rfl | rfl | rfl | rfl | rfl
    · obtain ⟨n, a1, a2, a3⟩ := ob_24 x1
      refine ⟨n, a1, ?_, e.trans a3⟩
      rw [up4_lo (by omega), up4_lo (by omega), up4_lo (by omega), up4_lo (by omega), show zt + 0 = zt by omega, up4_0]
      exact a2
    · obtain ⟨n, a1, a2, a3⟩ := ob_16 x1
      refine ⟨n, a1, ?_, e.trans a3⟩
      rw [up4_lo (by omega), up4_lo (by omega), up4_lo (by omega), up4_lo (by omega), show zt + 1 = zt + 1 by omega, up4_1]
      exact a2
    · obtain ⟨n, a1, a2, a3⟩ := ob_8 x1
      refine ⟨n, a1, ?_, e.trans a3⟩
      rw [up4_lo (by omega), up4_lo (by omega), up4_lo (by omega), up4_lo (by omega), show zt + 2 = zt + 2 by omega, up4_2]
      exact a2
    · obtain ⟨n, a1, a2, a3⟩ := ob_0 x1
      refine ⟨n, a1, ?_, e.trans a3⟩
      rw [up4_lo (by omega), up4_lo (by omega), up4_lo (by omega), up4_lo (by omega), show zt + 3 = zt + 3 by omega, up4_3]
      exact a2
    · obtain ⟨n, a1, a2, a3⟩ := ob_24 x2
      refine ⟨n, a1, ?_, e.trans a3⟩
      rw [up4_lo (by omega), up4_lo (by omega), up4_lo (by omega), show zt + 4 = (zt + 4) by omega, up4_0]
      exact a2
    · obtain ⟨n, a1, a2, a3⟩ := ob_16 x2
      refine ⟨n, a1, ?_, e.trans a3⟩
      rw [up4_lo (by omega), up4_lo (by omega), up4_lo (by omega), show zt + 5 = (zt + 4) + 1 by omega, up4_1]
      exact a2
    · obtain ⟨n, a1, a2, a3⟩ := ob_8 x2
      refine ⟨n, a1, ?_, e.trans a3⟩
      rw [up4_lo (by omega), up4_lo (by omega), up4_lo (by omega), show zt + 6 = (zt + 4) + 2 by omega, up4_2]
      exact a2
    · obtain ⟨n, a1, a2, a3⟩ := ob_0 x2
      refine ⟨n, a1, ?_, e.trans a3⟩
      rw [up4_lo (by omega), up4_lo (by omega), up4_lo (by omega), show zt + 7 = (zt + 4) + 3 by omega, up4_3]
      exact a2
    · obtain ⟨n, a1, a2, a3⟩ := ob_24 x3
      refine ⟨n, a1, ?_, e.trans a3⟩
      rw [up4_lo (by omega), up4_lo (by omega), show zt + 8 = (zt + 8) by omega, up4_0]
      exact a2
    · obtain ⟨n, a1, a2, a3⟩ := ob_16 x3
      refine ⟨n, a1, ?_, e.trans a3⟩
      rw [up4_lo (by omega), up4_lo (by omega), show zt + 9 = (zt + 8) + 1 by omega, up4_1]
      exact a2
    · obtain ⟨n, a1, a2, a3⟩ := ob_8 x3
      refine ⟨n, a1, ?_, e.trans a3⟩
      rw [up4_lo (by omega), up4_lo (by omega), show zt + 10 = (zt + 8) + 2 by omega, up4_2]
      exact a2
    · obtain ⟨n, a1, a2, a3⟩ := ob_0 x3
      refine ⟨n, a1, ?_, e.trans a3⟩
      rw [up4_lo (by omega), up4_lo (by omega), show zt + 11 = (zt + 8) + 3 by omega, up4_3]
      exact a2
    · obtain ⟨n, a1, a2, a3⟩ := ob_24 x4
      refine ⟨n, a1, ?_, e.trans a3⟩
      rw [up4_lo (by omega), show zt + 12 = (zt + 12) by omega, up4_0]
      exact a2
    · obtain ⟨n, a1, a2, a3⟩ := ob_16 x4
      refine ⟨n, a1, ?_, e.trans a3⟩
      rw [up4_lo (by omega), show zt + 13 = (zt + 12) + 1 by omega, up4_1]
      exact a2
    · obtain ⟨n, a1, a2, a3⟩ := ob_8 x4
      refine ⟨n, a1, ?_, e.trans a3⟩
      rw [up4_lo (by omega), show zt + 14 = (zt + 12) + 2 by omega, up4_2]
      exact a2
    · obtain ⟨n, a1, a2, a3⟩ := ob_0 x4
      refine ⟨n, a1, ?_, e.trans a3⟩
      rw [up4_lo (by omega), show zt + 15 = (zt + 12) + 3 by omega, up4_3]
      exact a2
    · obtain ⟨n, a1, a2, a3⟩ := ob_24 x5
      refine ⟨n, a1, ?_, e.trans a3⟩
      rw [show zt + 16 = (zt + 16) by omega, up4_0]
      exact a2
    · obtain ⟨n, a1, a2, a3⟩ := ob_16 x5
      refine ⟨n, a1, ?_, e.trans a3⟩
      rw [show zt + 17 = (zt + 16) + 1 by omega, up4_1]
      exact a2
    · obtain ⟨n, a1, a2, a3⟩ := ob_8 x5
      refine ⟨n, a1, ?_, e.trans a3⟩
      rw [show zt + 18 = (zt + 16) + 2 by omega, up4_2]
      exact a2
    · obtain ⟨n, a1, a2, a3⟩ := ob_0 x5
      refine ⟨n, a1, ?_, e.trans a3⟩
      rw [show zt + 19 = (zt + 16) + 3 by omega, up4_3]
      exact a2
def COL (n : Nat) (fL sB : Nat → Int32) : Prop := ∀ j, j < n → fL (cln sB j) = 58
def PCl (D : va_G) (cs : Nat → ClassId) (A Bq : Nat → Prop) (xq zt cn : Nat) (f : Nat → Int32) (n : Nat) (bb : Int32) (zm : Nat) (fL sA sB sC : Nat → Int32) (DX : Nat → ETY) (zo : Nat) (fo : Nat → Int32) (SD : SDR) (aS vS : Int32) (c9 u9 : Nat) (H : Heap) : Prop := ∃ (L : List Nat) (F : Nat → va_E) (ty : TyM) (ρ ta ou di ea ck sl po hs rt ro ca0 ca1 ca2 ca3 cnm cte : Nat), NEW D cs ty L F A H ∧ xq ∈ L ∧ ty xq = (11, ρ, [ta, ou, di, ea, ck, sl, po, hs]) ∧ ty ta = (0, ρ + 1, [rt, 3000]) ∧ F ta = .inr (0, [.ref rt, .int (nI zt), .int 0]) ∧ F rt = .inl (cs 16, 3000, .inl f) ∧ zt ≤ 3000 ∧ F di = .inr (2, [.ref ea, .int (nI cn)]) ∧ cn ≤ 40 ∧ LTC cs ty L F xq ρ ta ou di ck sl po hs n bb zm fL sA sB sC ∧ DIRC cs F ea cn DX ∧ ty ck = (1, ρ + 5, [di, ρ + 3, ea, ca0, ca1, ca2, ca3, cnm, cte]) ∧ F ck = .inr (1, [.ref di, .ref ca0, .ref ca1, .ref ca2, .ref ca3, .ref cnm, .ref cte, .int aS, .int vS, .int (nI c9), .int (nI u9)]) ∧ (vS = 0 ∨ SNP cs F ca0 ca1 ca2 ca3 SD) ∧ COL n fL sB ∧ ty ou = (0, ρ + 2, [ro, 3000]) ∧ F ou = .inr (0, [.ref ro, .int (nI zo), .int 0]) ∧ F ro = .inl (cs 16, 3000, .inl fo) ∧ zo ≤ 3000 ∧ ∀ a ∈ L, Bq a
def PMl (D : va_G) (cs : Nat → ClassId) (A Bq : Nat → Prop) (h0 zt ze : Nat) (gt : Nat → Int32) (nf bd mm : Nat) (gm : Nat → Nat → Nat) (gl : Nat → Int32) (EX : Nat → ETY) (zo : Nat) (go : Nat → Int32) (fm sn : Nat) (LC DN : List Nat) (gc gv : Nat) (H : Heap) : Prop := ∃ (L : List Nat) (F : Nat → va_E) (ty : TyM) (ρ ta ou so ad na va lc dm tg pe ml bg co sp nb0 nb1 nb2 pl se ke wi hs mo po nu pr sq xa sa n64 m64 ex wh sd tk hd ak ho ot sx s0 s1 s2 : Nat), NEWm D cs ty gm L F A H ∧ h0 ∈ L ∧ ty h0 = (15, ρ, [ta, ou, so, ad, na, va, lc, dm, tg, pe, ml, bg, co, sp, nb0, nb1, nb2, pl, se, ke, wi, hs, mo, po, nu, pr, sq, xa, sa, n64, m64, ex, wh, sd, tk, hd, ak, ho, ot, sx, s0, s1, s2, nf, bd, mm, zo, fm, sn, 1, gc, gv, ze, zt]) ∧ F ta = .inl (cs 17, 3000, .inl gt) ∧ F ml = .inl (cs 17, 3000, .inl gl) ∧ DIRM cs F so ad na va ze EX ∧ (sn = 0 ∨ (TXM cs F lc 30 LC ∧ TXM cs F dm 60 DN)) ∧ F ou = .inl (cs 17, 6000, .inl go) ∧ nb0 ≠ nb1 ∧ nb0 ≠ nb2 ∧ nb1 ≠ nb2 ∧ (∀ a ∈ L, (ty a).1 = 26 → a = bg ∨ a = co ∨ a = sp) ∧ (∀ a ∈ L, (ty a).1 = 15 → a = h0) ∧ ∀ a ∈ L, ¬ Bq a
theorem PCl.kept {D : va_G} {cs : Nat → ClassId} {A Bq : Nat → Prop} {xq zt cn : Nat} {f : Nat → Int32} {n : Nat} {bb : Int32} {zm : Nat} {fL sA sB sC : Nat → Int32} {DX : Nat → ETY} {zo : Nat} {fo : Nat → Int32} {SD : SDR} {aS vS : Int32} {c9 u9 : Nat} {H H1 : Heap} {L1 : List Nat} {F1 : Nat → va_E} (h : PCl D cs A Bq xq zt cn f n bb zm fL sA sB sC DX zo fo SD aS vS c9 u9 H) (hB : ∀ a ∈ L1, ¬ Bq a) (hk : ∀ q : Nat, q < H.size → ¬ va_A (va_pl L1 F1) H.size q → H1[q]? = H[q]?) : PCl D cs A Bq xq zt cn f n bb zm fL sA sB sC DX zo fo SD aS vS c9 u9 H1 := by
  obtain ⟨L, F, ty, ρ, ta, ou, di, ea, ck, sl, po, hs, rt, ro, ca0, ca1, ca2, ca3, cnm, cte, ⟨hP, hD, hO, hW⟩, h1, h2, h3, h5, h6, h7, h8, h9, h10, h11, h12, h13, h14, h15, h16, h17, h18, h19, h4⟩ := h
  exact ⟨L, F, ty, ρ, ta, ou, di, ea, ck, sl, po, hs, rt, ro, ca0, ca1, ca2, ca3, cnm, cte, ⟨pl_kept hP hk (fun a ha w => hB a w (h4 a ha)), hD, hO, hW⟩, h1, h2, h3, h5, h6, h7, h8, h9, h10, h11, h12, h13, h14, h15, h16, h17, h18, h19, h4⟩
theorem PMl.kept {D : va_G} {cs : Nat → ClassId} {A Bq : Nat → Prop} {h0 zt ze : Nat} {gt : Nat → Int32} {nf bd mm : Nat} {gm : Nat → Nat → Nat} {gl : Nat → Int32} {EX : Nat → ETY} {zo : Nat} {go : Nat → Int32} {fm sn : Nat} {LC DN : List Nat} {gc gv : Nat} {H H1 : Heap} {L1 : List Nat} {F1 : Nat → va_E} (h : PMl D cs A Bq h0 zt ze gt nf bd mm gm gl EX zo go fm sn LC DN gc gv H) (hB : ∀ a ∈ L1, Bq a) (hk : ∀ q : Nat, q < H.size → ¬ va_A (va_pl L1 F1) H.size q → H1[q]? = H[q]?) : PMl D cs A Bq h0 zt ze gt nf bd mm gm gl EX zo go fm sn LC DN gc gv H1 := by
  obtain ⟨L, F, ty, ρ, ta, ou, so, ad, na, va, lc, dm, tg, pe, ml, bg, co, sp, nb0, nb1, nb2, pl, se, ke, wi, hs, mo, po, nu, pr, sq, xa, sa, n64, m64, ex, wh, sd, tk, hd, ak, ho, ot, sx, s0, s1, s2, ⟨hP, hD, hO, hW⟩, h1, h2, h3, h10, h11, h12, h13, h4, h5, h6, h7, h8, h9⟩ := h
  exact ⟨L, F, ty, ρ, ta, ou, so, ad, na, va, lc, dm, tg, pe, ml, bg, co, sp, nb0, nb1, nb2, pl, se, ke, wi, hs, mo, po, nu, pr, sq, xa, sa, n64, m64, ex, wh, sd, tk, hd, ak, ho, ot, sx, s0, s1, s2, ⟨pl_kept hP hk (fun a ha w => h9 a ha (hB a w)), hD, hO, hW⟩, h1, h2, h3, h10, h11, h12, h13, h4, h5, h6, h7, h8, h9⟩
def DR1 (d dE : ETY) : Prop := d.1 = dE.1 ∧ d.2.1 = dE.2.1 ∧ d.2.2.1 = dE.2.2.1 ∧ REL d.2.2.2.1 dE.2.2.2.1 d.2.2.1 ∧ d.2.2.2.2.1 = dE.2.2.2.2.1 ∧ REL d.2.2.2.2.2 dE.2.2.2.2.2 d.2.2.2.2.1
def DREL (D E : Nat → ETY) (ze : Nat) : Prop := ∀ k, k < ze → DR1 (D k) (E k)
theorem DREL.zero {D E : Nat → ETY} : DREL D E 0 := fun k hk => absurd hk (Nat.not_lt_zero _)
theorem enx_rel {x1 x2 : Int32} {f g : Nat → Int32} {z : Nat} {d dE : ETY} (h1 : ENX x1 x2 f z d) (h2 : ENX x1 x2 g z dE) (hrel : REL f g z) : DR1 d dE := by
  obtain ⟨a1, a2, a3, a4, a5⟩ := h1
  obtain ⟨b1, b2, b3, b4, b5⟩ := h2
  have hN : d.2.2.1 ≤ z → d.2.2.1 = dE.2.2.1 → REL d.2.2.2.1 dE.2.2.2.1 d.2.2.1 := fun hz he j hj => by
    obtain ⟨n, e1, e2, e3⟩ := hrel j (by omega)
    exact ⟨n, e1, (a3 j hj).trans e2, (b3 j (by omega)).trans e3⟩
  rcases a5 with ⟨p1, p2, p3, p4, p5⟩ | ⟨p1, p2, p3⟩
  · rcases b5 with ⟨q1, q2, q3, q4, q5⟩ | ⟨q1, -, -⟩
    · have he : d.2.2.1 = dE.2.2.1 := ((FST_rel hrel).mp p2).uniq q2
      refine ⟨a1.trans b1.symm, a2.trans b2.symm, he, hN (by omega) he, by omega, fun j hj => ?_⟩
      obtain ⟨n, e1, e2, e3⟩ := hrel (d.2.2.1 + 1 + j) (by omega)
      exact ⟨n, e1, (p5 j hj).trans e2, by rw [q5 j (by omega), ← he]; exact e3⟩
    · exact absurd p1 q1
  · rcases b5 with ⟨q1, -, -⟩ | ⟨q1, q2, q3⟩
    · exact absurd q1 p1
    · have he : d.2.2.1 = dE.2.2.1 := p2.trans q2.symm
      refine ⟨a1.trans b1.symm, a2.trans b2.symm, he, hN (by omega) he, p3.trans q3.symm, ?_⟩
      rw [p3]
      exact REL.zero
theorem DREL.add {D E : Nat → ETY} {d dE : ETY} {f g : Nat → Int32} {z ze c2 : Nat} {x1 x2 : Int32} (h : DREL D E ze) (hc : c2 ≤ ze + 1) (hrel : REL f g z) (h1 : c2 = ze + 1 → ENX x1 x2 f z d) (h2 : c2 = ze + 1 → ENX x1 x2 g z dE) : DREL (fun k => if k = ze then d else D k) (fun k => if k = ze then dE else E k) c2 := by
  intro k hk
  show DR1 (if k = ze then d else D k) (if k = ze then dE else E k)
  by_cases c : k = ze
  · rw [if_pos c, if_pos c]
    exact enx_rel (h1 (by omega)) (h2 (by omega)) hrel
  · rw [if_neg c, if_neg c]
    exact h k (by omega)
theorem nar_inv : ∀ n, n < 256 → ((vp_nar .byte (nI n)).toInt % 256).toNat = n := by decide +kernel
theorem REL.eqq {f g f2 g2 : Nat → Int32} {z z2 i j : Nat} (h : REL f g z) (h2 : REL f2 g2 z2) (hi : i < z) (hj : j < z2) : f i = f2 j ↔ g i = g2 j := by
  obtain ⟨n, a1, a2, a3⟩ := h i hi
  obtain ⟨n2, b1, b2, b3⟩ := h2 j hj
  rw [a2, a3, b2, b3]
  constructor
  · intro q
    rw [q]
  · intro q
    have e1 := nar_inv n a1
    rw [q, nar_inv n2 b1] at e1
    rw [e1]
theorem nm_first {f : Nat → Int32} {z : Nat} (h : NM f 0 z = true) : ¬ f 0 = 46 := fun q => by
  have h9 := NM_len h
  unfold NM at h
  rw [Bool.and_eq_true] at h
  exact absurd (nm_dot0 h.2 (by omega) q rfl) (by decide)
theorem und_unm {f g f2 g2 : Nat → Int32} {z y : Nat} (h : REL f g z) (h2 : REL f2 g2 y) (hn : NM f 0 z = true) : UND f z f2 y ↔ UNM g z g2 y := by
  constructor
  · rintro ⟨a1, a2, a3⟩
    refine ⟨a1, ?_, fun j hj => ?_⟩
    · by_cases c : z = y
      · exact Or.inl c
      · have a4 := a3.resolve_left c
        refine Or.inr ⟨fun q => ?_, (h.ok (by omega)).2.1.mp a4⟩
        rw [show z - y - 1 = 0 by omega] at a4
        exact nm_first hn a4
    · have e1 := a2 (y - j) (by omega) (by omega)
      rw [show z - (y - j) = z - y + j by omega, show y - (y - j) = j by omega] at e1
      exact (h.eqq h2 (by omega) hj).mp e1
  · rintro ⟨a1, a2, a3⟩
    refine ⟨a1, fun i h1 h9 => ?_, ?_⟩
    · have e1 := a3 (y - i) (by omega)
      rw [show z - y + (y - i) = z - i by omega] at e1
      exact (h.eqq h2 (by omega) (by omega)).mpr e1
    · by_cases c : z = y
      · exact Or.inl c
      · exact Or.inr ((h.ok (by omega)).2.1.mpr (a2.resolve_left c).2)
theorem hst_rel {f g : Nat → Int32} {z : Nat} {D E : Nat → ETY} {ze : Nat} (h : REL f g z) (hn : NM f 0 z = true) (hd : DREL D E ze) : HST (UND f z) f z D ze = HST (UNM g z) g z E ze := by
  refine hst_cg (lgw_cg ze (fun i hi => ?_)) (fun j hj => (h.ok hj).2.1)
  obtain ⟨d1, d2, d3, d4, -, -⟩ := hd i hi
  refine ⟨?_, d3⟩
  rw [← d1, ← d3]
  exact and_congr_right (fun _ => und_unm h d4 hn)
theorem house_same {f g : Nat → Int32} {z : Nat} {D E : Nat → ETY} {ze : Nat} (h : REL f g z) (hd : DREL D E ze) : HSA f z D ze = HSM g z E ze := by
  unfold HSA HSM
  have e1 := NM_rel (a := 0) h (Nat.le_refl z)
  by_cases c : NM f 0 z = true
  · rw [if_pos c, if_pos (e1.symm.trans c), hst_rel h c hd]
  · rw [if_neg c, if_neg (fun q => c (e1.trans q))]
theorem s_8 : (((8 : Int32) &&& 31).toBitVec.smod 32).toNat = 8 := by decide
theorem s_16 : (((16 : Int32) &&& 31).toBitVec.smod 32).toNat = 16 := by decide
theorem s_24 : (((24 : Int32) &&& 31).toBitVec.smod 32).toNat = 24 := by decide
theorem shl_or8 (x y : Int32) : shl (x ||| y) 8 = shl x 8 ||| shl y 8 := by
  apply Int32.toBitVec_inj.mp
  unfold shl
  rw [Int32.toBitVec_shiftLeft, Int32.toBitVec_or, Int32.toBitVec_or, Int32.toBitVec_shiftLeft, Int32.toBitVec_shiftLeft]
  show (x.toBitVec ||| y.toBitVec) <<< (((8 : Int32) &&& 31).toBitVec.smod 32).toNat = x.toBitVec <<< (((8 : Int32) &&& 31).toBitVec.smod 32).toNat ||| y.toBitVec <<< (((8 : Int32) &&& 31).toBitVec.smod 32).toNat
  rw [s_8]
  apply BitVec.eq_of_getLsbD_eq
  intro i hi
  rw [BitVec.getLsbD_or, BitVec.getLsbD_shiftLeft, BitVec.getLsbD_shiftLeft, BitVec.getLsbD_shiftLeft, BitVec.getLsbD_or, Bool.and_or_distrib_left]
theorem shl_2 (x : BitVec 32) (a b : Nat) : x <<< a <<< b = x <<< (a + b) := by
  apply BitVec.eq_of_getLsbD_eq
  intro i hi
  rw [BitVec.getLsbD_shiftLeft, BitVec.getLsbD_shiftLeft, BitVec.getLsbD_shiftLeft]
  rcases Nat.lt_or_ge i (a + b) with h | h
  · rcases Nat.lt_or_ge i b with h2 | h2
    · simp [h, h2]
    · have h3 : i - b < a := by omega
      simp [h, h3]
  · have h2 : ¬ i < b := by omega
    have h3 : ¬ i - b < a := by omega
    have h4 : i - b < 32 := by omega
    have h5 : ¬ i < a + b := by omega
    have h6 : i - b - a = i - (a + b) := by omega
    simp [hi, h2, h3, h4, h5, h6]
theorem shl_88 (x : Int32) : shl (shl x 8) 8 = shl x 16 := by
  apply Int32.toBitVec_inj.mp
  unfold shl
  rw [Int32.toBitVec_shiftLeft, Int32.toBitVec_shiftLeft, Int32.toBitVec_shiftLeft]
  show x.toBitVec <<< (((8 : Int32) &&& 31).toBitVec.smod 32).toNat <<< (((8 : Int32) &&& 31).toBitVec.smod 32).toNat = x.toBitVec <<< (((16 : Int32) &&& 31).toBitVec.smod 32).toNat
  rw [s_8, s_16]
  exact shl_2 _ 8 8
theorem shl_168 (x : Int32) : shl (shl x 16) 8 = shl x 24 := by
  apply Int32.toBitVec_inj.mp
  unfold shl
  rw [Int32.toBitVec_shiftLeft, Int32.toBitVec_shiftLeft, Int32.toBitVec_shiftLeft]
  show x.toBitVec <<< (((16 : Int32) &&& 31).toBitVec.smod 32).toNat <<< (((8 : Int32) &&& 31).toBitVec.smod 32).toNat = x.toBitVec <<< (((24 : Int32) &&& 31).toBitVec.smod 32).toNat
  rw [s_8, s_16, s_24]
  exact shl_2 _ 16 8
theorem shl_816 (x : Int32) : shl (shl x 8) 16 = shl x 24 := by
  apply Int32.toBitVec_inj.mp
  unfold shl
  rw [Int32.toBitVec_shiftLeft, Int32.toBitVec_shiftLeft, Int32.toBitVec_shiftLeft]
  show x.toBitVec <<< (((8 : Int32) &&& 31).toBitVec.smod 32).toNat <<< (((16 : Int32) &&& 31).toBitVec.smod 32).toNat = x.toBitVec <<< (((24 : Int32) &&& 31).toBitVec.smod 32).toNat
  rw [s_8, s_16, s_24]
  exact shl_2 _ 8 16
theorem nar_shl : ∀ n, n < 256 → shl (vp_nar .byte (nI n)) 24 = shl (nI n) 24 := by decide +kernel
theorem and_255 : ∀ n, n < 256 → nI n &&& 255 = nI n := by decide +kernel
theorem nb8_nar : ∀ n, n < 256 → nb8 (vp_nar .byte (nI n)) = vp_nar .byte (nI n) := by decide +kernel
theorem nb8_128 : nb8 128 = vp_nar .byte (nI 128) := by decide +kernel
theorem nb8_0 : nb8 0 = vp_nar .byte (nI 0) := by decide +kernel
theorem nb8_s0 : ∀ k, k < 4 → nb8 (shr 0 (nI (24 - 8 * k))) = vp_nar .byte (nI 0) := by decide +kernel
theorem shl_0 : shl 0 8 = 0 := by decide +kernel
def BYR (B : Nat → Int32) (E : Nat → Int32) (i : Nat) : Prop := ∃ n : Nat, n < 256 ∧ B i = nI n ∧ E i = vp_nar .byte (nI n)
theorem w4 {B E : Nat → Int32} {k s9 : Nat} {M : Nat → Int32} (hE : ∀ j, j < 4 → E (4 * k + j) = M (s9 + j)) (h : ∀ j, j < 4 → BYR B M (s9 + j)) : wob E k = wdk B s9 4 := by
  obtain ⟨n0, a0, b0, c0⟩ := h 0 (by omega)
  obtain ⟨n1, a1, b1, c1⟩ := h 1 (by omega)
  obtain ⟨n2, a2, b2, c2⟩ := h 2 (by omega)
  obtain ⟨n3, a3, b3, c3⟩ := h 3 (by omega)
  have e0 := (hE 0 (by omega)).trans c0
  have e1 := (hE 1 (by omega)).trans c1
  have e2 := (hE 2 (by omega)).trans c2
  have e3 := (hE 3 (by omega)).trans c3
  rw [Nat.add_zero] at e0
  unfold wob
  rw [e0, e1, e2, e3, nar_and n1 a1, nar_and n2 a2, nar_and n3 a3, nar_shl n0 a0]
  show _ = shl (shl (shl (shl 0 8 ||| B (s9 + 0)) 8 ||| B (s9 + 1)) 8 ||| B (s9 + 2)) 8 ||| B (s9 + 3)
  rw [b0, b1, b2, b3, shl_0, Int32.zero_or, shl_or8, shl_or8, shl_or8, shl_88, shl_88, shl_816]
theorem lo_word0 : ∀ a9, a9 < 78 → ∀ b9, b9 < 78 → shl (nb8 (shr (nI (8 * (78 * a9 + b9))) (nI 24))) 24 ||| shl (nb8 (shr (nI (8 * (78 * a9 + b9))) (nI 16)) &&& 255) 16 ||| shl (nb8 (shr (nI (8 * (78 * a9 + b9))) (nI 8)) &&& 255) 8 ||| (nb8 (shr (nI (8 * (78 * a9 + b9))) (nI 0)) &&& 255) = nI ((78 * a9 + b9) * 8) := by decide +kernel
theorem lo_word : ∀ n, n < 6001 → shl (nb8 (shr (nI (8 * n)) (nI 24))) 24 ||| shl (nb8 (shr (nI (8 * n)) (nI 16)) &&& 255) 16 ||| shl (nb8 (shr (nI (8 * n)) (nI 8)) &&& 255) 8 ||| (nb8 (shr (nI (8 * n)) (nI 0)) &&& 255) = nI (n * 8) := fun n h => by
  have h9 := lo_word0 (n / 78) (by omega) (n % 78) (by omega)
  rw [show 78 * (n / 78) + n % 78 = n by omega] at h9
  exact h9
theorem by_rel {f g : Nat → Int32} {n i : Nat} (h : REL f g n) (hi : i < ptn n + 4) : BYR (byt f n) (pad g n) i := by
  have hp := ptn_1 n
  rcases Nat.lt_or_ge i n with c | c
  · obtain ⟨m9, a1, a2, a3⟩ := h i c
    refine ⟨m9, a1, ?_, ?_⟩
    · rw [← byt_lt c, a2, and_255 m9 a1]
    · have h9 := pad_0 (g := g) c
      rw [Nat.zero_add] at h9
      rw [← h9, a3, nb8_nar m9 a1]
  · by_cases d : i = n
    · subst d
      exact ⟨128, by omega, (byt_eq rfl).symm, by rw [← pad_1]; exact nb8_128⟩
    · refine ⟨0, by omega, (byt_gt c d).symm, ?_⟩
      rcases Nat.lt_or_ge i (ptn n) with e9 | e9
      · rw [← pad_2 (by omega) e9]
        exact nb8_0
      · obtain ⟨k, rfl⟩ : ∃ k, i = ptn n + k := ⟨i - ptn n, by omega⟩
        rw [← pad_3 (by omega)]
        exact nb8_s0 k (by omega)
theorem wd_rel {f g : Nat → Int32} {n b k : Nat} (h : REL f g n) (hn : n ≤ 6000) (hb : b < (n + 72) / 64) (hk : k < 16) : wob (fun j => pad g n (64 * b + j)) k = wrb f n b k := by
  have hp := ptn_1 n
  have hq : ptn n + 8 = 64 * ((n + 72) / 64) := by
    unfold ptn
    omega
  by_cases c : b + 1 = (n + 72) / 64 ∧ k = 15
  · have e9 : 64 * b + 60 = ptn n + 4 := by omega
    obtain ⟨c1, rfl⟩ := c
    have e1 : wrb f n b 15 = nI (n * 8) := if_pos ⟨c1, rfl⟩
    rw [e1, ← lo_word n (by omega)]
    show shl (pad g n (64 * b + 60)) 24 ||| shl (pad g n (64 * b + 61) &&& 255) 16 ||| shl (pad g n (64 * b + 62) &&& 255) 8 ||| (pad g n (64 * b + 63) &&& 255) = _
    rw [show 64 * b + 60 = ptn n + 4 + 0 by omega, show 64 * b + 61 = ptn n + 4 + 1 by omega, show 64 * b + 62 = ptn n + 4 + 2 by omega, show 64 * b + 63 = ptn n + 4 + 3 by omega, ← pad_4, ← pad_4, ← pad_4, ← pad_4]
  · have e1 : wrb f n b k = wdk (byt f n) (b * 64 + k * 4) 4 := if_neg c
    rw [e1]
    refine w4 (M := pad g n) (fun j hj => ?_) (fun j hj => by_rel h (by omega))
    show pad g n (64 * b + (4 * k + j)) = pad g n (b * 64 + k * 4 + j)
    rw [show 64 * b + (4 * k + j) = b * 64 + k * 4 + j by omega]
theorem sha_rel {f g : Nat → Int32} {n : Nat} (h : REL f g n) (hn : n ≤ 6000) : ∀ b, b ≤ (n + 72) / 64 → ∀ j, j < 8 → rst (pad g n) b j = stt f n b j
  | 0, _, j, _ => rfl
  | b + 1, hb, j, hj => by
    have ih := sha_rel h hn b (by omega)
    show mxs (wob (fun i => pad g n (64 * b + i))) (rst (pad g n) b) j = mxs (wrb f n b) (stt f n b) j
    exact mxs_cg (fun k hk => wd_rel h hn (by omega) hk) ih j hj
theorem ob_all (x : Int32) {k : Nat} (hk : k < 4) : ∃ n : Nat, n < 256 ∧ ocT x (nI (24 - 8 * k)) = nI n ∧ nb8 (shr x (nI (24 - 8 * k))) = vp_nar .byte (nI n) := by
  rcases (show k = 0 ∨ k = 1 ∨ k = 2 ∨ k = 3 by omega) with c | c | c | c
  · subst c
    exact ob_24 x
  · subst c
    exact ob_16 x
  · subst c
    exact ob_8 x
  · subst c
    exact ob_0 x
theorem dig_rel {f g fo go : Nat → Int32} {n : Nat} (h : REL f g n) (hn : n ≤ 6000) (h1 : ∀ j, j < 32 → fo j = dgb (stt f n ((n + 72) / 64)) j) (h2 : ∀ j, j < 32 → go j = nb8 (shr (rst (pad g n) ((n + 72) / 64) (j / 4)) (nI (24 - 8 * (j % 4))))) : REL fo go 32 := by
  intro j hj
  obtain ⟨m9, a1, a2, a3⟩ := ob_all (stt f n ((n + 72) / 64) (j / 4)) (k := j % 4) (by omega)
  refine ⟨m9, a1, (h1 j hj).trans a2, ?_⟩
  rw [h2 j hj, sha_rel h hn _ (Nat.le_refl _) (j / 4) (by omega)]
  exact a3
theorem sm_nar : ∀ n, n < 256 → smv (nI n) = nI (if 65 ≤ n ∧ n ≤ 90 then n + 32 else n) ∧ nb8 (smv (vp_nar .byte (nI n))) = vp_nar .byte (nI (if 65 ≤ n ∧ n ≤ 90 then n + 32 else n)) := by decide +kernel
theorem nb8_nI : ∀ n, n < 256 → nb8 (nI n) = vp_nar .byte (nI n) := by decide +kernel
def SYM (z : Nat) (w : List (Nat × Nat)) : Prop := ∀ y ∈ w, (y.1 ≤ 1 ∧ y.2 < z) ∨ (y.1 = 2 ∧ y.2 < 256)
theorem SYM.app {z : Nat} {a b : List (Nat × Nat)} (h1 : SYM z a) (h2 : SYM z b) : SYM z (a ++ b) := fun y hy => (List.mem_append.mp hy).elim (h1 y) (h2 y)
theorem SYM.one {z : Nat} {y : Nat × Nat} (h : (y.1 ≤ 1 ∧ y.2 < z) ∨ (y.1 = 2 ∧ y.2 < 256)) : SYM z [y] := fun y9 hy => by
  rw [List.mem_singleton] at hy
  rw [hy]
  exact h
theorem SYM.cons {z : Nat} {y : Nat × Nat} {w : List (Nat × Nat)} (h : (y.1 ≤ 1 ∧ y.2 < z) ∨ (y.1 = 2 ∧ y.2 < 256)) (h2 : SYM z w) : SYM z (y :: w) := fun y9 hy => by
  rcases List.mem_cons.mp hy with q | q
  · rw [q]
    exact h
  · exact h2 y9 q
theorem sym_rng {k b n z : Nat} (hk : k ≤ 1) (h : b + n ≤ z) : SYM z (rng k b n) := fun y hy => by
  unfold rng at hy
  obtain ⟨i, hi, rfl⟩ := List.mem_map.mp hy
  rw [List.mem_range] at hi
  exact Or.inl ⟨hk, by show b + i < z; omega⟩
theorem sym_rvl {T : Nat → Nat} {z : Nat} : ∀ (k i : Nat) (x w : Int32), i + k ≤ z → SYM z (rvl T k i x w) := by
  intro k
  induction k with
  | zero => intro i x w _ y hy; exact absurd hy List.not_mem_nil
  | succ k ih =>
    intro i x w hi
    rw [rvl_s]
    by_cases c0 : T i = 0
    · rw [if_pos c0]
      exact ih (i + 1) x w (by omega)
    rw [if_neg c0]
    by_cases c1 : T i = 1
    · rw [if_pos c1]
      exact ih (i + 1) x x (by omega)
    rw [if_neg c1]
    refine SYM.app ?_ (SYM.cons (Or.inl ⟨Nat.zero_le _, by show i < z; omega⟩) (ih (i + 1) 1 0 (by omega)))
    by_cases c2 : w = 0
    · rw [if_pos c2]
      exact fun y hy => absurd hy List.not_mem_nil
    · rw [if_neg c2]
      exact SYM.one (Or.inr ⟨rfl, by show 32 < 256; omega⟩)
theorem sym_fpl {T : Nat → Nat} {x : Int32} {b c d z : Nat} (h1 : b < c) (h2 : c < d) (h3 : d ≤ z) : SYM z (FPL T x b c d) := by
  by_cases h : x = 0
  · rw [FPL_s h]
    exact sym_rng (Nat.zero_le _) (by omega)
  · rw [FPL_r h]
    exact SYM.app (SYM.app (sym_rng (Nat.le_refl _) (by omega)) (SYM.one (Or.inr ⟨rfl, by show 58 < 256; omega⟩))) (sym_rvl _ _ _ _ (by omega))
theorem sym_blx {T : Nat → Nat} {x : Int32} {z : Nat} : ∀ (k i : Nat) (w : Int32), i + k ≤ z → SYM z (blx T x k i w) := by
  intro k
  induction k with
  | zero => intro i w _ y hy; exact absurd hy List.not_mem_nil
  | succ k ih =>
    intro i w hi
    rw [blx_s]
    by_cases c0 : T i = 0
    · rw [if_pos c0]
      exact SYM.cons (Or.inr ⟨rfl, by show 10 < 256; omega⟩) (ih (i + 1) 0 (by omega))
    rw [if_neg c0]
    by_cases c1 : ¬ x = 0 ∧ T i = 1
    · rw [if_pos c1]
      exact ih (i + 1) 1 (by omega)
    rw [if_neg c1]
    refine SYM.app ?_ (SYM.cons (Or.inl ⟨Nat.zero_le _, by show i < z; omega⟩) (ih (i + 1) 0 (by omega)))
    by_cases c2 : w = 0
    · rw [if_pos c2]
      exact fun y hy => absurd hy List.not_mem_nil
    · rw [if_neg c2]
      exact SYM.one (Or.inr ⟨rfl, by show 32 < 256; omega⟩)
theorem out_1 {f g : Nat → Int32} {z : Nat} {y : Nat × Nat} (h : REL f g z) (hy : (y.1 ≤ 1 ∧ y.2 < z) ∨ (y.1 = 2 ∧ y.2 < 256)) : ∃ n : Nat, n < 256 ∧ evs f y = nI n ∧ nb8 (evs g y) = vp_nar .byte (nI n) := by
  rcases hy with ⟨c1, c2⟩ | ⟨c1, c2⟩
  · obtain ⟨n, a1, a2, a3⟩ := h y.2 c2
    by_cases d : y.1 = 0
    · refine ⟨n, a1, ?_, ?_⟩
      · unfold evs
        rw [if_pos d]
        exact a2
      · unfold evs
        rw [if_pos d, a3]
        exact nb8_nar n a1
    · have d1 : y.1 = 1 := by omega
      obtain ⟨s1, s2⟩ := sm_nar n a1
      refine ⟨(if 65 ≤ n ∧ n ≤ 90 then n + 32 else n), by split <;> omega, ?_, ?_⟩
      · unfold evs
        rw [if_neg d, if_pos d1, a2]
        exact s1
      · unfold evs
        rw [if_neg d, if_pos d1, a3]
        exact s2
  · refine ⟨y.2, c2, ?_, ?_⟩
    · unfold evs
      rw [if_neg (by omega), if_neg (by omega)]
    · unfold evs
      rw [if_neg (by omega), if_neg (by omega)]
      exact nb8_nI y.2 c2
theorem out_rel {f g fo go : Nat → Int32} {w : List (Nat × Nat)} {z : Nat} (h : REL f g z) (hw : SYM z w) (ho : OUTS f fo w) (hm : OUTM g go w) : REL fo go w.length := by
  intro j hj
  have e := List.getElem?_eq_getElem hj
  obtain ⟨n, a1, a2, a3⟩ := out_1 h (hw _ (List.getElem_mem hj))
  exact ⟨n, a1, (ho j _ e).trans a2, (hm j _ e).trans a3⟩
theorem bdc_rel {f g fo go : Nat → Int32} {T U : Nat → Nat} {x : Int32} {b z N P9 : Nat} (hb : b ≤ z) (h : REL f g z) (hT : ∀ j, j < z → T j = U j) (h1 : BDC (evs f) T x b z N fo) (h2 : BDC (fun y => nb8 (evs g y)) U x b z P9 go) : N = P9 ∧ REL fo go N := by
  obtain ⟨q, a1, a2⟩ := h1
  obtain ⟨p9, b1, b2⟩ := h2
  rw [← blx_cg hT (z - b) b 0 (by omega)] at b1 b2
  have e := a1.uniq b1
  subst e
  rcases a2 with ⟨c1, c2, c3, c4⟩ | ⟨c1, c2, c3⟩ <;> rcases b2 with ⟨d1, d2, d3, d4⟩ | ⟨d1, d2, d3⟩
  · refine ⟨by rw [c3, d3], fun j hj => ?_⟩
    obtain ⟨n, e1, e2, e3⟩ := out_1 (y := (2, 10)) h (Or.inr ⟨rfl, by show 10 < 256; omega⟩)
    rw [show j = 0 by omega]
    exact ⟨n, e1, c4.trans e2, d4.trans e3⟩
  · exact absurd ⟨c1, c2⟩ d1
  · exact absurd ⟨d1, d2⟩ c1
  · refine ⟨by rw [c2, d2], fun j hj => ?_⟩
    have hl : j < (blx T x (z - b) b 0 ++ [(2, 10)]).length := by have h9 := a1.1; omega
    have e := List.getElem?_eq_getElem hl
    obtain ⟨n, e1, e2, e3⟩ := out_1 h ((SYM.app (sym_blx (T := T) (x := x) (z - b) b 0 (by omega)) (SYM.one (y := (2, 10)) (Or.inr ⟨rfl, by show 10 < 256; omega⟩))) _ (List.getElem_mem hl))
    exact ⟨n, e1, (c3 j _ (by omega) e).trans e2, (d3 j _ (by omega) e).trans e3⟩
theorem hsc_rel {f g fo go f2 g2 : Nat → Int32} {z zo c2 c3 ze : Nat} {D E : Nat → ETY} (h : REL f g z) (hd : DREL D E ze) (hr : REL fo go zo) (h1 : (¬ NM f 0 z = true ∧ c2 = zo ∧ f2 = fo) ∨ (NM f 0 z = true ∧ c2 = z - HST (UND f z) f z D ze ∧ ∀ j, j < c2 → f2 j = f (HST (UND f z) f z D ze + j))) (h2 : (¬ NM g 0 z = true ∧ c3 = zo ∧ g2 = go) ∨ (NM g 0 z = true ∧ c3 = z - HST (UNM g z) g z E ze ∧ ∀ j, j < c3 → g2 j = g (HST (UNM g z) g z E ze + j))) : c2 = c3 ∧ REL f2 g2 c2 := by
  have e1 := NM_rel (a := 0) h (Nat.le_refl z)
  rcases h1 with ⟨a1, a2, a3⟩ | ⟨a1, a2, a3⟩ <;> rcases h2 with ⟨b1, b2, b3⟩ | ⟨b1, b2, b3⟩
  · rw [a2, b2, a3, b3]
    exact ⟨rfl, hr⟩
  · exact absurd (e1.trans b1) a1
  · exact absurd (e1.symm.trans a1) b1
  · have e2 := hst_rel h a1 hd
    rw [← e2] at b2 b3
    refine ⟨by rw [a2, b2], fun j hj => ?_⟩
    obtain ⟨n, d1, d2, d3⟩ := h (HST (UND f z) f z D ze + j) (by omega)
    exact ⟨n, d1, (a3 j hj).trans d2, (b3 j (by omega)).trans d3⟩
theorem LRL.pfo {n : Nat} {bb : Int32} {zm : Nat} {fL sA sB sC : Nat → Int32} {nf bd mm : Nat} {gm : Nat → Nat → Nat} {gl : Nat → Int32} {x1 x2 : Int32} {zo c2 c3 : Nat} {fo go f2 g2 : Nat → Int32} (h : LRL n bb zm fL sA sB sC nf bd mm gm gl) (hn : n ≤ 20) (hr : REL fo go zo) (h1 : (¬ (¬ x1 < 0 ∧ x1 < nI n) ∧ c2 = zo ∧ f2 = fo) ∨ (∃ j, j < n ∧ x1 = nI j ∧ c2 = (FPL (clf fL) x2 (gm 0 j) (gm 1 j) (cln sC j)).length ∧ OUTS fL f2 (FPL (clf fL) x2 (gm 0 j) (gm 1 j) (cln sC j)))) (h2 : (¬ (¬ x1 < 0 ∧ x1 < nI nf) ∧ c3 = zo ∧ g2 = go) ∨ (∃ j, j < nf ∧ x1 = nI j ∧ c3 = (FPL (clr gl) x2 (gm 0 j) (gm 1 j) (cln sC j)).length ∧ OUTM gl g2 (FPL (clr gl) x2 (gm 0 j) (gm 1 j) (cln sC j)))) : c2 = c3 ∧ REL f2 g2 c2 := by
  have hp := h.pos
  have hnf := h.1
  rcases h1 with ⟨a1, a2, a3⟩ | ⟨j, a1, a2, a3, a4⟩ <;> rcases h2 with ⟨b1, b2, b3⟩ | ⟨i, b1, b2, b3, b4⟩
  · rw [a2, b2, a3, b3]
    exact ⟨rfl, hr⟩
  · exact absurd ⟨by rw [b2]; exact nI_pos (by omega), by rw [b2]; exact (nI_ltI (by omega) (by omega)).mpr (by omega)⟩ a1
  · exact absurd ⟨by rw [a2]; exact nI_pos (by omega), by rw [a2]; exact (nI_ltI (by omega) (by omega)).mpr (by omega)⟩ b1
  · have e : j = i := (nI_eq (by omega) (by omega)).mp (a2.symm.trans b2)
    subst e
    obtain ⟨q1, q2, q3, -, -, -⟩ := h.2.resolve_left (by omega)
    obtain ⟨-, -, -, p1, p2, -⟩ := hp.1 j a1
    have p3 := (hp.2 j b1).2.2.1
    have ec := FPL_cg (x := x2) (b := gm 0 j) q3.cl p3 p2
    rw [← ec] at b3 b4
    refine ⟨by rw [a3, b3], ?_⟩
    rw [a3]
    exact out_rel q3 (sym_fpl p1 p2 p3) a4 b4
theorem LRL.pbo {n : Nat} {bb : Int32} {zm : Nat} {fL sA sB sC : Nat → Int32} {nf bd mm : Nat} {gm : Nat → Nat → Nat} {gl : Nat → Int32} {x : Int32} {zo c2 c3 : Nat} {fo go f2 g2 : Nat → Int32} (h : LRL n bb zm fL sA sB sC nf bd mm gm gl) (hr : REL fo go zo) (h1 : (n = 0 ∧ c2 = zo ∧ f2 = fo) ∨ (¬ n = 0 ∧ BDC (evs fL) (clf fL) x bd zm c2 f2)) (h2 : (nf = 0 ∧ c3 = zo ∧ g2 = go) ∨ (¬ nf = 0 ∧ BDC (fun y => nb8 (evs gl y)) (clr gl) x bd mm c3 g2)) : c2 = c3 ∧ REL f2 g2 c2 := by
  have hnf := h.1
  rcases h1 with ⟨a1, a2, a3⟩ | ⟨a1, a2⟩ <;> rcases h2 with ⟨b1, b2, b3⟩ | ⟨b1, b2⟩
  · rw [a2, b2, a3, b3]
    exact ⟨rfl, hr⟩
  · exact absurd (by omega) b1
  · exact absurd (by omega) a1
  · obtain ⟨q1, q2, q3, -, q5, -⟩ := h.2.resolve_left a1
    rw [q1] at a2
    exact bdc_rel q5 q3 q3.cl a2 b2
theorem tn_k {T : Nat → Nat} {b k9 g9 s9 k g st q w : Nat} {y : Int32} (h : tnT T b k9 g9 s9 = some (k, g, st, q, w, y)) : k = k9 ∧ ¬ k9 = 0 := by
  unfold tnT at h
  by_cases c0 : k9 = 0
  · rw [if_pos c0] at h
    exact (nomatch h)
  · refine ⟨?_, c0⟩
    rw [if_neg c0] at h
    by_cases c1 : NETK k9
    · rw [if_pos c1] at h
      cases e : btT T b (fdT T 47 s9 b) with
      | none =>
        rw [e] at h
        exact (nomatch h)
      | some w9 =>
        rw [e] at h
        have h : (if 32 < w9 then none else if k9 = 5 then tnQ k9 g9 s9 (fdT T 47 s9 b) w9 (qdT T s9 (fdT T 47 s9 b)) else @ite (Option TRA) ((T (s9 - 1) = 58 → HSW T s9 (fdT T 47 s9 b)) ∧ (¬ T (s9 - 1) = 58 → s9 = fdT T 47 s9 b)) (Classical.propDecidable _) (some (k9, g9, s9, fdT T 47 s9 b, w9, 0)) none) = some (k, g, st, q, w, y) := h
        by_cases c2 : 32 < w9
        · rw [if_pos c2] at h
          exact (nomatch h)
        · rw [if_neg c2] at h
          by_cases c5 : k9 = 5
          · rw [if_pos c5] at h
            cases e2 : qdT T s9 (fdT T 47 s9 b) with
            | none =>
              rw [e2] at h
              exact (nomatch h)
            | some y9 =>
              rw [e2] at h
              by_cases c4 : y9.1 = 4
              · have h8 : some (k9, g9, s9, fdT T 47 s9 b, w9, y9.2) = some (k, g, st, q, w, y) := (if_pos c4).symm.trans h
                have h7 : k9 = k := congrArg (fun t : TRA => t.1) (Option.some.inj h8)
                exact h7.symm
              · have h8 : none = some (k, g, st, q, w, y) := (if_neg c4).symm.trans h
                exact (nomatch h8)
          · rw [if_neg c5] at h
            by_cases c6 : (T (s9 - 1) = 58 → HSW T s9 (fdT T 47 s9 b)) ∧ (¬ T (s9 - 1) = 58 → s9 = fdT T 47 s9 b)
            · rw [if_pos c6] at h
              have h7 : k9 = k := congrArg (fun t : TRA => t.1) (Option.some.inj h)
              exact h7.symm
            · rw [if_neg c6] at h
              exact (nomatch h)
    · rw [if_neg c1] at h
      by_cases c6 : HSTK k9 → HSW T s9 b
      · rw [if_pos c6] at h
        have h7 : k9 = k := congrArg (fun t : TRA => t.1) (Option.some.inj h)
        exact h7.symm
      · rw [if_neg c6] at h
        exact (nomatch h)
theorem kd_8 {T : Nat → Nat} {a b : Nat} : (kdT T a b).1 ≤ 8 := by
  unfold kdT
  by_cases c1 : BGW T a b 9 [114, 101, 100, 105, 114, 101, 99, 116, 61]
  · rw [if_pos c1]
    show 7 ≤ 8
    omega
  · rw [if_neg c1]
    by_cases c2 : OTH T a b
    · rw [if_pos c2]
      exact Nat.le_refl 8
    · rw [if_neg c2]
      unfold kdW
      by_cases d1 : ISW T (wdS T a) b 3 [97, 108, 108]
      · rw [if_pos d1]
        show 1 ≤ 8
        omega
      · rw [if_neg d1]
        by_cases d2 : BGW T (wdS T a) b 8 [105, 110, 99, 108, 117, 100, 101, 58]
        · rw [if_pos d2]
          show 2 ≤ 8
          omega
        · rw [if_neg d2]
          by_cases d3 : BGW T (wdS T a) b 7 [101, 120, 105, 115, 116, 115, 58]
          · rw [if_pos d3]
            show 6 ≤ 8
            omega
          · rw [if_neg d3]
            by_cases d4 : BGW T (wdS T a) b 4 [105, 112, 52, 58]
            · rw [if_pos d4]
              show 5 ≤ 8
              omega
            · rw [if_neg d4]
              by_cases d5 : BGW T (wdS T a) b 2 [109, 120]
              · rw [if_pos d5]
                show 4 ≤ 8
                omega
              · rw [if_neg d5]
                by_cases d7 : BGW T (wdS T a) b 1 [97]
                · rw [if_pos d7]
                  show 3 ≤ 8
                  omega
                · rw [if_neg d7]
                  exact Nat.zero_le _
theorem tr_k8 {T : Nat → Nat} {a b k g st q w : Nat} {y : Int32} (h : trT T a b = some (k, g, st, q, w, y)) : 1 ≤ k ∧ k ≤ 8 := by
  have h1 := tn_k h
  have h2 := kd_8 (T := T) (a := a) (b := b)
  omega
theorem cdv_nar : ∀ n, n < 256 → cdv (nI n) = cdv (vp_nar .byte (nI n)) := by decide +kernel
theorem nar_128 : ∀ n, n < 128 → vp_nar .byte (nI n) = nI n := by decide +kernel
theorem tc_rel {f g : Nat → Int32} {z : Nat} (h : REL f g z) : TC f z = TC g z := by
  funext j
  by_cases c : j < z
  · rw [tc_at c, tc_at c]
    obtain ⟨n, h1, h2, h3⟩ := h j c
    rw [h2, h3]
    exact cdv_nar n h1
  · have e1 : atn f z j = (-1) := if_neg c
    have e2 : atn g z j = (-1) := if_neg c
    show cdv (atn f z j) = cdv (atn g z j)
    rw [e1, e2]
theorem sam_rel {d e : ETY} {oo : Int32} {y : Nat} {U : List Nat} (h : DR1 d e) (hA : A8 U) : SAMN d oo y (faU U) ↔ SAMN e oo y (faU U) := by
  obtain ⟨-, -, h3, h4, -, -⟩ := h
  have hc : ∀ j, j < d.2.2.1 → (d.2.2.2.1 j = faU U j ↔ e.2.2.2.1 j = faU U j) := fun j hj => by
    obtain ⟨n, a1, a2, a3⟩ := h4 j hj
    have h8 := hA j
    rw [a2, a3]
    show nI n = nI (U.getD j 0) ↔ vp_nar .byte (nI n) = nI (U.getD j 0)
    constructor
    · intro q
      have q1 := (nI_eq (by omega) (by omega)).mp q
      rw [q1]
      exact nar_128 _ h8
    · intro q
      rw [← nar_128 _ h8] at q
      have e1 := nar_inv n a1
      rw [q, nar_inv _ (by omega)] at e1
      rw [e1]
  constructor
  · rintro ⟨q1, q2, q3⟩
    exact ⟨q1, by omega, fun j hj => (hc j (by omega)).mp (q3 j (by omega))⟩
  · rintro ⟨q1, q2, q3⟩
    exact ⟨q1, by omega, fun j hj => (hc j hj).mpr (q3 j (by omega))⟩
theorem has_rel {D E : Nat → ETY} {ze : Nat} {x oo : Int32} {y : Nat} {U : List Nat} (h : DREL D E ze) (hA : A8 U) : HAS D ze x oo y (faU U) ↔ HAS E ze x oo y (faU U) := by
  constructor
  · rintro ⟨k, h1, h2, h3⟩
    exact ⟨k, h1, (h k h1).1.symm.trans h2, (sam_rel (h k h1) hA).mp h3⟩
  · rintro ⟨k, h1, h2, h3⟩
    exact ⟨k, h1, (h k h1).1.trans h2, (sam_rel (h k h1) hA).mpr h3⟩
theorem had_rel {D E : Nat → ETY} {ze w : Nat} {x oo : Int32} {y : Nat} {U : List Nat} (h : DREL D E ze) (hA : A8 U) : HAD D ze x w oo y (faU U) ↔ HAD E ze x w oo y (faU U) := by
  constructor
  · rintro ⟨k, h1, h2, h3, h4⟩
    exact ⟨k, h1, (h k h1).1.symm.trans h2, by rw [← (h k h1).2.1]; exact h3, (sam_rel (h k h1) hA).mp h4⟩
  · rintro ⟨k, h1, h2, h3, h4⟩
    exact ⟨k, h1, (h k h1).1.trans h2, by rw [(h k h1).2.1]; exact h3, (sam_rel (h k h1) hA).mpr h4⟩
theorem otq_rel {d e : ETY} {oo : Int32} {y k : Nat} {l : List Nat} {U : List Nat} (h : DR1 d e) (hA : A8 U) : OTQ d oo y (faU U) k l ↔ OTQ e oo y (faU U) k l := by
  have h5 := h.2.2.2.2.1
  have h6 := tc_rel h.2.2.2.2.2
  unfold OTQ
  rw [sam_rel h hA, h.1, h6, h5]
theorem otw_rel {D E : Nat → ETY} {oo : Int32} {y k : Nat} {l : List Nat} {U : List Nat} {ze : Nat} (h : DREL D E ze) (hA : A8 U) : ∀ n, n ≤ ze → otw D oo y (faU U) k l n = otw E oo y (faU U) k l n := by
  intro n
  induction n with
  | zero => intro _; rfl
  | succ n ih =>
    intro hn
    rw [otw_s, otw_s, ih (by omega)]
    have h9 := otq_rel (oo := oo) (y := y) (k := k) (l := l) (h n (by omega)) hA
    by_cases c : OTQ (D n) oo y (faU U) k l
    · rw [if_pos c, if_pos (h9.mp c)]
    · rw [if_neg c, if_neg (fun q => c (h9.mpr q))]
theorem samv_rel {d e d2 e2 : ETY} (h : DR1 d e) (h2 : DR1 d2 e2) : SAMN d 0 d2.2.2.2.2.1 d2.2.2.2.2.2 ↔ SAMN e 0 e2.2.2.2.2.1 e2.2.2.2.2.2 := by
  obtain ⟨-, -, h3, h4, -, -⟩ := h
  obtain ⟨-, -, -, -, g5, g6⟩ := h2
  constructor
  · rintro ⟨q1, q2, q3⟩
    exact ⟨q1, by omega, fun j hj => (h4.eqq g6 (by omega) (by omega)).mp (q3 j (by omega))⟩
  · rintro ⟨q1, q2, q3⟩
    exact ⟨q1, by omega, fun j hj => (h4.eqq g6 (by omega) (by omega)).mpr (q3 j (by omega))⟩
theorem hasv_rel {D E : Nat → ETY} {ze : Nat} {x : Int32} {d e : ETY} (h : DREL D E ze) (h2 : DR1 d e) : HAS D ze x 0 d.2.2.2.2.1 d.2.2.2.2.2 ↔ HAS E ze x 0 e.2.2.2.2.1 e.2.2.2.2.2 := by
  constructor
  · rintro ⟨k, h1, g2, h3⟩
    exact ⟨k, h1, (h k h1).1.symm.trans g2, (samv_rel (h k h1) h2).mp h3⟩
  · rintro ⟨k, h1, g2, h3⟩
    exact ⟨k, h1, (h k h1).1.trans g2, (samv_rel (h k h1) h2).mpr h3⟩
theorem hadv_rel {D E : Nat → ETY} {ze w : Nat} {x : Int32} {d e : ETY} (h : DREL D E ze) (h2 : DR1 d e) : HAD D ze x w 0 d.2.2.2.2.1 d.2.2.2.2.2 ↔ HAD E ze x w 0 e.2.2.2.2.1 e.2.2.2.2.2 := by
  constructor
  · rintro ⟨k, h1, g2, h3, h4⟩
    exact ⟨k, h1, (h k h1).1.symm.trans g2, by rw [← (h k h1).2.1]; exact h3, (samv_rel (h k h1) h2).mp h4⟩
  · rintro ⟨k, h1, g2, h3, h4⟩
    exact ⟨k, h1, (h k h1).1.trans g2, by rw [(h k h1).2.1]; exact h3, (samv_rel (h k h1) h2).mpr h4⟩
theorem lew_rel {D E : Nat → ETY} {ze : Nat} {oo : Int32} {y : Nat} {U : List Nat} {ad : Int32} {w : Nat} (h : DREL D E ze) (hA : A8 U) : ∀ n k, k + n ≤ ze → lew D ze oo y (faU U) ad w n k = lew E ze oo y (faU U) ad w n k := by
  intro n
  induction n with
  | zero => intro k _; rfl
  | succ n ih =>
    intro k hk
    have hd := h k (by omega)
    rw [lew_s, lew_s, ih (k + 1) (by omega)]
    have e1 : ((D k).1 = 2 ∧ SAMN (D k) oo y (faU U)) ↔ ((E k).1 = 2 ∧ SAMN (E k) oo y (faU U)) := by
      rw [sam_rel hd hA, hd.1]
    have e2 := hasv_rel (x := 3) h hd
    have e3 := hadv_rel (x := ad) (w := w) h hd
    by_cases c1 : (D k).1 = 2 ∧ SAMN (D k) oo y (faU U)
    · rw [if_pos c1, if_pos (e1.mp c1)]
      by_cases c2 : HAS D ze 3 0 (D k).2.2.2.2.1 (D k).2.2.2.2.2
      · rw [if_pos c2, if_pos (e2.mp c2)]
      · rw [if_neg c2, if_neg (fun q => c2 (e2.mpr q))]
        by_cases c3 : HAD D ze ad w 0 (D k).2.2.2.2.1 (D k).2.2.2.2.2
        · rw [if_pos c3, if_pos (e3.mp c3)]
        · rw [if_neg c3, if_neg (fun q => c3 (e3.mpr q))]
    · rw [if_neg c1, if_neg (fun q => c1 (e1.mpr q))]
theorem lkU_rel {D E : Nat → ETY} {ze : Nat} {U : List Nat} {ad : Int32} {w k vo : Nat} (h : DREL D E ze) (hA : A8 U) : lkU D ze ad U w k vo = lkU E ze ad U w k vo := by
  unfold lkU lkW
  rw [lew_rel h hA ze 0 (by omega)]
  have e1 := has_rel (x := 3) (oo := ooU U) (y := yU U) h hA
  have e2 := has_rel (x := skW k) (oo := ooU U) (y := yU U) h hA
  have e3 := had_rel (x := ad) (w := w) (oo := ooU U) (y := yU U) h hA
  by_cases c1 : HAS D ze 3 (ooU U) (yU U) (faU U)
  · rw [if_pos c1, if_pos (e1.mp c1)]
  · rw [if_neg c1, if_neg (fun q => c1 (e1.mpr q))]
    by_cases c2 : HAS D ze (skW k) (ooU U) (yU U) (faU U)
    · rw [if_pos c2, if_pos (e2.mp c2)]
      by_cases c3 : k = 4
      · rw [if_pos c3, if_pos c3]
      · rw [if_neg c3, if_neg c3]
        by_cases c4 : k = 6 ∨ HAD D ze ad w (ooU U) (yU U) (faU U)
        · rw [if_pos c4, if_pos (c4.imp id e3.mp)]
        · rw [if_neg c4, if_neg (fun q => c4 (q.imp id e3.mpr))]
    · rw [if_neg c2, if_neg (fun q => c2 (e2.mpr q))]
def S8 (S : SDR) : Prop := A8 S.1 ∧ A8 S.2.1 ∧ A8 S.2.2.1 ∧ A8 S.2.2.2
def RR (R1 R2 : CKR) : Prop := ∀ U c v, A8 U → R1 U c v = R2 U c v
theorem mt_rel {D E : Nat → ETY} {ze : Nat} {S : SDR} {ad : Int32} {R1 R2 : CKR} {T : Nat → Nat} {U : List Nat} {t : TRA} {c v : Nat} (h : DREL D E ze) (hA : A8 U) (hS : S8 S) (hR : RR R1 R2) (ht : (t.1 = 2 ∨ t.1 = 3 ∨ t.1 = 4 ∨ t.1 = 6) → t.2.2.1 = t.2.2.2.1 ∨ HSW T t.2.2.1 t.2.2.2.1) (ht0 : t.1 = 0 → t.2.2.1 = t.2.2.2.1) (ht8 : t.1 ≤ 8) : mtW D ze S ad R1 T U t c v = mtW E ze S ad R2 T U t c v := by
  unfold mtW
  by_cases c1 : t.1 = 1
  · rw [if_pos c1, if_pos c1]
  · rw [if_neg c1, if_neg c1]
    by_cases c5 : t.1 = 5
    · rw [if_pos c5, if_pos c5]
    · rw [if_neg c5, if_neg c5]
      by_cases c7 : t.1 = 7 ∨ t.1 = 8
      · rw [if_pos c7, if_pos c7]
      · rw [if_neg c7, if_neg c7]
        have hx : A8 (exT T t.2.2.1 t.2.2.2.1 S U) := by
          refine a8_ex ?_ hS hA
          by_cases c0 : t.1 = 0
          · exact Or.inl (ht0 c0)
          · exact ht (by omega)
        rw [hR _ (c + 1) v hx, lkU_rel h hx]
theorem tr_ok {T : Nat → Nat} {a b : Nat} : (((trT T a b).getD NOT).1 = 2 ∨ ((trT T a b).getD NOT).1 = 3 ∨ ((trT T a b).getD NOT).1 = 4 ∨ ((trT T a b).getD NOT).1 = 6 ∨ ((trT T a b).getD NOT).1 = 7 → ((trT T a b).getD NOT).2.2.1 = ((trT T a b).getD NOT).2.2.2.1 ∨ HSW T ((trT T a b).getD NOT).2.2.1 ((trT T a b).getD NOT).2.2.2.1) := by
  cases e : trT T a b with
  | none => intro _; exact Or.inl rfl
  | some t =>
    intro q
    obtain ⟨k, g, st, q9, w, y⟩ := t
    exact tr_hs e q
theorem tl_rel {D E : Nat → ETY} {ze : Nat} {S : SDR} {ad : Int32} {R1 R2 : CKR} {T : Nat → Nat} {z : Nat} {U : List Nat} (h : DREL D E ze) (hA : A8 U) (hS : S8 S) (hR : RR R1 R2) (hk : ∀ i, (((trT T i (fdT T 32 i z)).getD NOT).1 = 0 → ((trT T i (fdT T 32 i z)).getD NOT).2.2.1 = ((trT T i (fdT T 32 i z)).getD NOT).2.2.2.1) ∧ ((trT T i (fdT T 32 i z)).getD NOT).1 ≤ 8) : ∀ n i c v, tlw D ze S ad R1 T z U n i c v = tlw E ze S ad R2 T z U n i c v := by
  intro n
  induction n with
  | zero => intro i c v; rfl
  | succ n ih =>
    intro i c v
    rw [tlw_s, tlw_s, mt_rel h hA hS hR (fun q => tr_ok (by omega)) (hk i).1 (hk i).2]
    by_cases c1 : STT T i
    · rw [if_pos c1, if_pos c1]
      by_cases c2 : (mtW E ze S ad R2 T U ((trT T i (fdT T 32 i z)).getD NOT) c v).1 = 0
      · rw [if_pos c2, if_pos c2]
        exact ih _ _ _
      · rw [if_neg c2, if_neg c2]
    · rw [if_neg c1, if_neg c1]
      exact ih _ _ _
theorem tr_08 {T : Nat → Nat} {a b : Nat} : (((trT T a b).getD NOT).1 = 0 → ((trT T a b).getD NOT).2.2.1 = ((trT T a b).getD NOT).2.2.2.1) ∧ ((trT T a b).getD NOT).1 ≤ 8 := by
  cases e : trT T a b with
  | none => exact ⟨fun _ => rfl, Nat.zero_le _⟩
  | some t =>
    obtain ⟨k, g, st, q, w, y⟩ := t
    rcases tr_k8 e with ⟨k1, k2⟩
    exact ⟨fun c => absurd c (by show ¬ k = 0; omega), by show k ≤ 8; omega⟩
theorem fl_rel {S : SDR} {R1 R2 : CKR} {T : Nat → Nat} {U : List Nat} {t : TRA} {c v : Nat} (hA : A8 U) (hS : S8 S) (hR : RR R1 R2) (ht : t.2.2.1 = t.2.2.2.1 ∨ HSW T t.2.2.1 t.2.2.2.1) : flW S R1 T U t c v = flW S R2 T U t c v := by
  unfold flW
  rw [hR _ (c + 1) v (a8_ex ht hS hA)]
theorem ct_rel {D E : Nat → ETY} {ze : Nat} {S : SDR} {ad : Int32} {R1 R2 : CKR} {T : Nat → Nat} {z : Nat} {U : List Nat} {c v : Nat} (h : DREL D E ze) (hA : A8 U) (hS : S8 S) (hR : RR R1 R2) : ctW D ze S ad R1 T z U c v (rtT T z) = ctW E ze S ad R2 T z U c v (rtT T z) := by
  cases e : rtT T z with
  | none => rfl
  | some rd =>
    show cfW S R1 T z U rd (tlw D ze S ad R1 T z U (z - 7) 7 c v) = cfW S R2 T z U rd (tlw E ze S ad R2 T z U (z - 7) 7 c v)
    rw [tl_rel h hA hS hR (fun i => tr_08)]
    generalize tlw E ze S ad R2 T z U (z - 7) 7 c v = X
    obtain ⟨o, c9, v9⟩ := X
    cases o with
    | some x => rfl
    | none =>
      show (if rd = 0 then (1, c9, v9) else flW S R1 T U ((trT T rd (fdT T 32 rd z)).getD NOT) c9 v9) = (if rd = 0 then (1, c9, v9) else flW S R2 T U ((trT T rd (fdT T 32 rd z)).getD NOT) c9 v9)
      by_cases c0 : rd = 0
      · rw [if_pos c0, if_pos c0]
      · rw [if_neg c0, if_neg c0]
        obtain ⟨-, -, -, t, t1, t2⟩ := (rtw_in _ _ _ _ e).resolve_left c0
        refine fl_rel hA hS hR (tr_ok (Or.inr (Or.inr (Or.inr (Or.inr ?_)))))
        rw [t1]
        exact t2
theorem chB_rel {D E : Nat → ETY} {ze : Nat} {S : SDR} {ad : Int32} {R1 R2 : CKR} (h : DREL D E ze) (hz : ze ≤ 40) (hS : S8 S) (hR : RR R1 R2) : RR (chB D ze S ad R1) (chB E ze S ad R2) := by
  intro U c v hA
  have e1 := has_rel (x := 3) (oo := ooU U) (y := yU U) h hA
  have e2 := otw_rel (oo := ooU U) (y := yU U) (k := 6) (l := SPF) h hA ze (Nat.le_refl _)
  by_cases c1 : HAS D ze 3 (ooU U) (yU U) (faU U)
  · rw [chB_t c1, chB_t (e1.mp c1)]
  · have c1' : ¬ HAS E ze 3 (ooU U) (yU U) (faU U) := fun q => c1 (e1.mpr q)
    by_cases c2 : otw D (ooU U) (yU U) (faU U) 6 SPF ze < 0
    · rw [chB_o c1 c2, chB_o c1' (by rw [← e2]; exact c2), e2]
    · obtain ⟨j, j1, j2, -⟩ := otw_ge ze c2
      have hd := h j j1
      rw [chB_c c1 j2 (by omega), chB_c c1' (e2.symm.trans j2) (by omega), tc_rel hd.2.2.2.2.2, hd.2.2.2.2.1]
      exact ct_rel h hA hS hR
theorem CHW_rel {D E : Nat → ETY} {ze : Nat} {S : SDR} {ad : Int32} (h : DREL D E ze) (hz : ze ≤ 40) (hS : S8 S) : ∀ n, RR (CHW D ze S ad n) (CHW E ze S ad n)
  | 0 => fun _ _ _ _ => rfl
  | n + 1 => chB_rel h hz hS (CHW_rel h hz hS n)
theorem tpL_rel {f g : Nat → Int32} {z : Nat} (h : REL f g z) : ∀ n a, a + n ≤ z → tpL f a n = tpL g a n := by
  intro n
  induction n with
  | zero => intro a _; rfl
  | succ n ih =>
    intro a ha
    obtain ⟨m, h1, h2, h3⟩ := h a (by omega)
    show cdv (f a) :: tpL f (a + 1) n = cdv (g a) :: tpL g (a + 1) n
    rw [ih (a + 1) (by omega), h2, h3, cdv_nar m h1]
theorem tpL_spl {f : Nat → Int32} : ∀ n a m, tpL f a (n + m) = tpL f a n ++ tpL f (a + n) m := by
  intro n
  induction n with
  | zero => intro a m; rw [Nat.zero_add]; rfl
  | succ n ih =>
    intro a m
    rw [show n + 1 + m = (n + m) + 1 by omega]
    show cdv (f a) :: tpL f (a + 1) (n + m) = cdv (f a) :: (tpL f (a + 1) n ++ tpL f (a + (n + 1)) m)
    rw [ih (a + 1) m, show a + 1 + n = a + (n + 1) by omega]
theorem sd_rel {f g : Nat → Int32} {z k : Nat} {x : Int32} (h : REL f g z) (hf : FST f 64 z k) (hk : k < z) : sdW f z k x = sdM (tpL g 0 k) (tpL g (k + 1) (z - (k + 1))) (nI (xN x)) := by
  have e1 := tpL_rel h z 0 (by omega)
  have e2 := tpL_rel h k 0 (by omega)
  have e3 := tpL_rel h (z - (k + 1)) (k + 1) (by omega)
  have e4 : tpL f 0 z = tpL f 0 k ++ [64] ++ tpL f (k + 1) (z - (k + 1)) := by
    have s1 := tpL_spl (f := f) k 0 (1 + (z - (k + 1)))
    have s2 := tpL_spl (f := f) 1 (0 + k) (z - (k + 1))
    rw [show k + (1 + (z - (k + 1))) = z by omega] at s1
    rw [s1, s2, Nat.zero_add]
    have s3 : tpL f k 1 = [64] := by
      show cdv (f k) :: [] = [64]
      rw [hf.2.2.resolve_left (by omega)]
      rfl
    rw [s3, List.append_assoc]
  unfold sdW sdM
  rw [e4, e2, e3, xN_e]
theorem nmw_sh {f : Nat → Int32} {a : Nat} : ∀ k i p, nmw f k (a + i) p = nmw (fun j => f (a + j)) k i p := by
  intro k
  induction k with
  | zero => intro i p; rfl
  | succ k ih =>
    intro i p
    show (if f (a + i) = 46 then (if p = 0 then false else nmw f k (a + i + 1) 0) else if p = 20 ∨ OKC (f (a + i)) = false then false else nmw f k (a + i + 1) (p + 1)) = (if f (a + i) = 46 then (if p = 0 then false else nmw (fun j => f (a + j)) k (i + 1) 0) else if p = 20 ∨ OKC (f (a + i)) = false then false else nmw (fun j => f (a + j)) k (i + 1) (p + 1))
    rw [show a + i + 1 = a + (i + 1) by omega, ih, ih]
theorem NM_sh {f : Nat → Int32} {a n : Nat} : NM f a (a + n) = NM (fun j => f (a + j)) 0 n := by
  unfold NM
  have h9 := nmw_sh (f := f) (a := a) n 0 0
  rw [Nat.add_zero] at h9
  rw [show a + n - a = n by omega, Nat.sub_zero, h9]
  congr 1
  exact decide_eq_decide.mpr (by omega)
theorem nm_tp {g : Nat → Int32} {a n : Nat} (h : NM g a (a + n) = true) : NM (faU (tpL g a n)) 0 (tpL g a n).length = true := by
  refine nm_src (f := fun j => g (a + j)) (y := n) (tp_src (fun j hj => NM_cd h (a + j) (by omega) (by omega)) (fun _ _ => rfl)) ?_
  rw [← NM_sh]
  exact h
def SRL (SD : SDR) (aS vS : Int32) (fm sn : Nat) (LC DN : List Nat) : Prop := (vS = 0 ∧ sn = 0) ∨ (¬ vS = 0 ∧ ¬ sn = 0 ∧ aS = nI fm ∧ SD = sdM LC DN (nI fm) ∧ S8 SD ∧ NM (faU DN) 0 DN.length = true)
def sdq (gs : Option Nat) (SD : SDR) (f : Nat → Int32) (z : Nat) (x : Int32) : SDR := match gs with
  | none => SD
  | some k => sdW f z k x
def adq (gs : Option Nat) (aS x : Int32) : Int32 := match gs with
  | none => aS
  | some _ => x
def v1q (gs : Option Nat) (vS : Int32) : Int32 := match gs with
  | none => vS
  | some _ => 1
def lcq (gs : Option Nat) (LC : List Nat) (g : Nat → Int32) : List Nat := match gs with
  | none => LC
  | some k => tpL g 0 k
def dnq (gs : Option Nat) (DN : List Nat) (g : Nat → Int32) (z : Nat) : List Nat := match gs with
  | none => DN
  | some k => tpL g (k + 1) (z - (k + 1))
theorem sd_cut {cs : Nat → ClassId} {F2 : Nat → va_E} {ck di ca0 ca1 ca2 ca3 cnm cte c9 u9 z : Nat} {gs : Option Nat} {SD : SDR} {aS vS x : Int32} {f : Nat → Int32} (h : (gs = none ∧ F2 ck = .inr (1, [.ref di, .ref ca0, .ref ca1, .ref ca2, .ref ca3, .ref cnm, .ref cte, .int aS, .int vS, .int (nI c9), .int (nI u9)]) ∧ (vS = 0 ∨ SNP cs F2 ca0 ca1 ca2 ca3 SD)) ∨ (∃ k, gs = some k ∧ F2 ck = .inr (1, [.ref di, .ref ca0, .ref ca1, .ref ca2, .ref ca3, .ref cnm, .ref cte, .int x, .int 1, .int (nI c9), .int (nI u9)]) ∧ SNP cs F2 ca0 ca1 ca2 ca3 (sdW f z k x))) : F2 ck = .inr (1, [.ref di, .ref ca0, .ref ca1, .ref ca2, .ref ca3, .ref cnm, .ref cte, .int (adq gs aS x), .int (v1q gs vS), .int (nI c9), .int (nI u9)]) ∧ (v1q gs vS = 0 ∨ SNP cs F2 ca0 ca1 ca2 ca3 (sdq gs SD f z x)) := by
  rcases h with ⟨rfl, h1, h2⟩ | ⟨k, rfl, h1, h2⟩
  · exact ⟨h1, h2⟩
  · exact ⟨h1, Or.inr h2⟩
theorem sn_cut {cs : Nat → ClassId} {F2 : Nat → va_E} {lc dm sn z : Nat} {gs : Option Nat} {LC DN : List Nat} {g : Nat → Int32} {Q : Prop} (h : (gs = none ∧ Q) ∨ (∃ k, gs = some k ∧ TXM cs F2 lc 30 (tpL g 0 k) ∧ TXM cs F2 dm 60 (tpL g (k + 1) (z - (k + 1))))) (hn : Q → (sn = 0 ∨ (TXM cs F2 lc 30 LC ∧ TXM cs F2 dm 60 DN))) : snq gs sn = 0 ∨ (TXM cs F2 lc 30 (lcq gs LC g) ∧ TXM cs F2 dm 60 (dnq gs DN g z)) := by
  rcases h with ⟨rfl, h1⟩ | ⟨k, rfl, h1, h2⟩
  · exact hn h1
  · exact Or.inr ⟨h1, h2⟩
theorem sn_gh {f g : Nat → Int32} {z : Nat} {r q : Int32} {a b : Option Nat} (h : REL f g z) (h1 : ((r = 0 ∧ ∃ k, FST f 64 z k ∧ LCL f k ∧ NM f (k + 1) z = true ∧ a = some k) ∨ (r = (-1) ∧ ¬ SND f z ∧ a = none))) (h2 : ((q = 0 ∧ ∃ k, FST g 64 z k ∧ LCL g k ∧ NM g (k + 1) z = true ∧ b = some k) ∨ (q = (-1) ∧ ¬ SND g z ∧ b = none))) : r = q ∧ a = b := by
  rcases h1 with ⟨a1, k, a2, a3, a4, a5⟩ | ⟨a1, a2, a3⟩ <;> rcases h2 with ⟨b1, k2, b2, b3, b4, b5⟩ | ⟨b1, b2, b3⟩
  · have e : k = k2 := ((FST64_rel h).mp a2).uniq b2
    exact ⟨a1.trans b1.symm, by rw [a5, b5, e]⟩
  · exact absurd ((SND_rel h).mp ⟨k, a2, a3, a4⟩) b2
  · exact absurd ((SND_rel h).mpr ⟨k2, b2, b3, b4⟩) a2
  · exact ⟨a1.trans b1.symm, a3.trans b3.symm⟩
theorem a8_tp {f : Nat → Int32} {a n : Nat} (h : ∀ j, j < n → cdv (f (a + j)) < 128) : A8 (tpL f a n) := src_a8 (tp_src (fc := fun j => f (a + j)) h (fun _ _ => rfl))
theorem srl_sn {f g : Nat → Int32} {z fm sn : Nat} {r x aS vS : Int32} {a b : Option Nat} {SD : SDR} {LC DN : List Nat} (h : REL f g z) (h1 : ((r = 0 ∧ ∃ k, FST f 64 z k ∧ LCL f k ∧ NM f (k + 1) z = true ∧ a = some k) ∨ (r = (-1) ∧ ¬ SND f z ∧ a = none))) (e : a = b) (hs : SRL SD aS vS fm sn LC DN) : SRL (sdq a SD f z x) (adq a aS x) (v1q a vS) (fmq b fm x) (snq b sn) (lcq b LC g) (dnq b DN g z) := by
  subst e
  rcases h1 with ⟨-, k, a2, a3, a4, rfl⟩ | ⟨-, -, rfl⟩
  · have hl := NM_len a4
    have hk : k < z := by omega
    have hc := snd_cd a2 a3 a4
    refine Or.inr ⟨(by decide : ¬ (1 : Int32) = 0), (by decide : ¬ (1 : Nat) = 0), (xN_e x).symm, sd_rel h a2 hk, ?_, nm_tp (by rw [show k + 1 + (z - (k + 1)) = z by omega, ← NM_rel h (Nat.le_refl _)]; exact a4)⟩
    exact ⟨a8_tp (fun j hj => hc _ (by omega)), a8_tp (fun j hj => hc _ (by omega)), a8_tp (fun j hj => hc _ (by omega)), a8_q⟩
  · exact hs
theorem pm_same {D E : Nat → ETY} {ze fm sn : Nat} {aS vS : Int32} {SD : SDR} {LC DN : List Nat} (hd : DREL D E ze) (hz : ze ≤ 40) (hs : SRL SD aS vS fm sn LC DN) : (if vS = 0 then (-1) else nI (CHW D ze SD aS 11 SD.2.2.1 0 0).1) = (if sn = 0 then (-1) else nI (CHW E ze (sdM LC DN (nI fm)) (nI fm) 11 DN 0 0).1) := by
  rcases hs with ⟨a, b⟩ | ⟨a, b, c, d, e, -⟩
  · rw [if_pos a, if_pos b]
  · subst d
    rw [if_neg a, if_neg b, c]
    exact congrArg (fun t : Nat × Nat × Nat => nI t.1) (CHW_rel hd hz e 11 DN 0 0 e.2.2.1)
def VNI (D : Nat → ETY) (ze : Nat) : Prop := ∀ k, k < ze → (D k).1 = 2 → SRC (vlL (D k)) (D k).2.2.2.2.1 (D k).2.2.2.2.2 ∧ (D k).2.2.2.2.1 ≤ 60
theorem VNI.zero {D : Nat → ETY} : VNI D 0 := fun k hk => absurd hk (Nat.not_lt_zero _)
theorem vn_of {x1 x2 : Int32} {g : Nat → Int32} {z : Nat} {d : ETY} (hv : VAL x1 g z) (h : ENX x1 x2 g z d) (h2 : d.1 = 2) : SRC (vlL d) d.2.2.2.2.1 d.2.2.2.2.2 ∧ d.2.2.2.2.1 ≤ 60 := by
  obtain ⟨a1, -, -, -, a5⟩ := h
  have hx : x1 = 2 := a1.symm.trans h2
  rcases a5 with ⟨p1, p2, p3, p4, p5⟩ | ⟨p1, -, -⟩
  · obtain ⟨-, -, k, hk, h3, -⟩ := hv
    have hn := (h3 p1).2.2.1 hx
    have e := hk.uniq p2
    subst e
    have h6 := nm_60 hn
    refine ⟨tp_src (a := 0) (fun j hj => ?_) (fun j _ => by rw [Nat.zero_add]), by omega⟩
    rw [Nat.zero_add, p5 j hj]
    exact NM_cd hn _ (by omega) (by omega)
  · exact absurd (Or.inr hx) p1
theorem VNI.add {E : Nat → ETY} {d : ETY} {g : Nat → Int32} {z ze c2 : Nat} {x1 x2 r : Int32} (h : VNI E ze) (hE : ENT ze c2 x1 g z r) (hX : c2 = ze + 1 → ENX x1 x2 g z d) : VNI (fun k => if k = ze then d else E k) c2 := by
  intro k hk
  show (if k = ze then d else E k).1 = 2 → SRC (vlL (if k = ze then d else E k)) (if k = ze then d else E k).2.2.2.2.1 (if k = ze then d else E k).2.2.2.2.2 ∧ (if k = ze then d else E k).2.2.2.2.1 ≤ 60
  by_cases c : k = ze
  · rw [if_pos c]
    rcases hE with ⟨-, b, -⟩ | ⟨-, -, b, -⟩ | ⟨-, hv, b, -⟩
    · exact absurd hk (by omega)
    · exact absurd hk (by omega)
    · exact vn_of hv (hX b)
  · rw [if_neg c]
    refine h k ?_
    rcases hE with ⟨-, b, -⟩ | ⟨-, -, b, -⟩ | ⟨-, -, b, -⟩ <;> omega
theorem rel_byq {f g : Nat → Int32} {z : Nat} (h : REL f g z) : ∀ j, j < z → BYQ (g j) := fun j hj => by
  obtain ⟨n, h1, -, h3⟩ := h j hj
  exact ⟨n, h1, h3⟩
theorem drel_byd {D E : Nat → ETY} {ze : Nat} (h : DREL D E ze) : ∀ k, k < ze → ∀ j, j < (E k).2.2.2.2.1 → BYQ ((E k).2.2.2.2.2 j) := fun k hk j hj => by
  obtain ⟨-, -, -, -, h5, h6⟩ := h k hk
  exact rel_byq h6 j (by omega)
theorem otr_rel {d e : ETY} {oo : Int32} {y k : Nat} {l U : List Nat} (h : DR1 d e) (hA : A8 U) : OTR oo y (faU U) k l d ↔ OTR oo y (faU U) k l e := by
  have h5 := h.2.2.2.2.1
  have h6 := tc_rel h.2.2.2.2.2
  unfold OTR
  rw [sam_rel h hA, h.1, h6, h5]
theorem otv_rel {D E : Nat → ETY} {oo : Int32} {y k : Nat} {l U : List Nat} {ze : Nat} (h : DREL D E ze) (hA : A8 U) : ∀ n, n ≤ ze → otv (OTR oo y (faU U) k l) D n = otv (OTR oo y (faU U) k l) E n := by
  intro n
  induction n with
  | zero => intro _; rfl
  | succ n ih =>
    intro hn
    rw [otv_s, otv_s, ih (by omega)]
    have h9 := otr_rel (oo := oo) (y := y) (k := k) (l := l) (h n (by omega)) hA
    by_cases c : OTR oo y (faU U) k l (D n)
    · rw [if_pos c, if_pos (h9.mp c)]
    · rw [if_neg c, if_neg (fun q => c (h9.mpr q))]
theorem otU_rel {D E : Nat → ETY} {ze : Nat} {U : List Nat} (h : DREL D E ze) (hA : A8 U) : otU D ze U = otU E ze U := otv_rel h hA ze (Nat.le_refl _)
theorem rvU_rel {D E : Nat → ETY} {ze j : Nat} {x own : Int32} (h : DREL D E ze) (hz : ze ≤ 40) (h1 : j < ze) (h2 : x = nI j) : rvU D x own = rvU E x own := by
  rw [rvU_j h2.symm (by omega), rvU_j h2.symm (by omega)]
  obtain ⟨-, -, -, -, h5, h6⟩ := h j h1
  rw [tc_rel h6, h5]
theorem a8_dm : A8 [95, 100, 109, 97, 114, 99, 46] := by
  intro j
  rcases Nat.lt_or_ge j 7 with q | q
  · have h9 : ∀ j, j < 7 → ([95, 100, 109, 97, 114, 99, 46] : List Nat).getD j 0 < 128 := by decide
    exact h9 j q
  · rw [gd_out [95, 100, 109, 97, 114, 99, 46] j q]
    omega
theorem a8_dmu {V : List Nat} (h : A8 V) (k : Nat) : A8 (DMU V k) := a8_app a8_dm (a8_rg h k _)
theorem rel_faU {V : List Nat} (h : A8 V) (z : Nat) : REL (faU V) (faU V) z := fun j _ => ⟨V.getD j 0, by have h9 := h j; omega, rfl, (nar_128 _ (h j)).symm⟩
theorem hs_same {D E : Nat → ETY} {ze : Nat} {V : List Nat} (hd : DREL D E ze) (hA : A8 V) (hn : NM (faU V) 0 V.length = true) : hsU D ze V = hsM E ze V := hst_rel (rel_faU hA _) hn hd
theorem woW_h {E : Nat → ETY} {ze : Nat} {U : List Nat} (h : HAS E ze 3 (ooU U) (yU U) (faU U)) : woW E ze U = (-2) := if_pos h
theorem woW_n {E : Nat → ETY} {ze : Nat} {U : List Nat} (h : ¬ HAS E ze 3 (ooU U) (yU U) (faU U)) (d : otU E ze U < 0) : woW E ze U = (-1) := (if_neg h).trans (if_pos d)
theorem woW_y {E : Nat → ETY} {ze : Nat} {U : List Nat} (h : ¬ HAS E ze 3 (ooU U) (yU U) (faU U)) (d : ¬ otU E ze U < 0) : woW E ze U = otU E ze U := (if_neg h).trans (if_neg d)
theorem pv_rel {D E : Nat → ETY} {ze : Nat} {V : List Nat} (hd : DREL D E ze) (hz : ze ≤ 40) (hA : A8 V) (hn : NM (faU V) 0 V.length = true) : pvW D ze V = mvW E ze V := by
  have hs := hs_same hd hA hn
  have hr : ∀ k, HAS D ze 3 (ooU (DMU V k)) (yU (DMU V k)) (faU (DMU V k)) ↔ HAS E ze 3 (ooU (DMU V k)) (yU (DMU V k)) (faU (DMU V k)) := fun k => has_rel hd (a8_dmu hA k)
  have ho : ∀ k, otU D ze (DMU V k) = otU E ze (DMU V k) := fun k => otU_rel hd (a8_dmu hA k)
  have hng : ∀ j, j < ze → ¬ nI j = (-2) ∧ ¬ nI j = (-1) := fun j hj => by
    have hp : ¬ nI j < 0 := nI_pos (by omega)
    exact ⟨fun q => hp (by rw [q]; decide), fun q => hp (by rw [q]; decide)⟩
  unfold pvW mvW
  rw [hs]
  by_cases c0 : HAS D ze 3 (ooU (DMU V 0)) (yU (DMU V 0)) (faU (DMU V 0))
  · rw [if_pos c0, woW_h ((hr 0).mp c0), if_pos (show (-2 : Int32) = (-2) from rfl)]
  · have n0 : ¬ HAS E ze 3 (ooU (DMU V 0)) (yU (DMU V 0)) (faU (DMU V 0)) := fun q => c0 ((hr 0).mpr q)
    rw [if_neg c0]
    by_cases d0 : otU D ze (DMU V 0) < 0
    · rw [if_neg (fun q => q d0), woW_n n0 (by rw [← ho 0]; exact d0), if_neg (show ¬ (-1 : Int32) = (-2) by decide), if_pos (show (-1 : Int32) = (-1) from rfl)]
      by_cases c1 : HAS D ze 3 (ooU (DMU V (hsM E ze V))) (yU (DMU V (hsM E ze V))) (faU (DMU V (hsM E ze V)))
      · rw [if_pos c1, woW_h ((hr _).mp c1), if_pos (show (-2 : Int32) = (-2) from rfl)]
      · have n1 : ¬ HAS E ze 3 (ooU (DMU V (hsM E ze V))) (yU (DMU V (hsM E ze V))) (faU (DMU V (hsM E ze V))) := fun q => c1 ((hr _).mpr q)
        rw [if_neg c1]
        by_cases d1 : otU D ze (DMU V (hsM E ze V)) < 0
        · rw [if_pos d1, woW_n n1 (by rw [← ho]; exact d1), if_neg (show ¬ (-1 : Int32) = (-2) by decide), if_pos (show (-1 : Int32) = (-1) from rfl)]
        · obtain ⟨j, hj, ej⟩ := otU_j (D := D) (ze := ze) (U := DMU V (hsM E ze V)) rfl d1
          have eE : otU E ze (DMU V (hsM E ze V)) = nI j := (ho _).symm.trans ej
          rw [if_neg d1, woW_y n1 (by rw [← ho]; exact d1), eE, if_neg (hng j hj).1, if_neg (hng j hj).2, ej]
          exact rvU_rel hd hz hj rfl
    · obtain ⟨j, hj, ej⟩ := otU_j (D := D) (ze := ze) (U := DMU V 0) rfl d0
      have eE : otU E ze (DMU V 0) = nI j := (ho 0).symm.trans ej
      rw [if_pos d0, woW_y n0 (by rw [← ho]; exact d0), eE, if_neg (hng j hj).1, if_neg (hng j hj).2, ej]
      exact rvU_rel hd hz hj rfl
theorem stw_sp {T : Nat → Nat} : ∀ n i, i ≤ stw T n i ∧ stw T n i ≤ i + n ∧ (∀ j, i ≤ j → j < stw T n i → ¬ STC4 (T j)) ∧ (stw T n i = i + n ∨ STC4 (T (stw T n i))) := by
  intro n
  induction n with
  | zero =>
    intro i
    have e : stw T 0 i = i := rfl
    rw [e]
    exact ⟨Nat.le_refl _, by omega, fun j h1 h2 => absurd h2 (by omega), Or.inl (by omega)⟩
  | succ n ih =>
    intro i
    by_cases c : STC4 (T i)
    · have e : stw T (n + 1) i = i := if_pos c
      rw [e]
      exact ⟨Nat.le_refl _, by omega, fun j h1 h2 => absurd h2 (by omega), Or.inr c⟩
    · have e : stw T (n + 1) i = stw T n (i + 1) := if_neg c
      obtain ⟨h1, h2, h3, h4⟩ := ih (i + 1)
      rw [e]
      refine ⟨by omega, by omega, fun j a1 a2 => ?_, h4.imp (fun q => by omega) id⟩
      by_cases d : j = i
      · rw [d]
        exact c
      · exact h3 j (by omega) a2
theorem dmE_n {T : Nat → Nat} {a e : Nat} (h : a ≤ e) (he : T e = 10) : dmE T a (e + 1) = dmE T a e := by
  obtain ⟨h1, h2, h3, h4⟩ := stw_sp (T := T) (e - a) a
  have h2' : dmE T a e ≤ e := by
    show stw T (e - a) a ≤ e
    omega
  refine dmE_of h1 (by omega) h3 (Or.inr ?_)
  rcases h4 with q | q
  · have q' : dmE T a e = e := by
      show stw T (e - a) a = e
      omega
    rw [q', he]
    exact Or.inr (Or.inr (Or.inr rfl))
  · exact q
theorem dm_e {T : Nat → Nat} {c e e2 : Nat} (h : e2 = e ∨ (e2 = e + 1 ∧ T e = 10)) : dmW T c e2 = dmW T c e := by
  rcases h with h | ⟨h, he⟩
  · rw [h]
  · have e1 : lsc T 64 (e + 1) = lsc T 64 e := lsc_n (by rw [he]; decide)
    have e3 : dmE T (lsc T 64 e) (e + 1) = dmE T (lsc T 64 e) e := dmE_n (lsc_le e) he
    unfold dmW
    rw [h, e1, e3]
theorem plr_same {P Q : Nat → Prop} {n : Nat} {Z Y : Nat → Int32} {r q : Int32} (hP : ∀ j, j < n → (P j ↔ Q j)) (hZ : ∀ j, j < n → Z j = Y j) (h1 : PLR P n Z r) (h2 : PLR Q n Y q) : r = q := by
  obtain ⟨w, a1, a2⟩ := h1
  obtain ⟨v, b1, b2⟩ := h2
  have e := CNT.uniq n w v hP a1 b1
  subst e
  rcases a2 with ⟨a3, a4⟩ | ⟨a3, j, a4, a5, a6, a7⟩ <;> rcases b2 with ⟨b3, b4⟩ | ⟨b3, i, b4, b5, b6, b7⟩
  · rw [a4, b4]
  · exact absurd b3 a3
  · exact absurd a3 b3
  · have ej : j = i := by
      rcases Nat.lt_trichotomy j i with c | c | c
      · exact absurd ((hP j a4).mp a5) (b6 j c)
      · exact c
      · exact absurd ((hP i b4).mpr b5) (a6 i c)
    subst ej
    rw [a7, b7, hZ j a4]
theorem cst_same {D E : Nat → ETY} {ze fm sn : Nat} {aS vS : Int32} {SD : SDR} {LC DN : List Nat} (hd : DREL D E ze) (hz : ze ≤ 40) (hs : SRL SD aS vS fm sn LC DN) (hv : ¬ vS = 0) : CHW D ze SD aS 11 SD.2.2.1 0 0 = CHW E ze (sdM LC DN (nI fm)) (nI fm) 11 DN 0 0 := by
  rcases hs with ⟨a, -⟩ | ⟨-, -, c, d, e, -⟩
  · exact absurd a hv
  · subst d
    rw [c]
    exact CHW_rel hd hz e 11 DN 0 0 e.2.2.1
theorem srl_0 {fm sn : Nat} {aS vS : Int32} {SD : SDR} {LC DN : List Nat} (hs : SRL SD aS vS fm sn LC DN) : vS = 0 ↔ sn = 0 := by
  rcases hs with ⟨a, b⟩ | ⟨a, b, -⟩
  · exact ⟨fun _ => b, fun _ => a⟩
  · exact ⟨fun q => absurd q a, fun q => absurd q b⟩
theorem pmc_same {sn c9 u9 c v gc gv : Nat} {vS r : Int32} {X Y : Nat × Nat} {z : Nat} {gp : Option (Nat × Nat)} (h0 : vS = 0 ↔ sn = 0) (hX : ¬ vS = 0 → X = Y) (hc : c = gc ∧ v = gv) (h1 : (vS = 0 ∧ c9 = c ∧ u9 = v) ∨ (¬ vS = 0 ∧ (c9, u9) = X)) (h2 : (sn = 0 ∧ r = (-1) ∧ gp = none) ∨ (¬ sn = 0 ∧ r = nI z ∧ gp = some Y)) : c9 = gcr gp gc ∧ u9 = gvr gp gv := by
  rcases h1 with ⟨a1, a2, a3⟩ | ⟨a1, a2⟩ <;> rcases h2 with ⟨b1, -, b3⟩ | ⟨b1, -, b3⟩
  · rw [b3]
    exact ⟨a2.trans hc.1, a3.trans hc.2⟩
  · exact absurd (h0.mp a1) b1
  · exact absurd (h0.mpr b1) a1
  · rw [b3, ← hX a1, ← a2]
    exact ⟨rfl, rfl⟩
theorem wc_same {P Q : Nat → Prop} {n sn c9 u9 c v gc gv : Nat} {Z Y : Nat → Int32} {vS x1 : Int32} {X X2 : Nat × Nat} {gp : Option (Nat × Nat)} (h0 : vS = 0 ↔ sn = 0) (hX : ¬ vS = 0 → X = X2) (hc : c = gc ∧ v = gv) (hP : ¬ n = 0 → ∀ j, j < n → (P j ↔ Q j)) (hZ : ¬ n = 0 → ∀ j, j < n → Z j = Y j) (h1 : WCR P n Z vS x1 c v X c9 u9) (h2 : WCQ Q n Y sn x1 X2 gp) : c9 = gcr gp gc ∧ u9 = gvr gp gv := by
  rcases h1 with ⟨a1, a2, a3⟩ | ⟨a1, a2, a3, ro, a4, a5⟩ <;> rcases h2 with ⟨b1, b2⟩ | ⟨b1, b2, b3, rm, b4, b5⟩
  · rw [b2]
    exact ⟨a2.trans hc.1, a3.trans hc.2⟩
  · rcases a1 with q | q | q
    · exact absurd (h0.mp q) b1
    · exact absurd q b2
    · exact absurd q b3
  · rcases b1 with q | q | q
    · exact absurd (h0.mpr q) a1
    · exact absurd q a2
    · exact absurd q a3
  · have e := plr_same (hP a3) (hZ a3) a4 b4
    subst e
    rcases a5 with ⟨c1, c2⟩ | ⟨c1, c2, c3⟩ <;> rcases b5 with ⟨d1, d2⟩ | ⟨d1, d2⟩
    · rw [d2, ← hX a1, ← c2]
      exact ⟨rfl, rfl⟩
    · exact absurd c1 d1
    · exact absurd d1 c1
    · rw [d2]
      exact ⟨c2.trans hc.1, c3.trans hc.2⟩
theorem mrcl (T : Nat → Nat) (z : Nat) : ∀ (k n : Nat) (g : Nat → Nat → Nat) (a n2 : Nat) (g2 : Nat → Nat → Nat) (b : Nat), (∀ j, j < n → T (g 1 j) = 2) → mrw T z k n g a = some (some (n2, g2, b)) → ∀ j, j < n2 → T (g2 1 j) = 2 := by
  intro k
  induction k with
  | zero =>
    intro n g a n2 g2 b _ h
    have h9 : (none : Option MRA) = some (some (n2, g2, b)) := h
    cases h9
  | succ k ih =>
    intro n g a n2 g2 b hI h
    rw [mrw_s] at h
    by_cases c1 : z ≤ a
    · rw [if_pos c1] at h
      obtain ⟨e1, e2⟩ := fin_inv (Option.some.inj h)
      rw [← e1, ← e2]
      exact hI
    rw [if_neg c1] at h
    by_cases c2 : T a = 0
    · rw [if_pos c2] at h
      obtain ⟨e1, e2⟩ := fin_inv (Option.some.inj h)
      rw [← e1, ← e2]
      exact hI
    rw [if_neg c2] at h
    by_cases c3 : T a = 1
    · rw [if_pos c3] at h
      by_cases c4 : n = 0
      · rw [if_pos c4] at h
        cases h
      · rw [if_neg c4] at h
        refine ih _ _ _ _ _ _ ?_ h
        intro j hj
        have w := hI j hj
        by_cases q : j = n - 1
        · rw [q] at w ⊢
          rw [gpt_1]
          exact w
        · rw [gpt_ne q]
          exact w
    rw [if_neg c3] at h
    by_cases c5 : n < 20 ∧ FLN T a (fdt T 0 (z - a) a) = true
    · rw [if_pos c5] at h
      have hF := c5.2
      unfold FLN at hF
      rw [Bool.and_eq_true] at hF
      obtain ⟨f1, f2, f3⟩ := of_decide_eq_true hF.1
      have ht2 := fdt_hit T 2 (fdt T 0 (z - a) a - a) a (by omega)
      refine ih _ _ _ _ _ _ ?_ h
      intro j hj
      by_cases q : j = n
      · rw [q, gpt_1]
        exact ht2
      · rw [gpt_ne q]
        exact hI j (by omega)
    · rw [if_neg c5] at h
      cases h
theorem MR.col {T : Nat → Nat} {z n b : Nat} {g : Nat → Nat → Nat} (h : MR T z 0 gz 0 (some (n, g, b))) : ∀ j, j < n → T (g 1 j) = 2 := by
  obtain ⟨k, hk⟩ := h
  exact mrcl T z k 0 gz 0 n g b (fun _ q => absurd q (Nat.not_lt_zero _)) hk
theorem COL.msg {f : Nat → Int32} {zt n n2 zm zm2 : Nat} {bb bb2 r : Int32} {fL sA sB sC fL2 p0 p1 p2 : Nat → Int32} {gh : MRA} (h : COL n fL sB) (hX : MSX (clf f) zt r gh) (hz : zt ≤ 3000) (hC : MLC f zt gh n bb zm fL sA sB sC n2 bb2 zm2 fL2 p0 p1 p2) : COL n2 fL2 p1 := by
  rcases hC with ⟨c0, c1, c2, c3, c4, c5, c6, c7⟩ | ⟨q, c0, c1, c2, c3, c4, c5⟩
  · rw [c1, c4, c6]
    exact h
  · intro j hj
    rw [c1] at hj
    have hM : MR (clf f) zt 0 gz 0 (some q) := by
      rw [← c0]
      exact hX.1
    have hcol := MR.col (n := q.1) (g := q.2.1) (b := q.2.2) hM j hj
    obtain ⟨u1, u2, u3⟩ := MR.mrg (n := q.1) (g := q.2.1) (b := q.2.2) hM j hj
    have u4 : q.2.1 2 j ≤ zt := by
      rcases u3 with ⟨w, -⟩ | ⟨w, -⟩ <;> omega
    have e1 : cln p1 j = q.2.1 1 j := by
      unfold cln
      rw [(c5 j hj).2.1, nI_clamp (by omega)]
    rw [e1, c4 _ (by omega)]
    exact Classical.byContradiction (fun c => clg2n c hcol)
theorem col_gm {n : Nat} {fL sB : Nat → Int32} {gm : Nat → Nat → Nat} (h : COL n fL sB) (hp : ∀ j, j < n → sB j = nI (gm 1 j) ∧ gm 1 j ≤ 3000) : ∀ j, j < n → fL (gm 1 j) = 58 := fun j hj => by
  have h9 := h j hj
  have e1 : cln sB j = gm 1 j := by
    unfold cln
    rw [(hp j hj).1, nI_clamp (by have h8 := (hp j hj).2; omega)]
  rw [e1] at h9
  exact h9
theorem cdv_b (x : Int32) : cdv x ≤ 200 := by
  by_cases c : cdv x < 128
  · omega
  · rw [cdv_200 c]
    omega
theorem smc_b {c : Nat} (h : c ≤ 200) : smc c ≤ 232 := by
  unfold smc
  split <;> omega
theorem nI_cd {k : Nat} (hk : k ≤ 20000) (h : cdv (nI k) < 128) : k < 128 := by
  have h9 := cdv_in h
  have e := (nI_eq (by omega) (by omega)).mp h9
  omega
theorem dm_v {f : Nat → Int32} {z c e : Nat} {V : List Nat} (h : dmW (TC f z) c e = some V) : A8 V ∧ NM (faU V) 0 V.length = true := by
  unfold dmW at h
  by_cases c9 : c + 1 < lsc (TC f z) 64 e ∧ NM (faU (smL (TC f z) (lsc (TC f z) 64 e) (dmE (TC f z) (lsc (TC f z) 64 e) e - lsc (TC f z) 64 e))) 0 (dmE (TC f z) (lsc (TC f z) 64 e) e - lsc (TC f z) 64 e) = true
  · rw [if_pos c9] at h
    have eV := Option.some.inj h
    obtain ⟨-, hn⟩ := c9
    generalize dmE (TC f z) (lsc (TC f z) 64 e) e - lsc (TC f z) 64 e = k at eV hn
    subst eV
    refine ⟨fun j => ?_, by rw [smL_len]; exact hn⟩
    rcases Nat.lt_or_ge j k with q | q
    · have h9 : cdv (nI ((smL (TC f z) (lsc (TC f z) 64 e) k).getD j 0)) < 128 := NM_cd hn j (Nat.zero_le _) q
      refine nI_cd ?_ h9
      rw [smL_get k j q]
      have h8 := smc_b (cdv_b (atn f z (lsc (TC f z) 64 e + j)))
      show smc (cdv (atn f z (lsc (TC f z) 64 e + j))) ≤ 20000
      omega
    · rw [gd_out _ j (by rw [smL_len]; exact q)]
      omega
  · rw [if_neg c9] at h
    exact nomatch h
theorem ps_rel {D E : Nat → ETY} {ze z c e : Nat} {f : Nat → Int32} (hd : DREL D E ze) (hz : ze ≤ 40) : psW D ze (dmW (TC f z) c e) = msW E ze (dmW (TC f z) c e) := by
  cases e9 : dmW (TC f z) c e with
  | none => rfl
  | some V =>
    obtain ⟨h1, h2⟩ := dm_v e9
    exact pv_rel hd hz h1 h2
theorem zz_same {D E : Nat → ETY} {ze : Nat} {n : Nat} {bb : Int32} {zm : Nat} {fL sA sB sC : Nat → Int32} {nf bd mm : Nat} {gm : Nat → Nat → Nat} {gl : Nat → Int32} (hd : DREL D E ze) (hz : ze ≤ 40) (h : LRL n bb zm fL sA sB sC nf bd mm gm gl) (hn : ¬ n = 0) : ∀ j, j < n → psW D ze (dmW (TC fL zm) (gm 1 j) (cln sC j)) = msW E ze (dmW (TC gl mm) (gm 1 j) (gm 2 j)) := by
  intro j hj
  obtain ⟨q1, q2, q3, -, -, -⟩ := h.2.resolve_left hn
  obtain ⟨p1, p2, p3, p4⟩ := h.pos.2 j (by have h9 := h.1; omega)
  have eT : TC fL zm = TC gl mm := by
    rw [q1]
    exact tc_rel q3
  rw [eT, ps_rel hd hz]
  refine congrArg (msW E ze) (dm_e ?_).symm
  rcases p4 with ⟨a1, a2⟩ | ⟨a1, a2⟩
  · refine Or.inr ⟨by omega, ?_⟩
    have h10 : gl (cln sC j) = 10 := Classical.byContradiction (fun c => clg0n c a2)
    exact (tcc a1 10 (by omega)).mpr h10
  · exact Or.inl (by omega)
theorem cos_same {x : Int32} {c v gc gv : Nat} (h : c = gc ∧ v = gv) : (if x = 0 then nI c else if x = 1 then nI v else (-1)) = (if x = 0 then nI gc else if x = 1 then nI gv else (-1)) := by
  rw [h.1, h.2]
theorem hgr_1 {gp : Option (Nat × Nat)} : hgr gp 1 = 1 := by
  cases gp <;> rfl
theorem COL.zero {fL sB : Nat → Int32} : COL 0 fL sB := fun j h => absurd h (Nat.not_lt_zero _)
theorem ky_r1 {d e : ETY} (h : DR1 d e) : kyT d = kyT e ∧ kyY d = kyY e := by
  obtain ⟨-, -, -, -, h5, h6⟩ := h
  unfold kyT kyY
  rw [tc_rel h6, h5]
  exact ⟨rfl, rfl⟩
theorem kyo_rel {d e : ETY} (h : DR1 d e) : KYO d ↔ KYO e := by
  unfold KYO
  rw [(ky_r1 h).1, (ky_r1 h).2]
theorem kyM_rel {d e : ETY} (h : DR1 d e) : kyM d = kyM e := by
  unfold kyM
  rw [(ky_r1 h).1, (ky_r1 h).2]
theorem rcW_rel {d e : ETY} {own : Int32} (h : DR1 d e) : rcW d own = rcW e own := by
  unfold rcW
  rw [(ky_r1 h).1, (ky_r1 h).2]
theorem rcF_rel {d e : ETY} {l : List Nat} (h : DR1 d e) : rcF d l = rcF e l := by
  unfold rcF
  rw [(ky_r1 h).1, (ky_r1 h).2]
theorem drel_lo {D E : Nat → ETY} {ze k : Nat} (h : DREL D E ze) (hk : k ≤ ze) : DREL D E k := fun j hj => h j (by omega)
theorem hau_rel {D E : Nat → ETY} {ze : Nat} {x : Int32} {U : List Nat} (h : DREL D E ze) (hA : A8 U) : HAU D ze x U ↔ HAU E ze x U := has_rel h hA
theorem kyx_same {D E : Nat → ETY} {ze g1 g2 : Nat} {U : List Nat} {r1 r2 : Int32} (hd : DREL D E ze) (hA : A8 U) (h1 : KYX D ze U g1 r1) (h2 : KYX E ze U g2 r2) : r1 = r2 ∧ (r1 = 2 → g1 = g2 ∧ g1 < ze) := by
  have h3 := hau_rel (x := 3) hd hA
  have h4 := hau_rel (x := 0) hd hA
  rcases h1 with ⟨a1, a2⟩ | ⟨a1, a2, a3⟩ | ⟨a1, a2, a3, a4, a5, a6⟩ <;> rcases h2 with ⟨b1, b2⟩ | ⟨b1, b2, b3⟩ | ⟨b1, b2, b3, b4, b5, b6⟩
  · exact ⟨a2.trans b2.symm, fun q => absurd (a2.symm.trans q) (by decide)⟩
  · exact absurd (h3.mp a1) b1
  · exact absurd (h3.mp a1) b1
  · exact absurd (h3.mpr b1) a1
  · exact ⟨a3.trans b3.symm, fun q => absurd (a3.symm.trans q) (by decide)⟩
  · exact absurd (h4.mpr ⟨g2, b2, b3, b4⟩) a2
  · exact absurd (h3.mpr b1) a1
  · exact absurd (h4.mp ⟨g1, a2, a3, a4⟩) b2
  · have eg : g1 = g2 := by
      rcases Nat.lt_trichotomy g1 g2 with c | c | c
      · exact absurd ⟨g1, c, (hd g1 a2).1.symm.trans a3, (sam_rel (hd g1 a2) hA).mp a4⟩ b5
      · exact c
      · exact absurd ⟨g2, c, (hd g2 b2).1.trans b3, (sam_rel (hd g2 b2) hA).mpr b4⟩ a5
    subst eg
    refine ⟨?_, fun _ => ⟨rfl, a2⟩⟩
    have hk := kyo_rel (hd g1 a2)
    rcases a6 with ⟨c1, c2⟩ | ⟨c1, c2⟩ <;> rcases b6 with ⟨d1, d2⟩ | ⟨d1, d2⟩
    · exact c2.trans d2.symm
    · exact absurd (hk.mp c1) d1
    · exact absurd (hk.mpr d1) c1
    · exact c2.trans d2.symm
theorem rel_lo {f g : Nat → Int32} {n k : Nat} (h : REL f g n) (hk : k ≤ n) : REL f g k := fun j hj => h j (by omega)
theorem shn_shm {f g : Nat → Int32} {n : Nat} (h : REL f g n) (hn : n ≤ 6000) : ∀ j, j < 32 → shN f n j = shM g n j := by
  intro j hj
  have h9 := dig_rel (fo := fun j => dgb (stt f n ((n + 72) / 64)) j) (go := fun j => nb8 (shr (rst (pad g n) ((n + 72) / 64) (j / 4)) (nI (24 - 8 * (j % 4))))) h hn (fun _ _ => rfl) (fun _ _ => rfl)
  obtain ⟨m9, a1, a2, a3⟩ := h9 j hj
  have a2' : dgb (stt f n ((n + 72) / 64)) j = nI m9 := a2
  have a3' : nb8 (shr (rst (pad g n) ((n + 72) / 64) (j / 4)) (nI (24 - 8 * (j % 4)))) = vp_nar .byte (nI m9) := a3
  rw [dgb_N] at a2'
  rw [nb8_u] at a3'
  have e1 : dgN (stt f n ((n + 72) / 64)) j = m9 := (nI_eq (by have h8 := dgN_lt (stt f n ((n + 72) / 64)) j; omega) (by omega)).mp a2'
  have e2 := (nar_inj _ (Nat.mod_lt _ (by decide)) _ a1).mp a3'
  exact e1.trans e2.symm
theorem fpw_cg {T U : Nat → Nat} {z b c d s e : Nat} {x : Int32} (h : ∀ j, j < z → T j = U j) (hd : d ≤ z) (hc : c < d) : FPW T x b c d s e = FPW U x b c d s e := by
  unfold FPW
  by_cases q : x = 0
  · rw [if_pos q, if_pos q]
  · rw [if_neg q, if_neg q, rvl_cg (T := ctT T s e) (U := ctT U s e) (z := z) (fun j hj => by unfold ctT; rw [h j hj]) _ _ _ _ (by omega)]
theorem als_cg {TT UU T1 T2 : Nat → Nat} {gb gc gd : Nat → Nat} {nn z : Nat} {x : Int32} {st : ALS} {s : Nat × Nat} (h : ∀ j, j < z → TT j = UU j) (hp : ∀ k, k < nn → gb k < gc k ∧ gc k < gd k ∧ gd k ≤ z) : als TT T1 T2 gb gc gd nn x st s = als UU T1 T2 gb gc gd nn x st s := by
  cases e : lstF (PNL T1 T2 gb gc st.1 s) nn with
  | none => rw [als_n e, als_n e]
  | some k =>
    have hk := hp k (lst_lt nn e).1
    rw [als_y e, als_y e, FPL_cg h hk.2.2 hk.2.1]
theorem adl_cg {TT UU T1 T2 : Nat → Nat} {gb gc gd : Nat → Nat} {nn z : Nat} {x : Int32} {l : List (Nat × Nat)} (h : ∀ j, j < z → TT j = UU j) (hp : ∀ k, k < nn → gb k < gc k ∧ gc k < gd k ∧ gd k ≤ z) : adl TT T1 T2 gb gc gd nn x l = adl UU T1 T2 gb gc gd nn x l := by
  have e : als TT T1 T2 gb gc gd nn x = als UU T1 T2 gb gc gd nn x := by
    funext st s
    exact als_cg h hp
  unfold adl
  rw [e]
theorem wkl_cg {TT UU T1 T : Nat → Nat} {gb gc gd : Nat → Nat} {nm z jf n s e : Nat} {g : Nat → Nat → Nat} (h : ∀ j, j < z → TT j = UU j) (hp : ∀ k, k < nm → gb k < gc k ∧ gc k < gd k ∧ gd k ≤ z) (hj : jf < nm) : wkL TT T1 T gb gc gd nm jf g n s e = wkL UU T1 T gb gc gd nm jf g n s e := by
  have hk := hp jf hj
  unfold wkL
  rw [adl_cg h hp, fpw_cg h hk.2.2 hk.2.1]
theorem sym_fpw {T : Nat → Nat} {x : Int32} {b c d s e z : Nat} (h1 : b < c) (h2 : c < d) (h3 : d ≤ z) (h4 : s = e ∨ (c < s ∧ s ≤ e ∧ e ≤ d)) : SYM z (FPW T x b c d s e) := by
  by_cases h : x = 0
  · by_cases q : s = e
    · rw [FPW_s h q]
      exact sym_rng (Nat.zero_le _) (by omega)
    · rw [FPW_t h q]
      exact SYM.app (sym_rng (Nat.zero_le _) (by omega)) (sym_rng (Nat.zero_le _) (by omega))
  · rw [FPW_r h]
    exact SYM.app (SYM.app (sym_rng (Nat.le_refl _) (by omega)) (SYM.one (Or.inr ⟨rfl, by show 58 < 256; omega⟩))) (sym_rvl _ _ _ _ (by omega))
theorem sym_fold {TT T1 T2 : Nat → Nat} {gb gc gd : Nat → Nat} {nn z : Nat} {x : Int32} (hp : ∀ k, k < nn → gb k < gc k ∧ gc k < gd k ∧ gd k ≤ z) : ∀ (l : List (Nat × Nat)) (st : ALS), SYM z st.2 → ALI gb gd nn st → SYM z (l.foldl (als TT T1 T2 gb gc gd nn x) st).2 ∧ ALI gb gd nn (l.foldl (als TT T1 T2 gb gc gd nn x) st) := by
  intro l
  induction l with
  | nil => intro st h h2; exact ⟨h, h2⟩
  | cons s l ih =>
    intro st h h2
    refine ih (als TT T1 T2 gb gc gd nn x st s) ?_ ?_
    · cases e : lstF (PNL T1 T2 gb gc st.1 s) nn with
      | none =>
        rw [als_n e]
        exact h
      | some k =>
        have hk := hp k (lst_lt nn e).1
        rw [als_y e]
        exact SYM.app h (SYM.app (sym_fpl hk.1 hk.2.1 hk.2.2) (SYM.one (Or.inr ⟨rfl, by show 10 < 256; omega⟩)))
    · cases e : lstF (PNL T1 T2 gb gc st.1 s) nn with
      | none =>
        rw [als_n e]
        exact h2
      | some k =>
        have hk := hp k (lst_lt nn e).1
        rw [als_y e]
        exact ali_s h2 e ⟨hk.1, hk.2.1⟩
theorem wkl_ok {TT T1 T : Nat → Nat} {gb gc gd : Nat → Nat} {nm z jf n s e : Nat} {g : Nat → Nat → Nat} (hp : ∀ k, k < nm → gb k < gc k ∧ gc k < gd k ∧ gd k ≤ z) (ho : ∀ k, k + 1 < nm → gd k ≤ gb (k + 1)) (hj : jf < nm) (hse : s = e ∨ (gc jf < s ∧ s ≤ e ∧ e ≤ gd jf)) : SYM z (wkL TT T1 T gb gc gd nm jf g n s e) ∧ (wkL TT T1 T gb gc gd nm jf g n s e).length ≤ 2 * z + nm := by
  have hk := hp jf hj
  obtain ⟨h1, h2⟩ := sym_fold (TT := TT) (T1 := T1) (T2 := T) (x := frx T g n) hp (hsG T (tgA g (tgR T g [104] n)) (tgB g (tgR T g [104] n))) (fun _ => 0, []) (fun y hy => absurd hy List.not_mem_nil) ali_0
  have h3 : (adl TT T1 T gb gc gd nm (frx T g n) (hsG T (tgA g (tgR T g [104] n)) (tgB g (tgR T g [104] n)))).2.length ≤ z + nm := Nat.le_trans h2 (tsm_le (zm := z) (fun j hj => by have h9 := hp j hj; omega) ho nm (Nat.le_refl _)).1
  have h4 := FPW_len (T := TT) (x := frx T g n) hk.1 hk.2.1 hse
  unfold wkL
  refine ⟨SYM.app h1 (sym_fpw hk.1 hk.2.1 hk.2.2 hse), ?_⟩
  rw [List.length_append]
  omega
theorem duw_cg {h h2 : Nat → Nat} (e : ∀ j, j < 32 → h j = h2 j) : be (duW h) 64 = be (duW h2) 64 := be_ext 64 (fun k hk => by
  unfold duW
  by_cases c : k < 32
  · rw [if_pos c, if_pos c]
  · rw [if_neg c, if_neg c, e (k - 32) (by omega)])
theorem sjb_same {fm gl : Nat → Int32} {z nm bs jf : Nat} {gb gc gd : Nat → Nat} {d e : ETY} {T : Nat → Nat} {g : Nat → Nat → Nat} {n : Nat} {r1 r2 : Int32} (hR : REL fm gl z) (hz : z ≤ 1280) (hbs : bs ≤ z) (hT : ∀ j, j < z → clf fm j = clr gl j) (hp : ∀ k, k < nm → gb k < gc k ∧ gc k < gd k ∧ gd k ≤ z) (ho : ∀ k, k + 1 < nm → gd k ≤ gb (k + 1)) (hj : jf < nm) (hn : nm ≤ 20) (hde : kyM d = kyM e) (how : owL (TC fm z) (gc jf + 1) (gd jf) = owS (TC fm z) (gc jf + 1) (gd jf)) (hos : ∃ s q, owS (TC fm z) (gc jf + 1) (gd jf) = some (s, q) ∧ s ≤ q ∧ gc jf + 1 < s ∧ q ≤ gd jf) (h1 : SJB fm z nm bs jf gb gc gd d T g n r1) (h2 : SJBm gl z nm bs jf gb gc gd e T g n r2) : r1 = r2 := by
  obtain ⟨N, fo, a1, a2⟩ := h1
  obtain ⟨N2, go, b1, b2⟩ := h2
  obtain ⟨eN, hro⟩ := bdc_rel hbs hR hT a1 b1
  subst eN
  have hNl := bdc_le a1
  have hsh : ∀ k, k ≤ N → ∀ j, j < 32 → shN fo k j = shM go k j := fun k hk => shn_shm (rel_lo hro hk) (by omega)
  have hBH : BHO T g n N fo ↔ BHOm T g n N go := by
    unfold BHO BHOm
    constructor
    · rintro ⟨q1, q2⟩
      exact ⟨q1, fun j hj => (hsh _ q1 j hj).symm.trans (q2 j hj)⟩
    · rintro ⟨q1, q2⟩
      exact ⟨q1, fun j hj => (hsh _ q1 j hj).trans (q2 j hj)⟩
  have eT := tc_rel hR
  rcases a2 with ⟨c1, c2⟩ | ⟨c1, s, q, fw, c2, c3, c4⟩ <;> rcases b2 with ⟨d1, d2⟩ | ⟨d1, s2, q2, gw, d2, d3, d4⟩
  · exact c2.trans d2.symm
  · exact absurd (hBH.mpr d1) c1
  · exact absurd (hBH.mp c1) d1
  · obtain ⟨s9, q9, o1, o2, o3, o4⟩ := hos
    rw [← eT] at d2 d3 d4
    have e1 := Option.some.inj ((how.trans c2).symm.trans d2)
    have e2 := Option.some.inj (o1.symm.trans c2)
    have es : s = s2 := congrArg Prod.fst e1
    have eq : q = q2 := congrArg Prod.snd e1
    have es9 : s9 = s := congrArg Prod.fst e2
    have eq9 : q9 = q := congrArg Prod.snd e2
    subst es
    subst eq
    subst es9
    subst eq9
    have eW : wkL (clf fm) (TC fm z) T gb gc gd nm jf g n s9 q9 = wkL (clr gl) (TC fm z) T gb gc gd nm jf g n s9 q9 := wkl_cg hT hp hj
    rw [eW] at c3 c4
    obtain ⟨w1, w2⟩ := wkl_ok (TT := clr gl) (T1 := TC fm z) (T := T) (g := g) (n := n) hp ho hj (Or.inr ⟨show gc jf < s9 by omega, o2, o4⟩)
    have hrw := out_rel hR w1 c3 d3
    have hs2 := shn_shm hrw (by omega)
    have hsg : SGO (sgB T g n) (kyM d) (shN fw (wkL (clr gl) (TC fm z) T gb gc gd nm jf g n s9 q9).length) ↔ SGO (sgB T g n) (kyM e) (shM gw (wkL (clr gl) (TC fm z) T gb gc gd nm jf g n s9 q9).length) := by
      unfold SGO
      rw [hde, duw_cg hs2]
    rcases c4 with ⟨f1, f2⟩ | ⟨f1, f2⟩ <;> rcases d4 with ⟨k1, k2⟩ | ⟨k1, k2⟩
    · exact f2.trans k2.symm
    · exact absurd (hsg.mp f1) k1
    · exact absurd (hsg.mpr k1) f1
    · exact f2.trans k2.symm
theorem flt_or {f : Nat → Int32} {z a k j : Nat} : flT (TC f z) a k j < 128 ∨ flT (TC f z) a k j = 200 := by
  unfold flT
  split
  · exact tc_or
  · exact Or.inr rfl
theorem a8_rgt {T : Nat → Nat} {a k : Nat} (h : ∀ j, j < k → T (a + j) < 128) : A8 (rgT T a k) := fun j => by
  rcases Nat.lt_or_ge j k with q | q
  · rw [rgT_get _ _ _ q]
    exact h j q
  · rw [gd_out _ j (by rw [rgT_len]; exact q)]
    omega
theorem a8_nmc {f : Nat → Int32} {z a k b c : Nat} (h : NMC (flT (TC f z) a k) b c = true) : A8 (rgT (flT (TC f z) a k) b (c - b)) := a8_rgt (fun j hj => nmc_cd h flt_or (by omega) (by omega))
theorem a8_dk : A8 [46, 95, 100, 111, 109, 97, 105, 110, 107, 101, 121, 46] := by
  intro j
  rcases Nat.lt_or_ge j 12 with q | q
  · have h9 : ∀ j, j < 12 → ([46, 95, 100, 111, 109, 97, 105, 110, 107, 101, 121, 46] : List Nat).getD j 0 < 128 := by decide
    exact h9 j q
  · rw [gd_out [46, 95, 100, 111, 109, 97, 105, 110, 107, 101, 121, 46] j q]
    omega
theorem a8_uk {f : Nat → Int32} {z a k n : Nat} {g : Nat → Nat → Nat} (h : SWB (flT (TC f z) a k) g n) : A8 (uK (flT (TC f z) a k) g n) := by
  rw [uK_s]
  exact a8_app (a8_app (a8_nmc h.2.2.2.1) a8_dk) (a8_nmc h.2.2.1)
theorem nm_dml {f : Nat → Int32} {z a k n : Nat} {g : Nat → Nat → Nat} (h : SWB (flT (TC f z) a k) g n) : A8 (dmL (flT (TC f z) a k) g n) ∧ NM (faU (dmL (flT (TC f z) a k) g n)) 0 (dmL (flT (TC f z) a k) g n).length = true := by
  have h1 := h.2.2.1
  have hl := nmc_len h1
  refine ⟨a8_nmc h1, ?_⟩
  generalize tgA g (tgR (flT (TC f z) a k) g [100] n) = b at h1 hl
  have key : ∀ b c, NMC (flT (TC f z) a k) b c = true → NM (faU (rgT (flT (TC f z) a k) b (c - b))) 0 (rgT (flT (TC f z) a k) b (c - b)).length = true := fun b c hn => by
    have h2 : NM (fun j => nI (flT (TC f z) a k j)) b c = true := hn
    have h3 := NM_len h2
    rw [show c = b + (c - b) by omega, NM_sh] at h2
    rw [rgT_len]
    refine (NM_cg (fun j a1 a2 => ?_)).trans h2
    have e : faU (rgT (flT (TC f z) a k) b (c - b)) j = nI (flT (TC f z) a k (b + j)) := by
      show nI ((rgT (flT (TC f z) a k) b (c - b)).getD j 0) = _
      rw [rgT_get _ _ _ a2]
    rw [e]
    exact ⟨rfl, Iff.rfl⟩
  exact key _ _ h.2.2.1
theorem sjr_same {fm gl : Nat → Int32} {z nm bs jf cn nw : Nat} {gb gc gd : Nat → Nat} {D E : Nat → ETY} {FE : Prop} {r1 r2 : Int32} (hR : REL fm gl z) (hz : z ≤ 1280) (hbs : bs ≤ z) (hT : ∀ j, j < z → clf fm j = clr gl j) (hp : ∀ k, k < nm → gb k < gc k ∧ gc k < gd k ∧ gd k ≤ z) (ho : ∀ k, k + 1 < nm → gd k ≤ gb (k + 1)) (hj : jf < nm) (hn : nm ≤ 20) (hd : DREL D E cn) (hFE : FE) (h1 : SJR fm z nm bs jf gb gc gd D cn nw (flT (TC fm z) (gc jf + 1) (gd jf - (gc jf + 1))) (flI (TC fm z) (gc jf + 1) (gd jf - (gc jf + 1))).length FE r1) (h2 : SJRm gl z nm bs jf gb gc gd E cn nw (flT (TC gl z) (gc jf + 1) (gd jf - (gc jf + 1))) (flI (TC gl z) (gc jf + 1) (gd jf - (gc jf + 1))).length r2) : r1 = r2 := by
  rw [← tc_rel hR] at h2
  have hk := hp jf hj
  rcases h1 with ⟨a1, a2⟩ | ⟨-, gg, a1, a2, a3⟩ <;> rcases h2 with ⟨b1, b2⟩ | ⟨g2, b1, b2, b3⟩
  · exact a2.trans b2.symm
  · exact absurd ⟨⟨g2, b1, b2⟩, hFE⟩ a1
  · exact absurd ⟨gg, a1, a2⟩ b1
  · obtain rfl := Option.some.inj (a1.symm.trans b1)
    have how := ow_well (T := TC fm z) (a := gc jf + 1) (k := gd jf - (gc jf + 1)) a1 a2.2.2.2.2.2.1
    rw [show gc jf + 1 + (gd jf - (gc jf + 1)) = gd jf by omega] at how
    rcases a3 with ⟨c1, c2⟩ | ⟨c1, gk, rk, c2, c3⟩ <;> rcases b3 with ⟨d1, d2⟩ | ⟨d1, gk2, rk2, d2, d3⟩
    · exact c2.trans d2.symm
    · exact absurd c1 d1
    · exact absurd d1 c1
    · obtain ⟨e1, e2⟩ := kyx_same hd (a8_uk a2) c2 d2
      subst e1
      rcases c3 with ⟨f1, f2⟩ | ⟨f1, f2⟩ <;> rcases d3 with ⟨k1, k2⟩ | ⟨k1, k2⟩
      · exact f2.trans k2.symm
      · exact absurd k1 f1
      · exact absurd f1 k1
      · obtain ⟨e3, e4⟩ := e2 f1
        subst e3
        exact sjb_same hR hz hbs hT hp ho hj hn (kyM_rel (hd gk e4)) how.1 how.2 f2 k2
theorem hsr_same {SJ SM : Nat → Int32 → Prop} {A B P Q : Nat → Prop} {n : Nat} {r1 r2 : Int32} (hP : ∀ j, j < n → (P j ↔ Q j)) (hS : ∀ j, j < n → P j → ∀ x y, SJ j x → SM j y → x = y) (hA : ∀ j, j < n → P j → ∀ x, SM j x → x = 2 → (A j ↔ B j)) (h1 : HSR SJ A P n r1) (h2 : HSR SM B Q n r2) : r1 = r2 := by
  rcases h1 with ⟨a1, k, a2, a3, a4, a5, -⟩ | ⟨a1, a2⟩ <;> rcases h2 with ⟨b1, i, b2, b3, b4, b5, -⟩ | ⟨b1, b2⟩
  · exact a1.trans b1.symm
  · obtain ⟨x, c1, c2⟩ := b2 k a2 ((hP k a2).mp a3)
    have e := hS k a2 a3 2 x a4 c1
    exact absurd ⟨e.symm, (hA k a2 a3 x c1 e.symm).mp a5⟩ c2
  · have hpi := (hP i b2).mpr b3
    obtain ⟨x, c1, c2⟩ := a2 i b2 hpi
    have e := hS i b2 hpi x 2 c1 b4
    exact absurd ⟨e, (hA i b2 hpi 2 b4 rfl).mpr b5⟩ c2
  · exact a1.trans b1.symm
theorem ho_same {D E : Nat → ETY} {ze : Nat} {V : List Nat} (hd : DREL D E ze) (hA : A8 V) (hn : NM (faU V) 0 V.length = true) : hoL D ze V = hoM E ze V := by
  unfold hoL hoM
  rw [hs_same hd hA hn]
theorem alg_same {D E : Nat → ETY} {ze : Nat} {x : Int32} {U V : List Nat} (hd : DREL D E ze) (hA : A8 U) (hn : NM (faU U) 0 U.length = true) (hB : A8 V) (hm : NM (faU V) 0 V.length = true) : ALG D ze x U V ↔ ALGm E ze x U V := by
  unfold ALG ALGm SHW
  rw [ho_same hd hA hn, ho_same hd hB hm]
theorem rw_same {D E : Nat → ETY} {ze : Nat} {V : List Nat} (hd : DREL D E ze) (hz : ze ≤ 40) (hA : A8 V) (hn : NM (faU V) 0 V.length = true) (ho : mvW E ze V = (-1)) : rwV D ze V = rwM E ze V ∧ (rwM E ze V).1 < ze := by
  have hs := hs_same hd hA hn
  have hot : ∀ k, otU D ze (DMU V k) = otU E ze (DMU V k) := fun k => otU_rel hd (a8_dmu hA k)
  have hng : ∀ j, j < ze → ¬ nI j = (-1) := fun j hj q => absurd (by rw [q]; decide) (nI_pos (n := j) (by omega))
  unfold rwV rwM
  rw [hs, hot 0, hot (hsM E ze V)]
  by_cases c0 : HAS E ze 3 (ooU (DMU V 0)) (yU (DMU V 0)) (faU (DMU V 0))
  · exfalso
    unfold mvW at ho
    rw [woW_h c0, if_pos rfl] at ho
    exact absurd ho (by decide)
  · by_cases d0 : otU E ze (DMU V 0) < 0
    · rw [if_neg (fun q => q d0), woW_n c0 d0, if_pos rfl]
      by_cases c1 : HAS E ze 3 (ooU (DMU V (hsM E ze V))) (yU (DMU V (hsM E ze V))) (faU (DMU V (hsM E ze V)))
      · exfalso
        unfold mvW at ho
        rw [woW_n c0 d0, if_neg (by decide), if_pos rfl, woW_h c1, if_pos rfl] at ho
        exact absurd ho (by decide)
      · by_cases d1 : otU E ze (DMU V (hsM E ze V)) < 0
        · exfalso
          unfold mvW at ho
          rw [woW_n c0 d0, if_neg (by decide), if_pos rfl, woW_n c1 d1, if_neg (by decide), if_pos rfl] at ho
          exact absurd ho (by decide)
        · obtain ⟨j, hj, ej⟩ := otU_j (D := E) (ze := ze) (U := DMU V (hsM E ze V)) rfl d1
          rw [woW_y c1 d1, ej]
          exact ⟨rfl, by show (nI j).toNatClampNeg < ze; rw [nI_clamp (by omega)]; exact hj⟩
    · obtain ⟨j, hj, ej⟩ := otU_j (D := E) (ze := ze) (U := DMU V 0) rfl d0
      rw [if_pos d0, woW_y c0 d0, ej, if_neg (hng j hj)]
      exact ⟨rfl, by show (nI j).toNatClampNeg < ze; rw [nI_clamp (by omega)]; exact hj⟩
theorem cnt_u {P : Nat → Prop} : ∀ n, CNT P n 1 → ∀ i j, i < n → j < n → P i → P j → i = j := by
  intro n
  induction n with
  | zero => intro _ i j hi; exact absurd hi (Nat.not_lt_zero _)
  | succ n ih =>
    intro h i j hi hj pi pj
    rcases h with ⟨h1, v, h2, h3⟩ | ⟨h1, h2⟩
    · obtain rfl : v = 0 := by omega
      have hno := cnt_no n h3
      have ei : i = n := by
        rcases Nat.lt_or_ge i n with q | q
        · exact absurd pi (hno i q)
        · omega
      have ej : j = n := by
        rcases Nat.lt_or_ge j n with q | q
        · exact absurd pj (hno j q)
        · omega
      omega
    · have hi2 : i < n := by
        rcases Nat.lt_or_ge i n with q | q
        · exact q
        · rw [show i = n by omega] at pi
          exact absurd pi h1
      have hj2 : j < n := by
        rcases Nat.lt_or_ge j n with q | q
        · exact q
        · rw [show j = n by omega] at pj
          exact absurd pj h1
      exact ih h2 i j hi2 hj2 pi pj
theorem plr_u {P : Nat → Prop} {n : Nat} {Z : Nat → Int32} {ro : Int32} (h : PLR P n Z ro) (c : ro = (-1)) : ∀ i j, i < n → j < n → P i → P j → i = j := by
  obtain ⟨w, h1, h2⟩ := h
  rcases h2 with ⟨-, a2⟩ | ⟨a1, -⟩
  · exact absurd (a2.symm.trans c) (by decide)
  · subst a1
    exact cnt_u n h1
theorem plr_z {P : Nat → Prop} {n j : Nat} {Z : Nat → Int32} {ro : Int32} (h : PLR P n Z ro) (c : ro = (-1)) (hj : j < n) (hp : P j) : Z j = (-1) := by
  have hu := plr_u h c
  obtain ⟨w, h1, h2⟩ := h
  rcases h2 with ⟨-, a2⟩ | ⟨-, i, a2, a3, -, a5⟩
  · exact absurd (a2.symm.trans c) (by decide)
  · rw [hu j i hj a2 hp a3, ← a5]
    exact c
theorem wsl_same {P Q : Nat → Prop} {n sn : Nat} {Z Y : Nat → Int32} {vS x1 r1 r2 : Int32} {dw d2 : Nat → Option (List Nat)} {W W2 : List Nat → Int32 → Prop} (h0 : vS = 0 ↔ sn = 0) (hP : ¬ n = 0 → ∀ j, j < n → (P j ↔ Q j)) (hZ : ¬ n = 0 → ∀ j, j < n → Z j = Y j) (hdw : ¬ n = 0 → ∀ j, j < n → dw j = d2 j) (hW : ¬ n = 0 → ¬ vS = 0 → ¬ x1 < 0 → ∀ V j, j < n → Q j → d2 j = some V → Y j = (-1) → ∀ a b, W V a → W2 V b → a = b) (h1 : WSL vS x1 n P Z dw W r1) (h2 : WSLm sn x1 n Q Y d2 W2 r2) : r1 = r2 := by
  have hg : (vS = 0 ∨ x1 < 0) ↔ (sn = 0 ∨ x1 < 0) := by rw [h0]
  rcases h1 with ⟨a1, a2⟩ | ⟨a1, a2, a3⟩ | ⟨a1, a2, ro, a3, a4⟩ <;> rcases h2 with ⟨b1, b2⟩ | ⟨b1, b2, b3⟩ | ⟨b1, b2, rm, b3, b4⟩
  · exact a2.trans b2.symm
  · exact absurd (hg.mp a1) b1
  · exact absurd (hg.mp a1) b1
  · exact absurd (hg.mpr b1) a1
  · exact a3.trans b3.symm
  · exact absurd a2 b2
  · exact absurd (hg.mpr b1) a1
  · exact absurd b2 a2
  · have e := plr_same (hP a2) (hZ a2) a3 b3
    subst e
    rcases a4 with ⟨c1, c2⟩ | ⟨c1, V, j, c2, c3, c4, c5⟩ <;> rcases b4 with ⟨d1, d2'⟩ | ⟨d1, V2, j2, d2', d3, d4, d5⟩
    · exact c2.trans d2'.symm
    · exact absurd d1 c1
    · exact absurd c1 d1
    · have ej := plr_u b3 d1 j j2 c2 d2' ((hP a2 j c2).mp c3) d3
      subst ej
      have eV : V = V2 := Option.some.inj (c4.symm.trans ((hdw a2 j c2).trans d4))
      subst eV
      exact hW a2 (fun q => a1 (Or.inl q)) (fun q => a1 (Or.inr q)) V j c2 d3 d4 (plr_z b3 d1 c2 d3) _ _ c5 d5
theorem wfn_same {D E : Nat → ETY} {ze pj pk : Nat} {V U U2 : List Nat} {H H2 : Int32 → Prop} {r1 r2 : Int32} (hpj : pj = pk) (hAL : ALG D ze (saV D ze V) U V ↔ ALGm E ze (saM E ze V) U2 V) (hH : ∀ a b, H a → H2 b → a = b) (hwn : wnV D ze V = wnM E ze V) (h1 : WFN D ze V U pj H r1) (h2 : WFNm E ze V U2 pk H2 r2) : r1 = r2 := by
  subst hpj
  rcases h1 with ⟨a1, a2, a3⟩ | ⟨a1, h, a2, a3⟩ <;> rcases h2 with ⟨b1, b2, b3⟩ | ⟨b1, k, b2, b3⟩
  · exact a3.trans b3.symm
  · exact absurd ⟨a1, hAL.mp a2⟩ b1
  · exact absurd ⟨b1, hAL.mpr b2⟩ a1
  · have e := hH h k a2 b2
    subst e
    rcases a3 with ⟨c1, c2⟩ | ⟨c1, c2⟩ <;> rcases b3 with ⟨d1, d2⟩ | ⟨d1, d2⟩
    · exact c2.trans d2.symm
    · exact absurd (c1.symm.trans d1) (by decide)
    · exact absurd (d1.symm.trans c1) (by decide)
    · rw [c2, d2, hwn]
theorem clf_rel {fm gl : Nat → Int32} {z : Nat} (h : REL fm gl z) : ∀ j, j < z → clf fm j = clr gl j := h.cl
theorem wv_same {fm gl : Nat → Int32} {z nm bs cn nw pj pk : Nat} {gb gc gd : Nat → Nat} {D E : Nat → ETY} {V U : List Nat} {FE : Prop} {r1 r2 : Int32} (hR : REL fm gl z) (hz : z ≤ 1280) (hbs : bs ≤ z) (hp : ∀ k, k < nm → gb k < gc k ∧ gc k < gd k ∧ gd k ≤ z) (ho : ∀ k, k + 1 < nm → gd k ≤ gb (k + 1)) (hn : nm ≤ 20) (hd : DREL D E cn) (hcn : cn ≤ 40) (hFE : FE) (hA : A8 V) (hm : NM (faU V) 0 V.length = true) (hUA : A8 U) (hUm : NM (faU U) 0 U.length = true) (hop : mvW E cn V = (-1)) (hpj : pj = pk) (h1 : WFN D cn V U pj (fun h9 => HSR (fun k9 x9 => SJR fm z nm bs k9 gb gc gd D cn nw (flT (TC fm z) (gc k9 + 1) (gd k9 - (gc k9 + 1))) (flI (TC fm z) (gc k9 + 1) (gd k9 - (gc k9 + 1))).length FE x9) (fun k9 => ALG D cn (skV D cn V) (dmO (flT (TC fm z) (gc k9 + 1) (gd k9 - (gc k9 + 1))) (flI (TC fm z) (gc k9 + 1) (gd k9 - (gc k9 + 1))).length) V) (fun k9 => NAL (TC fm z) (gb k9) (gc k9) DKL) nm h9) r1) (h2 : WFNm E cn V U pk (fun h9 => HSR (fun k9 x9 => SJRm gl z nm bs k9 gb gc gd E cn nw (flT (TC gl z) (gc k9 + 1) (gd k9 - (gc k9 + 1))) (flI (TC gl z) (gc k9 + 1) (gd k9 - (gc k9 + 1))).length x9) (fun k9 => ALGm E cn (skM E cn V) (dmO (flT (TC gl z) (gc k9 + 1) (gd k9 - (gc k9 + 1))) (flI (TC gl z) (gc k9 + 1) (gd k9 - (gc k9 + 1))).length) V) (fun k9 => NAL (TC gl z) (gb k9) (gc k9) DKL) nm h9) r2) : r1 = r2 := by
  obtain ⟨erw, hlt⟩ := rw_same hd hcn hA hm hop
  have hdr := hd _ hlt
  have ewn : wnV D cn V = wnM E cn V := by
    unfold wnV wnM
    rw [erw, rcW_rel hdr]
  have esa : saV D cn V = saM E cn V := by
    unfold saV saM
    rw [erw, rcF_rel hdr]
  have esk : skV D cn V = skM E cn V := by
    unfold skV skM
    rw [erw, rcF_rel hdr]
  have eT := tc_rel hR
  refine wfn_same hpj (by rw [esa]; exact alg_same hd hUA hUm hA hm) (fun a b ha hb => ?_) ewn h1 h2
  refine hsr_same (fun j hj => by rw [eT]) (fun j hj _ x y hx hy => sjr_same hR hz hbs (clf_rel hR) hp ho hj hn hd hFE hx hy) (fun j hj _ x hx hx2 => ?_) ha hb
  rw [esk, eT]
  rw [← eT] at hx ⊢
  obtain ⟨gg, q1, q2⟩ : ∃ gg, tgT (flT (TC fm z) (gc j + 1) (gd j - (gc j + 1))) (flI (TC fm z) (gc j + 1) (gd j - (gc j + 1))).length = some gg ∧ SWB (flT (TC fm z) (gc j + 1) (gd j - (gc j + 1))) gg.2 gg.1 := by
    rcases hx with q | q
    · exact absurd (q.2.symm.trans hx2) (by decide)
    · obtain ⟨gg, q1, q2, -⟩ := q
      exact ⟨gg, q1, q2⟩
  rw [dmO_e q1]
  obtain ⟨d1, d2⟩ := nm_dml q2
  exact alg_same hd d1 d2 hA hm
theorem dz_same {n : Nat} {bb : Int32} {zm : Nat} {fL sA sB sC : Nat → Int32} {nf bd mm : Nat} {gm : Nat → Nat → Nat} {gl : Nat → Int32} (h : LRL n bb zm fL sA sB sC nf bd mm gm gl) (hn : ¬ n = 0) : ∀ j, j < n → dmW (TC fL zm) (gm 1 j) (cln sC j) = dmW (TC gl mm) (gm 1 j) (gm 2 j) := by
  intro j hj
  obtain ⟨q1, q2, q3, -, -, -⟩ := h.2.resolve_left hn
  obtain ⟨p1, p2, p3, p4⟩ := h.pos.2 j (by have h9 := h.1; omega)
  have eT : TC fL zm = TC gl mm := by
    rw [q1]
    exact tc_rel q3
  rw [eT]
  refine (dm_e ?_).symm
  rcases p4 with ⟨a1, a2⟩ | ⟨a1, a2⟩
  · refine Or.inr ⟨by omega, ?_⟩
    have h10 : gl (cln sC j) = 10 := Classical.byContradiction (fun c => clg0n c a2)
    exact (tcc a1 10 (by omega)).mpr h10
  · exact Or.inl (by omega)
theorem wv_law {D E : Nat → ETY} {ze fm sn nw : Nat} {aS vS : Int32} {SD : SDR} {LC DN : List Nat} {n : Nat} {bb : Int32} {zm : Nat} {fL sA sB sC : Nat → Int32} {nf bd mm : Nat} {gm : Nat → Nat → Nat} {gl : Nat → Int32} (hd : DREL D E ze) (hz : ze ≤ 40) (h : LRL n bb zm fL sA sB sC nf bd mm gm gl) (hs : SRL SD aS vS fm sn LC DN) (hn20 : n ≤ 20) (hn : ¬ n = 0) (hv : ¬ vS = 0) {V : List Nat} {j : Nat} (hj : j < n) (hQ : alP gl (gm 0 j) (gm 1 j) (cct [102, 114, 111, 109]) 4) (hV : dmW (TC gl mm) (gm 1 j) (gm 2 j) = some V) (hY : msW E ze (dmW (TC gl mm) (gm 1 j) (gm 2 j)) = (-1)) {a b : Int32} (h1 : WFN D ze V SD.2.2.1 (CHW D ze SD aS 11 SD.2.2.1 0 0).1 (fun h9 => HSR (fun k9 x9 => SJR fL zm n bd k9 (gm 0) (gm 1) (cln sC) D ze nw (flT (TC fL zm) (gm 1 k9 + 1) (cln sC k9 - (gm 1 k9 + 1))) (flI (TC fL zm) (gm 1 k9 + 1) (cln sC k9 - (gm 1 k9 + 1))).length (∃ i, i < n ∧ FRM (TC fL zm) (gm 0 i) (gm 1 i)) x9) (fun k9 => ALG D ze (skV D ze V) (dmO (flT (TC fL zm) (gm 1 k9 + 1) (cln sC k9 - (gm 1 k9 + 1))) (flI (TC fL zm) (gm 1 k9 + 1) (cln sC k9 - (gm 1 k9 + 1))).length) V) (fun k9 => NAL (TC fL zm) (gm 0 k9) (gm 1 k9) DKL) n h9) a) (h2 : WFNm E ze V DN (CHW E ze (sdM LC DN (nI fm)) (nI fm) 11 DN 0 0).1 (fun h9 => HSR (fun k9 x9 => SJRm gl mm n bd k9 (gm 0) (gm 1) (cln sC) E ze nw (flT (TC gl mm) (gm 1 k9 + 1) (cln sC k9 - (gm 1 k9 + 1))) (flI (TC gl mm) (gm 1 k9 + 1) (cln sC k9 - (gm 1 k9 + 1))).length x9) (fun k9 => ALGm E ze (skM E ze V) (dmO (flT (TC gl mm) (gm 1 k9 + 1) (cln sC k9 - (gm 1 k9 + 1))) (flI (TC gl mm) (gm 1 k9 + 1) (cln sC k9 - (gm 1 k9 + 1))).length) V) (fun k9 => NAL (TC gl mm) (gm 0 k9) (gm 1 k9) DKL) n h9) b) : a = b := by
  have hpj := congrArg (fun t : Nat × Nat × Nat => t.1) (cst_same hd hz hs hv)
  obtain ⟨q1, q2, q3, -, q5, -⟩ := h.2.resolve_left hn
  have hp := h.pos.1
  have ho := h.ord
  obtain ⟨hA, hm⟩ := dm_v hV
  rw [hV] at hY
  have hop : mvW E ze V = (-1) := hY
  have eT : TC fL zm = TC gl mm := by
    rw [q1]
    exact tc_rel q3
  have hFE : ∃ i, i < n ∧ FRM (TC fL zm) (gm 0 i) (gm 1 i) := ⟨j, hj, by
    rw [eT]
    exact frm_nal.mp ((alp_nal (z := mm) (l := FRO) ⟨rfl, by decide +kernel⟩ (by obtain ⟨-, -, -, -, u5, u6⟩ := hp j hj; omega)).mp hQ)⟩
  have hp2 : ∀ k, k < n → gm 0 k < gm 1 k ∧ gm 1 k < cln sC k ∧ cln sC k ≤ mm := fun k hk => by
    obtain ⟨-, -, -, u4, u5, u6⟩ := hp k hk
    exact ⟨u4, u5, by omega⟩
  subst q1
  rcases hs with ⟨c, -⟩ | ⟨-, -, c, d, e, f⟩
  · exact absurd c hv
  · subst d
    exact wv_same (U := DN) q3 q2 q5 hp2 ho hn20 hd hz hFE hA hm e.2.2.1 f hop hpj h1 h2
