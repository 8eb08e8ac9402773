theorem rel_feed {f g g2 : Nat → Int32} {zt : Nat} {x1 x2 x3 x4 x5 : Int32} (h : REL f g zt) (h1 : ∀ i, i < zt → g2 i = g i) (h2 : ∀ k, k < 20 → g2 (zt + k) = byv (fv5 x1 x2 x3 x4 x5) k) : REL (up4 (up4 (up4 (up4 (up4 f zt (ocT x1 24) (ocT x1 16) (ocT x1 8) (ocT x1 0)) (zt + 4) (ocT x2 24) (ocT x2 16) (ocT x2 8) (ocT x2 0)) (zt + 8) (ocT x3 24) (ocT x3 16) (ocT x3 8) (ocT x3 0)) (zt + 12) (ocT x4 24) (ocT x4 16) (ocT x4 8) (ocT x4 0)) (zt + 16) (ocT x5 24) (ocT x5 16) (ocT x5 8) (ocT x5 0)) g2 (zt + 20) := by
  intro j hj
  rcases Nat.lt_or_ge j zt with q | q
  · obtain ⟨n, a1, a2, a3⟩ := h j q
    refine ⟨n, a1, ?_, (h1 j q).trans a3⟩
    rw [up4_lo (by omega), up4_lo (by omega), up4_lo (by omega), up4_lo (by omega), up4_lo (by omega)]
    exact a2
  · obtain ⟨k, rfl⟩ : ∃ k, j = zt + k := ⟨j - zt, by omega⟩
    have e := h2 k (by omega)
    rcases (show k = 0 ∨ k = 1 ∨ k = 2 ∨ k = 3 ∨ k = 4 ∨ k = 5 ∨ k = 6 ∨ k = 7 ∨ k = 8 ∨ k = 9 ∨ k = 10 ∨ k = 11 ∨ k = 12 ∨ k = 13 ∨ k = 14 ∨ k = 15 ∨ k = 16 ∨ k = 17 ∨ k = 18 ∨ k = 19 by omega) with rfl | rfl | rfl | rfl | rfl | rfl | rfl | rfl | rfl | rfl | rfl | rfl | rfl | rfl | rfl | rfl | rfl | rfl | rfl | rfl
    · obtain ⟨n, a1, a2, a3⟩ := ob_24 x1
      refine ⟨n, a1, ?_, e.trans a3⟩
      rw [up4_lo (by omega), up4_lo (by omega), up4_lo (by omega), up4_lo (by omega), show zt + 0 = zt by omega, up4_0]
      exact a2
    · obtain ⟨n, a1, a2, a3⟩ := ob_16 x1
      refine ⟨n, a1, ?_, e.trans a3⟩
      rw [up4_lo (by omega), up4_lo (by omega), up4_lo (by omega), up4_lo (by omega), show zt + 1 = zt + 1 by omega, up4_1]
      exact a2
    · obtain ⟨n, a1, a2, a3⟩ := ob_8 x1
      refine ⟨n, a1, ?_, e.trans a3⟩
      rw [up4_lo (by omega), up4_lo (by omega), up4_lo (by omega), up4_lo (by omega), show zt + 2 = zt + 2 by omega, up4_2]
      exact a2
    · obtain ⟨n, a1, a2, a3⟩ := ob_0 x1
      refine ⟨n, a1, ?_, e.trans a3⟩
      rw [up4_lo (by omega), up4_lo (by omega), up4_lo (by omega), up4_lo (by omega), show zt + 3 = zt + 3 by omega, up4_3]
      exact a2
    · obtain ⟨n, a1, a2, a3⟩ := ob_24 x2
      refine ⟨n, a1, ?_, e.trans a3⟩
      rw [up4_lo (by omega), up4_lo (by omega), up4_lo (by omega), show zt + 4 = (zt + 4) by omega, up4_0]
      exact a2
    · obtain ⟨n, a1, a2, a3⟩ := ob_16 x2
      refine ⟨n, a1, ?_, e.trans a3⟩
      rw [up4_lo (by omega), up4_lo (by omega), up4_lo (by omega), show zt + 5 = (zt + 4) + 1 by omega, up4_1]
      exact a2
    · obtain ⟨n, a1, a2, a3⟩ := ob_8 x2
      refine ⟨n, a1, ?_, e.trans a3⟩
      rw [up4_lo (by omega), up4_lo (by omega), up4_lo (by omega), show zt + 6 = (zt + 4) + 2 by omega, up4_2]
      exact a2
    · obtain ⟨n, a1, a2, a3⟩ := ob_0 x2
      refine ⟨n, a1, ?_, e.trans a3⟩
      rw [up4_lo (by omega), up4_lo (by omega), up4_lo (by omega), show zt + 7 = (zt + 4) + 3 by omega, up4_3]
      exact a2
    · obtain ⟨n, a1, a2, a3⟩ := ob_24 x3
      refine ⟨n, a1, ?_, e.trans a3⟩
      rw [up4_lo (by omega), up4_lo (by omega), show zt + 8 = (zt + 8) by omega, up4_0]
      exact a2
    · obtain ⟨n, a1, a2, a3⟩ := ob_16 x3
      refine ⟨n, a1, ?_, e.trans a3⟩
      rw [up4_lo (by omega), up4_lo (by omega), show zt + 9 = (zt + 8) + 1 by omega, up4_1]
      exact a2
    · obtain ⟨n, a1, a2, a3⟩ := ob_8 x3
      refine ⟨n, a1, ?_, e.trans a3⟩
      rw [up4_lo (by omega), up4_lo (by omega), show zt + 10 = (zt + 8) + 2 by omega, up4_2]
      exact a2
    · obtain ⟨n, a1, a2, a3⟩ := ob_0 x3
      refine ⟨n, a1, ?_, e.trans a3⟩
      rw [up4_lo (by omega), up4_lo (by omega), show zt + 11 = (zt + 8) + 3 by omega, up4_3]
      exact a2
    · obtain ⟨n, a1, a2, a3⟩ := ob_24 x4
      refine ⟨n, a1, ?_, e.trans a3⟩
      rw [up4_lo (by omega), show zt + 12 = (zt + 12) by omega, up4_0]
      exact a2
    · obtain ⟨n, a1, a2, a3⟩ := ob_16 x4
      refine ⟨n, a1, ?_, e.trans a3⟩
      rw [up4_lo (by omega), show zt + 13 = (zt + 12) + 1 by omega, up4_1]
      exact a2
    · obtain ⟨n, a1, a2, a3⟩ := ob_8 x4
      refine ⟨n, a1, ?_, e.trans a3⟩
      rw [up4_lo (by omega), show zt + 14 = (zt + 12) + 2 by omega, up4_2]
      exact a2
    · obtain ⟨n, a1, a2, a3⟩ := ob_0 x4
      refine ⟨n, a1, ?_, e.trans a3⟩
      rw [up4_lo (by omega), show zt + 15 = (zt + 12) + 3 by omega, up4_3]
      exact a2
    · obtain ⟨n, a1, a2, a3⟩ := ob_24 x5
      refine ⟨n, a1, ?_, e.trans a3⟩
      rw [show zt + 16 = (zt + 16) by omega, up4_0]
      exact a2
    · obtain ⟨n, a1, a2, a3⟩ := ob_16 x5
      refine ⟨n, a1, ?_, e.trans a3⟩
      rw [show zt + 17 = (zt + 16) + 1 by omega, up4_1]
      exact a2
    · obtain ⟨n, a1, a2, a3⟩ := ob_8 x5
      refine ⟨n, a1, ?_, e.trans a3⟩
      rw [show zt + 18 = (zt + 16) + 2 by omega, up4_2]
      exact a2
    · obtain ⟨n, a1, a2, a3⟩ := ob_0 x5
      refine ⟨n, a1, ?_, e.trans a3⟩
      rw [show zt + 19 = (zt + 16) + 3 by omega, up4_3]
      exact a2
def PCl (D : va_G) (cs : Nat → ClassId) (A Bq : Nat → Prop) (xq zt cn : Nat) (f : Nat → Int32) (n : Nat) (bb : Int32) (zm : Nat) (fL sA sB sC : Nat → Int32) (DX : Nat → ETY) (zo : Nat) (fo : Nat → Int32) (H : Heap) : Prop := ∃ (L : List Nat) (F : Nat → va_E) (ty : TyM) (ρ ta ou di ea ck sl po hs rt ro : Nat), NEW D cs ty L F A H ∧ xq ∈ L ∧ ty xq = (11, ρ, [ta, ou, di, ea, ck, sl, po, hs]) ∧ ty ta = (0, ρ + 1, [rt, 3000]) ∧ F ta = .inr (0, [.ref rt, .int (nI zt), .int 0]) ∧ F rt = .inl (cs 16, 3000, .inl f) ∧ zt ≤ 3000 ∧ F di = .inr (2, [.ref ea, .int (nI cn)]) ∧ cn ≤ 40 ∧ LTC cs ty L F xq ρ ta ou di ck sl po hs n bb zm fL sA sB sC ∧ DIRC cs F ea cn DX ∧ ty ou = (0, ρ + 2, [ro, 3000]) ∧ F ou = .inr (0, [.ref ro, .int (nI zo), .int 0]) ∧ F ro = .inl (cs 16, 3000, .inl fo) ∧ zo ≤ 3000 ∧ ∀ a ∈ L, Bq a
def PMl (D : va_G) (cs : Nat → ClassId) (A Bq : Nat → Prop) (h0 zt ze : Nat) (gt : Nat → Int32) (nf bd mm : Nat) (gm : Nat → Nat → Nat) (gl : Nat → Int32) (EX : Nat → ETY) (zo : Nat) (go : Nat → Int32) (H : Heap) : Prop := ∃ (L : List Nat) (F : Nat → va_E) (ty : TyM) (ρ ta ou so ad na va lc dm tg pe ml bg co sp nb0 nb1 nb2 pl se ke wi hs mo po nu pr sq xa sa n64 m64 ex wh sd tk hd ak ho ot sx s0 s1 s2 : Nat), NEWm D cs ty gm L F A H ∧ h0 ∈ L ∧ ty h0 = (15, ρ, [ta, ou, so, ad, na, va, lc, dm, tg, pe, ml, bg, co, sp, nb0, nb1, nb2, pl, se, ke, wi, hs, mo, po, nu, pr, sq, xa, sa, n64, m64, ex, wh, sd, tk, hd, ak, ho, ot, sx, s0, s1, s2, nf, bd, mm, zo, ze, zt]) ∧ F ta = .inl (cs 17, 3000, .inl gt) ∧ F ml = .inl (cs 17, 3000, .inl gl) ∧ DIRM cs F so ad na va ze EX ∧ F ou = .inl (cs 17, 6000, .inl go) ∧ nb0 ≠ nb1 ∧ nb0 ≠ nb2 ∧ nb1 ≠ nb2 ∧ (∀ a ∈ L, (ty a).1 = 26 → a = bg ∨ a = co ∨ a = sp) ∧ (∀ a ∈ L, (ty a).1 = 15 → a = h0) ∧ ∀ a ∈ L, ¬ Bq a
theorem PCl.kept {D : va_G} {cs : Nat → ClassId} {A Bq : Nat → Prop} {xq zt cn : Nat} {f : Nat → Int32} {n : Nat} {bb : Int32} {zm : Nat} {fL sA sB sC : Nat → Int32} {DX : Nat → ETY} {zo : Nat} {fo : Nat → Int32} {H H1 : Heap} {L1 : List Nat} {F1 : Nat → va_E} (h : PCl D cs A Bq xq zt cn f n bb zm fL sA sB sC DX zo fo H) (hB : ∀ a ∈ L1, ¬ Bq a) (hk : ∀ q : Nat, q < H.size → ¬ va_A (va_pl L1 F1) H.size q → H1[q]? = H[q]?) : PCl D cs A Bq xq zt cn f n bb zm fL sA sB sC DX zo fo H1 := by
  obtain ⟨L, F, ty, ρ, ta, ou, di, ea, ck, sl, po, hs, rt, ro, ⟨hP, hD, hO, hW⟩, h1, h2, h3, h5, h6, h7, h8, h9, h10, h11, h12, h13, h14, h15, h4⟩ := h
  exact ⟨L, F, ty, ρ, ta, ou, di, ea, ck, sl, po, hs, rt, ro, ⟨pl_kept hP hk (fun a ha w => hB a w (h4 a ha)), hD, hO, hW⟩, h1, h2, h3, h5, h6, h7, h8, h9, h10, h11, h12, h13, h14, h15, h4⟩
theorem PMl.kept {D : va_G} {cs : Nat → ClassId} {A Bq : Nat → Prop} {h0 zt ze : Nat} {gt : Nat → Int32} {nf bd mm : Nat} {gm : Nat → Nat → Nat} {gl : Nat → Int32} {EX : Nat → ETY} {zo : Nat} {go : Nat → Int32} {H H1 : Heap} {L1 : List Nat} {F1 : Nat → va_E} (h : PMl D cs A Bq h0 zt ze gt nf bd mm gm gl EX zo go H) (hB : ∀ a ∈ L1, Bq a) (hk : ∀ q : Nat, q < H.size → ¬ va_A (va_pl L1 F1) H.size q → H1[q]? = H[q]?) : PMl D cs A Bq h0 zt ze gt nf bd mm gm gl EX zo go H1 := by
  obtain ⟨L, F, ty, ρ, ta, ou, so, ad, na, va, lc, dm, tg, pe, ml, bg, co, sp, nb0, nb1, nb2, pl, se, ke, wi, hs, mo, po, nu, pr, sq, xa, sa, n64, m64, ex, wh, sd, tk, hd, ak, ho, ot, sx, s0, s1, s2, ⟨hP, hD, hO, hW⟩, h1, h2, h3, h10, h11, h12, h4, h5, h6, h7, h8, h9⟩ := h
  exact ⟨L, F, ty, ρ, ta, ou, so, ad, na, va, lc, dm, tg, pe, ml, bg, co, sp, nb0, nb1, nb2, pl, se, ke, wi, hs, mo, po, nu, pr, sq, xa, sa, n64, m64, ex, wh, sd, tk, hd, ak, ho, ot, sx, s0, s1, s2, ⟨pl_kept hP hk (fun a ha w => h9 a ha (hB a w)), hD, hO, hW⟩, h1, h2, h3, h10, h11, h12, h4, h5, h6, h7, h8, h9⟩
def DR1 (d dE : ETY) : Prop := d.1 = dE.1 ∧ d.2.1 = dE.2.1 ∧ d.2.2.1 = dE.2.2.1 ∧ REL d.2.2.2.1 dE.2.2.2.1 d.2.2.1 ∧ d.2.2.2.2.1 = dE.2.2.2.2.1 ∧ REL d.2.2.2.2.2 dE.2.2.2.2.2 d.2.2.2.2.1
def DREL (D E : Nat → ETY) (ze : Nat) : Prop := ∀ k, k < ze → DR1 (D k) (E k)
theorem DREL.zero {D E : Nat → ETY} : DREL D E 0 := fun k hk => absurd hk (Nat.not_lt_zero _)
theorem enx_rel {x1 x2 : Int32} {f g : Nat → Int32} {z : Nat} {d dE : ETY} (h1 : ENX x1 x2 f z d) (h2 : ENX x1 x2 g z dE) (hrel : REL f g z) : DR1 d dE := by
  obtain ⟨a1, a2, a3, a4, a5⟩ := h1
  obtain ⟨b1, b2, b3, b4, b5⟩ := h2
  have hN : d.2.2.1 ≤ z → d.2.2.1 = dE.2.2.1 → REL d.2.2.2.1 dE.2.2.2.1 d.2.2.1 := fun hz he j hj => by
    obtain ⟨n, e1, e2, e3⟩ := hrel j (by omega)
    exact ⟨n, e1, (a3 j hj).trans e2, (b3 j (by omega)).trans e3⟩
  rcases a5 with ⟨p1, p2, p3, p4, p5⟩ | ⟨p1, p2, p3⟩
  · rcases b5 with ⟨q1, q2, q3, q4, q5⟩ | ⟨q1, -, -⟩
    · have he : d.2.2.1 = dE.2.2.1 := ((FST_rel hrel).mp p2).uniq q2
      refine ⟨a1.trans b1.symm, a2.trans b2.symm, he, hN (by omega) he, by omega, fun j hj => ?_⟩
      obtain ⟨n, e1, e2, e3⟩ := hrel (d.2.2.1 + 1 + j) (by omega)
      exact ⟨n, e1, (p5 j hj).trans e2, by rw [q5 j (by omega), ← he]; exact e3⟩
    · exact absurd p1 q1
  · rcases b5 with ⟨q1, -, -⟩ | ⟨q1, q2, q3⟩
    · exact absurd q1 p1
    · have he : d.2.2.1 = dE.2.2.1 := p2.trans q2.symm
      refine ⟨a1.trans b1.symm, a2.trans b2.symm, he, hN (by omega) he, p3.trans q3.symm, ?_⟩
      rw [p3]
      exact REL.zero
theorem DREL.add {D E : Nat → ETY} {d dE : ETY} {f g : Nat → Int32} {z ze c2 : Nat} {x1 x2 : Int32} (h : DREL D E ze) (hc : c2 ≤ ze + 1) (hrel : REL f g z) (h1 : c2 = ze + 1 → ENX x1 x2 f z d) (h2 : c2 = ze + 1 → ENX x1 x2 g z dE) : DREL (fun k => if k = ze then d else D k) (fun k => if k = ze then dE else E k) c2 := by
  intro k hk
  show DR1 (if k = ze then d else D k) (if k = ze then dE else E k)
  by_cases c : k = ze
  · rw [if_pos c, if_pos c]
    exact enx_rel (h1 (by omega)) (h2 (by omega)) hrel
  · rw [if_neg c, if_neg c]
    exact h k (by omega)
theorem nar_inv : ∀ n, n < 256 → ((vp_nar .byte (nI n)).toInt % 256).toNat = n := by decide +kernel
theorem REL.eqq {f g f2 g2 : Nat → Int32} {z z2 i j : Nat} (h : REL f g z) (h2 : REL f2 g2 z2) (hi : i < z) (hj : j < z2) : f i = f2 j ↔ g i = g2 j := by
  obtain ⟨n, a1, a2, a3⟩ := h i hi
  obtain ⟨n2, b1, b2, b3⟩ := h2 j hj
  rw [a2, a3, b2, b3]
  constructor
  · intro q
    rw [q]
  · intro q
    have e1 := nar_inv n a1
    rw [q, nar_inv n2 b1] at e1
    rw [e1]
theorem nm_first {f : Nat → Int32} {z : Nat} (h : NM f 0 z = true) : ¬ f 0 = 46 := fun q => by
  have h9 := NM_len h
  unfold NM at h
  rw [Bool.and_eq_true] at h
  exact absurd (nm_dot0 h.2 (by omega) q rfl) (by decide)
theorem und_unm {f g f2 g2 : Nat → Int32} {z y : Nat} (h : REL f g z) (h2 : REL f2 g2 y) (hn : NM f 0 z = true) : UND f z f2 y ↔ UNM g z g2 y := by
  constructor
  · rintro ⟨a1, a2, a3⟩
    refine ⟨a1, ?_, fun j hj => ?_⟩
    · by_cases c : z = y
      · exact Or.inl c
      · have a4 := a3.resolve_left c
        refine Or.inr ⟨fun q => ?_, (h.ok (by omega)).2.1.mp a4⟩
        rw [show z - y - 1 = 0 by omega] at a4
        exact nm_first hn a4
    · have e1 := a2 (y - j) (by omega) (by omega)
      rw [show z - (y - j) = z - y + j by omega, show y - (y - j) = j by omega] at e1
      exact (h.eqq h2 (by omega) hj).mp e1
  · rintro ⟨a1, a2, a3⟩
    refine ⟨a1, fun i h1 h9 => ?_, ?_⟩
    · have e1 := a3 (y - i) (by omega)
      rw [show z - y + (y - i) = z - i by omega] at e1
      exact (h.eqq h2 (by omega) (by omega)).mpr e1
    · by_cases c : z = y
      · exact Or.inl c
      · exact Or.inr ((h.ok (by omega)).2.1.mpr (a2.resolve_left c).2)
theorem hst_rel {f g : Nat → Int32} {z : Nat} {D E : Nat → ETY} {ze : Nat} (h : REL f g z) (hn : NM f 0 z = true) (hd : DREL D E ze) : HST (UND f z) f z D ze = HST (UNM g z) g z E ze := by
  refine hst_cg (lgw_cg ze (fun i hi => ?_)) (fun j hj => (h.ok hj).2.1)
  obtain ⟨d1, d2, d3, d4, -, -⟩ := hd i hi
  refine ⟨?_, d3⟩
  rw [← d1, ← d3]
  exact and_congr_right (fun _ => und_unm h d4 hn)
theorem house_same {f g : Nat → Int32} {z : Nat} {D E : Nat → ETY} {ze : Nat} (h : REL f g z) (hd : DREL D E ze) : HSA f z D ze = HSM g z E ze := by
  unfold HSA HSM
  have e1 := NM_rel (a := 0) h (Nat.le_refl z)
  by_cases c : NM f 0 z = true
  · rw [if_pos c, if_pos (e1.symm.trans c), hst_rel h c hd]
  · rw [if_neg c, if_neg (fun q => c (e1.trans q))]
theorem s_8 : (((8 : Int32) &&& 31).toBitVec.smod 32).toNat = 8 := by decide
theorem s_16 : (((16 : Int32) &&& 31).toBitVec.smod 32).toNat = 16 := by decide
theorem s_24 : (((24 : Int32) &&& 31).toBitVec.smod 32).toNat = 24 := by decide
theorem shl_or8 (x y : Int32) : shl (x ||| y) 8 = shl x 8 ||| shl y 8 := by
  apply Int32.toBitVec_inj.mp
  unfold shl
  rw [Int32.toBitVec_shiftLeft, Int32.toBitVec_or, Int32.toBitVec_or, Int32.toBitVec_shiftLeft, Int32.toBitVec_shiftLeft]
  show (x.toBitVec ||| y.toBitVec) <<< (((8 : Int32) &&& 31).toBitVec.smod 32).toNat = x.toBitVec <<< (((8 : Int32) &&& 31).toBitVec.smod 32).toNat ||| y.toBitVec <<< (((8 : Int32) &&& 31).toBitVec.smod 32).toNat
  rw [s_8]
  apply BitVec.eq_of_getLsbD_eq
  intro i hi
  rw [BitVec.getLsbD_or, BitVec.getLsbD_shiftLeft, BitVec.getLsbD_shiftLeft, BitVec.getLsbD_shiftLeft, BitVec.getLsbD_or, Bool.and_or_distrib_left]
theorem shl_2 (x : BitVec 32) (a b : Nat) : x <<< a <<< b = x <<< (a + b) := by
  apply BitVec.eq_of_getLsbD_eq
  intro i hi
  rw [BitVec.getLsbD_shiftLeft, BitVec.getLsbD_shiftLeft, BitVec.getLsbD_shiftLeft]
  rcases Nat.lt_or_ge i (a + b) with h | h
  · rcases Nat.lt_or_ge i b with h2 | h2
    · simp [h, h2]
    · have h3 : i - b < a := by omega
      simp [h, h3]
  · have h2 : ¬ i < b := by omega
    have h3 : ¬ i - b < a := by omega
    have h4 : i - b < 32 := by omega
    have h5 : ¬ i < a + b := by omega
    have h6 : i - b - a = i - (a + b) := by omega
    simp [hi, h2, h3, h4, h5, h6]
theorem shl_88 (x : Int32) : shl (shl x 8) 8 = shl x 16 := by
  apply Int32.toBitVec_inj.mp
  unfold shl
  rw [Int32.toBitVec_shiftLeft, Int32.toBitVec_shiftLeft, Int32.toBitVec_shiftLeft]
  show x.toBitVec <<< (((8 : Int32) &&& 31).toBitVec.smod 32).toNat <<< (((8 : Int32) &&& 31).toBitVec.smod 32).toNat = x.toBitVec <<< (((16 : Int32) &&& 31).toBitVec.smod 32).toNat
  rw [s_8, s_16]
  exact shl_2 _ 8 8
theorem shl_168 (x : Int32) : shl (shl x 16) 8 = shl x 24 := by
  apply Int32.toBitVec_inj.mp
  unfold shl
  rw [Int32.toBitVec_shiftLeft, Int32.toBitVec_shiftLeft, Int32.toBitVec_shiftLeft]
  show x.toBitVec <<< (((16 : Int32) &&& 31).toBitVec.smod 32).toNat <<< (((8 : Int32) &&& 31).toBitVec.smod 32).toNat = x.toBitVec <<< (((24 : Int32) &&& 31).toBitVec.smod 32).toNat
  rw [s_8, s_16, s_24]
  exact shl_2 _ 16 8
theorem shl_816 (x : Int32) : shl (shl x 8) 16 = shl x 24 := by
  apply Int32.toBitVec_inj.mp
  unfold shl
  rw [Int32.toBitVec_shiftLeft, Int32.toBitVec_shiftLeft, Int32.toBitVec_shiftLeft]
  show x.toBitVec <<< (((8 : Int32) &&& 31).toBitVec.smod 32).toNat <<< (((16 : Int32) &&& 31).toBitVec.smod 32).toNat = x.toBitVec <<< (((24 : Int32) &&& 31).toBitVec.smod 32).toNat
  rw [s_8, s_16, s_24]
  exact shl_2 _ 8 16
theorem nar_shl : ∀ n, n < 256 → shl (vp_nar .byte (nI n)) 24 = shl (nI n) 24 := by decide +kernel
theorem and_255 : ∀ n, n < 256 → nI n &&& 255 = nI n := by decide +kernel
theorem nb8_nar : ∀ n, n < 256 → nb8 (vp_nar .byte (nI n)) = vp_nar .byte (nI n) := by decide +kernel
theorem nb8_128 : nb8 128 = vp_nar .byte (nI 128) := by decide +kernel
theorem nb8_0 : nb8 0 = vp_nar .byte (nI 0) := by decide +kernel
theorem nb8_s0 : ∀ k, k < 4 → nb8 (shr 0 (nI (24 - 8 * k))) = vp_nar .byte (nI 0) := by decide +kernel
theorem shl_0 : shl 0 8 = 0 := by decide +kernel
def BYR (B : Nat → Int32) (E : Nat → Int32) (i : Nat) : Prop := ∃ n : Nat, n < 256 ∧ B i = nI n ∧ E i = vp_nar .byte (nI n)
theorem w4 {B E : Nat → Int32} {k s9 : Nat} {M : Nat → Int32} (hE : ∀ j, j < 4 → E (4 * k + j) = M (s9 + j)) (h : ∀ j, j < 4 → BYR B M (s9 + j)) : wob E k = wdk B s9 4 := by
  obtain ⟨n0, a0, b0, c0⟩ := h 0 (by omega)
  obtain ⟨n1, a1, b1, c1⟩ := h 1 (by omega)
  obtain ⟨n2, a2, b2, c2⟩ := h 2 (by omega)
  obtain ⟨n3, a3, b3, c3⟩ := h 3 (by omega)
  have e0 := (hE 0 (by omega)).trans c0
  have e1 := (hE 1 (by omega)).trans c1
  have e2 := (hE 2 (by omega)).trans c2
  have e3 := (hE 3 (by omega)).trans c3
  rw [Nat.add_zero] at e0
  unfold wob
  rw [e0, e1, e2, e3, nar_and n1 a1, nar_and n2 a2, nar_and n3 a3, nar_shl n0 a0]
  show _ = shl (shl (shl (shl 0 8 ||| B (s9 + 0)) 8 ||| B (s9 + 1)) 8 ||| B (s9 + 2)) 8 ||| B (s9 + 3)
  rw [b0, b1, b2, b3, shl_0, Int32.zero_or, shl_or8, shl_or8, shl_or8, shl_88, shl_88, shl_816]
theorem lo_word0 : ∀ a9, a9 < 55 → ∀ b9, b9 < 55 → shl (nb8 (shr (nI (8 * (55 * a9 + b9))) (nI 24))) 24 ||| shl (nb8 (shr (nI (8 * (55 * a9 + b9))) (nI 16)) &&& 255) 16 ||| shl (nb8 (shr (nI (8 * (55 * a9 + b9))) (nI 8)) &&& 255) 8 ||| (nb8 (shr (nI (8 * (55 * a9 + b9))) (nI 0)) &&& 255) = nI ((55 * a9 + b9) * 8) := by decide +kernel
theorem lo_word : ∀ n, n < 3001 → shl (nb8 (shr (nI (8 * n)) (nI 24))) 24 ||| shl (nb8 (shr (nI (8 * n)) (nI 16)) &&& 255) 16 ||| shl (nb8 (shr (nI (8 * n)) (nI 8)) &&& 255) 8 ||| (nb8 (shr (nI (8 * n)) (nI 0)) &&& 255) = nI (n * 8) := fun n h => by
  have h9 := lo_word0 (n / 55) (by omega) (n % 55) (by omega)
  rw [show 55 * (n / 55) + n % 55 = n by omega] at h9
  exact h9
theorem by_rel {f g : Nat → Int32} {n i : Nat} (h : REL f g n) (hi : i < ptn n + 4) : BYR (byt f n) (pad g n) i := by
  have hp := ptn_1 n
  rcases Nat.lt_or_ge i n with c | c
  · obtain ⟨m9, a1, a2, a3⟩ := h i c
    refine ⟨m9, a1, ?_, ?_⟩
    · rw [← byt_lt c, a2, and_255 m9 a1]
    · have h9 := pad_0 (g := g) c
      rw [Nat.zero_add] at h9
      rw [← h9, a3, nb8_nar m9 a1]
  · by_cases d : i = n
    · subst d
      exact ⟨128, by omega, (byt_eq rfl).symm, by rw [← pad_1]; exact nb8_128⟩
    · refine ⟨0, by omega, (byt_gt c d).symm, ?_⟩
      rcases Nat.lt_or_ge i (ptn n) with e9 | e9
      · rw [← pad_2 (by omega) e9]
        exact nb8_0
      · obtain ⟨k, rfl⟩ : ∃ k, i = ptn n + k := ⟨i - ptn n, by omega⟩
        rw [← pad_3 (by omega)]
        exact nb8_s0 k (by omega)
theorem wd_rel {f g : Nat → Int32} {n b k : Nat} (h : REL f g n) (hn : n ≤ 3000) (hb : b < (n + 72) / 64) (hk : k < 16) : wob (fun j => pad g n (64 * b + j)) k = wrb f n b k := by
  have hp := ptn_1 n
  have hq : ptn n + 8 = 64 * ((n + 72) / 64) := by
    unfold ptn
    omega
  by_cases c : b + 1 = (n + 72) / 64 ∧ k = 15
  · have e9 : 64 * b + 60 = ptn n + 4 := by omega
    obtain ⟨c1, rfl⟩ := c
    have e1 : wrb f n b 15 = nI (n * 8) := if_pos ⟨c1, rfl⟩
    rw [e1, ← lo_word n (by omega)]
    show shl (pad g n (64 * b + 60)) 24 ||| shl (pad g n (64 * b + 61) &&& 255) 16 ||| shl (pad g n (64 * b + 62) &&& 255) 8 ||| (pad g n (64 * b + 63) &&& 255) = _
    rw [show 64 * b + 60 = ptn n + 4 + 0 by omega, show 64 * b + 61 = ptn n + 4 + 1 by omega, show 64 * b + 62 = ptn n + 4 + 2 by omega, show 64 * b + 63 = ptn n + 4 + 3 by omega, ← pad_4, ← pad_4, ← pad_4, ← pad_4]
  · have e1 : wrb f n b k = wdk (byt f n) (b * 64 + k * 4) 4 := if_neg c
    rw [e1]
    refine w4 (M := pad g n) (fun j hj => ?_) (fun j hj => by_rel h (by omega))
    show pad g n (64 * b + (4 * k + j)) = pad g n (b * 64 + k * 4 + j)
    rw [show 64 * b + (4 * k + j) = b * 64 + k * 4 + j by omega]
theorem sha_rel {f g : Nat → Int32} {n : Nat} (h : REL f g n) (hn : n ≤ 3000) : ∀ b, b ≤ (n + 72) / 64 → ∀ j, j < 8 → rst (pad g n) b j = stt f n b j
  | 0, _, j, _ => rfl
  | b + 1, hb, j, hj => by
    have ih := sha_rel h hn b (by omega)
    show mxs (wob (fun i => pad g n (64 * b + i))) (rst (pad g n) b) j = mxs (wrb f n b) (stt f n b) j
    exact mxs_cg (fun k hk => wd_rel h hn (by omega) hk) ih j hj
theorem ob_all (x : Int32) {k : Nat} (hk : k < 4) : ∃ n : Nat, n < 256 ∧ ocT x (nI (24 - 8 * k)) = nI n ∧ nb8 (shr x (nI (24 - 8 * k))) = vp_nar .byte (nI n) := by
  rcases (show k = 0 ∨ k = 1 ∨ k = 2 ∨ k = 3 by omega) with c | c | c | c
  · subst c
    exact ob_24 x
  · subst c
    exact ob_16 x
  · subst c
    exact ob_8 x
  · subst c
    exact ob_0 x
theorem dig_rel {f g fo go : Nat → Int32} {n : Nat} (h : REL f g n) (hn : n ≤ 3000) (h1 : ∀ j, j < 32 → fo j = dgb (stt f n ((n + 72) / 64)) j) (h2 : ∀ j, j < 32 → go j = nb8 (shr (rst (pad g n) ((n + 72) / 64) (j / 4)) (nI (24 - 8 * (j % 4))))) : REL fo go 32 := by
  intro j hj
  obtain ⟨m9, a1, a2, a3⟩ := ob_all (stt f n ((n + 72) / 64) (j / 4)) (k := j % 4) (by omega)
  refine ⟨m9, a1, (h1 j hj).trans a2, ?_⟩
  rw [h2 j hj, sha_rel h hn _ (Nat.le_refl _) (j / 4) (by omega)]
  exact a3
theorem sm_nar : ∀ n, n < 256 → smv (nI n) = nI (if 65 ≤ n ∧ n ≤ 90 then n + 32 else n) ∧ nb8 (smv (vp_nar .byte (nI n))) = vp_nar .byte (nI (if 65 ≤ n ∧ n ≤ 90 then n + 32 else n)) := by decide +kernel
theorem nb8_nI : ∀ n, n < 256 → nb8 (nI n) = vp_nar .byte (nI n) := by decide +kernel
def SYM (z : Nat) (w : List (Nat × Nat)) : Prop := ∀ y ∈ w, (y.1 ≤ 1 ∧ y.2 < z) ∨ (y.1 = 2 ∧ y.2 < 256)
theorem SYM.app {z : Nat} {a b : List (Nat × Nat)} (h1 : SYM z a) (h2 : SYM z b) : SYM z (a ++ b) := fun y hy => (List.mem_append.mp hy).elim (h1 y) (h2 y)
theorem SYM.one {z : Nat} {y : Nat × Nat} (h : (y.1 ≤ 1 ∧ y.2 < z) ∨ (y.1 = 2 ∧ y.2 < 256)) : SYM z [y] := fun y9 hy => by
  rw [List.mem_singleton] at hy
  rw [hy]
  exact h
theorem SYM.cons {z : Nat} {y : Nat × Nat} {w : List (Nat × Nat)} (h : (y.1 ≤ 1 ∧ y.2 < z) ∨ (y.1 = 2 ∧ y.2 < 256)) (h2 : SYM z w) : SYM z (y :: w) := fun y9 hy => by
  rcases List.mem_cons.mp hy with q | q
  · rw [q]
    exact h
  · exact h2 y9 q
theorem sym_rng {k b n z : Nat} (hk : k ≤ 1) (h : b + n ≤ z) : SYM z (rng k b n) := fun y hy => by
  unfold rng at hy
  obtain ⟨i, hi, rfl⟩ := List.mem_map.mp hy
  rw [List.mem_range] at hi
  exact Or.inl ⟨hk, by show b + i < z; omega⟩
theorem sym_rvl {T : Nat → Nat} {z : Nat} : ∀ (k i : Nat) (x w : Int32), i + k ≤ z → SYM z (rvl T k i x w) := by
  intro k
  induction k with
  | zero => intro i x w _ y hy; exact absurd hy List.not_mem_nil
  | succ k ih =>
    intro i x w hi
    rw [rvl_s]
    by_cases c0 : T i = 0
    · rw [if_pos c0]
      exact ih (i + 1) x w (by omega)
    rw [if_neg c0]
    by_cases c1 : T i = 1
    · rw [if_pos c1]
      exact ih (i + 1) x x (by omega)
    rw [if_neg c1]
    refine SYM.app ?_ (SYM.cons (Or.inl ⟨Nat.zero_le _, by show i < z; omega⟩) (ih (i + 1) 1 0 (by omega)))
    by_cases c2 : w = 0
    · rw [if_pos c2]
      exact fun y hy => absurd hy List.not_mem_nil
    · rw [if_neg c2]
      exact SYM.one (Or.inr ⟨rfl, by show 32 < 256; omega⟩)
theorem sym_fpl {T : Nat → Nat} {x : Int32} {b c d z : Nat} (h1 : b < c) (h2 : c < d) (h3 : d ≤ z) : SYM z (FPL T x b c d) := by
  by_cases h : x = 0
  · rw [FPL_s h]
    exact sym_rng (Nat.zero_le _) (by omega)
  · rw [FPL_r h]
    exact SYM.app (SYM.app (sym_rng (Nat.le_refl _) (by omega)) (SYM.one (Or.inr ⟨rfl, by show 58 < 256; omega⟩))) (sym_rvl _ _ _ _ (by omega))
theorem sym_blx {T : Nat → Nat} {x : Int32} {z : Nat} : ∀ (k i : Nat) (w : Int32), i + k ≤ z → SYM z (blx T x k i w) := by
  intro k
  induction k with
  | zero => intro i w _ y hy; exact absurd hy List.not_mem_nil
  | succ k ih =>
    intro i w hi
    rw [blx_s]
    by_cases c0 : T i = 0
    · rw [if_pos c0]
      exact SYM.cons (Or.inr ⟨rfl, by show 10 < 256; omega⟩) (ih (i + 1) 0 (by omega))
    rw [if_neg c0]
    by_cases c1 : ¬ x = 0 ∧ T i = 1
    · rw [if_pos c1]
      exact ih (i + 1) 1 (by omega)
    rw [if_neg c1]
    refine SYM.app ?_ (SYM.cons (Or.inl ⟨Nat.zero_le _, by show i < z; omega⟩) (ih (i + 1) 0 (by omega)))
    by_cases c2 : w = 0
    · rw [if_pos c2]
      exact fun y hy => absurd hy List.not_mem_nil
    · rw [if_neg c2]
      exact SYM.one (Or.inr ⟨rfl, by show 32 < 256; omega⟩)
theorem out_1 {f g : Nat → Int32} {z : Nat} {y : Nat × Nat} (h : REL f g z) (hy : (y.1 ≤ 1 ∧ y.2 < z) ∨ (y.1 = 2 ∧ y.2 < 256)) : ∃ n : Nat, n < 256 ∧ evs f y = nI n ∧ nb8 (evs g y) = vp_nar .byte (nI n) := by
  rcases hy with ⟨c1, c2⟩ | ⟨c1, c2⟩
  · obtain ⟨n, a1, a2, a3⟩ := h y.2 c2
    by_cases d : y.1 = 0
    · refine ⟨n, a1, ?_, ?_⟩
      · unfold evs
        rw [if_pos d]
        exact a2
      · unfold evs
        rw [if_pos d, a3]
        exact nb8_nar n a1
    · have d1 : y.1 = 1 := by omega
      obtain ⟨s1, s2⟩ := sm_nar n a1
      refine ⟨(if 65 ≤ n ∧ n ≤ 90 then n + 32 else n), by split <;> omega, ?_, ?_⟩
      · unfold evs
        rw [if_neg d, if_pos d1, a2]
        exact s1
      · unfold evs
        rw [if_neg d, if_pos d1, a3]
        exact s2
  · refine ⟨y.2, c2, ?_, ?_⟩
    · unfold evs
      rw [if_neg (by omega), if_neg (by omega)]
    · unfold evs
      rw [if_neg (by omega), if_neg (by omega)]
      exact nb8_nI y.2 c2
theorem out_rel {f g fo go : Nat → Int32} {w : List (Nat × Nat)} {z : Nat} (h : REL f g z) (hw : SYM z w) (ho : OUTS f fo w) (hm : OUTM g go w) : REL fo go w.length := by
  intro j hj
  have e := List.getElem?_eq_getElem hj
  obtain ⟨n, a1, a2, a3⟩ := out_1 h (hw _ (List.getElem_mem hj))
  exact ⟨n, a1, (ho j _ e).trans a2, (hm j _ e).trans a3⟩
theorem bdc_rel {f g fo go : Nat → Int32} {T U : Nat → Nat} {x : Int32} {b z N P9 : Nat} (hb : b ≤ z) (h : REL f g z) (hT : ∀ j, j < z → T j = U j) (h1 : BDC (evs f) T x b z N fo) (h2 : BDC (fun y => nb8 (evs g y)) U x b z P9 go) : N = P9 ∧ REL fo go N := by
  obtain ⟨q, a1, a2⟩ := h1
  obtain ⟨p9, b1, b2⟩ := h2
  rw [← blx_cg hT (z - b) b 0 (by omega)] at b1 b2
  have e := a1.uniq b1
  subst e
  rcases a2 with ⟨c1, c2, c3, c4⟩ | ⟨c1, c2, c3⟩ <;> rcases b2 with ⟨d1, d2, d3, d4⟩ | ⟨d1, d2, d3⟩
  · refine ⟨by rw [c3, d3], fun j hj => ?_⟩
    obtain ⟨n, e1, e2, e3⟩ := out_1 (y := (2, 10)) h (Or.inr ⟨rfl, by show 10 < 256; omega⟩)
    rw [show j = 0 by omega]
    exact ⟨n, e1, c4.trans e2, d4.trans e3⟩
  · exact absurd ⟨c1, c2⟩ d1
  · exact absurd ⟨d1, d2⟩ c1
  · refine ⟨by rw [c2, d2], fun j hj => ?_⟩
    have hl : j < (blx T x (z - b) b 0 ++ [(2, 10)]).length := by have h9 := a1.1; omega
    have e := List.getElem?_eq_getElem hl
    obtain ⟨n, e1, e2, e3⟩ := out_1 h ((SYM.app (sym_blx (T := T) (x := x) (z - b) b 0 (by omega)) (SYM.one (y := (2, 10)) (Or.inr ⟨rfl, by show 10 < 256; omega⟩))) _ (List.getElem_mem hl))
    exact ⟨n, e1, (c3 j _ (by omega) e).trans e2, (d3 j _ (by omega) e).trans e3⟩
theorem hsc_rel {f g fo go f2 g2 : Nat → Int32} {z zo c2 c3 ze : Nat} {D E : Nat → ETY} (h : REL f g z) (hd : DREL D E ze) (hr : REL fo go zo) (h1 : (¬ NM f 0 z = true ∧ c2 = zo ∧ f2 = fo) ∨ (NM f 0 z = true ∧ c2 = z - HST (UND f z) f z D ze ∧ ∀ j, j < c2 → f2 j = f (HST (UND f z) f z D ze + j))) (h2 : (¬ NM g 0 z = true ∧ c3 = zo ∧ g2 = go) ∨ (NM g 0 z = true ∧ c3 = z - HST (UNM g z) g z E ze ∧ ∀ j, j < c3 → g2 j = g (HST (UNM g z) g z E ze + j))) : c2 = c3 ∧ REL f2 g2 c2 := by
  have e1 := NM_rel (a := 0) h (Nat.le_refl z)
  rcases h1 with ⟨a1, a2, a3⟩ | ⟨a1, a2, a3⟩ <;> rcases h2 with ⟨b1, b2, b3⟩ | ⟨b1, b2, b3⟩
  · rw [a2, b2, a3, b3]
    exact ⟨rfl, hr⟩
  · exact absurd (e1.trans b1) a1
  · exact absurd (e1.symm.trans a1) b1
  · have e2 := hst_rel h a1 hd
    rw [← e2] at b2 b3
    refine ⟨by rw [a2, b2], fun j hj => ?_⟩
    obtain ⟨n, d1, d2, d3⟩ := h (HST (UND f z) f z D ze + j) (by omega)
    exact ⟨n, d1, (a3 j hj).trans d2, (b3 j (by omega)).trans d3⟩
theorem LRL.pfo {n : Nat} {bb : Int32} {zm : Nat} {fL sA sB sC : Nat → Int32} {nf bd mm : Nat} {gm : Nat → Nat → Nat} {gl : Nat → Int32} {x1 x2 : Int32} {zo c2 c3 : Nat} {fo go f2 g2 : Nat → Int32} (h : LRL n bb zm fL sA sB sC nf bd mm gm gl) (hn : n ≤ 20) (hr : REL fo go zo) (h1 : (¬ (¬ x1 < 0 ∧ x1 < nI n) ∧ c2 = zo ∧ f2 = fo) ∨ (∃ j, j < n ∧ x1 = nI j ∧ c2 = (FPL (clf fL) x2 (gm 0 j) (gm 1 j) (cln sC j)).length ∧ OUTS fL f2 (FPL (clf fL) x2 (gm 0 j) (gm 1 j) (cln sC j)))) (h2 : (¬ (¬ x1 < 0 ∧ x1 < nI nf) ∧ c3 = zo ∧ g2 = go) ∨ (∃ j, j < nf ∧ x1 = nI j ∧ c3 = (FPL (clr gl) x2 (gm 0 j) (gm 1 j) (cln sC j)).length ∧ OUTM gl g2 (FPL (clr gl) x2 (gm 0 j) (gm 1 j) (cln sC j)))) : c2 = c3 ∧ REL f2 g2 c2 := by
  have hp := h.pos
  have hnf := h.1
  rcases h1 with ⟨a1, a2, a3⟩ | ⟨j, a1, a2, a3, a4⟩ <;> rcases h2 with ⟨b1, b2, b3⟩ | ⟨i, b1, b2, b3, b4⟩
  · rw [a2, b2, a3, b3]
    exact ⟨rfl, hr⟩
  · exact absurd ⟨by rw [b2]; exact nI_pos (by omega), by rw [b2]; exact (nI_ltI (by omega) (by omega)).mpr (by omega)⟩ a1
  · exact absurd ⟨by rw [a2]; exact nI_pos (by omega), by rw [a2]; exact (nI_ltI (by omega) (by omega)).mpr (by omega)⟩ b1
  · have e : j = i := (nI_eq (by omega) (by omega)).mp (a2.symm.trans b2)
    subst e
    obtain ⟨q1, q2, q3, -, -, -⟩ := h.2.resolve_left (by omega)
    obtain ⟨-, -, -, p1, p2, -⟩ := hp.1 j a1
    have p3 := (hp.2 j b1).2.2.1
    have ec := FPL_cg (x := x2) (b := gm 0 j) q3.cl p3 p2
    rw [← ec] at b3 b4
    refine ⟨by rw [a3, b3], ?_⟩
    rw [a3]
    exact out_rel q3 (sym_fpl p1 p2 p3) a4 b4
theorem LRL.pbo {n : Nat} {bb : Int32} {zm : Nat} {fL sA sB sC : Nat → Int32} {nf bd mm : Nat} {gm : Nat → Nat → Nat} {gl : Nat → Int32} {x : Int32} {zo c2 c3 : Nat} {fo go f2 g2 : Nat → Int32} (h : LRL n bb zm fL sA sB sC nf bd mm gm gl) (hr : REL fo go zo) (h1 : (n = 0 ∧ c2 = zo ∧ f2 = fo) ∨ (¬ n = 0 ∧ BDC (evs fL) (clf fL) x bd zm c2 f2)) (h2 : (nf = 0 ∧ c3 = zo ∧ g2 = go) ∨ (¬ nf = 0 ∧ BDC (fun y => nb8 (evs gl y)) (clr gl) x bd mm c3 g2)) : c2 = c3 ∧ REL f2 g2 c2 := by
  have hnf := h.1
  rcases h1 with ⟨a1, a2, a3⟩ | ⟨a1, a2⟩ <;> rcases h2 with ⟨b1, b2, b3⟩ | ⟨b1, b2⟩
  · rw [a2, b2, a3, b3]
    exact ⟨rfl, hr⟩
  · exact absurd (by omega) b1
  · exact absurd (by omega) a1
  · obtain ⟨q1, q2, q3, -, q5, -⟩ := h.2.resolve_left a1
    rw [q1] at a2
    exact bdc_rel q5 q3 q3.cl a2 b2
