theorem rel_feed {f g g2 : Nat → Int32} {zt : Nat} {x1 x2 x3 x4 x5 : Int32} (h : REL f g zt) (h1 : ∀ i, i < zt → g2 i = g i) (h2 : ∀ k, k < 20 → g2 (zt + k) = byv (fv5 x1 x2 x3 x4 x5) k) : REL (up4 (up4 (up4 (up4 (up4 f zt (ocT x1 24) (ocT x1 16) (ocT x1 8) (ocT x1 0)) (zt + 4) (ocT x2 24) (ocT x2 16) (ocT x2 8) (ocT x2 0)) (zt + 8) (ocT x3 24) (ocT x3 16) (ocT x3 8) (ocT x3 0)) (zt + 12) (ocT x4 24) (ocT x4 16) (ocT x4 8) (ocT x4 0)) (zt + 16) (ocT x5 24) (ocT x5 16) (ocT x5 8) (ocT x5 0)) g2 (zt + 20) := by
  intro j hj
  rcases Nat.lt_or_ge j zt with q | q
  · obtain ⟨n, a1, a2, a3⟩ := h j q
    refine ⟨n, a1, ?_, (h1 j q).trans a3⟩
    rw [up4_lo (by omega), up4_lo (by omega), up4_lo (by omega), up4_lo (by omega), up4_lo (by omega)]
    exact a2
  · obtain ⟨k, rfl⟩ : ∃ k, j = zt + k := ⟨j - zt, by omega⟩
    have e := h2 k (by omega)
    rcases (show k = 0 ∨ k = 1 ∨ k = 2 ∨ k = 3 ∨ k = 4 ∨ k = 5 ∨ k = 6 ∨ k = 7 ∨ k = 8 ∨ k = 9 ∨ k = 10 ∨ k = 11 ∨ k = 12 ∨ k = 13 ∨ k = 14 ∨ k = 15 ∨ k = 16 ∨ k = 17 ∨ k = 18 ∨ k = 19 by omega) with rfl | rfl | rfl | rfl | rfl | rfl | rfl | rfl | rfl | rfl | rfl | rfl | rfl | rfl | rfl | rfl | rfl | rfl | rfl | rfl
    · obtain ⟨n, a1, a2, a3⟩ := ob_24 x1
      refine ⟨n, a1, ?_, e.trans a3⟩
      rw [up4_lo (by omega), up4_lo (by omega), up4_lo (by omega), up4_lo (by omega), show zt + 0 = zt by omega, up4_0]
      exact a2
    · obtain ⟨n, a1, a2, a3⟩ := ob_16 x1
      refine ⟨n, a1, ?_, e.trans a3⟩
      rw [up4_lo (by omega), up4_lo (by omega), up4_lo (by omega), up4_lo (by omega), show zt + 1 = zt + 1 by omega, up4_1]
      exact a2
    · obtain ⟨n, a1, a2, a3⟩ := ob_8 x1
      refine ⟨n, a1, ?_, e.trans a3⟩
      rw [up4_lo (by omega), up4_lo (by omega), up4_lo (by omega), up4_lo (by omega), show zt + 2 = zt + 2 by omega, up4_2]
      exact a2
    · obtain ⟨n, a1, a2, a3⟩ := ob_0 x1
      refine ⟨n, a1, ?_, e.trans a3⟩
      rw [up4_lo (by omega), up4_lo (by omega), up4_lo (by omega), up4_lo (by omega), show zt + 3 = zt + 3 by omega, up4_3]
      exact a2
    · obtain ⟨n, a1, a2, a3⟩ := ob_24 x2
      refine ⟨n, a1, ?_, e.trans a3⟩
      rw [up4_lo (by omega), up4_lo (by omega), up4_lo (by omega), show zt + 4 = (zt + 4) by omega, up4_0]
      exact a2
    · obtain ⟨n, a1, a2, a3⟩ := ob_16 x2
      refine ⟨n, a1, ?_, e.trans a3⟩
      rw [up4_lo (by omega), up4_lo (by omega), up4_lo (by omega), show zt + 5 = (zt + 4) + 1 by omega, up4_1]
      exact a2
    · obtain ⟨n, a1, a2, a3⟩ := ob_8 x2
      refine ⟨n, a1, ?_, e.trans a3⟩
      rw [up4_lo (by omega), up4_lo (by omega), up4_lo (by omega), show zt + 6 = (zt + 4) + 2 by omega, up4_2]
      exact a2
    · obtain ⟨n, a1, a2, a3⟩ := ob_0 x2
      refine ⟨n, a1, ?_, e.trans a3⟩
      rw [up4_lo (by omega), up4_lo (by omega), up4_lo (by omega), show zt + 7 = (zt + 4) + 3 by omega, up4_3]
      exact a2
    · obtain ⟨n, a1, a2, a3⟩ := ob_24 x3
      refine ⟨n, a1, ?_, e.trans a3⟩
      rw [up4_lo (by omega), up4_lo (by omega), show zt + 8 = (zt + 8) by omega, up4_0]
      exact a2
    · obtain ⟨n, a1, a2, a3⟩ := ob_16 x3
      refine ⟨n, a1, ?_, e.trans a3⟩
      rw [up4_lo (by omega), up4_lo (by omega), show zt + 9 = (zt + 8) + 1 by omega, up4_1]
      exact a2
    · obtain ⟨n, a1, a2, a3⟩ := ob_8 x3
      refine ⟨n, a1, ?_, e.trans a3⟩
      rw [up4_lo (by omega), up4_lo (by omega), show zt + 10 = (zt + 8) + 2 by omega, up4_2]
      exact a2
    · obtain ⟨n, a1, a2, a3⟩ := ob_0 x3
      refine ⟨n, a1, ?_, e.trans a3⟩
      rw [up4_lo (by omega), up4_lo (by omega), show zt + 11 = (zt + 8) + 3 by omega, up4_3]
      exact a2
    · obtain ⟨n, a1, a2, a3⟩ := ob_24 x4
      refine ⟨n, a1, ?_, e.trans a3⟩
      rw [up4_lo (by omega), show zt + 12 = (zt + 12) by omega, up4_0]
      exact a2
    · obtain ⟨n, a1, a2, a3⟩ := ob_16 x4
      refine ⟨n, a1, ?_, e.trans a3⟩
      rw [up4_lo (by omega), show zt + 13 = (zt + 12) + 1 by omega, up4_1]
      exact a2
    · obtain ⟨n, a1, a2, a3⟩ := ob_8 x4
      refine ⟨n, a1, ?_, e.trans a3⟩
      rw [up4_lo (by omega), show zt + 14 = (zt + 12) + 2 by omega, up4_2]
      exact a2
    · obtain ⟨n, a1, a2, a3⟩ := ob_0 x4
      refine ⟨n, a1, ?_, e.trans a3⟩
      rw [up4_lo (by omega), show zt + 15 = (zt + 12) + 3 by omega, up4_3]
      exact a2
    · obtain ⟨n, a1, a2, a3⟩ := ob_24 x5
      refine ⟨n, a1, ?_, e.trans a3⟩
      rw [show zt + 16 = (zt + 16) by omega, up4_0]
      exact a2
    · obtain ⟨n, a1, a2, a3⟩ := ob_16 x5
      refine ⟨n, a1, ?_, e.trans a3⟩
      rw [show zt + 17 = (zt + 16) + 1 by omega, up4_1]
      exact a2
    · obtain ⟨n, a1, a2, a3⟩ := ob_8 x5
      refine ⟨n, a1, ?_, e.trans a3⟩
      rw [show zt + 18 = (zt + 16) + 2 by omega, up4_2]
      exact a2
    · obtain ⟨n, a1, a2, a3⟩ := ob_0 x5
      refine ⟨n, a1, ?_, e.trans a3⟩
      rw [show zt + 19 = (zt + 16) + 3 by omega, up4_3]
      exact a2
def PCl (D : va_G) (cs : Nat → ClassId) (A Bq : Nat → Prop) (xq zt cn : Nat) (f : Nat → Int32) (n : Nat) (bb : Int32) (zm : Nat) (fL sA sB sC : Nat → Int32) (H : Heap) : Prop := ∃ (L : List Nat) (F : Nat → va_E) (ty : TyM) (ρ ta ou di ea ck sl po hs rt : Nat), NEW D cs ty L F A H ∧ xq ∈ L ∧ ty xq = (11, ρ, [ta, ou, di, ea, ck, sl, po, hs]) ∧ ty ta = (0, ρ + 1, [rt, 3000]) ∧ F ta = .inr (0, [.ref rt, .int (nI zt), .int 0]) ∧ F rt = .inl (cs 16, 3000, .inl f) ∧ zt ≤ 3000 ∧ F di = .inr (2, [.ref ea, .int (nI cn)]) ∧ cn ≤ 40 ∧ LTC cs ty L F xq ρ ta ou di ck sl po hs n bb zm fL sA sB sC ∧ ∀ a ∈ L, Bq a
def PMl (D : va_G) (cs : Nat → ClassId) (A Bq : Nat → Prop) (h0 zt ze : Nat) (gt : Nat → Int32) (nf bd mm : Nat) (gm : Nat → Nat → Nat) (gl : Nat → Int32) (H : Heap) : Prop := ∃ (L : List Nat) (F : Nat → va_E) (ty : TyM) (ρ ta ou so ad na va lc dm tg pe ml bg co sp nb0 nb1 nb2 pl se ke wi hs mo po nu pr sq xa sa n64 m64 ex wh sd tk hd ak ho ot sx s0 s1 s2 : Nat), NEWm D cs ty gm L F A H ∧ h0 ∈ L ∧ ty h0 = (15, ρ, [ta, ou, so, ad, na, va, lc, dm, tg, pe, ml, bg, co, sp, nb0, nb1, nb2, pl, se, ke, wi, hs, mo, po, nu, pr, sq, xa, sa, n64, m64, ex, wh, sd, tk, hd, ak, ho, ot, sx, s0, s1, s2, nf, bd, mm, ze, zt]) ∧ F ta = .inl (cs 17, 3000, .inl gt) ∧ F ml = .inl (cs 17, 3000, .inl gl) ∧ nb0 ≠ nb1 ∧ nb0 ≠ nb2 ∧ nb1 ≠ nb2 ∧ (∀ a ∈ L, (ty a).1 = 26 → a = bg ∨ a = co ∨ a = sp) ∧ (∀ a ∈ L, (ty a).1 = 15 → a = h0) ∧ ∀ a ∈ L, ¬ Bq a
theorem PCl.kept {D : va_G} {cs : Nat → ClassId} {A Bq : Nat → Prop} {xq zt cn : Nat} {f : Nat → Int32} {n : Nat} {bb : Int32} {zm : Nat} {fL sA sB sC : Nat → Int32} {H H1 : Heap} {L1 : List Nat} {F1 : Nat → va_E} (h : PCl D cs A Bq xq zt cn f n bb zm fL sA sB sC H) (hB : ∀ a ∈ L1, ¬ Bq a) (hk : ∀ q : Nat, q < H.size → ¬ va_A (va_pl L1 F1) H.size q → H1[q]? = H[q]?) : PCl D cs A Bq xq zt cn f n bb zm fL sA sB sC H1 := by
  obtain ⟨L, F, ty, ρ, ta, ou, di, ea, ck, sl, po, hs, rt, ⟨hP, hD, hO, hW⟩, h1, h2, h3, h5, h6, h7, h8, h9, h10, h4⟩ := h
  exact ⟨L, F, ty, ρ, ta, ou, di, ea, ck, sl, po, hs, rt, ⟨pl_kept hP hk (fun a ha w => hB a w (h4 a ha)), hD, hO, hW⟩, h1, h2, h3, h5, h6, h7, h8, h9, h10, h4⟩
theorem PMl.kept {D : va_G} {cs : Nat → ClassId} {A Bq : Nat → Prop} {h0 zt ze : Nat} {gt : Nat → Int32} {nf bd mm : Nat} {gm : Nat → Nat → Nat} {gl : Nat → Int32} {H H1 : Heap} {L1 : List Nat} {F1 : Nat → va_E} (h : PMl D cs A Bq h0 zt ze gt nf bd mm gm gl H) (hB : ∀ a ∈ L1, Bq a) (hk : ∀ q : Nat, q < H.size → ¬ va_A (va_pl L1 F1) H.size q → H1[q]? = H[q]?) : PMl D cs A Bq h0 zt ze gt nf bd mm gm gl H1 := by
  obtain ⟨L, F, ty, ρ, ta, ou, so, ad, na, va, lc, dm, tg, pe, ml, bg, co, sp, nb0, nb1, nb2, pl, se, ke, wi, hs, mo, po, nu, pr, sq, xa, sa, n64, m64, ex, wh, sd, tk, hd, ak, ho, ot, sx, s0, s1, s2, ⟨hP, hD, hO, hW⟩, h1, h2, h3, h10, h4, h5, h6, h7, h8, h9⟩ := h
  exact ⟨L, F, ty, ρ, ta, ou, so, ad, na, va, lc, dm, tg, pe, ml, bg, co, sp, nb0, nb1, nb2, pl, se, ke, wi, hs, mo, po, nu, pr, sq, xa, sa, n64, m64, ex, wh, sd, tk, hd, ak, ho, ot, sx, s0, s1, s2, ⟨pl_kept hP hk (fun a ha w => h9 a ha (hB a w)), hD, hO, hW⟩, h1, h2, h3, h10, h4, h5, h6, h7, h8, h9⟩
