def BFm (f : Nat → Int32) : Prop := ∀ j, fits .byte (.int (f j)) = true
def IXB (B : Nat) (f : Nat → Int32) : Prop := ∀ j, ∃ k : Nat, k ≤ B ∧ f j = nI k
theorem ixb_upd {B : Nat} {f : Nat → Int32} (h : IXB B f) (i k : Nat) (hk : k ≤ B) : IXB B (upd f i (nI k)) := by
  intro j
  show ∃ q : Nat, q ≤ B ∧ (if j = i then nI k else f j) = nI q
  split
  · exact ⟨k, hk, rfl⟩
  · exact h j
theorem ixb_of {F : Nat → va_E} {a n B : Nat} {c : ClassId} {f : Nat → Int32} (hF : F a = .inl (c, n, .inl f)) (h : ∃ g : Nat → Int32, F a = .inl (c, n, .inl g) ∧ IXB B g) : IXB B f := by
  obtain ⟨g, h1, h2⟩ := h
  have e := hF.symm.trans h1
  injection e with e
  injection e with _ e
  injection e with _ e
  injection e with e
  rw [e]
  exact h2
theorem ne_ty2 {ty : TyM} {a b : Nat} {u v : TyE} (ha : ty a = u) (hb : ty b = v) (h : u ≠ v) : a ≠ b := fun e => h (by rw [← ha, ← hb, e])
def shm_txt (cs : Nat → ClassId) (ty : TyM) (gm : Nat → Nat → Nat) (L : List Nat) (ρ : Nat) (r : Nat) (n : Nat) (x9 : va_E) : Prop := ∃ z : Nat, x9 = .inr (14, [.ref r, .int (nI z)]) ∧ z ≤ n
def wtm_txt (ty : TyM) (gm : Nat → Nat → Nat) (L : List Nat) (ρ : Nat) (r : Nat) (n : Nat) : Prop := r ∈ L ∧ ty r = (17, ρ, [n]) ∧ n ≤ 10000
def shm_octs (cs : Nat → ClassId) (ty : TyM) (gm : Nat → Nat → Nat) (L : List Nat) (ρ : Nat) (n : Nat) (x9 : va_E) : Prop := ∃ f : Nat → Int32, x9 = .inl (cs 17, n, .inl f) ∧ BFm f
def wtm_octs (ty : TyM) (gm : Nat → Nat → Nat) (L : List Nat) (ρ : Nat) (n : Nat) : Prop := n ≤ 10000 ∧ n ≤ 10000
def shm_ints (cs : Nat → ClassId) (ty : TyM) (gm : Nat → Nat → Nat) (L : List Nat) (ρ : Nat) (n : Nat) (x9 : va_E) : Prop := ∃ f : Nat → Int32, x9 = .inl (cs 16, n, .inl f)
def wtm_ints (ty : TyM) (gm : Nat → Nat → Nat) (L : List Nat) (ρ : Nat) (n : Nat) : Prop := n ≤ 10000 ∧ n ≤ 10000
def shm_bits (cs : Nat → ClassId) (ty : TyM) (gm : Nat → Nat → Nat) (L : List Nat) (ρ : Nat) (n : Nat) (x9 : va_E) : Prop := ∃ f : Nat → Int32, x9 = .inl (cs 18, n, .inl f)
def wtm_bits (ty : TyM) (gm : Nat → Nat → Nat) (L : List Nat) (ρ : Nat) (n : Nat) : Prop := True
def shm_idb (cs : Nat → ClassId) (ty : TyM) (gm : Nat → Nat → Nat) (L : List Nat) (ρ : Nat) (n : Nat) (B : Nat) (x9 : va_E) : Prop := ∃ f : Nat → Int32, x9 = .inl (cs 16, n, .inl f) ∧ IXB B f
def wtm_idb (ty : TyM) (gm : Nat → Nat → Nat) (L : List Nat) (ρ : Nat) (n : Nat) (B : Nat) : Prop := True
def shm_pos (cs : Nat → ClassId) (ty : TyM) (gm : Nat → Nat → Nat) (L : List Nat) (ρ : Nat) (k : Nat) (x9 : va_E) : Prop := ∃ f : Nat → Int32, x9 = .inl (cs 16, 21, .inl f) ∧ (∀ j, j < 21 → f j = nI (gm k j))
def wtm_pos (ty : TyM) (gm : Nat → Nat → Nat) (L : List Nat) (ρ : Nat) (k : Nat) : Prop := True
def shm_rtxt (cs : Nat → ClassId) (ty : TyM) (gm : Nat → Nat → Nat) (L : List Nat) (ρ : Nat) (n : Nat) (rm : Nat) (x9 : va_E) : Prop := ∃ f : Nat → Option Nat, x9 = .inl (cs 23, n, .inr (.inr (.inr (.inr f)))) ∧ (∀ j, j < n → ∃ b r, f j = some b ∧ b ∈ L ∧ ty b = (14, ρ, [r, rm]))
def wtm_rtxt (ty : TyM) (gm : Nat → Nat → Nat) (L : List Nat) (ρ : Nat) (n : Nat) (rm : Nat) : Prop := True
def shm_rtxj (cs : Nat → ClassId) (ty : TyM) (gm : Nat → Nat → Nat) (L : List Nat) (ρ : Nat) (n : Nat) (rm : Nat) (x9 : va_E) : Prop := ∃ f : Nat → Option Nat, x9 = .inl (cs 23, n, .inr (.inr (.inr (.inr f)))) ∧ (∀ j, j < n → ∃ b r, f j = some b ∧ b ∈ L ∧ ty b = (14, ρ + j + 100, [r, rm]))
def wtm_rtxj (ty : TyM) (gm : Nat → Nat → Nat) (L : List Nat) (ρ : Nat) (n : Nat) (rm : Nat) : Prop := True
def shm_hash (cs : Nat → ClassId) (ty : TyM) (gm : Nat → Nat → Nat) (L : List Nat) (ρ : Nat) (x : Nat) (y : Nat) (w : Nat) (u : Nat) (bl : Nat) (x9 : va_E) : Prop := ∃ z : Nat, ∃ v : Int64, x9 = .inr (12, [.ref x, .ref y, .ref w, .ref u, .ref bl, .int (nI z), .long v]) ∧ z ≤ 64
def wtm_hash (ty : TyM) (gm : Nat → Nat → Nat) (L : List Nat) (ρ : Nat) (x : Nat) (y : Nat) (w : Nat) (u : Nat) (bl : Nat) : Prop := x ∈ L ∧ y ∈ L ∧ w ∈ L ∧ u ∈ L ∧ bl ∈ L ∧ ty x = (28, ρ, [8]) ∧ ty y = (16, ρ, [8]) ∧ ty w = (16, ρ, [64]) ∧ ty u = (28, ρ, [64]) ∧ ty bl = (17, ρ, [64])
def shm_kst (cs : Nat → ClassId) (ty : TyM) (gm : Nat → Nat → Nat) (L : List Nat) (ρ : Nat) (n : Nat) (x9 : va_E) : Prop := ∃ f : Nat → Int32, x9 = .inl (cs 16, n, .inl f) ∧ (∀ j, j < n → f j = shK n j)
def wtm_kst (ty : TyM) (gm : Nat → Nat → Nat) (L : List Nat) (ρ : Nat) (n : Nat) : Prop := True
def shm_tags (cs : Nat → ClassId) (ty : TyM) (gm : Nat → Nat → Nat) (L : List Nat) (ρ : Nat) (x : Nat) (n : Nat) (B : Nat) (y0 : Nat) (y1 : Nat) (y2 : Nat) (x9 : va_E) : Prop := ∃ z : Nat, x9 = .inr (13, [.ref x, .ref y0, .ref y1, .ref y2, .int (nI z)]) ∧ z ≤ 40
def wtm_tags (ty : TyM) (gm : Nat → Nat → Nat) (L : List Nat) (ρ : Nat) (x : Nat) (n : Nat) (B : Nat) (y0 : Nat) (y1 : Nat) (y2 : Nat) : Prop := x ∈ L ∧ y0 ∈ L ∧ y1 ∈ L ∧ y2 ∈ L ∧ (∃ r, ty x = (14, ρ + 1, [r, n])) ∧ ty y0 = (25, ρ, [40, B]) ∧ ty y1 = (25, ρ + 70, [40, B]) ∧ ty y2 = (25, ρ + 71, [40, B]) ∧ B ≤ n ∧ n ≤ 10000
def shm_mod (cs : Nat → ClassId) (ty : TyM) (gm : Nat → Nat → Nat) (L : List Nat) (ρ : Nat) (ta : Nat) (ou : Nat) (so : Nat) (ad : Nat) (na : Nat) (va : Nat) (lc : Nat) (dm : Nat) (tg : Nat) (pe : Nat) (ml : Nat) (bg : Nat) (co : Nat) (sp : Nat) (nb0 : Nat) (nb1 : Nat) (nb2 : Nat) (pl : Nat) (se : Nat) (ke : Nat) (wi : Nat) (hs : Nat) (mo : Nat) (po : Nat) (nu : Nat) (pr : Nat) (sq : Nat) (xa : Nat) (sa : Nat) (n64 : Nat) (m64 : Nat) (ex : Nat) (wh : Nat) (sd : Nat) (tk : Nat) (hd : Nat) (ak : Nat) (ho : Nat) (ot : Nat) (sx : Nat) (s0 : Nat) (s1 : Nat) (s2 : Nat) (nf : Nat) (bd : Nat) (mm : Nat) (zo : Nat) (fm : Nat) (sn : Nat) (hg : Nat) (gc : Nat) (gv : Nat) (ze : Nat) (zt : Nat) (x9 : va_E) : Prop := ∃ v14 : Int32, ∃ v15 : Int32, ∃ v17 : Int32, ∃ v18 : Int32, ∃ v19 : Int32, ∃ v20 : Int32, ∃ v21 : Int32, ∃ v22 : Int32, ∃ v33 : Int32, ∃ v52 : Int32, ∃ v53 : Int32, ∃ v54 : Int32, x9 = .inr (15, [.ref ta, .int (nI zt), .int (nI zo), .int (nI ze), .ref ou, .ref so, .ref ad, .ref na, .ref va, .ref lc, .ref dm, .int (nI fm), .int (nI sn), .ref tg, .int v14, .int v15, .ref pe, .int v17, .int v18, .int v19, .int v20, .int v21, .int v22, .ref ml, .ref bg, .ref co, .ref sp, .ref nb0, .ref nb1, .ref nb2, .int (nI nf), .int (nI bd), .int (nI mm), .int v33, .ref pl, .ref se, .ref ke, .ref wi, .ref hs, .ref mo, .ref po, .ref nu, .ref pr, .ref sq, .ref xa, .ref sa, .ref n64, .ref m64, .ref ex, .ref wh, .ref sd, .ref tk, .int v52, .int v53, .int v54, .ref hd, .ref ak, .ref ho, .ref ot]) ∧ zo ≤ 6000 ∧ ze ≤ 40 ∧ ((v33 = 0 ∧ nf = 0) ∨ (v33 = 1 ∧ 1 ≤ nf)) ∧ (v54 = 0 ∨ v54 = 1) ∧ (hg = 0 ∨ (v14 = nI gc ∧ v15 = nI gv))
def wtm_mod (ty : TyM) (gm : Nat → Nat → Nat) (L : List Nat) (ρ : Nat) (ta : Nat) (ou : Nat) (so : Nat) (ad : Nat) (na : Nat) (va : Nat) (lc : Nat) (dm : Nat) (tg : Nat) (pe : Nat) (ml : Nat) (bg : Nat) (co : Nat) (sp : Nat) (nb0 : Nat) (nb1 : Nat) (nb2 : Nat) (pl : Nat) (se : Nat) (ke : Nat) (wi : Nat) (hs : Nat) (mo : Nat) (po : Nat) (nu : Nat) (pr : Nat) (sq : Nat) (xa : Nat) (sa : Nat) (n64 : Nat) (m64 : Nat) (ex : Nat) (wh : Nat) (sd : Nat) (tk : Nat) (hd : Nat) (ak : Nat) (ho : Nat) (ot : Nat) (sx : Nat) (s0 : Nat) (s1 : Nat) (s2 : Nat) (nf : Nat) (bd : Nat) (mm : Nat) (zo : Nat) (fm : Nat) (sn : Nat) (hg : Nat) (gc : Nat) (gv : Nat) (ze : Nat) (zt : Nat) : Prop := ta ∈ L ∧ ty ta = (17, ρ + 1, [3000]) ∧ ou ∈ L ∧ ty ou = (17, ρ + 2, [6000]) ∧ so ∈ L ∧ ty so = (16, ρ + 3, [40]) ∧ ad ∈ L ∧ ty ad = (16, ρ + 31, [40]) ∧ na ∈ L ∧ ty na = (27, ρ + 4, [40, 60]) ∧ va ∈ L ∧ ty va = (27, ρ + 50, [40, 700]) ∧ lc ∈ L ∧ (∃ r, ty lc = (14, ρ + 5, [r, 30])) ∧ dm ∈ L ∧ (∃ r, ty dm = (14, ρ + 32, [r, 60])) ∧ tg ∈ L ∧ ty tg = (27, ρ + 200, [13, 61]) ∧ pe ∈ L ∧ (∃ r, ty pe = (14, ρ + 7, [r, 100])) ∧ ml ∈ L ∧ ty ml = (17, ρ + 8, [3000]) ∧ bg ∈ L ∧ ty bg = (26, ρ + 8, [0]) ∧ co ∈ L ∧ ty co = (26, ρ + 8, [1]) ∧ sp ∈ L ∧ ty sp = (26, ρ + 8, [2]) ∧ nb0 ∈ L ∧ ty nb0 = (25, ρ + 9, [21, 1280]) ∧ nb1 ∈ L ∧ ty nb1 = (25, ρ + 9, [21, 1280]) ∧ nb2 ∈ L ∧ ty nb2 = (25, ρ + 9, [21, 1280]) ∧ pl ∈ L ∧ (∃ r, ty pl = (14, ρ + 10, [r, 6000])) ∧ se ∈ L ∧ ty se = (13, ρ + 11, [sx, 3000, 1280, s0, s1, s2]) ∧ ke ∈ L ∧ (∃ x y0 y1 y2, ty ke = (13, ρ + 13, [x, 700, 700, y0, y1, y2])) ∧ wi ∈ L ∧ (∃ x y0 y1 y2, ty wi = (13, ρ + 15, [x, 700, 700, y0, y1, y2])) ∧ hs ∈ L ∧ (∃ x y w u bl, ty hs = (12, ρ + 17, [x, y, w, u, bl])) ∧ mo ∈ L ∧ ty mo = (16, ρ + 18, [33]) ∧ po ∈ L ∧ ty po = (16, ρ + 87, [33]) ∧ nu ∈ L ∧ ty nu = (16, ρ + 88, [33]) ∧ pr ∈ L ∧ ty pr = (16, ρ + 89, [66]) ∧ sq ∈ L ∧ ty sq = (16, ρ + 90, [33]) ∧ xa ∈ L ∧ ty xa = (17, ρ + 19, [32]) ∧ sa ∈ L ∧ ty sa = (17, ρ + 20, [32]) ∧ n64 ∈ L ∧ ty n64 = (17, ρ + 21, [64]) ∧ m64 ∈ L ∧ ty m64 = (17, ρ + 22, [64]) ∧ ex ∈ L ∧ ty ex = (17, ρ + 23, [64]) ∧ wh ∈ L ∧ (∃ r, ty wh = (14, ρ + 24, [r, 6000])) ∧ sd ∈ L ∧ (∃ r, ty sd = (14, ρ + 25, [r, 3000])) ∧ tk ∈ L ∧ ty tk = (18, ρ + 26, [20]) ∧ hd ∈ L ∧ ty hd = (28, ρ + 27, [19]) ∧ ak ∈ L ∧ (∃ r, ty ak = (14, ρ + 28, [r, 6000])) ∧ ho ∈ L ∧ (∃ r, ty ho = (14, ρ + 29, [r, 6000])) ∧ ot ∈ L ∧ (∃ r, ty ot = (14, ρ + 30, [r, 6000])) ∧ zt ≤ 3000 ∧ nf ≤ 20 ∧ bd ≤ mm ∧ mm ≤ 1280 ∧ (nf = 0 ∨ 1 ≤ bd) ∧ (∀ j, j < nf → gm 0 j < gm 1 j ∧ gm 1 j < gm 2 j ∧ gm 2 j ≤ mm) ∧ (∀ j, j + 1 < nf → gm 2 j ≤ gm 0 (j + 1)) ∧ (∀ k j, gm k j ≤ 1280) ∧ sn ≤ 1
def shm (cs : Nat → ClassId) (ty : TyM) (gm : Nat → Nat → Nat) (L : List Nat) (a : Nat) (x9 : va_E) : Prop :=
  (∀ (ρ r n : Nat), ty a = (14, ρ, [r, n]) → shm_txt cs ty gm L ρ r n x9) ∧
  (∀ (ρ n : Nat), ty a = (17, ρ, [n]) → shm_octs cs ty gm L ρ n x9) ∧
  (∀ (ρ n : Nat), ty a = (16, ρ, [n]) → shm_ints cs ty gm L ρ n x9) ∧
  (∀ (ρ n : Nat), ty a = (18, ρ, [n]) → shm_bits cs ty gm L ρ n x9) ∧
  (∀ (ρ n B : Nat), ty a = (25, ρ, [n, B]) → shm_idb cs ty gm L ρ n B x9) ∧
  (∀ (ρ k : Nat), ty a = (26, ρ, [k]) → shm_pos cs ty gm L ρ k x9) ∧
  (∀ (ρ n rm : Nat), ty a = (23, ρ, [n, rm]) → shm_rtxt cs ty gm L ρ n rm x9) ∧
  (∀ (ρ n rm : Nat), ty a = (27, ρ, [n, rm]) → shm_rtxj cs ty gm L ρ n rm x9) ∧
  (∀ (ρ x y w u bl : Nat), ty a = (12, ρ, [x, y, w, u, bl]) → shm_hash cs ty gm L ρ x y w u bl x9) ∧
  (∀ (ρ n : Nat), ty a = (28, ρ, [n]) → shm_kst cs ty gm L ρ n x9) ∧
  (∀ (ρ x n B y0 y1 y2 : Nat), ty a = (13, ρ, [x, n, B, y0, y1, y2]) → shm_tags cs ty gm L ρ x n B y0 y1 y2 x9) ∧
  (∀ (ρ ta ou so ad na va lc dm tg pe ml bg co sp nb0 nb1 nb2 pl se ke wi hs mo po nu pr sq xa sa n64 m64 ex wh sd tk hd ak ho ot sx s0 s1 s2 nf bd mm zo fm sn hg gc gv ze zt : Nat), ty a = (15, ρ, [ta, ou, so, ad, na, va, lc, dm, tg, pe, ml, bg, co, sp, nb0, nb1, nb2, pl, se, ke, wi, hs, mo, po, nu, pr, sq, xa, sa, n64, m64, ex, wh, sd, tk, hd, ak, ho, ot, sx, s0, s1, s2, nf, bd, mm, zo, fm, sn, hg, gc, gv, ze, zt]) → shm_mod cs ty gm L ρ ta ou so ad na va lc dm tg pe ml bg co sp nb0 nb1 nb2 pl se ke wi hs mo po nu pr sq xa sa n64 m64 ex wh sd tk hd ak ho ot sx s0 s1 s2 nf bd mm zo fm sn hg gc gv ze zt x9)
def WTm (ty : TyM) (gm : Nat → Nat → Nat) (L : List Nat) : Prop := ∀ a ∈ L,
  (∀ (ρ r n : Nat), ty a = (14, ρ, [r, n]) → wtm_txt ty gm L ρ r n) ∧
  (∀ (ρ n : Nat), ty a = (17, ρ, [n]) → wtm_octs ty gm L ρ n) ∧
  (∀ (ρ n : Nat), ty a = (16, ρ, [n]) → wtm_ints ty gm L ρ n) ∧
  (∀ (ρ n : Nat), ty a = (18, ρ, [n]) → wtm_bits ty gm L ρ n) ∧
  (∀ (ρ n B : Nat), ty a = (25, ρ, [n, B]) → wtm_idb ty gm L ρ n B) ∧
  (∀ (ρ k : Nat), ty a = (26, ρ, [k]) → wtm_pos ty gm L ρ k) ∧
  (∀ (ρ n rm : Nat), ty a = (23, ρ, [n, rm]) → wtm_rtxt ty gm L ρ n rm) ∧
  (∀ (ρ n rm : Nat), ty a = (27, ρ, [n, rm]) → wtm_rtxj ty gm L ρ n rm) ∧
  (∀ (ρ x y w u bl : Nat), ty a = (12, ρ, [x, y, w, u, bl]) → wtm_hash ty gm L ρ x y w u bl) ∧
  (∀ (ρ n : Nat), ty a = (28, ρ, [n]) → wtm_kst ty gm L ρ n) ∧
  (∀ (ρ x n B y0 y1 y2 : Nat), ty a = (13, ρ, [x, n, B, y0, y1, y2]) → wtm_tags ty gm L ρ x n B y0 y1 y2) ∧
  (∀ (ρ ta ou so ad na va lc dm tg pe ml bg co sp nb0 nb1 nb2 pl se ke wi hs mo po nu pr sq xa sa n64 m64 ex wh sd tk hd ak ho ot sx s0 s1 s2 nf bd mm zo fm sn hg gc gv ze zt : Nat), ty a = (15, ρ, [ta, ou, so, ad, na, va, lc, dm, tg, pe, ml, bg, co, sp, nb0, nb1, nb2, pl, se, ke, wi, hs, mo, po, nu, pr, sq, xa, sa, n64, m64, ex, wh, sd, tk, hd, ak, ho, ot, sx, s0, s1, s2, nf, bd, mm, zo, fm, sn, hg, gc, gv, ze, zt]) → wtm_mod ty gm L ρ ta ou so ad na va lc dm tg pe ml bg co sp nb0 nb1 nb2 pl se ke wi hs mo po nu pr sq xa sa n64 m64 ex wh sd tk hd ak ho ot sx s0 s1 s2 nf bd mm zo fm sn hg gc gv ze zt)
def OKm (cs : Nat → ClassId) (ty : TyM) (gm : Nat → Nat → Nat) (L : List Nat) (F : Nat → va_E) : Prop := ∀ a ∈ L, shm cs ty gm L a (F a)
theorem OKm.txt {cs : Nat → ClassId} {ty : TyM} {gm : Nat → Nat → Nat} {L : List Nat} {F : Nat → va_E} {a : Nat} {ρ r n : Nat} (h : OKm cs ty gm L F) (ha : a ∈ L) (ht : ty a = (14, ρ, [r, n])) : shm_txt cs ty gm L ρ r n (F a) := (h a ha).1 _ _ _ ht
theorem WTm.txt {ty : TyM} {gm : Nat → Nat → Nat} {L : List Nat} {a : Nat} {ρ r n : Nat} (h : WTm ty gm L) (ha : a ∈ L) (ht : ty a = (14, ρ, [r, n])) : wtm_txt ty gm L ρ r n := (h a ha).1 _ _ _ ht
theorem shm.txt {cs : Nat → ClassId} {ty : TyM} {gm : Nat → Nat → Nat} {L : List Nat} {a : Nat} {x9 : va_E} {ρ r n : Nat} (ht : ty a = (14, ρ, [r, n])) (h : shm_txt cs ty gm L ρ r n x9) : shm cs ty gm L a x9 :=
  ⟨fun _ _ _ e => by rw [ht] at e; cases e; exact h, fun _ _ e => absurd (ht.symm.trans e) (by simp), fun _ _ e => absurd (ht.symm.trans e) (by simp), fun _ _ e => absurd (ht.symm.trans e) (by simp), fun _ _ _ e => absurd (ht.symm.trans e) (by simp), fun _ _ e => absurd (ht.symm.trans e) (by simp), fun _ _ _ e => absurd (ht.symm.trans e) (by simp), fun _ _ _ e => absurd (ht.symm.trans e) (by simp), fun _ _ _ _ _ _ e => absurd (ht.symm.trans e) (by simp), fun _ _ e => absurd (ht.symm.trans e) (by simp), fun _ _ _ _ _ _ _ e => absurd (ht.symm.trans e) (by simp), fun _ _ _ _ _ _ _ _ _ _ _ _ _ _ _ _ _ _ _ _ _ _ _ _ _ _ _ _ _ _ _ _ _ _ _ _ _ _ _ _ _ _ _ _ _ _ _ _ _ _ _ _ _ _ _ e => absurd (ht.symm.trans e) (by simp)⟩
theorem OKm.octs {cs : Nat → ClassId} {ty : TyM} {gm : Nat → Nat → Nat} {L : List Nat} {F : Nat → va_E} {a : Nat} {ρ n : Nat} (h : OKm cs ty gm L F) (ha : a ∈ L) (ht : ty a = (17, ρ, [n])) : shm_octs cs ty gm L ρ n (F a) := (h a ha).2.1 _ _ ht
theorem WTm.octs {ty : TyM} {gm : Nat → Nat → Nat} {L : List Nat} {a : Nat} {ρ n : Nat} (h : WTm ty gm L) (ha : a ∈ L) (ht : ty a = (17, ρ, [n])) : wtm_octs ty gm L ρ n := (h a ha).2.1 _ _ ht
theorem shm.octs {cs : Nat → ClassId} {ty : TyM} {gm : Nat → Nat → Nat} {L : List Nat} {a : Nat} {x9 : va_E} {ρ n : Nat} (ht : ty a = (17, ρ, [n])) (h : shm_octs cs ty gm L ρ n x9) : shm cs ty gm L a x9 :=
  ⟨fun _ _ _ e => absurd (ht.symm.trans e) (by simp), fun _ _ e => by rw [ht] at e; cases e; exact h, fun _ _ e => absurd (ht.symm.trans e) (by simp), fun _ _ e => absurd (ht.symm.trans e) (by simp), fun _ _ _ e => absurd (ht.symm.trans e) (by simp), fun _ _ e => absurd (ht.symm.trans e) (by simp), fun _ _ _ e => absurd (ht.symm.trans e) (by simp), fun _ _ _ e => absurd (ht.symm.trans e) (by simp), fun _ _ _ _ _ _ e => absurd (ht.symm.trans e) (by simp), fun _ _ e => absurd (ht.symm.trans e) (by simp), fun _ _ _ _ _ _ _ e => absurd (ht.symm.trans e) (by simp), fun _ _ _ _ _ _ _ _ _ _ _ _ _ _ _ _ _ _ _ _ _ _ _ _ _ _ _ _ _ _ _ _ _ _ _ _ _ _ _ _ _ _ _ _ _ _ _ _ _ _ _ _ _ _ _ e => absurd (ht.symm.trans e) (by simp)⟩
theorem OKm.ints {cs : Nat → ClassId} {ty : TyM} {gm : Nat → Nat → Nat} {L : List Nat} {F : Nat → va_E} {a : Nat} {ρ n : Nat} (h : OKm cs ty gm L F) (ha : a ∈ L) (ht : ty a = (16, ρ, [n])) : shm_ints cs ty gm L ρ n (F a) := (h a ha).2.2.1 _ _ ht
theorem WTm.ints {ty : TyM} {gm : Nat → Nat → Nat} {L : List Nat} {a : Nat} {ρ n : Nat} (h : WTm ty gm L) (ha : a ∈ L) (ht : ty a = (16, ρ, [n])) : wtm_ints ty gm L ρ n := (h a ha).2.2.1 _ _ ht
theorem shm.ints {cs : Nat → ClassId} {ty : TyM} {gm : Nat → Nat → Nat} {L : List Nat} {a : Nat} {x9 : va_E} {ρ n : Nat} (ht : ty a = (16, ρ, [n])) (h : shm_ints cs ty gm L ρ n x9) : shm cs ty gm L a x9 :=
  ⟨fun _ _ _ e => absurd (ht.symm.trans e) (by simp), fun _ _ e => absurd (ht.symm.trans e) (by simp), fun _ _ e => by rw [ht] at e; cases e; exact h, fun _ _ e => absurd (ht.symm.trans e) (by simp), fun _ _ _ e => absurd (ht.symm.trans e) (by simp), fun _ _ e => absurd (ht.symm.trans e) (by simp), fun _ _ _ e => absurd (ht.symm.trans e) (by simp), fun _ _ _ e => absurd (ht.symm.trans e) (by simp), fun _ _ _ _ _ _ e => absurd (ht.symm.trans e) (by simp), fun _ _ e => absurd (ht.symm.trans e) (by simp), fun _ _ _ _ _ _ _ e => absurd (ht.symm.trans e) (by simp), fun _ _ _ _ _ _ _ _ _ _ _ _ _ _ _ _ _ _ _ _ _ _ _ _ _ _ _ _ _ _ _ _ _ _ _ _ _ _ _ _ _ _ _ _ _ _ _ _ _ _ _ _ _ _ _ e => absurd (ht.symm.trans e) (by simp)⟩
theorem OKm.bits {cs : Nat → ClassId} {ty : TyM} {gm : Nat → Nat → Nat} {L : List Nat} {F : Nat → va_E} {a : Nat} {ρ n : Nat} (h : OKm cs ty gm L F) (ha : a ∈ L) (ht : ty a = (18, ρ, [n])) : shm_bits cs ty gm L ρ n (F a) := (h a ha).2.2.2.1 _ _ ht
theorem shm.bits {cs : Nat → ClassId} {ty : TyM} {gm : Nat → Nat → Nat} {L : List Nat} {a : Nat} {x9 : va_E} {ρ n : Nat} (ht : ty a = (18, ρ, [n])) (h : shm_bits cs ty gm L ρ n x9) : shm cs ty gm L a x9 :=
  ⟨fun _ _ _ e => absurd (ht.symm.trans e) (by simp), fun _ _ e => absurd (ht.symm.trans e) (by simp), fun _ _ e => absurd (ht.symm.trans e) (by simp), fun _ _ e => by rw [ht] at e; cases e; exact h, fun _ _ _ e => absurd (ht.symm.trans e) (by simp), fun _ _ e => absurd (ht.symm.trans e) (by simp), fun _ _ _ e => absurd (ht.symm.trans e) (by simp), fun _ _ _ e => absurd (ht.symm.trans e) (by simp), fun _ _ _ _ _ _ e => absurd (ht.symm.trans e) (by simp), fun _ _ e => absurd (ht.symm.trans e) (by simp), fun _ _ _ _ _ _ _ e => absurd (ht.symm.trans e) (by simp), fun _ _ _ _ _ _ _ _ _ _ _ _ _ _ _ _ _ _ _ _ _ _ _ _ _ _ _ _ _ _ _ _ _ _ _ _ _ _ _ _ _ _ _ _ _ _ _ _ _ _ _ _ _ _ _ e => absurd (ht.symm.trans e) (by simp)⟩
theorem OKm.idb {cs : Nat → ClassId} {ty : TyM} {gm : Nat → Nat → Nat} {L : List Nat} {F : Nat → va_E} {a : Nat} {ρ n B : Nat} (h : OKm cs ty gm L F) (ha : a ∈ L) (ht : ty a = (25, ρ, [n, B])) : shm_idb cs ty gm L ρ n B (F a) := (h a ha).2.2.2.2.1 _ _ _ ht
theorem shm.idb {cs : Nat → ClassId} {ty : TyM} {gm : Nat → Nat → Nat} {L : List Nat} {a : Nat} {x9 : va_E} {ρ n B : Nat} (ht : ty a = (25, ρ, [n, B])) (h : shm_idb cs ty gm L ρ n B x9) : shm cs ty gm L a x9 :=
  ⟨fun _ _ _ e => absurd (ht.symm.trans e) (by simp), fun _ _ e => absurd (ht.symm.trans e) (by simp), fun _ _ e => absurd (ht.symm.trans e) (by simp), fun _ _ e => absurd (ht.symm.trans e) (by simp), fun _ _ _ e => by rw [ht] at e; cases e; exact h, fun _ _ e => absurd (ht.symm.trans e) (by simp), fun _ _ _ e => absurd (ht.symm.trans e) (by simp), fun _ _ _ e => absurd (ht.symm.trans e) (by simp), fun _ _ _ _ _ _ e => absurd (ht.symm.trans e) (by simp), fun _ _ e => absurd (ht.symm.trans e) (by simp), fun _ _ _ _ _ _ _ e => absurd (ht.symm.trans e) (by simp), fun _ _ _ _ _ _ _ _ _ _ _ _ _ _ _ _ _ _ _ _ _ _ _ _ _ _ _ _ _ _ _ _ _ _ _ _ _ _ _ _ _ _ _ _ _ _ _ _ _ _ _ _ _ _ _ e => absurd (ht.symm.trans e) (by simp)⟩
theorem OKm.pos {cs : Nat → ClassId} {ty : TyM} {gm : Nat → Nat → Nat} {L : List Nat} {F : Nat → va_E} {a : Nat} {ρ k : Nat} (h : OKm cs ty gm L F) (ha : a ∈ L) (ht : ty a = (26, ρ, [k])) : shm_pos cs ty gm L ρ k (F a) := (h a ha).2.2.2.2.2.1 _ _ ht
theorem shm.pos {cs : Nat → ClassId} {ty : TyM} {gm : Nat → Nat → Nat} {L : List Nat} {a : Nat} {x9 : va_E} {ρ k : Nat} (ht : ty a = (26, ρ, [k])) (h : shm_pos cs ty gm L ρ k x9) : shm cs ty gm L a x9 :=
  ⟨fun _ _ _ e => absurd (ht.symm.trans e) (by simp), fun _ _ e => absurd (ht.symm.trans e) (by simp), fun _ _ e => absurd (ht.symm.trans e) (by simp), fun _ _ e => absurd (ht.symm.trans e) (by simp), fun _ _ _ e => absurd (ht.symm.trans e) (by simp), fun _ _ e => by rw [ht] at e; cases e; exact h, fun _ _ _ e => absurd (ht.symm.trans e) (by simp), fun _ _ _ e => absurd (ht.symm.trans e) (by simp), fun _ _ _ _ _ _ e => absurd (ht.symm.trans e) (by simp), fun _ _ e => absurd (ht.symm.trans e) (by simp), fun _ _ _ _ _ _ _ e => absurd (ht.symm.trans e) (by simp), fun _ _ _ _ _ _ _ _ _ _ _ _ _ _ _ _ _ _ _ _ _ _ _ _ _ _ _ _ _ _ _ _ _ _ _ _ _ _ _ _ _ _ _ _ _ _ _ _ _ _ _ _ _ _ _ e => absurd (ht.symm.trans e) (by simp)⟩
theorem OKm.rtxt {cs : Nat → ClassId} {ty : TyM} {gm : Nat → Nat → Nat} {L : List Nat} {F : Nat → va_E} {a : Nat} {ρ n rm : Nat} (h : OKm cs ty gm L F) (ha : a ∈ L) (ht : ty a = (23, ρ, [n, rm])) : shm_rtxt cs ty gm L ρ n rm (F a) := (h a ha).2.2.2.2.2.2.1 _ _ _ ht
theorem shm.rtxt {cs : Nat → ClassId} {ty : TyM} {gm : Nat → Nat → Nat} {L : List Nat} {a : Nat} {x9 : va_E} {ρ n rm : Nat} (ht : ty a = (23, ρ, [n, rm])) (h : shm_rtxt cs ty gm L ρ n rm x9) : shm cs ty gm L a x9 :=
  ⟨fun _ _ _ e => absurd (ht.symm.trans e) (by simp), fun _ _ e => absurd (ht.symm.trans e) (by simp), fun _ _ e => absurd (ht.symm.trans e) (by simp), fun _ _ e => absurd (ht.symm.trans e) (by simp), fun _ _ _ e => absurd (ht.symm.trans e) (by simp), fun _ _ e => absurd (ht.symm.trans e) (by simp), fun _ _ _ e => by rw [ht] at e; cases e; exact h, fun _ _ _ e => absurd (ht.symm.trans e) (by simp), fun _ _ _ _ _ _ e => absurd (ht.symm.trans e) (by simp), fun _ _ e => absurd (ht.symm.trans e) (by simp), fun _ _ _ _ _ _ _ e => absurd (ht.symm.trans e) (by simp), fun _ _ _ _ _ _ _ _ _ _ _ _ _ _ _ _ _ _ _ _ _ _ _ _ _ _ _ _ _ _ _ _ _ _ _ _ _ _ _ _ _ _ _ _ _ _ _ _ _ _ _ _ _ _ _ e => absurd (ht.symm.trans e) (by simp)⟩
theorem OKm.rtxj {cs : Nat → ClassId} {ty : TyM} {gm : Nat → Nat → Nat} {L : List Nat} {F : Nat → va_E} {a : Nat} {ρ n rm : Nat} (h : OKm cs ty gm L F) (ha : a ∈ L) (ht : ty a = (27, ρ, [n, rm])) : shm_rtxj cs ty gm L ρ n rm (F a) := (h a ha).2.2.2.2.2.2.2.1 _ _ _ ht
theorem shm.rtxj {cs : Nat → ClassId} {ty : TyM} {gm : Nat → Nat → Nat} {L : List Nat} {a : Nat} {x9 : va_E} {ρ n rm : Nat} (ht : ty a = (27, ρ, [n, rm])) (h : shm_rtxj cs ty gm L ρ n rm x9) : shm cs ty gm L a x9 :=
  ⟨fun _ _ _ e => absurd (ht.symm.trans e) (by simp), fun _ _ e => absurd (ht.symm.trans e) (by simp), fun _ _ e => absurd (ht.symm.trans e) (by simp), fun _ _ e => absurd (ht.symm.trans e) (by simp), fun _ _ _ e => absurd (ht.symm.trans e) (by simp), fun _ _ e => absurd (ht.symm.trans e) (by simp), fun _ _ _ e => absurd (ht.symm.trans e) (by simp), fun _ _ _ e => by rw [ht] at e; cases e; exact h, fun _ _ _ _ _ _ e => absurd (ht.symm.trans e) (by simp), fun _ _ e => absurd (ht.symm.trans e) (by simp), fun _ _ _ _ _ _ _ e => absurd (ht.symm.trans e) (by simp), fun _ _ _ _ _ _ _ _ _ _ _ _ _ _ _ _ _ _ _ _ _ _ _ _ _ _ _ _ _ _ _ _ _ _ _ _ _ _ _ _ _ _ _ _ _ _ _ _ _ _ _ _ _ _ _ e => absurd (ht.symm.trans e) (by simp)⟩
theorem OKm.hash {cs : Nat → ClassId} {ty : TyM} {gm : Nat → Nat → Nat} {L : List Nat} {F : Nat → va_E} {a : Nat} {ρ x y w u bl : Nat} (h : OKm cs ty gm L F) (ha : a ∈ L) (ht : ty a = (12, ρ, [x, y, w, u, bl])) : shm_hash cs ty gm L ρ x y w u bl (F a) := (h a ha).2.2.2.2.2.2.2.2.1 _ _ _ _ _ _ ht
theorem WTm.hash {ty : TyM} {gm : Nat → Nat → Nat} {L : List Nat} {a : Nat} {ρ x y w u bl : Nat} (h : WTm ty gm L) (ha : a ∈ L) (ht : ty a = (12, ρ, [x, y, w, u, bl])) : wtm_hash ty gm L ρ x y w u bl := (h a ha).2.2.2.2.2.2.2.2.1 _ _ _ _ _ _ ht
theorem shm.hash {cs : Nat → ClassId} {ty : TyM} {gm : Nat → Nat → Nat} {L : List Nat} {a : Nat} {x9 : va_E} {ρ x y w u bl : Nat} (ht : ty a = (12, ρ, [x, y, w, u, bl])) (h : shm_hash cs ty gm L ρ x y w u bl x9) : shm cs ty gm L a x9 :=
  ⟨fun _ _ _ e => absurd (ht.symm.trans e) (by simp), fun _ _ e => absurd (ht.symm.trans e) (by simp), fun _ _ e => absurd (ht.symm.trans e) (by simp), fun _ _ e => absurd (ht.symm.trans e) (by simp), fun _ _ _ e => absurd (ht.symm.trans e) (by simp), fun _ _ e => absurd (ht.symm.trans e) (by simp), fun _ _ _ e => absurd (ht.symm.trans e) (by simp), fun _ _ _ e => absurd (ht.symm.trans e) (by simp), fun _ _ _ _ _ _ e => by rw [ht] at e; cases e; exact h, fun _ _ e => absurd (ht.symm.trans e) (by simp), fun _ _ _ _ _ _ _ e => absurd (ht.symm.trans e) (by simp), fun _ _ _ _ _ _ _ _ _ _ _ _ _ _ _ _ _ _ _ _ _ _ _ _ _ _ _ _ _ _ _ _ _ _ _ _ _ _ _ _ _ _ _ _ _ _ _ _ _ _ _ _ _ _ _ e => absurd (ht.symm.trans e) (by simp)⟩
theorem OKm.kst {cs : Nat → ClassId} {ty : TyM} {gm : Nat → Nat → Nat} {L : List Nat} {F : Nat → va_E} {a : Nat} {ρ n : Nat} (h : OKm cs ty gm L F) (ha : a ∈ L) (ht : ty a = (28, ρ, [n])) : shm_kst cs ty gm L ρ n (F a) := (h a ha).2.2.2.2.2.2.2.2.2.1 _ _ ht
theorem shm.kst {cs : Nat → ClassId} {ty : TyM} {gm : Nat → Nat → Nat} {L : List Nat} {a : Nat} {x9 : va_E} {ρ n : Nat} (ht : ty a = (28, ρ, [n])) (h : shm_kst cs ty gm L ρ n x9) : shm cs ty gm L a x9 :=
  ⟨fun _ _ _ e => absurd (ht.symm.trans e) (by simp), fun _ _ e => absurd (ht.symm.trans e) (by simp), fun _ _ e => absurd (ht.symm.trans e) (by simp), fun _ _ e => absurd (ht.symm.trans e) (by simp), fun _ _ _ e => absurd (ht.symm.trans e) (by simp), fun _ _ e => absurd (ht.symm.trans e) (by simp), fun _ _ _ e => absurd (ht.symm.trans e) (by simp), fun _ _ _ e => absurd (ht.symm.trans e) (by simp), fun _ _ _ _ _ _ e => absurd (ht.symm.trans e) (by simp), fun _ _ e => by rw [ht] at e; cases e; exact h, fun _ _ _ _ _ _ _ e => absurd (ht.symm.trans e) (by simp), fun _ _ _ _ _ _ _ _ _ _ _ _ _ _ _ _ _ _ _ _ _ _ _ _ _ _ _ _ _ _ _ _ _ _ _ _ _ _ _ _ _ _ _ _ _ _ _ _ _ _ _ _ _ _ _ e => absurd (ht.symm.trans e) (by simp)⟩
theorem OKm.tags {cs : Nat → ClassId} {ty : TyM} {gm : Nat → Nat → Nat} {L : List Nat} {F : Nat → va_E} {a : Nat} {ρ x n B y0 y1 y2 : Nat} (h : OKm cs ty gm L F) (ha : a ∈ L) (ht : ty a = (13, ρ, [x, n, B, y0, y1, y2])) : shm_tags cs ty gm L ρ x n B y0 y1 y2 (F a) := (h a ha).2.2.2.2.2.2.2.2.2.2.1 _ _ _ _ _ _ _ ht
theorem WTm.tags {ty : TyM} {gm : Nat → Nat → Nat} {L : List Nat} {a : Nat} {ρ x n B y0 y1 y2 : Nat} (h : WTm ty gm L) (ha : a ∈ L) (ht : ty a = (13, ρ, [x, n, B, y0, y1, y2])) : wtm_tags ty gm L ρ x n B y0 y1 y2 := (h a ha).2.2.2.2.2.2.2.2.2.2.1 _ _ _ _ _ _ _ ht
theorem shm.tags {cs : Nat → ClassId} {ty : TyM} {gm : Nat → Nat → Nat} {L : List Nat} {a : Nat} {x9 : va_E} {ρ x n B y0 y1 y2 : Nat} (ht : ty a = (13, ρ, [x, n, B, y0, y1, y2])) (h : shm_tags cs ty gm L ρ x n B y0 y1 y2 x9) : shm cs ty gm L a x9 :=
  ⟨fun _ _ _ e => absurd (ht.symm.trans e) (by simp), fun _ _ e => absurd (ht.symm.trans e) (by simp), fun _ _ e => absurd (ht.symm.trans e) (by simp), fun _ _ e => absurd (ht.symm.trans e) (by simp), fun _ _ _ e => absurd (ht.symm.trans e) (by simp), fun _ _ e => absurd (ht.symm.trans e) (by simp), fun _ _ _ e => absurd (ht.symm.trans e) (by simp), fun _ _ _ e => absurd (ht.symm.trans e) (by simp), fun _ _ _ _ _ _ e => absurd (ht.symm.trans e) (by simp), fun _ _ e => absurd (ht.symm.trans e) (by simp), fun _ _ _ _ _ _ _ e => by rw [ht] at e; cases e; exact h, fun _ _ _ _ _ _ _ _ _ _ _ _ _ _ _ _ _ _ _ _ _ _ _ _ _ _ _ _ _ _ _ _ _ _ _ _ _ _ _ _ _ _ _ _ _ _ _ _ _ _ _ _ _ _ _ e => absurd (ht.symm.trans e) (by simp)⟩
theorem OKm.mod {cs : Nat → ClassId} {ty : TyM} {gm : Nat → Nat → Nat} {L : List Nat} {F : Nat → va_E} {a : Nat} {ρ ta ou so ad na va lc dm tg pe ml bg co sp nb0 nb1 nb2 pl se ke wi hs mo po nu pr sq xa sa n64 m64 ex wh sd tk hd ak ho ot sx s0 s1 s2 nf bd mm zo fm sn hg gc gv ze zt : Nat} (h : OKm cs ty gm L F) (ha : a ∈ L) (ht : ty a = (15, ρ, [ta, ou, so, ad, na, va, lc, dm, tg, pe, ml, bg, co, sp, nb0, nb1, nb2, pl, se, ke, wi, hs, mo, po, nu, pr, sq, xa, sa, n64, m64, ex, wh, sd, tk, hd, ak, ho, ot, sx, s0, s1, s2, nf, bd, mm, zo, fm, sn, hg, gc, gv, ze, zt])) : shm_mod cs ty gm L ρ ta ou so ad na va lc dm tg pe ml bg co sp nb0 nb1 nb2 pl se ke wi hs mo po nu pr sq xa sa n64 m64 ex wh sd tk hd ak ho ot sx s0 s1 s2 nf bd mm zo fm sn hg gc gv ze zt (F a) := (h a ha).2.2.2.2.2.2.2.2.2.2.2 _ _ _ _ _ _ _ _ _ _ _ _ _ _ _ _ _ _ _ _ _ _ _ _ _ _ _ _ _ _ _ _ _ _ _ _ _ _ _ _ _ _ _ _ _ _ _ _ _ _ _ _ _ _ _ ht
theorem WTm.mod {ty : TyM} {gm : Nat → Nat → Nat} {L : List Nat} {a : Nat} {ρ ta ou so ad na va lc dm tg pe ml bg co sp nb0 nb1 nb2 pl se ke wi hs mo po nu pr sq xa sa n64 m64 ex wh sd tk hd ak ho ot sx s0 s1 s2 nf bd mm zo fm sn hg gc gv ze zt : Nat} (h : WTm ty gm L) (ha : a ∈ L) (ht : ty a = (15, ρ, [ta, ou, so, ad, na, va, lc, dm, tg, pe, ml, bg, co, sp, nb0, nb1, nb2, pl, se, ke, wi, hs, mo, po, nu, pr, sq, xa, sa, n64, m64, ex, wh, sd, tk, hd, ak, ho, ot, sx, s0, s1, s2, nf, bd, mm, zo, fm, sn, hg, gc, gv, ze, zt])) : wtm_mod ty gm L ρ ta ou so ad na va lc dm tg pe ml bg co sp nb0 nb1 nb2 pl se ke wi hs mo po nu pr sq xa sa n64 m64 ex wh sd tk hd ak ho ot sx s0 s1 s2 nf bd mm zo fm sn hg gc gv ze zt := (h a ha).2.2.2.2.2.2.2.2.2.2.2 _ _ _ _ _ _ _ _ _ _ _ _ _ _ _ _ _ _ _ _ _ _ _ _ _ _ _ _ _ _ _ _ _ _ _ _ _ _ _ _ _ _ _ _ _ _ _ _ _ _ _ _ _ _ _ ht
theorem shm.mod {cs : Nat → ClassId} {ty : TyM} {gm : Nat → Nat → Nat} {L : List Nat} {a : Nat} {x9 : va_E} {ρ ta ou so ad na va lc dm tg pe ml bg co sp nb0 nb1 nb2 pl se ke wi hs mo po nu pr sq xa sa n64 m64 ex wh sd tk hd ak ho ot sx s0 s1 s2 nf bd mm zo fm sn hg gc gv ze zt : Nat} (ht : ty a = (15, ρ, [ta, ou, so, ad, na, va, lc, dm, tg, pe, ml, bg, co, sp, nb0, nb1, nb2, pl, se, ke, wi, hs, mo, po, nu, pr, sq, xa, sa, n64, m64, ex, wh, sd, tk, hd, ak, ho, ot, sx, s0, s1, s2, nf, bd, mm, zo, fm, sn, hg, gc, gv, ze, zt])) (h : shm_mod cs ty gm L ρ ta ou so ad na va lc dm tg pe ml bg co sp nb0 nb1 nb2 pl se ke wi hs mo po nu pr sq xa sa n64 m64 ex wh sd tk hd ak ho ot sx s0 s1 s2 nf bd mm zo fm sn hg gc gv ze zt x9) : shm cs ty gm L a x9 :=
  ⟨fun _ _ _ e => absurd (ht.symm.trans e) (by simp), fun _ _ e => absurd (ht.symm.trans e) (by simp), fun _ _ e => absurd (ht.symm.trans e) (by simp), fun _ _ e => absurd (ht.symm.trans e) (by simp), fun _ _ _ e => absurd (ht.symm.trans e) (by simp), fun _ _ e => absurd (ht.symm.trans e) (by simp), fun _ _ _ e => absurd (ht.symm.trans e) (by simp), fun _ _ _ e => absurd (ht.symm.trans e) (by simp), fun _ _ _ _ _ _ e => absurd (ht.symm.trans e) (by simp), fun _ _ e => absurd (ht.symm.trans e) (by simp), fun _ _ _ _ _ _ _ e => absurd (ht.symm.trans e) (by simp), fun _ _ _ _ _ _ _ _ _ _ _ _ _ _ _ _ _ _ _ _ _ _ _ _ _ _ _ _ _ _ _ _ _ _ _ _ _ _ _ _ _ _ _ _ _ _ _ _ _ _ _ _ _ _ _ e => by rw [ht] at e; cases e; exact h⟩
theorem OKm.up {cs : Nat → ClassId} {ty : TyM} {gm : Nat → Nat → Nat} {L : List Nat} {F : Nat → va_E} {a : Nat} {x : va_E} (h : OKm cs ty gm L F) (hx : shm cs ty gm L a x) : OKm cs ty gm L (va_up F a x) := by
  intro b hb
  unfold va_up
  split
  · rename_i e
    rw [e]
    exact hx
  · exact h b hb
def PTm (D : va_G) (cs : Nat → ClassId) (ty : TyM) (gm : Nat → Nat → Nat) (L : List Nat) (F : Nat → va_E) (sz : Nat) (U : State) : Prop := U.heap.size = sz ∧ va_P D vwCl (va_pl L F) U.heap ∧ va_K D vwCl (TYS cs) U ∧ va_D (fun _ => True) (va_pl L F) ∧ ENV U ∧ OKm cs ty gm L F
theorem PTm.calling {D : va_G} {cs : Nat → ClassId} {ty : TyM} {gm : Nat → Nat → Nat} {L : List Nat} {F : Nat → va_E} {sz : Nat} {U : State} {g : JFrame} {mk : MethodId} {a : Array Value} (h : PTm D cs ty gm L F sz U) : PTm D cs ty gm L F sz (U.calling g mk a) :=
  ⟨h.1, h.2.1, va_K.moved (u := U) (U := U.calling g mk a) (Vm.Alike.refl U.vm) h.2.2.1, h.2.2.2.1, ENV.same (u := U) (U := U.calling g mk a) rfl h.2.2.2.2.1, h.2.2.2.2.2⟩
theorem PTm.mk {D : va_G} {cs : Nat → ClassId} {ty : TyM} {gm : Nat → Nat → Nat} {L : List Nat} {F : Nat → va_E} {s U : State} {H : Heap} {A : Nat → Prop} (hU : U.heap = H) (hW : s.WarmedH U.vm) (hP : va_P D vwCl (va_pl L F) H) (hK : va_K D vwCl (TYS cs) s) (hD : va_D A (va_pl L F)) (hE : ENV s) (hO : OKm cs ty gm L F) : PTm D cs ty gm L F H.size U :=
  ⟨by rw [hU], by rw [hU]; exact hP, va_K.moved hW.alike hK, hD.weaken (fun _ _ _ _ => trivial), hE.warm hW, hO⟩
def QTm (D : va_G) (cs : Nat → ClassId) (ty : TyM) (gm : Nat → Nat → Nat) (L : List Nat) (S : List Nat) (F G : Nat → va_E) (A : Nat → Prop) (t : State) : Prop := va_P D vwCl (va_pl L G) t.heap ∧ va_D A (va_pl L G) ∧ OKm cs ty gm L G ∧ FR ty S F G
theorem QTm.mk {D : va_G} {cs : Nat → ClassId} {ty : TyM} {gm : Nat → Nat → Nat} {L S : List Nat} {F G : Nat → va_E} {A : Nat → Prop} {t : State} {H : Heap} (ht : t.heap = H) (hP : va_P D vwCl (va_pl L G) H) (hD : va_D A (va_pl L G)) (hO : OKm cs ty gm L G) (hR : FR ty S F G) : QTm D cs ty gm L S F G A t := ⟨by rw [ht]; exact hP, hD, hO, hR⟩
theorem QTm.back {D : va_G} {cs : Nat → ClassId} {ty : TyM} {gm : Nat → Nat → Nat} {L S S' : List Nat} {F0 F G : Nat → va_E} {A A0 : Nat → Prop} {t : State} {H1 : Heap} (h : QTm D cs ty gm L S' F G A t) (ht : t.heap = H1) (hF : ∀ q, A q → A0 q) (hR : FR ty S F0 F) (hs : ∀ q ∈ S', q ∈ S) : va_P D vwCl (va_pl L G) H1 ∧ va_D A0 (va_pl L G) ∧ OKm cs ty gm L G ∧ FR ty S F0 G :=
  ⟨ht ▸ h.1, h.2.1.weaken (fun _ _ _ q => hF _ q), h.2.2.1, hR.trans h.2.2.2 hs⟩
theorem pl_cutm {σ : Type} {p : Program} {l : Launch} {e : Env} {R : Room} {s : State} {m : MethodId} {args : Array Value} {below : List Frame} {meth : Method} {c : Code} {Q : State → Prop} {cells slots : Nat} {H0 : Heap} {locs0 : List Loc} {g0 : JFrame} (A : Nat → Prop) (D : va_G) (cs : Nat → ClassId) (ty : TyM) (gm : Nat → Nat → Nat) (L S : List Nat) (F : Nat → va_E) (pc mL : Nat) (lvf : σ → List (Nat × Value)) (stf : σ → List Value) (inv : σ → (Nat → va_E) → Prop)
    (tail : ∀ (x : σ) (G : Nat → va_E), inv x G → OKm cs ty gm L G → FR ty S F G → ∀ (H : Heap) (locs : List Loc), va_P D vwCl (va_pl L G) H → va_D A (va_pl L G) → va_S A s.heap H locs → ∀ ls : Array Slot, lv_has ls mL (lvf x) → W p l e R s m args below meth c H locs cells slots Q (F0 m pc ls (stf x)))
    (main : (∀ (x : σ) (G : Nat → va_E), inv x G → OKm cs ty gm L G → FR ty S F G → ∀ (H : Heap) (locs : List Loc), va_P D vwCl (va_pl L G) H → va_D A (va_pl L G) → va_S A s.heap H locs → ∀ ls : Array Slot, lv_has ls mL (lvf x) → W p l e R s m args below meth c H locs cells slots Q (F0 m pc ls (stf x))) → W p l e R s m args below meth c H0 locs0 cells slots Q g0) : W p l e R s m args below meth c H0 locs0 cells slots Q g0 := main tail
theorem pl_loopm {σ : Type} {p : Program} {l : Launch} {e : Env} {R : Room} {s : State} {m : MethodId} {args : Array Value} {below : List Frame} {meth : Method} {c : Code} {Q : State → Prop} {cells slots : Nat} (A : Nat → Prop) (D : va_G) (cs : Nat → ClassId) (ty : TyM) (gm : Nat → Nat → Nat) (L S : List Nat) (F : Nat → va_E) (pc mL : Nat) (lvf : σ → List (Nat × Value)) (stf : σ → List Value) (inv : σ → (Nat → va_E) → Prop) (μ : σ → Nat)
    (body : ∀ (x : σ) (G : Nat → va_E), inv x G → OKm cs ty gm L G → FR ty S F G → (∀ (y : σ) (K : Nat → va_E), inv y K → μ y < μ x → OKm cs ty gm L K → FR ty S F K → ∀ (H : Heap) (locs : List Loc), va_P D vwCl (va_pl L K) H → va_D A (va_pl L K) → va_S A s.heap H locs → ∀ ls : Array Slot, lv_has ls mL (lvf y) → W p l e R s m args below meth c H locs cells slots Q (F0 m pc ls (stf y))) →
      ∀ (H : Heap) (locs : List Loc), va_P D vwCl (va_pl L G) H → va_D A (va_pl L G) → va_S A s.heap H locs → ∀ ls : Array Slot, lv_has ls mL (lvf x) → W p l e R s m args below meth c H locs cells slots Q (F0 m pc ls (stf x)))
    (x : σ) (G : Nat → va_E) (hx : inv x G) (hO : OKm cs ty gm L G) (hR : FR ty S F G) : ∀ (H : Heap) (locs : List Loc), va_P D vwCl (va_pl L G) H → va_D A (va_pl L G) → va_S A s.heap H locs → ∀ ls : Array Slot, lv_has ls mL (lvf x) → W p l e R s m args below meth c H locs cells slots Q (F0 m pc ls (stf x)) := by
  suffices h : ∀ (k : Nat) (x : σ) (G : Nat → va_E), μ x < k → inv x G → OKm cs ty gm L G → FR ty S F G → ∀ (H : Heap) (locs : List Loc), va_P D vwCl (va_pl L G) H → va_D A (va_pl L G) → va_S A s.heap H locs → ∀ ls : Array Slot, lv_has ls mL (lvf x) → W p l e R s m args below meth c H locs cells slots Q (F0 m pc ls (stf x)) from h (μ x + 1) x G (Nat.lt_succ_self _) hx hO hR
  intro k
  induction k with
  | zero => intro x G h; exact absurd h (Nat.not_lt_zero _)
  | succ k ih => exact fun x G h hi hO hR => body x G hi hO hR (fun y K hy hm hO' hR' => ih y K (Nat.lt_of_lt_of_le hm (Nat.le_of_lt_succ h)) hy hO' hR')
def rtf (ty : TyM) (h : Nat) (e : TyE) : TyM := fun a => if a = h then e else ty a
theorem rtf_self {ty : TyM} {h : Nat} {e : TyE} : rtf ty h e h = e := if_pos rfl
theorem rtf_ne {ty : TyM} {h a : Nat} {e : TyE} (c : a ≠ h) : rtf ty h e a = ty a := if_neg c
theorem FR.retype {ty : TyM} {h k ρ : Nat} {im im2 : List Nat} {S : List Nat} {F G : Nat → va_E} (hT : ty h = (k, ρ, im)) (hR : FR ty S F G) : FR (rtf ty h (k, ρ, im2)) S F G := by
  intro a ha
  refine hR a ?_
  by_cases c : a = h
  · subst c
    rw [rtf_self] at ha
    rw [hT]
    exact ha
  · rw [rtf_ne c] at ha
    exact ha
theorem rtf_tr {ty : TyM} {h0 ρ0 : Nat} {e0 : TyE} {im0 : List Nat} (hT : ty h0 = (15, ρ0, im0)) {x k ρ : Nat} {im : List Nat} (hk : k ≠ 15) (hx : ty x = (k, ρ, im)) : rtf ty h0 e0 x = (k, ρ, im) := by
  refine (rtf_ne (fun w => ?_)).trans hx
  subst w
  exact hk (congrArg Prod.fst (hx.symm.trans hT))
theorem shm.retype {cs : Nat → ClassId} {ty : TyM} {gm : Nat → Nat → Nat} {L : List Nat} {a h0 ρ0 : Nat} {im im2 : List Nat} {x : va_E} (hT : ty h0 = (15, ρ0, im)) (c : a ≠ h0) (h : shm cs ty gm L a x) : shm cs (rtf ty h0 (15, ρ0, im2)) gm L a x :=
  ⟨fun _ _ _ e => (h.1) _ _ _ ((rtf_ne c).symm.trans e),
   fun _ _ e => (h.2.1) _ _ ((rtf_ne c).symm.trans e),
   fun _ _ e => (h.2.2.1) _ _ ((rtf_ne c).symm.trans e),
   fun _ _ e => (h.2.2.2.1) _ _ ((rtf_ne c).symm.trans e),
   fun _ _ _ e => (h.2.2.2.2.1) _ _ _ ((rtf_ne c).symm.trans e),
   fun _ _ e => (h.2.2.2.2.2.1) _ _ ((rtf_ne c).symm.trans e),
   fun ρ n rm e => by
      obtain ⟨f, h1, h2⟩ := (h.2.2.2.2.2.2.1) ρ n rm ((rtf_ne c).symm.trans e)
      exact ⟨f, h1, fun j hj => by obtain ⟨b, r, x1, x2, x3⟩ := h2 j hj; exact ⟨b, r, x1, x2, rtf_tr hT (by decide) x3⟩⟩,
   fun ρ n rm e => by
      obtain ⟨f, h1, h2⟩ := (h.2.2.2.2.2.2.2.1) ρ n rm ((rtf_ne c).symm.trans e)
      exact ⟨f, h1, fun j hj => by obtain ⟨b, r, x1, x2, x3⟩ := h2 j hj; exact ⟨b, r, x1, x2, rtf_tr hT (by decide) x3⟩⟩,
   fun _ _ _ _ _ _ e => (h.2.2.2.2.2.2.2.2.1) _ _ _ _ _ _ ((rtf_ne c).symm.trans e),
   fun _ _ e => (h.2.2.2.2.2.2.2.2.2.1) _ _ ((rtf_ne c).symm.trans e),
   fun _ _ _ _ _ _ _ e => (h.2.2.2.2.2.2.2.2.2.2.1) _ _ _ _ _ _ _ ((rtf_ne c).symm.trans e),
   fun _ _ _ _ _ _ _ _ _ _ _ _ _ _ _ _ _ _ _ _ _ _ _ _ _ _ _ _ _ _ _ _ _ _ _ _ _ _ _ _ _ _ _ _ _ _ _ _ _ _ _ _ _ _ _ e => (h.2.2.2.2.2.2.2.2.2.2.2) _ _ _ _ _ _ _ _ _ _ _ _ _ _ _ _ _ _ _ _ _ _ _ _ _ _ _ _ _ _ _ _ _ _ _ _ _ _ _ _ _ _ _ _ _ _ _ _ _ _ _ _ _ _ _ ((rtf_ne c).symm.trans e)⟩
theorem wtm_txt_re {ty : TyM} {gm : Nat → Nat → Nat} {L : List Nat} {h0 ρ0 ρ r n : Nat} {im0 : List Nat} {e0 : TyE} (hT : ty h0 = (15, ρ0, im0)) (h : wtm_txt ty gm L ρ r n) : wtm_txt (rtf ty h0 e0) gm L ρ r n := by
  obtain ⟨p0, p1, p2⟩ := h
  exact ⟨p0, rtf_tr hT (by decide) p1, p2⟩
theorem wtm_octs_re {ty : TyM} {gm : Nat → Nat → Nat} {L : List Nat} {h0 ρ0 ρ n : Nat} {im0 : List Nat} {e0 : TyE} (hT : ty h0 = (15, ρ0, im0)) (h : wtm_octs ty gm L ρ n) : wtm_octs (rtf ty h0 e0) gm L ρ n := by
  obtain ⟨p0, p1⟩ := h
  exact ⟨p0, p1⟩
theorem wtm_ints_re {ty : TyM} {gm : Nat → Nat → Nat} {L : List Nat} {h0 ρ0 ρ n : Nat} {im0 : List Nat} {e0 : TyE} (hT : ty h0 = (15, ρ0, im0)) (h : wtm_ints ty gm L ρ n) : wtm_ints (rtf ty h0 e0) gm L ρ n := by
  obtain ⟨p0, p1⟩ := h
  exact ⟨p0, p1⟩
theorem wtm_hash_re {ty : TyM} {gm : Nat → Nat → Nat} {L : List Nat} {h0 ρ0 ρ x y w u bl : Nat} {im0 : List Nat} {e0 : TyE} (hT : ty h0 = (15, ρ0, im0)) (h : wtm_hash ty gm L ρ x y w u bl) : wtm_hash (rtf ty h0 e0) gm L ρ x y w u bl := by
  obtain ⟨p0, p1, p2, p3, p4, p5, p6, p7, p8, p9⟩ := h
  exact ⟨p0, p1, p2, p3, p4, rtf_tr hT (by decide) p5, rtf_tr hT (by decide) p6, rtf_tr hT (by decide) p7, rtf_tr hT (by decide) p8, rtf_tr hT (by decide) p9⟩
theorem wtm_tags_re {ty : TyM} {gm : Nat → Nat → Nat} {L : List Nat} {h0 ρ0 ρ x n B y0 y1 y2 : Nat} {im0 : List Nat} {e0 : TyE} (hT : ty h0 = (15, ρ0, im0)) (h : wtm_tags ty gm L ρ x n B y0 y1 y2) : wtm_tags (rtf ty h0 e0) gm L ρ x n B y0 y1 y2 := by
  obtain ⟨p0, p1, p2, p3, ⟨r_4, p4⟩, p5, p6, p7, p8, p9⟩ := h
  exact ⟨p0, p1, p2, p3, ⟨r_4, rtf_tr hT (by decide) p4⟩, rtf_tr hT (by decide) p5, rtf_tr hT (by decide) p6, rtf_tr hT (by decide) p7, p8, p9⟩
theorem wtm_mod_re {ty : TyM} {gm : Nat → Nat → Nat} {L : List Nat} {h0 ρ0 ρ ta ou so ad na va lc dm tg pe ml bg co sp nb0 nb1 nb2 pl se ke wi hs mo po nu pr sq xa sa n64 m64 ex wh sd tk hd ak ho ot sx s0 s1 s2 nf bd mm zo fm sn hg gc gv ze zt : Nat} {im0 : List Nat} {e0 : TyE} (hT : ty h0 = (15, ρ0, im0)) (h : wtm_mod ty gm L ρ ta ou so ad na va lc dm tg pe ml bg co sp nb0 nb1 nb2 pl se ke wi hs mo po nu pr sq xa sa n64 m64 ex wh sd tk hd ak ho ot sx s0 s1 s2 nf bd mm zo fm sn hg gc gv ze zt) : wtm_mod (rtf ty h0 e0) gm L ρ ta ou so ad na va lc dm tg pe ml bg co sp nb0 nb1 nb2 pl se ke wi hs mo po nu pr sq xa sa n64 m64 ex wh sd tk hd ak ho ot sx s0 s1 s2 nf bd mm zo fm sn hg gc gv ze zt := by
  obtain ⟨p0, p1, p2, p3, p4, p5, p6, p7, p8, p9, p10, p11, p12, ⟨r_13, p13⟩, p14, ⟨r_15, p15⟩, p16, p17, p18, ⟨r_19, p19⟩, p20, p21, p22, p23, p24, p25, p26, p27, p28, p29, p30, p31, p32, p33, p34, ⟨r_35, p35⟩, p36, p37, p38, ⟨x_39, y0_39, y1_39, y2_39, p39⟩, p40, ⟨x_41, y0_41, y1_41, y2_41, p41⟩, p42, ⟨x_43, y_43, w_43, u_43, bl_43, p43⟩, p44, p45, p46, p47, p48, p49, p50, p51, p52, p53, p54, p55, p56, p57, p58, p59, p60, p61, p62, p63, p64, ⟨r_65, p65⟩, p66, ⟨r_67, p67⟩, p68, p69, p70, p71, p72, ⟨r_73, p73⟩, p74, ⟨r_75, p75⟩, p76, ⟨r_77, p77⟩, p78, p79, p80, p81, p82, p83, p84, p85, p86⟩ := h
  exact ⟨p0, rtf_tr hT (by decide) p1, p2, rtf_tr hT (by decide) p3, p4, rtf_tr hT (by decide) p5, p6, rtf_tr hT (by decide) p7, p8, rtf_tr hT (by decide) p9, p10, rtf_tr hT (by decide) p11, p12, ⟨r_13, rtf_tr hT (by decide) p13⟩, p14, ⟨r_15, rtf_tr hT (by decide) p15⟩, p16, rtf_tr hT (by decide) p17, p18, ⟨r_19, rtf_tr hT (by decide) p19⟩, p20, rtf_tr hT (by decide) p21, p22, rtf_tr hT (by decide) p23, p24, rtf_tr hT (by decide) p25, p26, rtf_tr hT (by decide) p27, p28, rtf_tr hT (by decide) p29, p30, rtf_tr hT (by decide) p31, p32, rtf_tr hT (by decide) p33, p34, ⟨r_35, rtf_tr hT (by decide) p35⟩, p36, rtf_tr hT (by decide) p37, p38, ⟨x_39, y0_39, y1_39, y2_39, rtf_tr hT (by decide) p39⟩, p40, ⟨x_41, y0_41, y1_41, y2_41, rtf_tr hT (by decide) p41⟩, p42, ⟨x_43, y_43, w_43, u_43, bl_43, rtf_tr hT (by decide) p43⟩, p44, rtf_tr hT (by decide) p45, p46, rtf_tr hT (by decide) p47, p48, rtf_tr hT (by decide) p49, p50, rtf_tr hT (by decide) p51, p52, rtf_tr hT (by decide) p53, p54, rtf_tr hT (by decide) p55, p56, rtf_tr hT (by decide) p57, p58, rtf_tr hT (by decide) p59, p60, rtf_tr hT (by decide) p61, p62, rtf_tr hT (by decide) p63, p64, ⟨r_65, rtf_tr hT (by decide) p65⟩, p66, ⟨r_67, rtf_tr hT (by decide) p67⟩, p68, rtf_tr hT (by decide) p69, p70, rtf_tr hT (by decide) p71, p72, ⟨r_73, rtf_tr hT (by decide) p73⟩, p74, ⟨r_75, rtf_tr hT (by decide) p75⟩, p76, ⟨r_77, rtf_tr hT (by decide) p77⟩, p78, p79, p80, p81, p82, p83, p84, p85, p86⟩
theorem WTm.retype {ty : TyM} {gm : Nat → Nat → Nat} {L : List Nat} {h0 ρ ta ou so ad na va lc dm tg pe ml bg co sp nb0 nb1 nb2 pl se ke wi hs mo po nu pr sq xa sa n64 m64 ex wh sd tk hd ak ho ot sx s0 s1 s2 nf bd mm zo fm sn hg gc gv ze zt : Nat} {im0 : List Nat} (hW : WTm ty gm L) (hT : ty h0 = (15, ρ, im0)) (hnew : wtm_mod (rtf ty h0 (15, ρ, [ta, ou, so, ad, na, va, lc, dm, tg, pe, ml, bg, co, sp, nb0, nb1, nb2, pl, se, ke, wi, hs, mo, po, nu, pr, sq, xa, sa, n64, m64, ex, wh, sd, tk, hd, ak, ho, ot, sx, s0, s1, s2, nf, bd, mm, zo, fm, sn, hg, gc, gv, ze, zt])) gm L ρ ta ou so ad na va lc dm tg pe ml bg co sp nb0 nb1 nb2 pl se ke wi hs mo po nu pr sq xa sa n64 m64 ex wh sd tk hd ak ho ot sx s0 s1 s2 nf bd mm zo fm sn hg gc gv ze zt) : WTm (rtf ty h0 (15, ρ, [ta, ou, so, ad, na, va, lc, dm, tg, pe, ml, bg, co, sp, nb0, nb1, nb2, pl, se, ke, wi, hs, mo, po, nu, pr, sq, xa, sa, n64, m64, ex, wh, sd, tk, hd, ak, ho, ot, sx, s0, s1, s2, nf, bd, mm, zo, fm, sn, hg, gc, gv, ze, zt])) gm L := by
  intro a ha
  have h9 := hW a ha
  by_cases c : a = h0
  · subst c
    exact ⟨fun _ _ _ e => absurd (congrArg Prod.fst (rtf_self.symm.trans e)) (by simp),
      fun _ _ e => absurd (congrArg Prod.fst (rtf_self.symm.trans e)) (by simp),
      fun _ _ e => absurd (congrArg Prod.fst (rtf_self.symm.trans e)) (by simp),
      fun _ _ e => absurd (congrArg Prod.fst (rtf_self.symm.trans e)) (by simp),
      fun _ _ _ e => absurd (congrArg Prod.fst (rtf_self.symm.trans e)) (by simp),
      fun _ _ e => absurd (congrArg Prod.fst (rtf_self.symm.trans e)) (by simp),
      fun _ _ _ e => absurd (congrArg Prod.fst (rtf_self.symm.trans e)) (by simp),
      fun _ _ _ e => absurd (congrArg Prod.fst (rtf_self.symm.trans e)) (by simp),
      fun _ _ _ _ _ _ e => absurd (congrArg Prod.fst (rtf_self.symm.trans e)) (by simp),
      fun _ _ e => absurd (congrArg Prod.fst (rtf_self.symm.trans e)) (by simp),
      fun _ _ _ _ _ _ _ e => absurd (congrArg Prod.fst (rtf_self.symm.trans e)) (by simp),
      fun _ _ _ _ _ _ _ _ _ _ _ _ _ _ _ _ _ _ _ _ _ _ _ _ _ _ _ _ _ _ _ _ _ _ _ _ _ _ _ _ _ _ _ _ _ _ _ _ _ _ _ _ _ _ _ e => by
        have e9 := rtf_self.symm.trans e
        cases e9
        exact hnew⟩
  · exact ⟨fun _ _ _ e => wtm_txt_re hT ((h9.1) _ _ _ ((rtf_ne c).symm.trans e)),
      fun _ _ e => wtm_octs_re hT ((h9.2.1) _ _ ((rtf_ne c).symm.trans e)),
      fun _ _ e => wtm_ints_re hT ((h9.2.2.1) _ _ ((rtf_ne c).symm.trans e)),
      fun _ _ _ => trivial,
      fun _ _ _ _ => trivial,
      fun _ _ _ => trivial,
      fun _ _ _ _ => trivial,
      fun _ _ _ _ => trivial,
      fun _ _ _ _ _ _ e => wtm_hash_re hT ((h9.2.2.2.2.2.2.2.2.1) _ _ _ _ _ _ ((rtf_ne c).symm.trans e)),
      fun _ _ _ => trivial,
      fun _ _ _ _ _ _ _ e => wtm_tags_re hT ((h9.2.2.2.2.2.2.2.2.2.2.1) _ _ _ _ _ _ _ ((rtf_ne c).symm.trans e)),
      fun _ _ _ _ _ _ _ _ _ _ _ _ _ _ _ _ _ _ _ _ _ _ _ _ _ _ _ _ _ _ _ _ _ _ _ _ _ _ _ _ _ _ _ _ _ _ _ _ _ _ _ _ _ _ _ e => wtm_mod_re hT ((h9.2.2.2.2.2.2.2.2.2.2.2) _ _ _ _ _ _ _ _ _ _ _ _ _ _ _ _ _ _ _ _ _ _ _ _ _ _ _ _ _ _ _ _ _ _ _ _ _ _ _ _ _ _ _ _ _ _ _ _ _ _ _ _ _ _ _ ((rtf_ne c).symm.trans e))⟩
theorem WTm.zt {ty : TyM} {gm : Nat → Nat → Nat} {L : List Nat} {h0 ρ ta ou so ad na va lc dm tg pe ml bg co sp nb0 nb1 nb2 pl se ke wi hs mo po nu pr sq xa sa n64 m64 ex wh sd tk hd ak ho ot sx s0 s1 s2 nf bd mm zo fm sn hg gc gv ze zt z2 : Nat} (hW : WTm ty gm L) (hL : h0 ∈ L) (hT : ty h0 = (15, ρ, [ta, ou, so, ad, na, va, lc, dm, tg, pe, ml, bg, co, sp, nb0, nb1, nb2, pl, se, ke, wi, hs, mo, po, nu, pr, sq, xa, sa, n64, m64, ex, wh, sd, tk, hd, ak, ho, ot, sx, s0, s1, s2, nf, bd, mm, zo, fm, sn, hg, gc, gv, ze, zt])) (hz : z2 ≤ 3000) : WTm (rtf ty h0 (15, ρ, [ta, ou, so, ad, na, va, lc, dm, tg, pe, ml, bg, co, sp, nb0, nb1, nb2, pl, se, ke, wi, hs, mo, po, nu, pr, sq, xa, sa, n64, m64, ex, wh, sd, tk, hd, ak, ho, ot, sx, s0, s1, s2, nf, bd, mm, zo, fm, sn, hg, gc, gv, ze, z2])) gm L := by
  refine hW.retype hT ?_
  obtain ⟨p0, p1, p2, p3, p4, p5, p6, p7, p8, p9, p10, p11, p12, p13, p14, p15, p16, p17, p18, p19, p20, p21, p22, p23, p24, p25, p26, p27, p28, p29, p30, p31, p32, p33, p34, p35, p36, p37, p38, p39, p40, p41, p42, p43, p44, p45, p46, p47, p48, p49, p50, p51, p52, p53, p54, p55, p56, p57, p58, p59, p60, p61, p62, p63, p64, p65, p66, p67, p68, p69, p70, p71, p72, p73, p74, p75, p76, p77, p78, p79, p80, p81, p82, p83, p84, p85, p86⟩ := wtm_mod_re (e0 := (15, ρ, [ta, ou, so, ad, na, va, lc, dm, tg, pe, ml, bg, co, sp, nb0, nb1, nb2, pl, se, ke, wi, hs, mo, po, nu, pr, sq, xa, sa, n64, m64, ex, wh, sd, tk, hd, ak, ho, ot, sx, s0, s1, s2, nf, bd, mm, zo, fm, sn, hg, gc, gv, ze, z2])) hT (hW.mod hL hT)
  exact ⟨p0, p1, p2, p3, p4, p5, p6, p7, p8, p9, p10, p11, p12, p13, p14, p15, p16, p17, p18, p19, p20, p21, p22, p23, p24, p25, p26, p27, p28, p29, p30, p31, p32, p33, p34, p35, p36, p37, p38, p39, p40, p41, p42, p43, p44, p45, p46, p47, p48, p49, p50, p51, p52, p53, p54, p55, p56, p57, p58, p59, p60, p61, p62, p63, p64, p65, p66, p67, p68, p69, p70, p71, p72, p73, p74, p75, p76, p77, hz, p79, p80, p81, p82, p83, p84, p85, p86⟩
theorem WTm.ze {ty : TyM} {gm : Nat → Nat → Nat} {L : List Nat} {h0 ρ ta ou so ad na va lc dm tg pe ml bg co sp nb0 nb1 nb2 pl se ke wi hs mo po nu pr sq xa sa n64 m64 ex wh sd tk hd ak ho ot sx s0 s1 s2 nf bd mm zo fm sn hg gc gv ze zt z2 : Nat} (hW : WTm ty gm L) (hL : h0 ∈ L) (hT : ty h0 = (15, ρ, [ta, ou, so, ad, na, va, lc, dm, tg, pe, ml, bg, co, sp, nb0, nb1, nb2, pl, se, ke, wi, hs, mo, po, nu, pr, sq, xa, sa, n64, m64, ex, wh, sd, tk, hd, ak, ho, ot, sx, s0, s1, s2, nf, bd, mm, zo, fm, sn, hg, gc, gv, ze, zt])) : WTm (rtf ty h0 (15, ρ, [ta, ou, so, ad, na, va, lc, dm, tg, pe, ml, bg, co, sp, nb0, nb1, nb2, pl, se, ke, wi, hs, mo, po, nu, pr, sq, xa, sa, n64, m64, ex, wh, sd, tk, hd, ak, ho, ot, sx, s0, s1, s2, nf, bd, mm, zo, fm, sn, hg, gc, gv, z2, zt])) gm L := by
  refine hW.retype hT ?_
  obtain ⟨p0, p1, p2, p3, p4, p5, p6, p7, p8, p9, p10, p11, p12, p13, p14, p15, p16, p17, p18, p19, p20, p21, p22, p23, p24, p25, p26, p27, p28, p29, p30, p31, p32, p33, p34, p35, p36, p37, p38, p39, p40, p41, p42, p43, p44, p45, p46, p47, p48, p49, p50, p51, p52, p53, p54, p55, p56, p57, p58, p59, p60, p61, p62, p63, p64, p65, p66, p67, p68, p69, p70, p71, p72, p73, p74, p75, p76, p77, p78, p79, p80, p81, p82, p83, p84, p85, p86⟩ := wtm_mod_re (e0 := (15, ρ, [ta, ou, so, ad, na, va, lc, dm, tg, pe, ml, bg, co, sp, nb0, nb1, nb2, pl, se, ke, wi, hs, mo, po, nu, pr, sq, xa, sa, n64, m64, ex, wh, sd, tk, hd, ak, ho, ot, sx, s0, s1, s2, nf, bd, mm, zo, fm, sn, hg, gc, gv, z2, zt])) hT (hW.mod hL hT)
  exact ⟨p0, p1, p2, p3, p4, p5, p6, p7, p8, p9, p10, p11, p12, p13, p14, p15, p16, p17, p18, p19, p20, p21, p22, p23, p24, p25, p26, p27, p28, p29, p30, p31, p32, p33, p34, p35, p36, p37, p38, p39, p40, p41, p42, p43, p44, p45, p46, p47, p48, p49, p50, p51, p52, p53, p54, p55, p56, p57, p58, p59, p60, p61, p62, p63, p64, p65, p66, p67, p68, p69, p70, p71, p72, p73, p74, p75, p76, p77, p78, p79, p80, p81, p82, p83, p84, p85, p86⟩
theorem WTm.zo {ty : TyM} {gm : Nat → Nat → Nat} {L : List Nat} {h0 ρ ta ou so ad na va lc dm tg pe ml bg co sp nb0 nb1 nb2 pl se ke wi hs mo po nu pr sq xa sa n64 m64 ex wh sd tk hd ak ho ot sx s0 s1 s2 nf bd mm zo fm sn hg gc gv ze zt z2 : Nat} (hW : WTm ty gm L) (hL : h0 ∈ L) (hT : ty h0 = (15, ρ, [ta, ou, so, ad, na, va, lc, dm, tg, pe, ml, bg, co, sp, nb0, nb1, nb2, pl, se, ke, wi, hs, mo, po, nu, pr, sq, xa, sa, n64, m64, ex, wh, sd, tk, hd, ak, ho, ot, sx, s0, s1, s2, nf, bd, mm, zo, fm, sn, hg, gc, gv, ze, zt])) : WTm (rtf ty h0 (15, ρ, [ta, ou, so, ad, na, va, lc, dm, tg, pe, ml, bg, co, sp, nb0, nb1, nb2, pl, se, ke, wi, hs, mo, po, nu, pr, sq, xa, sa, n64, m64, ex, wh, sd, tk, hd, ak, ho, ot, sx, s0, s1, s2, nf, bd, mm, z2, fm, sn, hg, gc, gv, ze, zt])) gm L := by
  refine hW.retype hT ?_
  obtain ⟨p0, p1, p2, p3, p4, p5, p6, p7, p8, p9, p10, p11, p12, p13, p14, p15, p16, p17, p18, p19, p20, p21, p22, p23, p24, p25, p26, p27, p28, p29, p30, p31, p32, p33, p34, p35, p36, p37, p38, p39, p40, p41, p42, p43, p44, p45, p46, p47, p48, p49, p50, p51, p52, p53, p54, p55, p56, p57, p58, p59, p60, p61, p62, p63, p64, p65, p66, p67, p68, p69, p70, p71, p72, p73, p74, p75, p76, p77, p78, p79, p80, p81, p82, p83, p84, p85, p86⟩ := wtm_mod_re (e0 := (15, ρ, [ta, ou, so, ad, na, va, lc, dm, tg, pe, ml, bg, co, sp, nb0, nb1, nb2, pl, se, ke, wi, hs, mo, po, nu, pr, sq, xa, sa, n64, m64, ex, wh, sd, tk, hd, ak, ho, ot, sx, s0, s1, s2, nf, bd, mm, z2, fm, sn, hg, gc, gv, ze, zt])) hT (hW.mod hL hT)
  exact ⟨p0, p1, p2, p3, p4, p5, p6, p7, p8, p9, p10, p11, p12, p13, p14, p15, p16, p17, p18, p19, p20, p21, p22, p23, p24, p25, p26, p27, p28, p29, p30, p31, p32, p33, p34, p35, p36, p37, p38, p39, p40, p41, p42, p43, p44, p45, p46, p47, p48, p49, p50, p51, p52, p53, p54, p55, p56, p57, p58, p59, p60, p61, p62, p63, p64, p65, p66, p67, p68, p69, p70, p71, p72, p73, p74, p75, p76, p77, p78, p79, p80, p81, p82, p83, p84, p85, p86⟩
theorem WTm.fm {ty : TyM} {gm : Nat → Nat → Nat} {L : List Nat} {h0 ρ ta ou so ad na va lc dm tg pe ml bg co sp nb0 nb1 nb2 pl se ke wi hs mo po nu pr sq xa sa n64 m64 ex wh sd tk hd ak ho ot sx s0 s1 s2 nf bd mm zo fm sn hg gc gv ze zt z2 : Nat} (hW : WTm ty gm L) (hL : h0 ∈ L) (hT : ty h0 = (15, ρ, [ta, ou, so, ad, na, va, lc, dm, tg, pe, ml, bg, co, sp, nb0, nb1, nb2, pl, se, ke, wi, hs, mo, po, nu, pr, sq, xa, sa, n64, m64, ex, wh, sd, tk, hd, ak, ho, ot, sx, s0, s1, s2, nf, bd, mm, zo, fm, sn, hg, gc, gv, ze, zt])) : WTm (rtf ty h0 (15, ρ, [ta, ou, so, ad, na, va, lc, dm, tg, pe, ml, bg, co, sp, nb0, nb1, nb2, pl, se, ke, wi, hs, mo, po, nu, pr, sq, xa, sa, n64, m64, ex, wh, sd, tk, hd, ak, ho, ot, sx, s0, s1, s2, nf, bd, mm, zo, z2, sn, hg, gc, gv, ze, zt])) gm L := by
  refine hW.retype hT ?_
  obtain ⟨p0, p1, p2, p3, p4, p5, p6, p7, p8, p9, p10, p11, p12, p13, p14, p15, p16, p17, p18, p19, p20, p21, p22, p23, p24, p25, p26, p27, p28, p29, p30, p31, p32, p33, p34, p35, p36, p37, p38, p39, p40, p41, p42, p43, p44, p45, p46, p47, p48, p49, p50, p51, p52, p53, p54, p55, p56, p57, p58, p59, p60, p61, p62, p63, p64, p65, p66, p67, p68, p69, p70, p71, p72, p73, p74, p75, p76, p77, p78, p79, p80, p81, p82, p83, p84, p85, p86⟩ := wtm_mod_re (e0 := (15, ρ, [ta, ou, so, ad, na, va, lc, dm, tg, pe, ml, bg, co, sp, nb0, nb1, nb2, pl, se, ke, wi, hs, mo, po, nu, pr, sq, xa, sa, n64, m64, ex, wh, sd, tk, hd, ak, ho, ot, sx, s0, s1, s2, nf, bd, mm, zo, z2, sn, hg, gc, gv, ze, zt])) hT (hW.mod hL hT)
  exact ⟨p0, p1, p2, p3, p4, p5, p6, p7, p8, p9, p10, p11, p12, p13, p14, p15, p16, p17, p18, p19, p20, p21, p22, p23, p24, p25, p26, p27, p28, p29, p30, p31, p32, p33, p34, p35, p36, p37, p38, p39, p40, p41, p42, p43, p44, p45, p46, p47, p48, p49, p50, p51, p52, p53, p54, p55, p56, p57, p58, p59, p60, p61, p62, p63, p64, p65, p66, p67, p68, p69, p70, p71, p72, p73, p74, p75, p76, p77, p78, p79, p80, p81, p82, p83, p84, p85, p86⟩
theorem WTm.sn {ty : TyM} {gm : Nat → Nat → Nat} {L : List Nat} {h0 ρ ta ou so ad na va lc dm tg pe ml bg co sp nb0 nb1 nb2 pl se ke wi hs mo po nu pr sq xa sa n64 m64 ex wh sd tk hd ak ho ot sx s0 s1 s2 nf bd mm zo fm sn hg gc gv ze zt z2 : Nat} (hW : WTm ty gm L) (hL : h0 ∈ L) (hT : ty h0 = (15, ρ, [ta, ou, so, ad, na, va, lc, dm, tg, pe, ml, bg, co, sp, nb0, nb1, nb2, pl, se, ke, wi, hs, mo, po, nu, pr, sq, xa, sa, n64, m64, ex, wh, sd, tk, hd, ak, ho, ot, sx, s0, s1, s2, nf, bd, mm, zo, fm, sn, hg, gc, gv, ze, zt])) (hz : z2 ≤ 1) : WTm (rtf ty h0 (15, ρ, [ta, ou, so, ad, na, va, lc, dm, tg, pe, ml, bg, co, sp, nb0, nb1, nb2, pl, se, ke, wi, hs, mo, po, nu, pr, sq, xa, sa, n64, m64, ex, wh, sd, tk, hd, ak, ho, ot, sx, s0, s1, s2, nf, bd, mm, zo, fm, z2, hg, gc, gv, ze, zt])) gm L := by
  refine hW.retype hT ?_
  obtain ⟨p0, p1, p2, p3, p4, p5, p6, p7, p8, p9, p10, p11, p12, p13, p14, p15, p16, p17, p18, p19, p20, p21, p22, p23, p24, p25, p26, p27, p28, p29, p30, p31, p32, p33, p34, p35, p36, p37, p38, p39, p40, p41, p42, p43, p44, p45, p46, p47, p48, p49, p50, p51, p52, p53, p54, p55, p56, p57, p58, p59, p60, p61, p62, p63, p64, p65, p66, p67, p68, p69, p70, p71, p72, p73, p74, p75, p76, p77, p78, p79, p80, p81, p82, p83, p84, p85, p86⟩ := wtm_mod_re (e0 := (15, ρ, [ta, ou, so, ad, na, va, lc, dm, tg, pe, ml, bg, co, sp, nb0, nb1, nb2, pl, se, ke, wi, hs, mo, po, nu, pr, sq, xa, sa, n64, m64, ex, wh, sd, tk, hd, ak, ho, ot, sx, s0, s1, s2, nf, bd, mm, zo, fm, z2, hg, gc, gv, ze, zt])) hT (hW.mod hL hT)
  exact ⟨p0, p1, p2, p3, p4, p5, p6, p7, p8, p9, p10, p11, p12, p13, p14, p15, p16, p17, p18, p19, p20, p21, p22, p23, p24, p25, p26, p27, p28, p29, p30, p31, p32, p33, p34, p35, p36, p37, p38, p39, p40, p41, p42, p43, p44, p45, p46, p47, p48, p49, p50, p51, p52, p53, p54, p55, p56, p57, p58, p59, p60, p61, p62, p63, p64, p65, p66, p67, p68, p69, p70, p71, p72, p73, p74, p75, p76, p77, p78, p79, p80, p81, p82, p83, p84, p85, hz⟩
theorem WTm.hcv {ty : TyM} {gm : Nat → Nat → Nat} {L : List Nat} {h0 ρ ta ou so ad na va lc dm tg pe ml bg co sp nb0 nb1 nb2 pl se ke wi hs mo po nu pr sq xa sa n64 m64 ex wh sd tk hd ak ho ot sx s0 s1 s2 nf bd mm zo fm sn hg gc gv ze zt z2 z3 z4 : Nat} (hW : WTm ty gm L) (hL : h0 ∈ L) (hT : ty h0 = (15, ρ, [ta, ou, so, ad, na, va, lc, dm, tg, pe, ml, bg, co, sp, nb0, nb1, nb2, pl, se, ke, wi, hs, mo, po, nu, pr, sq, xa, sa, n64, m64, ex, wh, sd, tk, hd, ak, ho, ot, sx, s0, s1, s2, nf, bd, mm, zo, fm, sn, hg, gc, gv, ze, zt])) : WTm (rtf ty h0 (15, ρ, [ta, ou, so, ad, na, va, lc, dm, tg, pe, ml, bg, co, sp, nb0, nb1, nb2, pl, se, ke, wi, hs, mo, po, nu, pr, sq, xa, sa, n64, m64, ex, wh, sd, tk, hd, ak, ho, ot, sx, s0, s1, s2, nf, bd, mm, zo, fm, sn, z2, z3, z4, ze, zt])) gm L := by
  refine hW.retype hT ?_
  obtain ⟨p0, p1, p2, p3, p4, p5, p6, p7, p8, p9, p10, p11, p12, p13, p14, p15, p16, p17, p18, p19, p20, p21, p22, p23, p24, p25, p26, p27, p28, p29, p30, p31, p32, p33, p34, p35, p36, p37, p38, p39, p40, p41, p42, p43, p44, p45, p46, p47, p48, p49, p50, p51, p52, p53, p54, p55, p56, p57, p58, p59, p60, p61, p62, p63, p64, p65, p66, p67, p68, p69, p70, p71, p72, p73, p74, p75, p76, p77, p78, p79, p80, p81, p82, p83, p84, p85, p86⟩ := wtm_mod_re (e0 := (15, ρ, [ta, ou, so, ad, na, va, lc, dm, tg, pe, ml, bg, co, sp, nb0, nb1, nb2, pl, se, ke, wi, hs, mo, po, nu, pr, sq, xa, sa, n64, m64, ex, wh, sd, tk, hd, ak, ho, ot, sx, s0, s1, s2, nf, bd, mm, zo, fm, sn, z2, z3, z4, ze, zt])) hT (hW.mod hL hT)
  exact ⟨p0, p1, p2, p3, p4, p5, p6, p7, p8, p9, p10, p11, p12, p13, p14, p15, p16, p17, p18, p19, p20, p21, p22, p23, p24, p25, p26, p27, p28, p29, p30, p31, p32, p33, p34, p35, p36, p37, p38, p39, p40, p41, p42, p43, p44, p45, p46, p47, p48, p49, p50, p51, p52, p53, p54, p55, p56, p57, p58, p59, p60, p61, p62, p63, p64, p65, p66, p67, p68, p69, p70, p71, p72, p73, p74, p75, p76, p77, p78, p79, p80, p81, p82, p83, p84, p85, p86⟩
theorem OKm.retype0 {cs : Nat → ClassId} {ty : TyM} {gm : Nat → Nat → Nat} {L : List Nat} {F : Nat → va_E} {h0 ρ0 : Nat} {im im2 : List Nat} (hO : OKm cs ty gm L F) (hT : ty h0 = (15, ρ0, im)) (hx : shm cs (rtf ty h0 (15, ρ0, im2)) gm L h0 (F h0)) : OKm cs (rtf ty h0 (15, ρ0, im2)) gm L F := by
  intro b hb
  by_cases c : b = h0
  · subst c
    exact hx
  · exact (hO b hb).retype hT c
theorem rtf_idw {ty : TyM} {h : Nat} {e : TyE} (hT : ty h = e) : ty = rtf ty h e := by
  funext a
  by_cases c : a = h
  · rw [c, rtf_self, hT]
  · rw [rtf_ne c]
theorem OKm.retype {cs : Nat → ClassId} {ty : TyM} {gm : Nat → Nat → Nat} {L : List Nat} {F : Nat → va_E} {h0 ρ0 : Nat} {im im2 : List Nat} {x : va_E} (hO : OKm cs ty gm L F) (hT : ty h0 = (15, ρ0, im)) (hx : shm cs (rtf ty h0 (15, ρ0, im2)) gm L h0 x) : OKm cs (rtf ty h0 (15, ρ0, im2)) gm L (va_up F h0 x) := by
  intro b hb
  by_cases c : b = h0
  · subst c
    rw [up_self]
    exact hx
  · rw [up_ne c]
    exact (hO b hb).retype hT c
theorem WTm.f_ta {ty : TyM} {gm : Nat → Nat → Nat} {L : List Nat} {h0 ρ ta ou so ad na va lc dm tg pe ml bg co sp nb0 nb1 nb2 pl se ke wi hs mo po nu pr sq xa sa n64 m64 ex wh sd tk hd ak ho ot sx s0 s1 s2 nf bd mm zo fm sn hg gc gv ze zt : Nat} (hW : WTm ty gm L) (hL : h0 ∈ L) (hT : ty h0 = (15, ρ, [ta, ou, so, ad, na, va, lc, dm, tg, pe, ml, bg, co, sp, nb0, nb1, nb2, pl, se, ke, wi, hs, mo, po, nu, pr, sq, xa, sa, n64, m64, ex, wh, sd, tk, hd, ak, ho, ot, sx, s0, s1, s2, nf, bd, mm, zo, fm, sn, hg, gc, gv, ze, zt])) : ta ∈ L ∧ ty ta = (17, ρ + 1, [3000]) := ⟨(hW.mod hL hT).1, (hW.mod hL hT).2.1⟩
theorem WTm.f_ou {ty : TyM} {gm : Nat → Nat → Nat} {L : List Nat} {h0 ρ ta ou so ad na va lc dm tg pe ml bg co sp nb0 nb1 nb2 pl se ke wi hs mo po nu pr sq xa sa n64 m64 ex wh sd tk hd ak ho ot sx s0 s1 s2 nf bd mm zo fm sn hg gc gv ze zt : Nat} (hW : WTm ty gm L) (hL : h0 ∈ L) (hT : ty h0 = (15, ρ, [ta, ou, so, ad, na, va, lc, dm, tg, pe, ml, bg, co, sp, nb0, nb1, nb2, pl, se, ke, wi, hs, mo, po, nu, pr, sq, xa, sa, n64, m64, ex, wh, sd, tk, hd, ak, ho, ot, sx, s0, s1, s2, nf, bd, mm, zo, fm, sn, hg, gc, gv, ze, zt])) : ou ∈ L ∧ ty ou = (17, ρ + 2, [6000]) := ⟨(hW.mod hL hT).2.2.1, (hW.mod hL hT).2.2.2.1⟩
theorem WTm.f_so {ty : TyM} {gm : Nat → Nat → Nat} {L : List Nat} {h0 ρ ta ou so ad na va lc dm tg pe ml bg co sp nb0 nb1 nb2 pl se ke wi hs mo po nu pr sq xa sa n64 m64 ex wh sd tk hd ak ho ot sx s0 s1 s2 nf bd mm zo fm sn hg gc gv ze zt : Nat} (hW : WTm ty gm L) (hL : h0 ∈ L) (hT : ty h0 = (15, ρ, [ta, ou, so, ad, na, va, lc, dm, tg, pe, ml, bg, co, sp, nb0, nb1, nb2, pl, se, ke, wi, hs, mo, po, nu, pr, sq, xa, sa, n64, m64, ex, wh, sd, tk, hd, ak, ho, ot, sx, s0, s1, s2, nf, bd, mm, zo, fm, sn, hg, gc, gv, ze, zt])) : so ∈ L ∧ ty so = (16, ρ + 3, [40]) := ⟨(hW.mod hL hT).2.2.2.2.1, (hW.mod hL hT).2.2.2.2.2.1⟩
theorem WTm.f_ad {ty : TyM} {gm : Nat → Nat → Nat} {L : List Nat} {h0 ρ ta ou so ad na va lc dm tg pe ml bg co sp nb0 nb1 nb2 pl se ke wi hs mo po nu pr sq xa sa n64 m64 ex wh sd tk hd ak ho ot sx s0 s1 s2 nf bd mm zo fm sn hg gc gv ze zt : Nat} (hW : WTm ty gm L) (hL : h0 ∈ L) (hT : ty h0 = (15, ρ, [ta, ou, so, ad, na, va, lc, dm, tg, pe, ml, bg, co, sp, nb0, nb1, nb2, pl, se, ke, wi, hs, mo, po, nu, pr, sq, xa, sa, n64, m64, ex, wh, sd, tk, hd, ak, ho, ot, sx, s0, s1, s2, nf, bd, mm, zo, fm, sn, hg, gc, gv, ze, zt])) : ad ∈ L ∧ ty ad = (16, ρ + 31, [40]) := ⟨(hW.mod hL hT).2.2.2.2.2.2.1, (hW.mod hL hT).2.2.2.2.2.2.2.1⟩
theorem WTm.f_na {ty : TyM} {gm : Nat → Nat → Nat} {L : List Nat} {h0 ρ ta ou so ad na va lc dm tg pe ml bg co sp nb0 nb1 nb2 pl se ke wi hs mo po nu pr sq xa sa n64 m64 ex wh sd tk hd ak ho ot sx s0 s1 s2 nf bd mm zo fm sn hg gc gv ze zt : Nat} (hW : WTm ty gm L) (hL : h0 ∈ L) (hT : ty h0 = (15, ρ, [ta, ou, so, ad, na, va, lc, dm, tg, pe, ml, bg, co, sp, nb0, nb1, nb2, pl, se, ke, wi, hs, mo, po, nu, pr, sq, xa, sa, n64, m64, ex, wh, sd, tk, hd, ak, ho, ot, sx, s0, s1, s2, nf, bd, mm, zo, fm, sn, hg, gc, gv, ze, zt])) : na ∈ L ∧ ty na = (27, ρ + 4, [40, 60]) := ⟨(hW.mod hL hT).2.2.2.2.2.2.2.2.1, (hW.mod hL hT).2.2.2.2.2.2.2.2.2.1⟩
theorem WTm.f_va {ty : TyM} {gm : Nat → Nat → Nat} {L : List Nat} {h0 ρ ta ou so ad na va lc dm tg pe ml bg co sp nb0 nb1 nb2 pl se ke wi hs mo po nu pr sq xa sa n64 m64 ex wh sd tk hd ak ho ot sx s0 s1 s2 nf bd mm zo fm sn hg gc gv ze zt : Nat} (hW : WTm ty gm L) (hL : h0 ∈ L) (hT : ty h0 = (15, ρ, [ta, ou, so, ad, na, va, lc, dm, tg, pe, ml, bg, co, sp, nb0, nb1, nb2, pl, se, ke, wi, hs, mo, po, nu, pr, sq, xa, sa, n64, m64, ex, wh, sd, tk, hd, ak, ho, ot, sx, s0, s1, s2, nf, bd, mm, zo, fm, sn, hg, gc, gv, ze, zt])) : va ∈ L ∧ ty va = (27, ρ + 50, [40, 700]) := ⟨(hW.mod hL hT).2.2.2.2.2.2.2.2.2.2.1, (hW.mod hL hT).2.2.2.2.2.2.2.2.2.2.2.1⟩
theorem WTm.f_lc {ty : TyM} {gm : Nat → Nat → Nat} {L : List Nat} {h0 ρ ta ou so ad na va lc dm tg pe ml bg co sp nb0 nb1 nb2 pl se ke wi hs mo po nu pr sq xa sa n64 m64 ex wh sd tk hd ak ho ot sx s0 s1 s2 nf bd mm zo fm sn hg gc gv ze zt : Nat} (hW : WTm ty gm L) (hL : h0 ∈ L) (hT : ty h0 = (15, ρ, [ta, ou, so, ad, na, va, lc, dm, tg, pe, ml, bg, co, sp, nb0, nb1, nb2, pl, se, ke, wi, hs, mo, po, nu, pr, sq, xa, sa, n64, m64, ex, wh, sd, tk, hd, ak, ho, ot, sx, s0, s1, s2, nf, bd, mm, zo, fm, sn, hg, gc, gv, ze, zt])) : lc ∈ L ∧ (∃ r, ty lc = (14, ρ + 5, [r, 30])) := ⟨(hW.mod hL hT).2.2.2.2.2.2.2.2.2.2.2.2.1, (hW.mod hL hT).2.2.2.2.2.2.2.2.2.2.2.2.2.1⟩
theorem WTm.f_dm {ty : TyM} {gm : Nat → Nat → Nat} {L : List Nat} {h0 ρ ta ou so ad na va lc dm tg pe ml bg co sp nb0 nb1 nb2 pl se ke wi hs mo po nu pr sq xa sa n64 m64 ex wh sd tk hd ak ho ot sx s0 s1 s2 nf bd mm zo fm sn hg gc gv ze zt : Nat} (hW : WTm ty gm L) (hL : h0 ∈ L) (hT : ty h0 = (15, ρ, [ta, ou, so, ad, na, va, lc, dm, tg, pe, ml, bg, co, sp, nb0, nb1, nb2, pl, se, ke, wi, hs, mo, po, nu, pr, sq, xa, sa, n64, m64, ex, wh, sd, tk, hd, ak, ho, ot, sx, s0, s1, s2, nf, bd, mm, zo, fm, sn, hg, gc, gv, ze, zt])) : dm ∈ L ∧ (∃ r, ty dm = (14, ρ + 32, [r, 60])) := ⟨(hW.mod hL hT).2.2.2.2.2.2.2.2.2.2.2.2.2.2.1, (hW.mod hL hT).2.2.2.2.2.2.2.2.2.2.2.2.2.2.2.1⟩
theorem WTm.f_tg {ty : TyM} {gm : Nat → Nat → Nat} {L : List Nat} {h0 ρ ta ou so ad na va lc dm tg pe ml bg co sp nb0 nb1 nb2 pl se ke wi hs mo po nu pr sq xa sa n64 m64 ex wh sd tk hd ak ho ot sx s0 s1 s2 nf bd mm zo fm sn hg gc gv ze zt : Nat} (hW : WTm ty gm L) (hL : h0 ∈ L) (hT : ty h0 = (15, ρ, [ta, ou, so, ad, na, va, lc, dm, tg, pe, ml, bg, co, sp, nb0, nb1, nb2, pl, se, ke, wi, hs, mo, po, nu, pr, sq, xa, sa, n64, m64, ex, wh, sd, tk, hd, ak, ho, ot, sx, s0, s1, s2, nf, bd, mm, zo, fm, sn, hg, gc, gv, ze, zt])) : tg ∈ L ∧ ty tg = (27, ρ + 200, [13, 61]) := ⟨(hW.mod hL hT).2.2.2.2.2.2.2.2.2.2.2.2.2.2.2.2.1, (hW.mod hL hT).2.2.2.2.2.2.2.2.2.2.2.2.2.2.2.2.2.1⟩
theorem WTm.f_pe {ty : TyM} {gm : Nat → Nat → Nat} {L : List Nat} {h0 ρ ta ou so ad na va lc dm tg pe ml bg co sp nb0 nb1 nb2 pl se ke wi hs mo po nu pr sq xa sa n64 m64 ex wh sd tk hd ak ho ot sx s0 s1 s2 nf bd mm zo fm sn hg gc gv ze zt : Nat} (hW : WTm ty gm L) (hL : h0 ∈ L) (hT : ty h0 = (15, ρ, [ta, ou, so, ad, na, va, lc, dm, tg, pe, ml, bg, co, sp, nb0, nb1, nb2, pl, se, ke, wi, hs, mo, po, nu, pr, sq, xa, sa, n64, m64, ex, wh, sd, tk, hd, ak, ho, ot, sx, s0, s1, s2, nf, bd, mm, zo, fm, sn, hg, gc, gv, ze, zt])) : pe ∈ L ∧ (∃ r, ty pe = (14, ρ + 7, [r, 100])) := ⟨(hW.mod hL hT).2.2.2.2.2.2.2.2.2.2.2.2.2.2.2.2.2.2.1, (hW.mod hL hT).2.2.2.2.2.2.2.2.2.2.2.2.2.2.2.2.2.2.2.1⟩
theorem WTm.f_ml {ty : TyM} {gm : Nat → Nat → Nat} {L : List Nat} {h0 ρ ta ou so ad na va lc dm tg pe ml bg co sp nb0 nb1 nb2 pl se ke wi hs mo po nu pr sq xa sa n64 m64 ex wh sd tk hd ak ho ot sx s0 s1 s2 nf bd mm zo fm sn hg gc gv ze zt : Nat} (hW : WTm ty gm L) (hL : h0 ∈ L) (hT : ty h0 = (15, ρ, [ta, ou, so, ad, na, va, lc, dm, tg, pe, ml, bg, co, sp, nb0, nb1, nb2, pl, se, ke, wi, hs, mo, po, nu, pr, sq, xa, sa, n64, m64, ex, wh, sd, tk, hd, ak, ho, ot, sx, s0, s1, s2, nf, bd, mm, zo, fm, sn, hg, gc, gv, ze, zt])) : ml ∈ L ∧ ty ml = (17, ρ + 8, [3000]) := ⟨(hW.mod hL hT).2.2.2.2.2.2.2.2.2.2.2.2.2.2.2.2.2.2.2.2.1, (hW.mod hL hT).2.2.2.2.2.2.2.2.2.2.2.2.2.2.2.2.2.2.2.2.2.1⟩
theorem WTm.f_bg {ty : TyM} {gm : Nat → Nat → Nat} {L : List Nat} {h0 ρ ta ou so ad na va lc dm tg pe ml bg co sp nb0 nb1 nb2 pl se ke wi hs mo po nu pr sq xa sa n64 m64 ex wh sd tk hd ak ho ot sx s0 s1 s2 nf bd mm zo fm sn hg gc gv ze zt : Nat} (hW : WTm ty gm L) (hL : h0 ∈ L) (hT : ty h0 = (15, ρ, [ta, ou, so, ad, na, va, lc, dm, tg, pe, ml, bg, co, sp, nb0, nb1, nb2, pl, se, ke, wi, hs, mo, po, nu, pr, sq, xa, sa, n64, m64, ex, wh, sd, tk, hd, ak, ho, ot, sx, s0, s1, s2, nf, bd, mm, zo, fm, sn, hg, gc, gv, ze, zt])) : bg ∈ L ∧ ty bg = (26, ρ + 8, [0]) := ⟨(hW.mod hL hT).2.2.2.2.2.2.2.2.2.2.2.2.2.2.2.2.2.2.2.2.2.2.1, (hW.mod hL hT).2.2.2.2.2.2.2.2.2.2.2.2.2.2.2.2.2.2.2.2.2.2.2.1⟩
theorem WTm.f_co {ty : TyM} {gm : Nat → Nat → Nat} {L : List Nat} {h0 ρ ta ou so ad na va lc dm tg pe ml bg co sp nb0 nb1 nb2 pl se ke wi hs mo po nu pr sq xa sa n64 m64 ex wh sd tk hd ak ho ot sx s0 s1 s2 nf bd mm zo fm sn hg gc gv ze zt : Nat} (hW : WTm ty gm L) (hL : h0 ∈ L) (hT : ty h0 = (15, ρ, [ta, ou, so, ad, na, va, lc, dm, tg, pe, ml, bg, co, sp, nb0, nb1, nb2, pl, se, ke, wi, hs, mo, po, nu, pr, sq, xa, sa, n64, m64, ex, wh, sd, tk, hd, ak, ho, ot, sx, s0, s1, s2, nf, bd, mm, zo, fm, sn, hg, gc, gv, ze, zt])) : co ∈ L ∧ ty co = (26, ρ + 8, [1]) := ⟨(hW.mod hL hT).2.2.2.2.2.2.2.2.2.2.2.2.2.2.2.2.2.2.2.2.2.2.2.2.1, (hW.mod hL hT).2.2.2.2.2.2.2.2.2.2.2.2.2.2.2.2.2.2.2.2.2.2.2.2.2.1⟩
theorem WTm.f_sp {ty : TyM} {gm : Nat → Nat → Nat} {L : List Nat} {h0 ρ ta ou so ad na va lc dm tg pe ml bg co sp nb0 nb1 nb2 pl se ke wi hs mo po nu pr sq xa sa n64 m64 ex wh sd tk hd ak ho ot sx s0 s1 s2 nf bd mm zo fm sn hg gc gv ze zt : Nat} (hW : WTm ty gm L) (hL : h0 ∈ L) (hT : ty h0 = (15, ρ, [ta, ou, so, ad, na, va, lc, dm, tg, pe, ml, bg, co, sp, nb0, nb1, nb2, pl, se, ke, wi, hs, mo, po, nu, pr, sq, xa, sa, n64, m64, ex, wh, sd, tk, hd, ak, ho, ot, sx, s0, s1, s2, nf, bd, mm, zo, fm, sn, hg, gc, gv, ze, zt])) : sp ∈ L ∧ ty sp = (26, ρ + 8, [2]) := ⟨(hW.mod hL hT).2.2.2.2.2.2.2.2.2.2.2.2.2.2.2.2.2.2.2.2.2.2.2.2.2.2.1, (hW.mod hL hT).2.2.2.2.2.2.2.2.2.2.2.2.2.2.2.2.2.2.2.2.2.2.2.2.2.2.2.1⟩
theorem WTm.f_nb0 {ty : TyM} {gm : Nat → Nat → Nat} {L : List Nat} {h0 ρ ta ou so ad na va lc dm tg pe ml bg co sp nb0 nb1 nb2 pl se ke wi hs mo po nu pr sq xa sa n64 m64 ex wh sd tk hd ak ho ot sx s0 s1 s2 nf bd mm zo fm sn hg gc gv ze zt : Nat} (hW : WTm ty gm L) (hL : h0 ∈ L) (hT : ty h0 = (15, ρ, [ta, ou, so, ad, na, va, lc, dm, tg, pe, ml, bg, co, sp, nb0, nb1, nb2, pl, se, ke, wi, hs, mo, po, nu, pr, sq, xa, sa, n64, m64, ex, wh, sd, tk, hd, ak, ho, ot, sx, s0, s1, s2, nf, bd, mm, zo, fm, sn, hg, gc, gv, ze, zt])) : nb0 ∈ L ∧ ty nb0 = (25, ρ + 9, [21, 1280]) := ⟨(hW.mod hL hT).2.2.2.2.2.2.2.2.2.2.2.2.2.2.2.2.2.2.2.2.2.2.2.2.2.2.2.2.1, (hW.mod hL hT).2.2.2.2.2.2.2.2.2.2.2.2.2.2.2.2.2.2.2.2.2.2.2.2.2.2.2.2.2.1⟩
theorem WTm.f_nb1 {ty : TyM} {gm : Nat → Nat → Nat} {L : List Nat} {h0 ρ ta ou so ad na va lc dm tg pe ml bg co sp nb0 nb1 nb2 pl se ke wi hs mo po nu pr sq xa sa n64 m64 ex wh sd tk hd ak ho ot sx s0 s1 s2 nf bd mm zo fm sn hg gc gv ze zt : Nat} (hW : WTm ty gm L) (hL : h0 ∈ L) (hT : ty h0 = (15, ρ, [ta, ou, so, ad, na, va, lc, dm, tg, pe, ml, bg, co, sp, nb0, nb1, nb2, pl, se, ke, wi, hs, mo, po, nu, pr, sq, xa, sa, n64, m64, ex, wh, sd, tk, hd, ak, ho, ot, sx, s0, s1, s2, nf, bd, mm, zo, fm, sn, hg, gc, gv, ze, zt])) : nb1 ∈ L ∧ ty nb1 = (25, ρ + 9, [21, 1280]) := ⟨(hW.mod hL hT).2.2.2.2.2.2.2.2.2.2.2.2.2.2.2.2.2.2.2.2.2.2.2.2.2.2.2.2.2.2.1, (hW.mod hL hT).2.2.2.2.2.2.2.2.2.2.2.2.2.2.2.2.2.2.2.2.2.2.2.2.2.2.2.2.2.2.2.1⟩
theorem WTm.f_nb2 {ty : TyM} {gm : Nat → Nat → Nat} {L : List Nat} {h0 ρ ta ou so ad na va lc dm tg pe ml bg co sp nb0 nb1 nb2 pl se ke wi hs mo po nu pr sq xa sa n64 m64 ex wh sd tk hd ak ho ot sx s0 s1 s2 nf bd mm zo fm sn hg gc gv ze zt : Nat} (hW : WTm ty gm L) (hL : h0 ∈ L) (hT : ty h0 = (15, ρ, [ta, ou, so, ad, na, va, lc, dm, tg, pe, ml, bg, co, sp, nb0, nb1, nb2, pl, se, ke, wi, hs, mo, po, nu, pr, sq, xa, sa, n64, m64, ex, wh, sd, tk, hd, ak, ho, ot, sx, s0, s1, s2, nf, bd, mm, zo, fm, sn, hg, gc, gv, ze, zt])) : nb2 ∈ L ∧ ty nb2 = (25, ρ + 9, [21, 1280]) := ⟨(hW.mod hL hT).2.2.2.2.2.2.2.2.2.2.2.2.2.2.2.2.2.2.2.2.2.2.2.2.2.2.2.2.2.2.2.2.1, (hW.mod hL hT).2.2.2.2.2.2.2.2.2.2.2.2.2.2.2.2.2.2.2.2.2.2.2.2.2.2.2.2.2.2.2.2.2.1⟩
theorem WTm.f_pl {ty : TyM} {gm : Nat → Nat → Nat} {L : List Nat} {h0 ρ ta ou so ad na va lc dm tg pe ml bg co sp nb0 nb1 nb2 pl se ke wi hs mo po nu pr sq xa sa n64 m64 ex wh sd tk hd ak ho ot sx s0 s1 s2 nf bd mm zo fm sn hg gc gv ze zt : Nat} (hW : WTm ty gm L) (hL : h0 ∈ L) (hT : ty h0 = (15, ρ, [ta, ou, so, ad, na, va, lc, dm, tg, pe, ml, bg, co, sp, nb0, nb1, nb2, pl, se, ke, wi, hs, mo, po, nu, pr, sq, xa, sa, n64, m64, ex, wh, sd, tk, hd, ak, ho, ot, sx, s0, s1, s2, nf, bd, mm, zo, fm, sn, hg, gc, gv, ze, zt])) : pl ∈ L ∧ (∃ r, ty pl = (14, ρ + 10, [r, 6000])) := ⟨(hW.mod hL hT).2.2.2.2.2.2.2.2.2.2.2.2.2.2.2.2.2.2.2.2.2.2.2.2.2.2.2.2.2.2.2.2.2.2.1, (hW.mod hL hT).2.2.2.2.2.2.2.2.2.2.2.2.2.2.2.2.2.2.2.2.2.2.2.2.2.2.2.2.2.2.2.2.2.2.2.1⟩
theorem WTm.f_se {ty : TyM} {gm : Nat → Nat → Nat} {L : List Nat} {h0 ρ ta ou so ad na va lc dm tg pe ml bg co sp nb0 nb1 nb2 pl se ke wi hs mo po nu pr sq xa sa n64 m64 ex wh sd tk hd ak ho ot sx s0 s1 s2 nf bd mm zo fm sn hg gc gv ze zt : Nat} (hW : WTm ty gm L) (hL : h0 ∈ L) (hT : ty h0 = (15, ρ, [ta, ou, so, ad, na, va, lc, dm, tg, pe, ml, bg, co, sp, nb0, nb1, nb2, pl, se, ke, wi, hs, mo, po, nu, pr, sq, xa, sa, n64, m64, ex, wh, sd, tk, hd, ak, ho, ot, sx, s0, s1, s2, nf, bd, mm, zo, fm, sn, hg, gc, gv, ze, zt])) : se ∈ L ∧ ty se = (13, ρ + 11, [sx, 3000, 1280, s0, s1, s2]) := ⟨(hW.mod hL hT).2.2.2.2.2.2.2.2.2.2.2.2.2.2.2.2.2.2.2.2.2.2.2.2.2.2.2.2.2.2.2.2.2.2.2.2.1, (hW.mod hL hT).2.2.2.2.2.2.2.2.2.2.2.2.2.2.2.2.2.2.2.2.2.2.2.2.2.2.2.2.2.2.2.2.2.2.2.2.2.1⟩
theorem WTm.f_ke {ty : TyM} {gm : Nat → Nat → Nat} {L : List Nat} {h0 ρ ta ou so ad na va lc dm tg pe ml bg co sp nb0 nb1 nb2 pl se ke wi hs mo po nu pr sq xa sa n64 m64 ex wh sd tk hd ak ho ot sx s0 s1 s2 nf bd mm zo fm sn hg gc gv ze zt : Nat} (hW : WTm ty gm L) (hL : h0 ∈ L) (hT : ty h0 = (15, ρ, [ta, ou, so, ad, na, va, lc, dm, tg, pe, ml, bg, co, sp, nb0, nb1, nb2, pl, se, ke, wi, hs, mo, po, nu, pr, sq, xa, sa, n64, m64, ex, wh, sd, tk, hd, ak, ho, ot, sx, s0, s1, s2, nf, bd, mm, zo, fm, sn, hg, gc, gv, ze, zt])) : ke ∈ L ∧ (∃ x y0 y1 y2, ty ke = (13, ρ + 13, [x, 700, 700, y0, y1, y2])) := ⟨(hW.mod hL hT).2.2.2.2.2.2.2.2.2.2.2.2.2.2.2.2.2.2.2.2.2.2.2.2.2.2.2.2.2.2.2.2.2.2.2.2.2.2.1, (hW.mod hL hT).2.2.2.2.2.2.2.2.2.2.2.2.2.2.2.2.2.2.2.2.2.2.2.2.2.2.2.2.2.2.2.2.2.2.2.2.2.2.2.1⟩
theorem WTm.f_wi {ty : TyM} {gm : Nat → Nat → Nat} {L : List Nat} {h0 ρ ta ou so ad na va lc dm tg pe ml bg co sp nb0 nb1 nb2 pl se ke wi hs mo po nu pr sq xa sa n64 m64 ex wh sd tk hd ak ho ot sx s0 s1 s2 nf bd mm zo fm sn hg gc gv ze zt : Nat} (hW : WTm ty gm L) (hL : h0 ∈ L) (hT : ty h0 = (15, ρ, [ta, ou, so, ad, na, va, lc, dm, tg, pe, ml, bg, co, sp, nb0, nb1, nb2, pl, se, ke, wi, hs, mo, po, nu, pr, sq, xa, sa, n64, m64, ex, wh, sd, tk, hd, ak, ho, ot, sx, s0, s1, s2, nf, bd, mm, zo, fm, sn, hg, gc, gv, ze, zt])) : wi ∈ L ∧ (∃ x y0 y1 y2, ty wi = (13, ρ + 15, [x, 700, 700, y0, y1, y2])) := ⟨(hW.mod hL hT).2.2.2.2.2.2.2.2.2.2.2.2.2.2.2.2.2.2.2.2.2.2.2.2.2.2.2.2.2.2.2.2.2.2.2.2.2.2.2.2.1, (hW.mod hL hT).2.2.2.2.2.2.2.2.2.2.2.2.2.2.2.2.2.2.2.2.2.2.2.2.2.2.2.2.2.2.2.2.2.2.2.2.2.2.2.2.2.1⟩
theorem WTm.f_hs {ty : TyM} {gm : Nat → Nat → Nat} {L : List Nat} {h0 ρ ta ou so ad na va lc dm tg pe ml bg co sp nb0 nb1 nb2 pl se ke wi hs mo po nu pr sq xa sa n64 m64 ex wh sd tk hd ak ho ot sx s0 s1 s2 nf bd mm zo fm sn hg gc gv ze zt : Nat} (hW : WTm ty gm L) (hL : h0 ∈ L) (hT : ty h0 = (15, ρ, [ta, ou, so, ad, na, va, lc, dm, tg, pe, ml, bg, co, sp, nb0, nb1, nb2, pl, se, ke, wi, hs, mo, po, nu, pr, sq, xa, sa, n64, m64, ex, wh, sd, tk, hd, ak, ho, ot, sx, s0, s1, s2, nf, bd, mm, zo, fm, sn, hg, gc, gv, ze, zt])) : hs ∈ L ∧ (∃ x y w u bl, ty hs = (12, ρ + 17, [x, y, w, u, bl])) := ⟨(hW.mod hL hT).2.2.2.2.2.2.2.2.2.2.2.2.2.2.2.2.2.2.2.2.2.2.2.2.2.2.2.2.2.2.2.2.2.2.2.2.2.2.2.2.2.2.1, (hW.mod hL hT).2.2.2.2.2.2.2.2.2.2.2.2.2.2.2.2.2.2.2.2.2.2.2.2.2.2.2.2.2.2.2.2.2.2.2.2.2.2.2.2.2.2.2.1⟩
theorem WTm.f_mo {ty : TyM} {gm : Nat → Nat → Nat} {L : List Nat} {h0 ρ ta ou so ad na va lc dm tg pe ml bg co sp nb0 nb1 nb2 pl se ke wi hs mo po nu pr sq xa sa n64 m64 ex wh sd tk hd ak ho ot sx s0 s1 s2 nf bd mm zo fm sn hg gc gv ze zt : Nat} (hW : WTm ty gm L) (hL : h0 ∈ L) (hT : ty h0 = (15, ρ, [ta, ou, so, ad, na, va, lc, dm, tg, pe, ml, bg, co, sp, nb0, nb1, nb2, pl, se, ke, wi, hs, mo, po, nu, pr, sq, xa, sa, n64, m64, ex, wh, sd, tk, hd, ak, ho, ot, sx, s0, s1, s2, nf, bd, mm, zo, fm, sn, hg, gc, gv, ze, zt])) : mo ∈ L ∧ ty mo = (16, ρ + 18, [33]) := ⟨(hW.mod hL hT).2.2.2.2.2.2.2.2.2.2.2.2.2.2.2.2.2.2.2.2.2.2.2.2.2.2.2.2.2.2.2.2.2.2.2.2.2.2.2.2.2.2.2.2.1, (hW.mod hL hT).2.2.2.2.2.2.2.2.2.2.2.2.2.2.2.2.2.2.2.2.2.2.2.2.2.2.2.2.2.2.2.2.2.2.2.2.2.2.2.2.2.2.2.2.2.1⟩
theorem WTm.f_po {ty : TyM} {gm : Nat → Nat → Nat} {L : List Nat} {h0 ρ ta ou so ad na va lc dm tg pe ml bg co sp nb0 nb1 nb2 pl se ke wi hs mo po nu pr sq xa sa n64 m64 ex wh sd tk hd ak ho ot sx s0 s1 s2 nf bd mm zo fm sn hg gc gv ze zt : Nat} (hW : WTm ty gm L) (hL : h0 ∈ L) (hT : ty h0 = (15, ρ, [ta, ou, so, ad, na, va, lc, dm, tg, pe, ml, bg, co, sp, nb0, nb1, nb2, pl, se, ke, wi, hs, mo, po, nu, pr, sq, xa, sa, n64, m64, ex, wh, sd, tk, hd, ak, ho, ot, sx, s0, s1, s2, nf, bd, mm, zo, fm, sn, hg, gc, gv, ze, zt])) : po ∈ L ∧ ty po = (16, ρ + 87, [33]) := ⟨(hW.mod hL hT).2.2.2.2.2.2.2.2.2.2.2.2.2.2.2.2.2.2.2.2.2.2.2.2.2.2.2.2.2.2.2.2.2.2.2.2.2.2.2.2.2.2.2.2.2.2.1, (hW.mod hL hT).2.2.2.2.2.2.2.2.2.2.2.2.2.2.2.2.2.2.2.2.2.2.2.2.2.2.2.2.2.2.2.2.2.2.2.2.2.2.2.2.2.2.2.2.2.2.2.1⟩
theorem WTm.f_nu {ty : TyM} {gm : Nat → Nat → Nat} {L : List Nat} {h0 ρ ta ou so ad na va lc dm tg pe ml bg co sp nb0 nb1 nb2 pl se ke wi hs mo po nu pr sq xa sa n64 m64 ex wh sd tk hd ak ho ot sx s0 s1 s2 nf bd mm zo fm sn hg gc gv ze zt : Nat} (hW : WTm ty gm L) (hL : h0 ∈ L) (hT : ty h0 = (15, ρ, [ta, ou, so, ad, na, va, lc, dm, tg, pe, ml, bg, co, sp, nb0, nb1, nb2, pl, se, ke, wi, hs, mo, po, nu, pr, sq, xa, sa, n64, m64, ex, wh, sd, tk, hd, ak, ho, ot, sx, s0, s1, s2, nf, bd, mm, zo, fm, sn, hg, gc, gv, ze, zt])) : nu ∈ L ∧ ty nu = (16, ρ + 88, [33]) := ⟨(hW.mod hL hT).2.2.2.2.2.2.2.2.2.2.2.2.2.2.2.2.2.2.2.2.2.2.2.2.2.2.2.2.2.2.2.2.2.2.2.2.2.2.2.2.2.2.2.2.2.2.2.2.1, (hW.mod hL hT).2.2.2.2.2.2.2.2.2.2.2.2.2.2.2.2.2.2.2.2.2.2.2.2.2.2.2.2.2.2.2.2.2.2.2.2.2.2.2.2.2.2.2.2.2.2.2.2.2.1⟩
theorem WTm.f_pr {ty : TyM} {gm : Nat → Nat → Nat} {L : List Nat} {h0 ρ ta ou so ad na va lc dm tg pe ml bg co sp nb0 nb1 nb2 pl se ke wi hs mo po nu pr sq xa sa n64 m64 ex wh sd tk hd ak ho ot sx s0 s1 s2 nf bd mm zo fm sn hg gc gv ze zt : Nat} (hW : WTm ty gm L) (hL : h0 ∈ L) (hT : ty h0 = (15, ρ, [ta, ou, so, ad, na, va, lc, dm, tg, pe, ml, bg, co, sp, nb0, nb1, nb2, pl, se, ke, wi, hs, mo, po, nu, pr, sq, xa, sa, n64, m64, ex, wh, sd, tk, hd, ak, ho, ot, sx, s0, s1, s2, nf, bd, mm, zo, fm, sn, hg, gc, gv, ze, zt])) : pr ∈ L ∧ ty pr = (16, ρ + 89, [66]) := ⟨(hW.mod hL hT).2.2.2.2.2.2.2.2.2.2.2.2.2.2.2.2.2.2.2.2.2.2.2.2.2.2.2.2.2.2.2.2.2.2.2.2.2.2.2.2.2.2.2.2.2.2.2.2.2.2.1, (hW.mod hL hT).2.2.2.2.2.2.2.2.2.2.2.2.2.2.2.2.2.2.2.2.2.2.2.2.2.2.2.2.2.2.2.2.2.2.2.2.2.2.2.2.2.2.2.2.2.2.2.2.2.2.2.1⟩
theorem WTm.f_sq {ty : TyM} {gm : Nat → Nat → Nat} {L : List Nat} {h0 ρ ta ou so ad na va lc dm tg pe ml bg co sp nb0 nb1 nb2 pl se ke wi hs mo po nu pr sq xa sa n64 m64 ex wh sd tk hd ak ho ot sx s0 s1 s2 nf bd mm zo fm sn hg gc gv ze zt : Nat} (hW : WTm ty gm L) (hL : h0 ∈ L) (hT : ty h0 = (15, ρ, [ta, ou, so, ad, na, va, lc, dm, tg, pe, ml, bg, co, sp, nb0, nb1, nb2, pl, se, ke, wi, hs, mo, po, nu, pr, sq, xa, sa, n64, m64, ex, wh, sd, tk, hd, ak, ho, ot, sx, s0, s1, s2, nf, bd, mm, zo, fm, sn, hg, gc, gv, ze, zt])) : sq ∈ L ∧ ty sq = (16, ρ + 90, [33]) := ⟨(hW.mod hL hT).2.2.2.2.2.2.2.2.2.2.2.2.2.2.2.2.2.2.2.2.2.2.2.2.2.2.2.2.2.2.2.2.2.2.2.2.2.2.2.2.2.2.2.2.2.2.2.2.2.2.2.2.1, (hW.mod hL hT).2.2.2.2.2.2.2.2.2.2.2.2.2.2.2.2.2.2.2.2.2.2.2.2.2.2.2.2.2.2.2.2.2.2.2.2.2.2.2.2.2.2.2.2.2.2.2.2.2.2.2.2.2.1⟩
theorem WTm.f_xa {ty : TyM} {gm : Nat → Nat → Nat} {L : List Nat} {h0 ρ ta ou so ad na va lc dm tg pe ml bg co sp nb0 nb1 nb2 pl se ke wi hs mo po nu pr sq xa sa n64 m64 ex wh sd tk hd ak ho ot sx s0 s1 s2 nf bd mm zo fm sn hg gc gv ze zt : Nat} (hW : WTm ty gm L) (hL : h0 ∈ L) (hT : ty h0 = (15, ρ, [ta, ou, so, ad, na, va, lc, dm, tg, pe, ml, bg, co, sp, nb0, nb1, nb2, pl, se, ke, wi, hs, mo, po, nu, pr, sq, xa, sa, n64, m64, ex, wh, sd, tk, hd, ak, ho, ot, sx, s0, s1, s2, nf, bd, mm, zo, fm, sn, hg, gc, gv, ze, zt])) : xa ∈ L ∧ ty xa = (17, ρ + 19, [32]) := ⟨(hW.mod hL hT).2.2.2.2.2.2.2.2.2.2.2.2.2.2.2.2.2.2.2.2.2.2.2.2.2.2.2.2.2.2.2.2.2.2.2.2.2.2.2.2.2.2.2.2.2.2.2.2.2.2.2.2.2.2.1, (hW.mod hL hT).2.2.2.2.2.2.2.2.2.2.2.2.2.2.2.2.2.2.2.2.2.2.2.2.2.2.2.2.2.2.2.2.2.2.2.2.2.2.2.2.2.2.2.2.2.2.2.2.2.2.2.2.2.2.2.1⟩
theorem WTm.f_sa {ty : TyM} {gm : Nat → Nat → Nat} {L : List Nat} {h0 ρ ta ou so ad na va lc dm tg pe ml bg co sp nb0 nb1 nb2 pl se ke wi hs mo po nu pr sq xa sa n64 m64 ex wh sd tk hd ak ho ot sx s0 s1 s2 nf bd mm zo fm sn hg gc gv ze zt : Nat} (hW : WTm ty gm L) (hL : h0 ∈ L) (hT : ty h0 = (15, ρ, [ta, ou, so, ad, na, va, lc, dm, tg, pe, ml, bg, co, sp, nb0, nb1, nb2, pl, se, ke, wi, hs, mo, po, nu, pr, sq, xa, sa, n64, m64, ex, wh, sd, tk, hd, ak, ho, ot, sx, s0, s1, s2, nf, bd, mm, zo, fm, sn, hg, gc, gv, ze, zt])) : sa ∈ L ∧ ty sa = (17, ρ + 20, [32]) := ⟨(hW.mod hL hT).2.2.2.2.2.2.2.2.2.2.2.2.2.2.2.2.2.2.2.2.2.2.2.2.2.2.2.2.2.2.2.2.2.2.2.2.2.2.2.2.2.2.2.2.2.2.2.2.2.2.2.2.2.2.2.2.1, (hW.mod hL hT).2.2.2.2.2.2.2.2.2.2.2.2.2.2.2.2.2.2.2.2.2.2.2.2.2.2.2.2.2.2.2.2.2.2.2.2.2.2.2.2.2.2.2.2.2.2.2.2.2.2.2.2.2.2.2.2.2.1⟩
theorem WTm.f_n64 {ty : TyM} {gm : Nat → Nat → Nat} {L : List Nat} {h0 ρ ta ou so ad na va lc dm tg pe ml bg co sp nb0 nb1 nb2 pl se ke wi hs mo po nu pr sq xa sa n64 m64 ex wh sd tk hd ak ho ot sx s0 s1 s2 nf bd mm zo fm sn hg gc gv ze zt : Nat} (hW : WTm ty gm L) (hL : h0 ∈ L) (hT : ty h0 = (15, ρ, [ta, ou, so, ad, na, va, lc, dm, tg, pe, ml, bg, co, sp, nb0, nb1, nb2, pl, se, ke, wi, hs, mo, po, nu, pr, sq, xa, sa, n64, m64, ex, wh, sd, tk, hd, ak, ho, ot, sx, s0, s1, s2, nf, bd, mm, zo, fm, sn, hg, gc, gv, ze, zt])) : n64 ∈ L ∧ ty n64 = (17, ρ + 21, [64]) := ⟨(hW.mod hL hT).2.2.2.2.2.2.2.2.2.2.2.2.2.2.2.2.2.2.2.2.2.2.2.2.2.2.2.2.2.2.2.2.2.2.2.2.2.2.2.2.2.2.2.2.2.2.2.2.2.2.2.2.2.2.2.2.2.2.1, (hW.mod hL hT).2.2.2.2.2.2.2.2.2.2.2.2.2.2.2.2.2.2.2.2.2.2.2.2.2.2.2.2.2.2.2.2.2.2.2.2.2.2.2.2.2.2.2.2.2.2.2.2.2.2.2.2.2.2.2.2.2.2.2.1⟩
theorem WTm.f_m64 {ty : TyM} {gm : Nat → Nat → Nat} {L : List Nat} {h0 ρ ta ou so ad na va lc dm tg pe ml bg co sp nb0 nb1 nb2 pl se ke wi hs mo po nu pr sq xa sa n64 m64 ex wh sd tk hd ak ho ot sx s0 s1 s2 nf bd mm zo fm sn hg gc gv ze zt : Nat} (hW : WTm ty gm L) (hL : h0 ∈ L) (hT : ty h0 = (15, ρ, [ta, ou, so, ad, na, va, lc, dm, tg, pe, ml, bg, co, sp, nb0, nb1, nb2, pl, se, ke, wi, hs, mo, po, nu, pr, sq, xa, sa, n64, m64, ex, wh, sd, tk, hd, ak, ho, ot, sx, s0, s1, s2, nf, bd, mm, zo, fm, sn, hg, gc, gv, ze, zt])) : m64 ∈ L ∧ ty m64 = (17, ρ + 22, [64]) := ⟨(hW.mod hL hT).2.2.2.2.2.2.2.2.2.2.2.2.2.2.2.2.2.2.2.2.2.2.2.2.2.2.2.2.2.2.2.2.2.2.2.2.2.2.2.2.2.2.2.2.2.2.2.2.2.2.2.2.2.2.2.2.2.2.2.2.1, (hW.mod hL hT).2.2.2.2.2.2.2.2.2.2.2.2.2.2.2.2.2.2.2.2.2.2.2.2.2.2.2.2.2.2.2.2.2.2.2.2.2.2.2.2.2.2.2.2.2.2.2.2.2.2.2.2.2.2.2.2.2.2.2.2.2.1⟩
theorem WTm.f_ex {ty : TyM} {gm : Nat → Nat → Nat} {L : List Nat} {h0 ρ ta ou so ad na va lc dm tg pe ml bg co sp nb0 nb1 nb2 pl se ke wi hs mo po nu pr sq xa sa n64 m64 ex wh sd tk hd ak ho ot sx s0 s1 s2 nf bd mm zo fm sn hg gc gv ze zt : Nat} (hW : WTm ty gm L) (hL : h0 ∈ L) (hT : ty h0 = (15, ρ, [ta, ou, so, ad, na, va, lc, dm, tg, pe, ml, bg, co, sp, nb0, nb1, nb2, pl, se, ke, wi, hs, mo, po, nu, pr, sq, xa, sa, n64, m64, ex, wh, sd, tk, hd, ak, ho, ot, sx, s0, s1, s2, nf, bd, mm, zo, fm, sn, hg, gc, gv, ze, zt])) : ex ∈ L ∧ ty ex = (17, ρ + 23, [64]) := ⟨(hW.mod hL hT).2.2.2.2.2.2.2.2.2.2.2.2.2.2.2.2.2.2.2.2.2.2.2.2.2.2.2.2.2.2.2.2.2.2.2.2.2.2.2.2.2.2.2.2.2.2.2.2.2.2.2.2.2.2.2.2.2.2.2.2.2.2.1, (hW.mod hL hT).2.2.2.2.2.2.2.2.2.2.2.2.2.2.2.2.2.2.2.2.2.2.2.2.2.2.2.2.2.2.2.2.2.2.2.2.2.2.2.2.2.2.2.2.2.2.2.2.2.2.2.2.2.2.2.2.2.2.2.2.2.2.2.1⟩
theorem WTm.f_wh {ty : TyM} {gm : Nat → Nat → Nat} {L : List Nat} {h0 ρ ta ou so ad na va lc dm tg pe ml bg co sp nb0 nb1 nb2 pl se ke wi hs mo po nu pr sq xa sa n64 m64 ex wh sd tk hd ak ho ot sx s0 s1 s2 nf bd mm zo fm sn hg gc gv ze zt : Nat} (hW : WTm ty gm L) (hL : h0 ∈ L) (hT : ty h0 = (15, ρ, [ta, ou, so, ad, na, va, lc, dm, tg, pe, ml, bg, co, sp, nb0, nb1, nb2, pl, se, ke, wi, hs, mo, po, nu, pr, sq, xa, sa, n64, m64, ex, wh, sd, tk, hd, ak, ho, ot, sx, s0, s1, s2, nf, bd, mm, zo, fm, sn, hg, gc, gv, ze, zt])) : wh ∈ L ∧ (∃ r, ty wh = (14, ρ + 24, [r, 6000])) := ⟨(hW.mod hL hT).2.2.2.2.2.2.2.2.2.2.2.2.2.2.2.2.2.2.2.2.2.2.2.2.2.2.2.2.2.2.2.2.2.2.2.2.2.2.2.2.2.2.2.2.2.2.2.2.2.2.2.2.2.2.2.2.2.2.2.2.2.2.2.2.1, (hW.mod hL hT).2.2.2.2.2.2.2.2.2.2.2.2.2.2.2.2.2.2.2.2.2.2.2.2.2.2.2.2.2.2.2.2.2.2.2.2.2.2.2.2.2.2.2.2.2.2.2.2.2.2.2.2.2.2.2.2.2.2.2.2.2.2.2.2.2.1⟩
theorem WTm.f_sd {ty : TyM} {gm : Nat → Nat → Nat} {L : List Nat} {h0 ρ ta ou so ad na va lc dm tg pe ml bg co sp nb0 nb1 nb2 pl se ke wi hs mo po nu pr sq xa sa n64 m64 ex wh sd tk hd ak ho ot sx s0 s1 s2 nf bd mm zo fm sn hg gc gv ze zt : Nat} (hW : WTm ty gm L) (hL : h0 ∈ L) (hT : ty h0 = (15, ρ, [ta, ou, so, ad, na, va, lc, dm, tg, pe, ml, bg, co, sp, nb0, nb1, nb2, pl, se, ke, wi, hs, mo, po, nu, pr, sq, xa, sa, n64, m64, ex, wh, sd, tk, hd, ak, ho, ot, sx, s0, s1, s2, nf, bd, mm, zo, fm, sn, hg, gc, gv, ze, zt])) : sd ∈ L ∧ (∃ r, ty sd = (14, ρ + 25, [r, 3000])) := ⟨(hW.mod hL hT).2.2.2.2.2.2.2.2.2.2.2.2.2.2.2.2.2.2.2.2.2.2.2.2.2.2.2.2.2.2.2.2.2.2.2.2.2.2.2.2.2.2.2.2.2.2.2.2.2.2.2.2.2.2.2.2.2.2.2.2.2.2.2.2.2.2.1, (hW.mod hL hT).2.2.2.2.2.2.2.2.2.2.2.2.2.2.2.2.2.2.2.2.2.2.2.2.2.2.2.2.2.2.2.2.2.2.2.2.2.2.2.2.2.2.2.2.2.2.2.2.2.2.2.2.2.2.2.2.2.2.2.2.2.2.2.2.2.2.2.1⟩
theorem WTm.f_tk {ty : TyM} {gm : Nat → Nat → Nat} {L : List Nat} {h0 ρ ta ou so ad na va lc dm tg pe ml bg co sp nb0 nb1 nb2 pl se ke wi hs mo po nu pr sq xa sa n64 m64 ex wh sd tk hd ak ho ot sx s0 s1 s2 nf bd mm zo fm sn hg gc gv ze zt : Nat} (hW : WTm ty gm L) (hL : h0 ∈ L) (hT : ty h0 = (15, ρ, [ta, ou, so, ad, na, va, lc, dm, tg, pe, ml, bg, co, sp, nb0, nb1, nb2, pl, se, ke, wi, hs, mo, po, nu, pr, sq, xa, sa, n64, m64, ex, wh, sd, tk, hd, ak, ho, ot, sx, s0, s1, s2, nf, bd, mm, zo, fm, sn, hg, gc, gv, ze, zt])) : tk ∈ L ∧ ty tk = (18, ρ + 26, [20]) := ⟨(hW.mod hL hT).2.2.2.2.2.2.2.2.2.2.2.2.2.2.2.2.2.2.2.2.2.2.2.2.2.2.2.2.2.2.2.2.2.2.2.2.2.2.2.2.2.2.2.2.2.2.2.2.2.2.2.2.2.2.2.2.2.2.2.2.2.2.2.2.2.2.2.2.1, (hW.mod hL hT).2.2.2.2.2.2.2.2.2.2.2.2.2.2.2.2.2.2.2.2.2.2.2.2.2.2.2.2.2.2.2.2.2.2.2.2.2.2.2.2.2.2.2.2.2.2.2.2.2.2.2.2.2.2.2.2.2.2.2.2.2.2.2.2.2.2.2.2.2.1⟩
theorem WTm.f_hd {ty : TyM} {gm : Nat → Nat → Nat} {L : List Nat} {h0 ρ ta ou so ad na va lc dm tg pe ml bg co sp nb0 nb1 nb2 pl se ke wi hs mo po nu pr sq xa sa n64 m64 ex wh sd tk hd ak ho ot sx s0 s1 s2 nf bd mm zo fm sn hg gc gv ze zt : Nat} (hW : WTm ty gm L) (hL : h0 ∈ L) (hT : ty h0 = (15, ρ, [ta, ou, so, ad, na, va, lc, dm, tg, pe, ml, bg, co, sp, nb0, nb1, nb2, pl, se, ke, wi, hs, mo, po, nu, pr, sq, xa, sa, n64, m64, ex, wh, sd, tk, hd, ak, ho, ot, sx, s0, s1, s2, nf, bd, mm, zo, fm, sn, hg, gc, gv, ze, zt])) : hd ∈ L ∧ ty hd = (28, ρ + 27, [19]) := ⟨(hW.mod hL hT).2.2.2.2.2.2.2.2.2.2.2.2.2.2.2.2.2.2.2.2.2.2.2.2.2.2.2.2.2.2.2.2.2.2.2.2.2.2.2.2.2.2.2.2.2.2.2.2.2.2.2.2.2.2.2.2.2.2.2.2.2.2.2.2.2.2.2.2.2.2.1, (hW.mod hL hT).2.2.2.2.2.2.2.2.2.2.2.2.2.2.2.2.2.2.2.2.2.2.2.2.2.2.2.2.2.2.2.2.2.2.2.2.2.2.2.2.2.2.2.2.2.2.2.2.2.2.2.2.2.2.2.2.2.2.2.2.2.2.2.2.2.2.2.2.2.2.2.1⟩
theorem WTm.f_ak {ty : TyM} {gm : Nat → Nat → Nat} {L : List Nat} {h0 ρ ta ou so ad na va lc dm tg pe ml bg co sp nb0 nb1 nb2 pl se ke wi hs mo po nu pr sq xa sa n64 m64 ex wh sd tk hd ak ho ot sx s0 s1 s2 nf bd mm zo fm sn hg gc gv ze zt : Nat} (hW : WTm ty gm L) (hL : h0 ∈ L) (hT : ty h0 = (15, ρ, [ta, ou, so, ad, na, va, lc, dm, tg, pe, ml, bg, co, sp, nb0, nb1, nb2, pl, se, ke, wi, hs, mo, po, nu, pr, sq, xa, sa, n64, m64, ex, wh, sd, tk, hd, ak, ho, ot, sx, s0, s1, s2, nf, bd, mm, zo, fm, sn, hg, gc, gv, ze, zt])) : ak ∈ L ∧ (∃ r, ty ak = (14, ρ + 28, [r, 6000])) := ⟨(hW.mod hL hT).2.2.2.2.2.2.2.2.2.2.2.2.2.2.2.2.2.2.2.2.2.2.2.2.2.2.2.2.2.2.2.2.2.2.2.2.2.2.2.2.2.2.2.2.2.2.2.2.2.2.2.2.2.2.2.2.2.2.2.2.2.2.2.2.2.2.2.2.2.2.2.2.1, (hW.mod hL hT).2.2.2.2.2.2.2.2.2.2.2.2.2.2.2.2.2.2.2.2.2.2.2.2.2.2.2.2.2.2.2.2.2.2.2.2.2.2.2.2.2.2.2.2.2.2.2.2.2.2.2.2.2.2.2.2.2.2.2.2.2.2.2.2.2.2.2.2.2.2.2.2.2.1⟩
theorem WTm.f_ho {ty : TyM} {gm : Nat → Nat → Nat} {L : List Nat} {h0 ρ ta ou so ad na va lc dm tg pe ml bg co sp nb0 nb1 nb2 pl se ke wi hs mo po nu pr sq xa sa n64 m64 ex wh sd tk hd ak ho ot sx s0 s1 s2 nf bd mm zo fm sn hg gc gv ze zt : Nat} (hW : WTm ty gm L) (hL : h0 ∈ L) (hT : ty h0 = (15, ρ, [ta, ou, so, ad, na, va, lc, dm, tg, pe, ml, bg, co, sp, nb0, nb1, nb2, pl, se, ke, wi, hs, mo, po, nu, pr, sq, xa, sa, n64, m64, ex, wh, sd, tk, hd, ak, ho, ot, sx, s0, s1, s2, nf, bd, mm, zo, fm, sn, hg, gc, gv, ze, zt])) : ho ∈ L ∧ (∃ r, ty ho = (14, ρ + 29, [r, 6000])) := ⟨(hW.mod hL hT).2.2.2.2.2.2.2.2.2.2.2.2.2.2.2.2.2.2.2.2.2.2.2.2.2.2.2.2.2.2.2.2.2.2.2.2.2.2.2.2.2.2.2.2.2.2.2.2.2.2.2.2.2.2.2.2.2.2.2.2.2.2.2.2.2.2.2.2.2.2.2.2.2.2.1, (hW.mod hL hT).2.2.2.2.2.2.2.2.2.2.2.2.2.2.2.2.2.2.2.2.2.2.2.2.2.2.2.2.2.2.2.2.2.2.2.2.2.2.2.2.2.2.2.2.2.2.2.2.2.2.2.2.2.2.2.2.2.2.2.2.2.2.2.2.2.2.2.2.2.2.2.2.2.2.2.1⟩
theorem WTm.f_ot {ty : TyM} {gm : Nat → Nat → Nat} {L : List Nat} {h0 ρ ta ou so ad na va lc dm tg pe ml bg co sp nb0 nb1 nb2 pl se ke wi hs mo po nu pr sq xa sa n64 m64 ex wh sd tk hd ak ho ot sx s0 s1 s2 nf bd mm zo fm sn hg gc gv ze zt : Nat} (hW : WTm ty gm L) (hL : h0 ∈ L) (hT : ty h0 = (15, ρ, [ta, ou, so, ad, na, va, lc, dm, tg, pe, ml, bg, co, sp, nb0, nb1, nb2, pl, se, ke, wi, hs, mo, po, nu, pr, sq, xa, sa, n64, m64, ex, wh, sd, tk, hd, ak, ho, ot, sx, s0, s1, s2, nf, bd, mm, zo, fm, sn, hg, gc, gv, ze, zt])) : ot ∈ L ∧ (∃ r, ty ot = (14, ρ + 30, [r, 6000])) := ⟨(hW.mod hL hT).2.2.2.2.2.2.2.2.2.2.2.2.2.2.2.2.2.2.2.2.2.2.2.2.2.2.2.2.2.2.2.2.2.2.2.2.2.2.2.2.2.2.2.2.2.2.2.2.2.2.2.2.2.2.2.2.2.2.2.2.2.2.2.2.2.2.2.2.2.2.2.2.2.2.2.2.1, (hW.mod hL hT).2.2.2.2.2.2.2.2.2.2.2.2.2.2.2.2.2.2.2.2.2.2.2.2.2.2.2.2.2.2.2.2.2.2.2.2.2.2.2.2.2.2.2.2.2.2.2.2.2.2.2.2.2.2.2.2.2.2.2.2.2.2.2.2.2.2.2.2.2.2.2.2.2.2.2.2.2.1⟩
theorem WTm.sc {ty : TyM} {gm : Nat → Nat → Nat} {L : List Nat} {h0 ρ ta ou so ad na va lc dm tg pe ml bg co sp nb0 nb1 nb2 pl se ke wi hs mo po nu pr sq xa sa n64 m64 ex wh sd tk hd ak ho ot sx s0 s1 s2 nf bd mm zo fm sn hg gc gv ze zt : Nat} (hW : WTm ty gm L) (hL : h0 ∈ L) (hT : ty h0 = (15, ρ, [ta, ou, so, ad, na, va, lc, dm, tg, pe, ml, bg, co, sp, nb0, nb1, nb2, pl, se, ke, wi, hs, mo, po, nu, pr, sq, xa, sa, n64, m64, ex, wh, sd, tk, hd, ak, ho, ot, sx, s0, s1, s2, nf, bd, mm, zo, fm, sn, hg, gc, gv, ze, zt])) : zt ≤ 3000 ∧ nf ≤ 20 ∧ bd ≤ mm ∧ mm ≤ 1280 ∧ (nf = 0 ∨ 1 ≤ bd) ∧ (∀ j, j < nf → gm 0 j < gm 1 j ∧ gm 1 j < gm 2 j ∧ gm 2 j ≤ mm) ∧ (∀ j, j + 1 < nf → gm 2 j ≤ gm 0 (j + 1)) ∧ (∀ k j, gm k j ≤ 1280) ∧ sn ≤ 1 := (hW.mod hL hT).2.2.2.2.2.2.2.2.2.2.2.2.2.2.2.2.2.2.2.2.2.2.2.2.2.2.2.2.2.2.2.2.2.2.2.2.2.2.2.2.2.2.2.2.2.2.2.2.2.2.2.2.2.2.2.2.2.2.2.2.2.2.2.2.2.2.2.2.2.2.2.2.2.2.2.2.2.2
theorem bfm_upd {f : Nat → Int32} (h : BFm f) (k : Nat) (x : Int32) : BFm (upd f k (vp_nar .byte x)) := by
  intro j
  show fits .byte (.int (if j = k then vp_nar .byte x else f j)) = true
  split
  · rw [vp_nar_byte]
    exact pk_fb x
  · exact h j
theorem bfm_cpy {f g : Nat → Int32} (hf : BFm f) (hg : BFm g) (a b n : Nat) : BFm (va_cpy f g a b n) := by
  intro j
  unfold va_cpy
  split
  · exact hf _
  · exact hg j
def SITEC : List (String × Nat × String × List Int32) := [("PostGateModel", 250, "all", [97, 108, 108]), ("PostGateModel", 252, "include:", [105, 110, 99, 108, 117, 100, 101, 58]), ("PostGateModel", 261, "exists:", [101, 120, 105, 115, 116, 115, 58]), ("PostGateModel", 263, "ip4:", [105, 112, 52, 58]), ("PostGateModel", 274, "a", [97]), ("PostGateModel", 280, "mx", [109, 120]), ("PostGateModel", 282, "redirect=", [114, 101, 100, 105, 114, 101, 99, 116, 61]), ("PostGateModel", 304, "v=spf1", [118, 61, 115, 112, 102, 49]), ("PostGateModel", 306, "v=spf1 ", [118, 61, 115, 112, 102, 49, 32]), ("PostGateModel", 376, "dkim-signature", [100, 107, 105, 109, 45, 115, 105, 103, 110, 97, 116, 117, 114, 101]), ("PostGateModel", 444, "v", [118]), ("PostGateModel", 446, "1", [49]), ("PostGateModel", 452, "rsa-sha256", [114, 115, 97, 45, 115, 104, 97, 50, 53, 54]), ("PostGateModel", 454, "d", [100]), ("PostGateModel", 460, "s", [115]), ("PostGateModel", 462, "bh", [98, 104]), ("PostGateModel", 468, "b", [98]), ("PostGateModel", 476, "l", [108]), ("PostGateModel", 481, "x", [120]), ("PostGateModel", 486, "h", [104]), ("PostGateModel", 488, "from", [102, 114, 111, 109]), ("PostGateModel", 489, "c", [99]), ("PostGateModel", 497, "relaxed", [114, 101, 108, 97, 120, 101, 100]), ("PostGateModel", 499, "simple", [115, 105, 109, 112, 108, 101]), ("PostGateModel", 514, "._domainkey.", [46, 95, 100, 111, 109, 97, 105, 110, 107, 101, 121, 46]), ("PostGateModel", 533, "p", [112]), ("PostGateModel", 535, "DKIM1", [68, 75, 73, 77, 49]), ("PostGateModel", 537, "k", [107]), ("PostGateModel", 539, "rsa", [114, 115, 97]), ("PostGateModel", 569, "_dmarc.", [95, 100, 109, 97, 114, 99, 46]), ("PostGateModel", 571, "v=DMARC1", [118, 61, 68, 77, 65, 82, 67, 49]), ("PostGateModel", 573, "none", [110, 111, 110, 101]), ("PostGateModel", 575, "quarantine", [113, 117, 97, 114, 97, 110, 116, 105, 110, 101]), ("PostGateModel", 577, "reject", [114, 101, 106, 101, 99, 116]), ("PostGateModel", 590, "sp", [115, 112]), ("PostGateModel", 595, "aspf", [97, 115, 112, 102]), ("PostGateModel", 601, "adkim", [97, 100, 107, 105, 109])]
def GVm (A : Nat → Prop) (U : State) (H : Heap) : Prop := va_Z "java/lang/String" "COMPACT_STRINGS" "Z" (.int 1) A U H ∧ va_Zq "jdk/internal/util/Preconditions" "SIOOBE_FORMATTER" "Ljava/util/function/BiFunction;" A U H ∧ ∀ x ∈ SITEC, ∃ q v, vk_R x.1 x.2.1 x.2.2.1 q U ∧ SXc q v x.2.2.2.length (cct x.2.2.2) A U H
theorem GVm.same {A : Nat → Prop} {u U : State} {H : Heap} (hv : u.vm = U.vm) (h : GVm A u H) : GVm A U H := by
  obtain ⟨h1, h2, h4⟩ := h
  have hal : u.vm.Alike U.vm := hv ▸ Vm.Alike.refl u.vm
  exact ⟨h1.moved hal, h2.moved hal, fun x hx => by obtain ⟨q, v, a, b⟩ := h4 x hx; exact ⟨q, v, a.same hv.symm, b.moved hal⟩⟩
theorem GVm.pass {A B : Nat → Prop} {s U : State} {H : Heap} {locs : List Loc} (h : GVm A s s.heap) (hS : va_S A s.heap H locs) (hF : ∀ q, B q → A q) (hU : U.heap = H) (hW : s.WarmedH U.vm) : GVm B U U.heap := by
  obtain ⟨h1, h2, h4⟩ := h
  refine ⟨?_, ?_, fun x hx => by obtain ⟨q, v, a, b⟩ := h4 x hx; exact ⟨q, v, a.warm hW, b.pass hS hF hU hW.alike⟩⟩
  · rw [hU]; exact ((h1.kept hS.2.1).narrow hF).moved hW.alike
  · rw [hU]; exact ((h2.kept hS.2.1).narrow hF).moved hW.alike
def PTEm (D : va_G) (cs : Nat → ClassId) (ty : TyM) (gm : Nat → Nat → Nat) (L : List Nat) (F : Nat → va_E) (sz : Nat) (strs : List (Nat × Nat × Nat × (Nat → Int32))) (U : State) : Prop := PTm D cs ty gm L F sz U ∧ GVm (va_A (va_pl L F) sz) U U.heap ∧ ∀ x ∈ strs, SXc x.1 x.2.1 x.2.2.1 x.2.2.2 (va_A (va_pl L F) sz) U U.heap
theorem PTEm.calling {D : va_G} {cs : Nat → ClassId} {ty : TyM} {gm : Nat → Nat → Nat} {L : List Nat} {F : Nat → va_E} {sz : Nat} {strs : List (Nat × Nat × Nat × (Nat → Int32))} {U : State} {g : JFrame} {mk : MethodId} {a : Array Value} (h : PTEm D cs ty gm L F sz strs U) : PTEm D cs ty gm L F sz strs (U.calling g mk a) :=
  ⟨h.1.calling, GVm.same (u := U) (U := U.calling g mk a) rfl h.2.1, fun x hx => SXc.moved (u := U) (U := U.calling g mk a) (Vm.Alike.refl U.vm) (h.2.2 x hx)⟩
theorem PTEm.mk {D : va_G} {cs : Nat → ClassId} {ty : TyM} {gm : Nat → Nat → Nat} {L : List Nat} {F : Nat → va_E} {strs : List (Nat × Nat × Nat × (Nat → Int32))} {s U : State} {H : Heap} {A : Nat → Prop} {locs : List Loc} (hU : U.heap = H) (hW : s.WarmedH U.vm) (hP : va_P D vwCl (va_pl L F) H) (hK : va_K D vwCl (TYS cs) s) (hD : va_D A (va_pl L F)) (hE : ENV s) (hO : OKm cs ty gm L F) (hG : GVm A s s.heap) (hX : ∀ x ∈ strs, SXc x.1 x.2.1 x.2.2.1 x.2.2.2 A s s.heap) (hS : va_S A s.heap H locs) (hF : ∀ q, va_A (va_pl L F) H.size q → A q) : PTEm D cs ty gm L F H.size strs U :=
  ⟨PTm.mk hU hW hP hK hD hE hO, hG.pass hS hF hU hW, fun x hx => (hX x hx).pass hS hF hU hW.alike⟩
set_option maxHeartbeats 4000000 in
set_option maxRecDepth 100000 in
theorem m_J0_coder_7d493 (l : Launch) (dC : Nat → ClassId) (dI : Nat → Nat → Nat) (cs : Nat → ClassId) (ty : TyM) (gm : Nat → Nat → Nat) (L : List Nat) (sz : Nat) (F : Nat → va_E) (q : Nat) (v : Nat) (n : Nat) (C : Nat → Int32) (hW : WTm ty gm L) : Met l yJ0_coder_7d493 (.code yJ0_coder_7d493 cJ0_coder_7d493 1 (some .byte) :: tb) ({ frames := 0, cells := 0, slots := 0, locals := 0 }) (va_Pc [.ref q] (PTEm (dC, dI) cs ty gm L F sz [(q, v, n, C)])) (va_Qi (fun (r : Int32) (_ : Unit) => r = 0) (fun _ T9 => ∃ F2 : Nat → va_E, QTm (dC, dI) cs ty gm L [] F F2 (va_A (va_pl L F) sz) T9) (va_A (va_pl L F) sz)) 0 0 (va_A (va_pl L F) sz) := by
  refine Met.ofW (cc := cJ0_coder_7d493) (maxL := 1) (ret := (some .byte)) (by decide) rfl ?_
  intro p e s m args below meth c s₁ B hml hv
  obtain ⟨rfl, ⟨hsz, hP, hK, hD0, hE, hO⟩, hG, hX⟩ := hv
  have hx := B.exec
  have hb := B.bytes
  have hr := B.returns
  have hts : ∀ w ∈ tb, w.before _ s = true := fun w h => atoms_spec (ws := .code yJ0_coder_7d493 cJ0_coder_7d493 1 (some .byte) :: tb) B.pre w (List.mem_cons_of_mem _ h)
  have hown : s.vm.findClass RJ0 = some m.cls := findClass_of_methodNamed B.named
  have hlocks := B.notSynchronized
  subst hsz
  have hD := hD0.self (sz := s.heap.size)
  generalize hAe : va_A (va_pl L F) s.heap.size = A at hD hG hX ⊢
  have hX_q : SXc q v n C A s s.heap := hX (q, v, n, C) (by simp)
  obtain ⟨xo_q, xc_q, xv_q, xt_q, xn_q⟩ := id hX_q
  have hA : ∀ q : Nat, s.heap.size ≤ q → A q := fun q h => by rw [← hAe]; exact Or.inr h
  have hS : va_S A s.heap s.heap [] := va_S.rf
  have hR : FR ty [] F F := FR.refl
  have hl := lv_entry ([.ref q]) (n := 1) (Nat.le_of_ble_eq_true rfl)
  rw [lg_entry_eq]
  generalize (lg_sl ([.ref q]) ++ List.replicate (1 - (lg_sl ([.ref q])).length) Slot.unset).toArray = ls at hl ⊢
  have hl : lv_has ls 1 [(0, .ref q)] := hl
  refine va_gets hx hb hG.1 hS hown (hts _ kt_47) (fun _ h9 => h9) dJ0_coder_7d493_0 ?_
  refine lv_if_eq (tgt := 13) hx hb dJ0_coder_7d493_3 (by decide) (fun c_1 => absurd c_1 (by decide)) (fun c_1 => ?_)
  refine lv_aload_n hx hb dJ0_coder_7d493_6 rfl (lv_at hl 0 rfl) ?_
  refine vk_getf hx hb xc_q hS hown (hts _ kt_48) (fun _ h9 => h9) dJ0_coder_7d493_7 ?_
  refine lv_goto (tgt := 14) hx hb dJ0_coder_7d493_10 (by decide) ?_
  refine W.widen (k := 0) (n := 0) (by omega) (by omega) ?_
  exact W.zret (v := 0) (ty := .byte) hx hb hr (by decide) (fun t ht hWm => ⟨⟨0, (), rfl, rfl, ⟨F, QTm.mk ht hP hD hO hR⟩⟩, hS.F ht⟩) hS.2.2 dJ0_coder_7d493_14
set_option maxHeartbeats 4000000 in
set_option maxRecDepth 100000 in
theorem m_J0_isLatin1_aae02 (l : Launch) (dC : Nat → ClassId) (dI : Nat → Nat → Nat) (cs : Nat → ClassId) (ty : TyM) (gm : Nat → Nat → Nat) (L : List Nat) (sz : Nat) (F : Nat → va_E) (q : Nat) (v : Nat) (n : Nat) (C : Nat → Int32) (hW : WTm ty gm L) : Met l yJ0_isLatin1_aae02 (.code yJ0_isLatin1_aae02 cJ0_isLatin1_aae02 1 (some .boolean) :: tb) ({ frames := 0, cells := 0, slots := 0, locals := 0 }) (va_Pc [.ref q] (PTEm (dC, dI) cs ty gm L F sz [(q, v, n, C)])) (va_Qi (fun (r : Int32) (_ : Unit) => r = 1) (fun _ T9 => ∃ F2 : Nat → va_E, QTm (dC, dI) cs ty gm L [] F F2 (va_A (va_pl L F) sz) T9) (va_A (va_pl L F) sz)) 0 0 (va_A (va_pl L F) sz) := by
  refine Met.ofW (cc := cJ0_isLatin1_aae02) (maxL := 1) (ret := (some .boolean)) (by decide) rfl ?_
  intro p e s m args below meth c s₁ B hml hv
  obtain ⟨rfl, ⟨hsz, hP, hK, hD0, hE, hO⟩, hG, hX⟩ := hv
  have hx := B.exec
  have hb := B.bytes
  have hr := B.returns
  have hts : ∀ w ∈ tb, w.before _ s = true := fun w h => atoms_spec (ws := .code yJ0_isLatin1_aae02 cJ0_isLatin1_aae02 1 (some .boolean) :: tb) B.pre w (List.mem_cons_of_mem _ h)
  have hown : s.vm.findClass RJ0 = some m.cls := findClass_of_methodNamed B.named
  have hlocks := B.notSynchronized
  subst hsz
  have hD := hD0.self (sz := s.heap.size)
  generalize hAe : va_A (va_pl L F) s.heap.size = A at hD hG hX ⊢
  have hX_q : SXc q v n C A s s.heap := hX (q, v, n, C) (by simp)
  obtain ⟨xo_q, xc_q, xv_q, xt_q, xn_q⟩ := id hX_q
  have hA : ∀ q : Nat, s.heap.size ≤ q → A q := fun q h => by rw [← hAe]; exact Or.inr h
  have hS : va_S A s.heap s.heap [] := va_S.rf
  have hR : FR ty [] F F := FR.refl
  have hl := lv_entry ([.ref q]) (n := 1) (Nat.le_of_ble_eq_true rfl)
  rw [lg_entry_eq]
  generalize (lg_sl ([.ref q]) ++ List.replicate (1 - (lg_sl ([.ref q])).length) Slot.unset).toArray = ls at hl ⊢
  have hl : lv_has ls 1 [(0, .ref q)] := hl
  refine va_gets hx hb hG.1 hS hown (hts _ kt_47) (fun _ h9 => h9) dJ0_isLatin1_aae02_0 ?_
  refine lv_if_eq (tgt := 17) hx hb dJ0_isLatin1_aae02_3 (by decide) (fun c_1 => absurd c_1 (by decide)) (fun c_1 => ?_)
  refine lv_aload_n hx hb dJ0_isLatin1_aae02_6 rfl (lv_at hl 0 rfl) ?_
  refine vk_getf hx hb xc_q hS hown (hts _ kt_48) (fun _ h9 => h9) dJ0_isLatin1_aae02_7 ?_
  refine lv_if_ne (tgt := 17) hx hb dJ0_isLatin1_aae02_10 (by decide) (fun c_2 => absurd (by decide) c_2) (fun c_2 => ?_)
  refine lv_iconst (v := 1) hx hb dJ0_isLatin1_aae02_13 (by decide) ?_
  refine lv_goto (tgt := 18) hx hb dJ0_isLatin1_aae02_14 (by decide) ?_
  refine W.widen (k := 0) (n := 0) (by omega) (by omega) ?_
  exact W.zret (v := 1) (ty := .boolean) hx hb hr (by decide) (fun t ht hWm => ⟨⟨1, (), rfl, rfl, ⟨F, QTm.mk ht hP hD hO hR⟩⟩, hS.F ht⟩) hS.2.2 dJ0_isLatin1_aae02_18
set_option maxHeartbeats 4000000 in
set_option maxRecDepth 100000 in
theorem m_J0_length_8abf5 (l : Launch) (dC : Nat → ClassId) (dI : Nat → Nat → Nat) (cs : Nat → ClassId) (ty : TyM) (gm : Nat → Nat → Nat) (L : List Nat) (sz : Nat) (F : Nat → va_E) (q : Nat) (v : Nat) (n : Nat) (C : Nat → Int32) (hW : WTm ty gm L) : Met l yJ0_length_8abf5 (.code yJ0_length_8abf5 cJ0_length_8abf5 1 (some .int) :: tb) ({ frames := 1, cells := 0, slots := 0, locals := 20 }) (va_Pc [.ref q] (PTEm (dC, dI) cs ty gm L F sz [(q, v, n, C)])) (va_Qi (fun (r : Int32) (_ : Unit) => r = nI n) (fun _ T9 => ∃ F2 : Nat → va_E, QTm (dC, dI) cs ty gm L [] F F2 (va_A (va_pl L F) sz) T9) (va_A (va_pl L F) sz)) 0 0 (va_A (va_pl L F) sz) := by
  refine Met.ofW (cc := cJ0_length_8abf5) (maxL := 1) (ret := (some .int)) (by decide) rfl ?_
  intro p e s m args below meth c s₁ B hml hv
  obtain ⟨rfl, ⟨hsz, hP, hK, hD0, hE, hO⟩, hG, hX⟩ := hv
  have hx := B.exec
  have hb := B.bytes
  have hr := B.returns
  have hts : ∀ w ∈ tb, w.before _ s = true := fun w h => atoms_spec (ws := .code yJ0_length_8abf5 cJ0_length_8abf5 1 (some .int) :: tb) B.pre w (List.mem_cons_of_mem _ h)
  have hown : s.vm.findClass RJ0 = some m.cls := findClass_of_methodNamed B.named
  have hlocks := B.notSynchronized
  subst hsz
  have hD := hD0.self (sz := s.heap.size)
  generalize hAe : va_A (va_pl L F) s.heap.size = A at hD hG hX ⊢
  have hX_q : SXc q v n C A s s.heap := hX (q, v, n, C) (by simp)
  obtain ⟨xo_q, xc_q, xv_q, xt_q, xn_q⟩ := id hX_q
  have hA : ∀ q : Nat, s.heap.size ≤ q → A q := fun q h => by rw [← hAe]; exact Or.inr h
  have hS : va_S A s.heap s.heap [] := va_S.rf
  have hR : FR ty [] F F := FR.refl
  have hl := lv_entry ([.ref q]) (n := 1) (Nat.le_of_ble_eq_true rfl)
  rw [lg_entry_eq]
  generalize (lg_sl ([.ref q]) ++ List.replicate (1 - (lg_sl ([.ref q])).length) Slot.unset).toArray = ls at hl ⊢
  have hl : lv_has ls 1 [(0, .ref q)] := hl
  refine lv_aload_n hx hb dJ0_length_8abf5_0 rfl (lv_at hl 0 rfl) ?_
  refine vk_getf hx hb xv_q hS hown (hts _ kt_49) (fun _ h9 => h9) dJ0_length_8abf5_1 ?_
  refine va_tlen (v := (nI n)) hx hb xt_q hS rfl dJ0_length_8abf5_4 ?_
  refine lv_aload_n hx hb dJ0_length_8abf5_5 rfl (lv_at hl 0 rfl) ?_
  have hFc := pg_free hD hS hA
  refine va_calli (va_runV (As := []) (rest := [.int (nI n)]) ⟨hx, hb, hml, hown, hts⟩ (m_J0_coder_7d493 l dC dI cs ty gm L s.heap.size F q v n C hW ) ⟨callB_of 0 hts (gi kt_50) rfl rfl rfl (hts _ kt_51) (hts _ kt_52) (by decide +kernel) ⟨Nat.le_of_ble_eq_true rfl, Nat.le_of_ble_eq_true rfl⟩, (hts _ kt_53), (hts _ kt_54)⟩ ⟨fun a U g mk q => ⟨q.1, PTEm.calling q.2⟩, sx_recv hX_q.sx hS, fun U hU hWm => ⟨rfl, PTEm.mk hU hWm hP hK hD hE hO hG (fun x hx => by rw [List.mem_singleton] at hx; subst hx; exact hX_q) hS hFc⟩⟩ rfl rfl hl.1 rfl (lv_room (Nat.le_of_ble_eq_true rfl)) dJ0_length_8abf5_6 ⟨by show _ + 0 ≤ 0; omega, by show _ + 0 ≤ 0; omega⟩) hS (fun q _ h => hFc q h) hFc (fun r_1 u t H1 locs ht hvm hw hB hz1 hk1 hS => ?_)
  obtain ⟨F_2, hB1⟩ := hB
  obtain rfl : F = F_2 := (funext (fun a => hB1.2.2.2 a List.not_mem_nil)).symm
  obtain ⟨hP, hD, hO, hR⟩ := QTm.back hB1 ht hFc hR (fun q h => absurd h List.not_mem_nil)
  generalize H1 = H at hP hS ⊢
  have hw : r_1 = 0 := hw
  subst hw
  refine lv_ishr hx hb dJ0_length_8abf5_9 ?_
  refine lv_topi (fun x_3 ex_3 => ?_)
  obtain rfl : x_3 = (nI n) := ex_3.trans (sh0 _)
  refine W.widen (k := 0) (n := 0) (by omega) (by omega) ?_
  exact W.iret (v := (nI n)) hx hb hr (fun t ht hWm => ⟨⟨(nI n), (), rfl, rfl, ⟨F, QTm.mk ht hP hD hO hR⟩⟩, hS.F ht⟩) hS.2.2 dJ0_length_8abf5_10
set_option maxHeartbeats 4000000 in
set_option maxRecDepth 100000 in
theorem m_J3_checkIndex_8e157 (l : Launch) (dC : Nat → ClassId) (dI : Nat → Nat → Nat) (cs : Nat → ClassId) (ty : TyM) (gm : Nat → Nat → Nat) (L : List Nat) (sz : Nat) (F : Nat → va_E) (j : Nat) (n : Nat) (tq : Nat) (hW : WTm ty gm L) (hj : j < n) (hn : n ≤ 10000) : Met l yJ3_checkIndex_8e157 (.code yJ3_checkIndex_8e157 cJ3_checkIndex_8e157 3 (some .int) :: tb) ({ frames := 0, cells := 0, slots := 0, locals := 0 }) (va_Pc [.int (nI j), .int (nI n), .ref tq] (PTm (dC, dI) cs ty gm L F sz)) (va_Qi (fun (r : Int32) (_ : Unit) => True) (fun _ T9 => ∃ F2 : Nat → va_E, QTm (dC, dI) cs ty gm L [] F F2 (va_A (va_pl L F) sz) T9) (va_A (va_pl L F) sz)) 0 0 (va_A (va_pl L F) sz) := by
  refine Met.ofW (cc := cJ3_checkIndex_8e157) (maxL := 3) (ret := (some .int)) (by decide) rfl ?_
  intro p e s m args below meth c s₁ B hml hv
  obtain ⟨rfl, hsz, hP, hK, hD0, hE, hO⟩ := hv
  have hx := B.exec
  have hb := B.bytes
  have hr := B.returns
  have hts : ∀ w ∈ tb, w.before _ s = true := fun w h => atoms_spec (ws := .code yJ3_checkIndex_8e157 cJ3_checkIndex_8e157 3 (some .int) :: tb) B.pre w (List.mem_cons_of_mem _ h)
  have hown : s.vm.findClass RJ3 = some m.cls := findClass_of_methodNamed B.named
  have hlocks := B.notSynchronized
  subst hsz
  have hD := hD0.self (sz := s.heap.size)
  generalize hAe : va_A (va_pl L F) s.heap.size = A at hD ⊢
  have hA : ∀ q : Nat, s.heap.size ≤ q → A q := fun q h => by rw [← hAe]; exact Or.inr h
  have hS : va_S A s.heap s.heap [] := va_S.rf
  have hR : FR ty [] F F := FR.refl
  have hl := lv_entry ([.int (nI j), .int (nI n), .ref tq]) (n := 3) (Nat.le_of_ble_eq_true rfl)
  rw [lg_entry_eq]
  generalize (lg_sl ([.int (nI j), .int (nI n), .ref tq]) ++ List.replicate (3 - (lg_sl ([.int (nI j), .int (nI n), .ref tq])).length) Slot.unset).toArray = ls at hl ⊢
  have hl : lv_has ls 3 [(0, .int (nI j)), (1, .int (nI n)), (2, .ref tq)] := hl
  refine lv_iload_n hx hb dJ3_checkIndex_8e157_0 rfl (lv_at hl 0 rfl) ?_
  refine lv_if_lt (tgt := 9) hx hb dJ3_checkIndex_8e157_1 (by decide) (fun c_1 => absurd c_1 (nI_pos (by omega))) (fun c_1 => ?_)
  refine lv_iload_n hx hb dJ3_checkIndex_8e157_4 rfl (lv_at hl 0 rfl) ?_
  refine lv_iload_n hx hb dJ3_checkIndex_8e157_5 rfl (lv_at hl 1 rfl) ?_
  refine lv_icmp_lt (tgt := 16) hx hb dJ3_checkIndex_8e157_6 (by decide) (fun c_2 => ?_) (fun c_2 => absurd ((nI_ltI (by omega) (by omega)).mpr hj) c_2)
  refine lv_iload_n hx hb dJ3_checkIndex_8e157_16 rfl (lv_at hl 0 rfl) ?_
  refine W.widen (k := 0) (n := 0) (by omega) (by omega) ?_
  exact W.iret (v := (nI j)) hx hb hr (fun t ht hWm => ⟨⟨(nI j), (), rfl, trivial, ⟨F, QTm.mk ht hP hD hO hR⟩⟩, hS.F ht⟩) hS.2.2 dJ3_checkIndex_8e157_17
set_option maxHeartbeats 4000000 in
set_option maxRecDepth 100000 in
theorem m_J3_checkIndex_b (l : Launch) (dC : Nat → ClassId) (dI : Nat → Nat → Nat) (cs : Nat → ClassId) (ty : TyM) (gm : Nat → Nat → Nat) (L : List Nat) (sz : Nat) (F : Nat → va_E) (j : Nat) (n : Nat) (hW : WTm ty gm L) (hj : j < n) (hn : n ≤ 10000) : Met l yJ3_checkIndex_8e157 (.code yJ3_checkIndex_8e157 cJ3_checkIndex_8e157 3 (some .int) :: tb) ({ frames := 0, cells := 0, slots := 0, locals := 0 }) (va_Pc [.int (nI j), .int (nI n), .null] (PTm (dC, dI) cs ty gm L F sz)) (va_Qi (fun (r : Int32) (_ : Unit) => True) (fun _ T9 => ∃ F2 : Nat → va_E, QTm (dC, dI) cs ty gm L [] F F2 (va_A (va_pl L F) sz) T9) (va_A (va_pl L F) sz)) 0 0 (va_A (va_pl L F) sz) := by
  refine Met.ofW (cc := cJ3_checkIndex_8e157) (maxL := 3) (ret := (some .int)) (by decide) rfl ?_
  intro p e s m args below meth c s₁ B hml hv
  obtain ⟨rfl, hsz, hP, hK, hD0, hE, hO⟩ := hv
  have hx := B.exec
  have hb := B.bytes
  have hr := B.returns
  have hts : ∀ w ∈ tb, w.before _ s = true := fun w h => atoms_spec (ws := .code yJ3_checkIndex_8e157 cJ3_checkIndex_8e157 3 (some .int) :: tb) B.pre w (List.mem_cons_of_mem _ h)
  have hown : s.vm.findClass RJ3 = some m.cls := findClass_of_methodNamed B.named
  have hlocks := B.notSynchronized
  subst hsz
  have hD := hD0.self (sz := s.heap.size)
  generalize hAe : va_A (va_pl L F) s.heap.size = A at hD ⊢
  have hA : ∀ q : Nat, s.heap.size ≤ q → A q := fun q h => by rw [← hAe]; exact Or.inr h
  have hS : va_S A s.heap s.heap [] := va_S.rf
  have hR : FR ty [] F F := FR.refl
  have hl := lv_entry ([.int (nI j), .int (nI n), .null]) (n := 3) (Nat.le_of_ble_eq_true rfl)
  rw [lg_entry_eq]
  generalize (lg_sl ([.int (nI j), .int (nI n), .null]) ++ List.replicate (3 - (lg_sl ([.int (nI j), .int (nI n), .null])).length) Slot.unset).toArray = ls at hl ⊢
  have hl : lv_has ls 3 [(0, .int (nI j)), (1, .int (nI n)), (2, .null)] := hl
  refine lv_iload_n hx hb dJ3_checkIndex_8e157_0 rfl (lv_at hl 0 rfl) ?_
  refine lv_if_lt (tgt := 9) hx hb dJ3_checkIndex_8e157_1 (by decide) (fun c_1 => absurd c_1 (nI_pos (by omega))) (fun c_1 => ?_)
  refine lv_iload_n hx hb dJ3_checkIndex_8e157_4 rfl (lv_at hl 0 rfl) ?_
  refine lv_iload_n hx hb dJ3_checkIndex_8e157_5 rfl (lv_at hl 1 rfl) ?_
  refine lv_icmp_lt (tgt := 16) hx hb dJ3_checkIndex_8e157_6 (by decide) (fun c_2 => ?_) (fun c_2 => absurd ((nI_ltI (by omega) (by omega)).mpr hj) c_2)
  refine lv_iload_n hx hb dJ3_checkIndex_8e157_16 rfl (lv_at hl 0 rfl) ?_
  refine W.widen (k := 0) (n := 0) (by omega) (by omega) ?_
  exact W.iret (v := (nI j)) hx hb hr (fun t ht hWm => ⟨⟨(nI j), (), rfl, trivial, ⟨F, QTm.mk ht hP hD hO hR⟩⟩, hS.F ht⟩) hS.2.2 dJ3_checkIndex_8e157_17
set_option maxHeartbeats 4000000 in
set_option maxRecDepth 100000 in
theorem m_J0_checkIndex_df160 (l : Launch) (dC : Nat → ClassId) (dI : Nat → Nat → Nat) (cs : Nat → ClassId) (ty : TyM) (gm : Nat → Nat → Nat) (L : List Nat) (sz : Nat) (F : Nat → va_E) (j : Nat) (n : Nat) (hW : WTm ty gm L) (hj : j < n) (hn : n ≤ 10000) : Met l yJ0_checkIndex_df160 (.code yJ0_checkIndex_df160 cJ0_checkIndex_df160 2 none :: tb) ({ frames := 1, cells := 0, slots := 0, locals := 22 }) (va_Pc [.int (nI j), .int (nI n)] (PTEm (dC, dI) cs ty gm L F sz [])) (va_Qv (fun _ : Unit => True) (fun _ T9 => ∃ F2 : Nat → va_E, QTm (dC, dI) cs ty gm L [] F F2 (va_A (va_pl L F) sz) T9) (va_A (va_pl L F) sz)) 0 0 (va_A (va_pl L F) sz) := by
  refine Met.ofW (cc := cJ0_checkIndex_df160) (maxL := 2) (ret := none) (by decide) rfl ?_
  intro p e s m args below meth c s₁ B hml hv
  obtain ⟨rfl, ⟨hsz, hP, hK, hD0, hE, hO⟩, hG, hX⟩ := hv
  have hx := B.exec
  have hb := B.bytes
  have hr := B.returns
  have hts : ∀ w ∈ tb, w.before _ s = true := fun w h => atoms_spec (ws := .code yJ0_checkIndex_df160 cJ0_checkIndex_df160 2 none :: tb) B.pre w (List.mem_cons_of_mem _ h)
  have hown : s.vm.findClass RJ0 = some m.cls := findClass_of_methodNamed B.named
  have hlocks := B.notSynchronized
  subst hsz
  have hD := hD0.self (sz := s.heap.size)
  generalize hAe : va_A (va_pl L F) s.heap.size = A at hD hG hX ⊢
  have hA : ∀ q : Nat, s.heap.size ≤ q → A q := fun q h => by rw [← hAe]; exact Or.inr h
  have hS : va_S A s.heap s.heap [] := va_S.rf
  have hR : FR ty [] F F := FR.refl
  have hl := lv_entry ([.int (nI j), .int (nI n)]) (n := 2) (Nat.le_of_ble_eq_true rfl)
  rw [lg_entry_eq]
  generalize (lg_sl ([.int (nI j), .int (nI n)]) ++ List.replicate (2 - (lg_sl ([.int (nI j), .int (nI n)])).length) Slot.unset).toArray = ls at hl ⊢
  have hl : lv_has ls 2 [(0, .int (nI j)), (1, .int (nI n))] := hl
  refine lv_iload_n hx hb dJ0_checkIndex_df160_0 rfl (lv_at hl 0 rfl) ?_
  refine lv_iload_n hx hb dJ0_checkIndex_df160_1 rfl (lv_at hl 1 rfl) ?_
  rcases hG.2.1 with hz | ⟨tq, hz⟩
  ·
    refine va_gets hx hb hz hS hown (hts _ kt_55) (fun _ h9 => h9) dJ0_checkIndex_df160_2 ?_
    have hFc := pg_free hD hS hA
    refine va_calli (va_runS (As := [.int (nI j), .int (nI n), .null]) (rest := []) ⟨hx, hb, hml, hown, hts⟩ (m_J3_checkIndex_b l dC dI cs ty gm L s.heap.size F j n hW (by first | omega | assumption | exact Or.inl rfl) (by first | omega | assumption | exact Or.inl rfl)) ⟨callB_of 3 hts (gi kt_56) rfl rfl rfl (hts _ kt_57) (hts _ kt_58) (by decide +kernel) ⟨Nat.le_of_ble_eq_true rfl, Nat.le_of_ble_eq_true rfl⟩, (hts _ kt_59)⟩ ⟨fun a U g mk q => ⟨q.1, PTm.calling q.2⟩, fun U hU hWm => ⟨rfl, PTm.mk hU hWm hP hK hD hE hO⟩⟩ rfl rfl hl.1 rfl (lv_room (Nat.le_of_ble_eq_true rfl)) dJ0_checkIndex_df160_5 ⟨by show _ + 0 ≤ 0; omega, by show _ + 0 ≤ 0; omega⟩) hS (fun q _ h => hFc q h) hFc (fun r_1 u t H1 locs ht hvm hw hB hz1 hk1 hS => ?_)
    obtain ⟨F_2, hB1⟩ := hB
    obtain rfl : F = F_2 := (funext (fun a => hB1.2.2.2 a List.not_mem_nil)).symm
    obtain ⟨hP, hD, hO, hR⟩ := QTm.back hB1 ht hFc hR (fun q h => absurd h List.not_mem_nil)
    generalize H1 = H at hP hS ⊢
    have hw : True := hw
    have hw_3 := hw
    refine lv_pop hx hb dJ0_checkIndex_df160_8 rfl ?_
    refine W.widen (k := 0) (n := 0) (by omega) (by omega) ?_
    exact W.vret hx hb hr (fun t ht hWm => ⟨⟨(), rfl, trivial, ⟨F, QTm.mk ht hP hD hO hR⟩⟩, hS.F ht⟩) hS.2.2 dJ0_checkIndex_df160_9
  ·
    refine va_gets hx hb hz hS hown (hts _ kt_55) (fun _ h9 => h9) dJ0_checkIndex_df160_2 ?_
    have hFc := pg_free hD hS hA
    refine va_calli (va_runS (As := [.int (nI j), .int (nI n), .ref tq]) (rest := []) ⟨hx, hb, hml, hown, hts⟩ (m_J3_checkIndex_8e157 l dC dI cs ty gm L s.heap.size F j n tq hW (by first | omega | assumption | exact Or.inl rfl) (by first | omega | assumption | exact Or.inl rfl)) ⟨callB_of 3 hts (gi kt_56) rfl rfl rfl (hts _ kt_57) (hts _ kt_58) (by decide +kernel) ⟨Nat.le_of_ble_eq_true rfl, Nat.le_of_ble_eq_true rfl⟩, (hts _ kt_59)⟩ ⟨fun a U g mk q => ⟨q.1, PTm.calling q.2⟩, fun U hU hWm => ⟨rfl, PTm.mk hU hWm hP hK hD hE hO⟩⟩ rfl rfl hl.1 rfl (lv_room (Nat.le_of_ble_eq_true rfl)) dJ0_checkIndex_df160_5 ⟨by show _ + 0 ≤ 0; omega, by show _ + 0 ≤ 0; omega⟩) hS (fun q _ h => hFc q h) hFc (fun r_4 u t H1 locs ht hvm hw hB hz1 hk1 hS => ?_)
    obtain ⟨F_5, hB1⟩ := hB
    obtain rfl : F = F_5 := (funext (fun a => hB1.2.2.2 a List.not_mem_nil)).symm
    obtain ⟨hP, hD, hO, hR⟩ := QTm.back hB1 ht hFc hR (fun q h => absurd h List.not_mem_nil)
    generalize H1 = H at hP hS ⊢
    have hw : True := hw
    have hw_6 := hw
    refine lv_pop hx hb dJ0_checkIndex_df160_8 rfl ?_
    refine W.widen (k := 0) (n := 0) (by omega) (by omega) ?_
    exact W.vret hx hb hr (fun t ht hWm => ⟨⟨(), rfl, trivial, ⟨F, QTm.mk ht hP hD hO hR⟩⟩, hS.F ht⟩) hS.2.2 dJ0_checkIndex_df160_9
set_option maxHeartbeats 4000000 in
set_option maxRecDepth 100000 in
theorem m_J1_charAt_3b067 (l : Launch) (dC : Nat → ClassId) (dI : Nat → Nat → Nat) (cs : Nat → ClassId) (ty : TyM) (gm : Nat → Nat → Nat) (L : List Nat) (sz : Nat) (F : Nat → va_E) (q : Nat) (v : Nat) (n : Nat) (C : Nat → Int32) (j : Nat) (hW : WTm ty gm L) (hj : j < n) : Met l yJ1_charAt_3b067 (.code yJ1_charAt_3b067 cJ1_charAt_3b067 2 (some .char) :: tb) ({ frames := 2, cells := 0, slots := 0, locals := 43 }) (va_Pc [.ref v, .int (nI j)] (PTEm (dC, dI) cs ty gm L F sz [(q, v, n, C)])) (va_Qi (fun (r : Int32) (_ : Unit) => r = chv (C j)) (fun _ T9 => ∃ F2 : Nat → va_E, QTm (dC, dI) cs ty gm L [] F F2 (va_A (va_pl L F) sz) T9) (va_A (va_pl L F) sz)) 0 0 (va_A (va_pl L F) sz) := by
  refine Met.ofW (cc := cJ1_charAt_3b067) (maxL := 2) (ret := (some .char)) (by decide) rfl ?_
  intro p e s m args below meth c s₁ B hml hv
  obtain ⟨rfl, ⟨hsz, hP, hK, hD0, hE, hO⟩, hG, hX⟩ := hv
  have hx := B.exec
  have hb := B.bytes
  have hr := B.returns
  have hts : ∀ w ∈ tb, w.before _ s = true := fun w h => atoms_spec (ws := .code yJ1_charAt_3b067 cJ1_charAt_3b067 2 (some .char) :: tb) B.pre w (List.mem_cons_of_mem _ h)
  have hown : s.vm.findClass RJ1 = some m.cls := findClass_of_methodNamed B.named
  have hlocks := B.notSynchronized
  subst hsz
  have hD := hD0.self (sz := s.heap.size)
  generalize hAe : va_A (va_pl L F) s.heap.size = A at hD hG hX ⊢
  have hX_q : SXc q v n C A s s.heap := hX (q, v, n, C) (by simp)
  obtain ⟨xo_q, xc_q, xv_q, xt_q, xn_q⟩ := id hX_q
  have hA : ∀ q : Nat, s.heap.size ≤ q → A q := fun q h => by rw [← hAe]; exact Or.inr h
  have hS : va_S A s.heap s.heap [] := va_S.rf
  have hR : FR ty [] F F := FR.refl
  have hl := lv_entry ([.ref v, .int (nI j)]) (n := 2) (Nat.le_of_ble_eq_true rfl)
  rw [lg_entry_eq]
  generalize (lg_sl ([.ref v, .int (nI j)]) ++ List.replicate (2 - (lg_sl ([.ref v, .int (nI j)])).length) Slot.unset).toArray = ls at hl ⊢
  have hl : lv_has ls 2 [(0, .ref v), (1, .int (nI j))] := hl
  refine lv_iload_n hx hb dJ1_charAt_3b067_0 rfl (lv_at hl 1 rfl) ?_
  refine lv_aload_n hx hb dJ1_charAt_3b067_1 rfl (lv_at hl 0 rfl) ?_
  refine va_tlen (v := (nI n)) hx hb xt_q hS rfl dJ1_charAt_3b067_2 ?_
  have hFc := pg_free hD hS hA
  refine va_callv (va_runS (As := [.int (nI j), .int (nI n)]) (rest := []) ⟨hx, hb, hml, hown, hts⟩ (m_J0_checkIndex_df160 l dC dI cs ty gm L s.heap.size F j n hW (by first | omega | assumption | exact Or.inl rfl) (by first | omega | assumption | exact Or.inl rfl)) ⟨callB_of 2 hts (gi kt_60) rfl rfl rfl (hts _ kt_51) (hts _ kt_61) (by decide +kernel) ⟨Nat.le_of_ble_eq_true rfl, Nat.le_of_ble_eq_true rfl⟩, (hts _ kt_62)⟩ ⟨fun a U g mk q => ⟨q.1, PTEm.calling q.2⟩, fun U hU hWm => ⟨rfl, PTEm.mk hU hWm hP hK hD hE hO hG (fun x hx => absurd hx List.not_mem_nil) hS hFc⟩⟩ rfl rfl hl.1 rfl (lv_room (Nat.le_of_ble_eq_true rfl)) dJ1_charAt_3b067_3 ⟨by show _ + 0 ≤ 0; omega, by show _ + 0 ≤ 0; omega⟩) hS (fun q _ h => hFc q h) hFc (fun u t H1 locs ht hvm hw hB hz1 hk1 hS => ?_)
  obtain ⟨F_2, hB1⟩ := hB
  obtain rfl : F = F_2 := (funext (fun a => hB1.2.2.2 a List.not_mem_nil)).symm
  obtain ⟨hP, hD, hO, hR⟩ := QTm.back hB1 ht hFc hR (fun q h => absurd h List.not_mem_nil)
  generalize H1 = H at hP hS ⊢
  refine lv_aload_n hx hb dJ1_charAt_3b067_6 rfl (lv_at hl 0 rfl) ?_
  refine lv_iload_n hx hb dJ1_charAt_3b067_7 rfl (lv_at hl 1 rfl) ?_
  refine va_tb hx hb xt_q hS (vp_in_nI (by omega) (by omega)) rfl dJ1_charAt_3b067_8 ?_
  refine lv_topi (fun x_3 ex_3 => ?_)
  obtain rfl : x_3 = (C j) := ex_3.trans (congrArg C (nI_clamp (by omega)))
  refine lv_sipush (v := 255) hx hb dJ1_charAt_3b067_9 (by decide) ?_
  refine lv_iand hx hb dJ1_charAt_3b067_12 ?_
  refine lv_topi (fun x_4 ex_4 => ?_)
  obtain rfl : x_4 = (C j &&& 255) := ex_4.trans (rfl)
  refine lv_i2c hx hb dJ1_charAt_3b067_13 rfl ?_
  refine lv_topi (fun x_5 ex_5 => ?_)
  obtain rfl : x_5 = (chv (C j)) := ex_5.trans (rfl)
  refine W.widen (k := 0) (n := 0) (by omega) (by omega) ?_
  exact W.zret (v := (chv (C j))) (ty := .char) hx hb hr (ch_n _) (fun t ht hWm => ⟨⟨(chv (C j)), (), rfl, rfl, ⟨F, QTm.mk ht hP hD hO hR⟩⟩, hS.F ht⟩) hS.2.2 dJ1_charAt_3b067_14
set_option maxHeartbeats 4000000 in
set_option maxRecDepth 100000 in
theorem m_J0_charAt_5068e (l : Launch) (dC : Nat → ClassId) (dI : Nat → Nat → Nat) (cs : Nat → ClassId) (ty : TyM) (gm : Nat → Nat → Nat) (L : List Nat) (sz : Nat) (F : Nat → va_E) (q : Nat) (v : Nat) (n : Nat) (C : Nat → Int32) (j : Nat) (hW : WTm ty gm L) (hj : j < n) : Met l yJ0_charAt_5068e (.code yJ0_charAt_5068e cJ0_charAt_5068e 2 (some .char) :: tb) ({ frames := 3, cells := 0, slots := 0, locals := 64 }) (va_Pc [.ref q, .int (nI j)] (PTEm (dC, dI) cs ty gm L F sz [(q, v, n, C)])) (va_Qi (fun (r : Int32) (_ : Unit) => r = chv (C j)) (fun _ T9 => ∃ F2 : Nat → va_E, QTm (dC, dI) cs ty gm L [] F F2 (va_A (va_pl L F) sz) T9) (va_A (va_pl L F) sz)) 0 0 (va_A (va_pl L F) sz) := by
  refine Met.ofW (cc := cJ0_charAt_5068e) (maxL := 2) (ret := (some .char)) (by decide) rfl ?_
  intro p e s m args below meth c s₁ B hml hv
  obtain ⟨rfl, ⟨hsz, hP, hK, hD0, hE, hO⟩, hG, hX⟩ := hv
  have hx := B.exec
  have hb := B.bytes
  have hr := B.returns
  have hts : ∀ w ∈ tb, w.before _ s = true := fun w h => atoms_spec (ws := .code yJ0_charAt_5068e cJ0_charAt_5068e 2 (some .char) :: tb) B.pre w (List.mem_cons_of_mem _ h)
  have hown : s.vm.findClass RJ0 = some m.cls := findClass_of_methodNamed B.named
  have hlocks := B.notSynchronized
  subst hsz
  have hD := hD0.self (sz := s.heap.size)
  generalize hAe : va_A (va_pl L F) s.heap.size = A at hD hG hX ⊢
  have hX_q : SXc q v n C A s s.heap := hX (q, v, n, C) (by simp)
  obtain ⟨xo_q, xc_q, xv_q, xt_q, xn_q⟩ := id hX_q
  have hA : ∀ q : Nat, s.heap.size ≤ q → A q := fun q h => by rw [← hAe]; exact Or.inr h
  have hS : va_S A s.heap s.heap [] := va_S.rf
  have hR : FR ty [] F F := FR.refl
  have hl := lv_entry ([.ref q, .int (nI j)]) (n := 2) (Nat.le_of_ble_eq_true rfl)
  rw [lg_entry_eq]
  generalize (lg_sl ([.ref q, .int (nI j)]) ++ List.replicate (2 - (lg_sl ([.ref q, .int (nI j)])).length) Slot.unset).toArray = ls at hl ⊢
  have hl : lv_has ls 2 [(0, .ref q), (1, .int (nI j))] := hl
  refine lv_aload_n hx hb dJ0_charAt_5068e_0 rfl (lv_at hl 0 rfl) ?_
  have hFc := pg_free hD hS hA
  refine va_calli (va_runV (As := []) (rest := []) ⟨hx, hb, hml, hown, hts⟩ (m_J0_isLatin1_aae02 l dC dI cs ty gm L s.heap.size F q v n C hW ) ⟨callB_of 0 hts (gi kt_63) rfl rfl rfl (hts _ kt_51) (hts _ kt_64) (by decide +kernel) ⟨Nat.le_of_ble_eq_true rfl, Nat.le_of_ble_eq_true rfl⟩, (hts _ kt_65), (hts _ kt_66)⟩ ⟨fun a U g mk q => ⟨q.1, PTEm.calling q.2⟩, sx_recv hX_q.sx hS, fun U hU hWm => ⟨rfl, PTEm.mk hU hWm hP hK hD hE hO hG (fun x hx => by rw [List.mem_singleton] at hx; subst hx; exact hX_q) hS hFc⟩⟩ rfl rfl hl.1 rfl (lv_room (Nat.le_of_ble_eq_true rfl)) dJ0_charAt_5068e_1 ⟨by show _ + 0 ≤ 0; omega, by show _ + 0 ≤ 0; omega⟩) hS (fun q _ h => hFc q h) hFc (fun r_1 u t H1 locs ht hvm hw hB hz1 hk1 hS => ?_)
  obtain ⟨F_2, hB1⟩ := hB
  obtain rfl : F = F_2 := (funext (fun a => hB1.2.2.2 a List.not_mem_nil)).symm
  obtain ⟨hP, hD, hO, hR⟩ := QTm.back hB1 ht hFc hR (fun q h => absurd h List.not_mem_nil)
  generalize H1 = H at hP hS ⊢
  have hw : r_1 = 1 := hw
  subst hw
  refine lv_if_eq (tgt := 16) hx hb dJ0_charAt_5068e_4 (by decide) (fun c_3 => absurd c_3 (by decide)) (fun c_3 => ?_)
  refine lv_aload_n hx hb dJ0_charAt_5068e_7 rfl (lv_at hl 0 rfl) ?_
  refine vk_getf hx hb xv_q hS hown (hts _ kt_49) (fun _ h9 => h9) dJ0_charAt_5068e_8 ?_
  refine lv_iload_n hx hb dJ0_charAt_5068e_11 rfl (lv_at hl 1 rfl) ?_
  have hFc := pg_free hD hS hA
  refine va_calli (va_runS (As := [.ref v, .int (nI j)]) (rest := []) ⟨hx, hb, hml, hown, hts⟩ (m_J1_charAt_3b067 l dC dI cs ty gm L H.size F q v n C j hW (by first | omega | assumption | exact Or.inl rfl)) ⟨callB_of 2 hts (gi kt_67) rfl rfl rfl (hts _ kt_68) (hts _ kt_69) (by decide +kernel) ⟨Nat.le_of_ble_eq_true rfl, Nat.le_of_ble_eq_true rfl⟩, (hts _ kt_70)⟩ ⟨fun a U g mk q => ⟨q.1, PTEm.calling q.2⟩, fun U hU hWm => ⟨rfl, PTEm.mk hU hWm hP hK hD hE hO hG (fun x hx => by rw [List.mem_singleton] at hx; subst hx; exact hX_q) hS hFc⟩⟩ rfl rfl hl.1 rfl (lv_room (Nat.le_of_ble_eq_true rfl)) dJ0_charAt_5068e_12 ⟨by show _ + 0 ≤ 0; omega, by show _ + 0 ≤ 0; omega⟩) hS (fun q _ h => hFc q h) hFc (fun r_4 u t H1 locs ht hvm hw hB hz1 hk1 hS => ?_)
  obtain ⟨F_5, hB1⟩ := hB
  obtain rfl : F = F_5 := (funext (fun a => hB1.2.2.2 a List.not_mem_nil)).symm
  obtain ⟨hP, hD, hO, hR⟩ := QTm.back hB1 ht hFc hR (fun q h => absurd h List.not_mem_nil)
  generalize H1 = H at hP hS ⊢
  have hw : r_4 = chv (C j) := hw
  subst hw
  refine W.widen (k := 0) (n := 0) (by omega) (by omega) ?_
  exact W.zret (v := (chv (C j))) (ty := .char) hx hb hr (ch_n _) (fun t ht hWm => ⟨⟨(chv (C j)), (), rfl, rfl, ⟨F, QTm.mk ht hP hD hO hR⟩⟩, hS.F ht⟩) hS.2.2 dJ0_charAt_5068e_15
