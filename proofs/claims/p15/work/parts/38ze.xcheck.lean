def ooU (U : List Nat) : Int32 := if 60 < U.length then 1 else 0
def yU (U : List Nat) : Nat := min U.length 60
def faU (U : List Nat) : Nat → Int32 := fun j => nI (U.getD j 0)
theorem samn_cg {d : ETY} {oo : Int32} {y : Nat} {fa fb : Nat → Int32} (h : ∀ j, j < y → fa j = fb j) : SAMN d oo y fa ↔ SAMN d oo y fb := by
  constructor
  · rintro ⟨h1, h2, h3⟩
    exact ⟨h1, h2, fun j hj => (h3 j hj).trans (h j (by omega))⟩
  · rintro ⟨h1, h2, h3⟩
    exact ⟨h1, h2, fun j hj => (h3 j hj).trans (h j (by omega)).symm⟩
theorem has_cg {D : Nat → ETY} {ze : Nat} {x oo : Int32} {y : Nat} {fa fb : Nat → Int32} (h : ∀ j, j < y → fa j = fb j) : HAS D ze x oo y fa ↔ HAS D ze x oo y fb := by
  constructor
  · rintro ⟨k, h1, h2, h3⟩
    exact ⟨k, h1, h2, (samn_cg h).mp h3⟩
  · rintro ⟨k, h1, h2, h3⟩
    exact ⟨k, h1, h2, (samn_cg h).mpr h3⟩
theorem had_cg {D : Nat → ETY} {ze w : Nat} {x oo : Int32} {y : Nat} {fa fb : Nat → Int32} (h : ∀ j, j < y → fa j = fb j) : HAD D ze x w oo y fa ↔ HAD D ze x w oo y fb := by
  constructor
  · rintro ⟨k, h1, h2, h3, h4⟩
    exact ⟨k, h1, h2, h3, (samn_cg h).mp h4⟩
  · rintro ⟨k, h1, h2, h3, h4⟩
    exact ⟨k, h1, h2, h3, (samn_cg h).mpr h4⟩
theorem otq_cg {d : ETY} {oo : Int32} {y k : Nat} {fa fb : Nat → Int32} {l : List Nat} (h : ∀ j, j < y → fa j = fb j) : OTQ d oo y fa k l ↔ OTQ d oo y fb k l := by
  unfold OTQ
  rw [samn_cg h]
theorem otw_cg {D : Nat → ETY} {oo : Int32} {y k : Nat} {fa fb : Nat → Int32} {l : List Nat} (h : ∀ j, j < y → fa j = fb j) : ∀ n, otw D oo y fa k l n = otw D oo y fb k l n := by
  intro n
  induction n with
  | zero => rfl
  | succ n ih =>
    show @ite Int32 (OTQ (D n) oo y fa k l) (Classical.propDecidable _) _ _ = @ite Int32 (OTQ (D n) oo y fb k l) (Classical.propDecidable _) _ _
    rw [ih]
    by_cases c : OTQ (D n) oo y fa k l
    · rw [if_pos c, if_pos ((otq_cg h).mp c)]
    · rw [if_neg c, if_neg (fun q => c ((otq_cg h).mpr q))]
theorem lew_cg {D : Nat → ETY} {ze : Nat} {oo : Int32} {y : Nat} {fa fb : Nat → Int32} {ad : Int32} {w : Nat} (h : ∀ j, j < y → fa j = fb j) : ∀ n k, lew D ze oo y fa ad w n k = lew D ze oo y fb ad w n k := by
  intro n
  induction n with
  | zero => intro k; rfl
  | succ n ih =>
    intro k
    rw [lew_s, lew_s, ih]
    by_cases c : (D k).1 = 2 ∧ SAMN (D k) oo y fa
    · rw [if_pos c, if_pos (show (D k).1 = 2 ∧ SAMN (D k) oo y fb from ⟨c.1, (samn_cg h).mp c.2⟩)]
    · rw [if_neg c, if_neg (fun q => c ⟨q.1, (samn_cg h).mpr q.2⟩)]
noncomputable def lkU (D : Nat → ETY) (ze : Nat) (ad : Int32) (U : List Nat) (w k vo : Nat) : Nat × Nat := lkW D ze (ooU U) (yU U) (faU U) ad w k vo
abbrev CKR := List Nat → Nat → Nat → Nat × Nat × Nat
/-- a TERM that is right, at a level: the answer, the two counts -/
noncomputable def mtW (D : Nat → ETY) (ze : Nat) (S : SDR) (ad : Int32) (R : CKR) (T : Nat → Nat) (U : List Nat) (t : TRA) (c v : Nat) : Nat × Nat × Nat := if t.1 = 1 then (2, c, v) else if t.1 = 5 then (@ite Nat (SNE ad t.2.2.2.2.2 t.2.2.2.2.1) (Classical.propDecidable _) 2 0, c, v) else if t.1 = 7 ∨ t.1 = 8 then (0, c, v) else if 10 < c + 1 then (6, c + 1, v) else if t.1 = 2 then (if (R (exT T t.2.2.1 t.2.2.2.1 S U) (c + 1) v).1 = 1 ∨ (R (exT T t.2.2.1 t.2.2.2.1 S U) (c + 1) v).1 = 4 ∨ (R (exT T t.2.2.1 t.2.2.2.1 S U) (c + 1) v).1 = 3 then 0 else if (R (exT T t.2.2.1 t.2.2.2.1 S U) (c + 1) v).1 = 0 then 6 else (R (exT T t.2.2.1 t.2.2.2.1 S U) (c + 1) v).1, (R (exT T t.2.2.1 t.2.2.2.1 S U) (c + 1) v).2) else ((lkU D ze ad (exT T t.2.2.1 t.2.2.2.1 S U) t.2.2.2.2.1 t.1 v).1, c + 1, (lkU D ze ad (exT T t.2.2.1 t.2.2.2.1 S U) t.2.2.2.2.1 t.1 v).2)
noncomputable def flW (S : SDR) (R : CKR) (T : Nat → Nat) (U : List Nat) (t : TRA) (c v : Nat) : Nat × Nat × Nat := if 10 < c + 1 then (6, c + 1, v) else (if (R (exT T t.2.2.1 t.2.2.2.1 S U) (c + 1) v).1 = 0 then 6 else (R (exT T t.2.2.1 t.2.2.2.1 S U) (c + 1) v).1, (R (exT T t.2.2.1 t.2.2.2.1 S U) (c + 1) v).2)
noncomputable def tlw (D : Nat → ETY) (ze : Nat) (S : SDR) (ad : Int32) (R : CKR) (T : Nat → Nat) (z : Nat) (U : List Nat) : Nat → Nat → Nat → Nat → Option Nat × Nat × Nat
  | 0, _, c, v => (none, c, v)
  | n + 1, i, c, v => @ite (Option Nat × Nat × Nat) (STT T i) (Classical.propDecidable _) (if (mtW D ze S ad R T U ((trT T i (fdT T 32 i z)).getD (0, 0, 0, 0, 0, 0)) c v).1 = 0 then tlw D ze S ad R T z U n (i + 1) (mtW D ze S ad R T U ((trT T i (fdT T 32 i z)).getD (0, 0, 0, 0, 0, 0)) c v).2.1 (mtW D ze S ad R T U ((trT T i (fdT T 32 i z)).getD (0, 0, 0, 0, 0, 0)) c v).2.2 else (some (if (mtW D ze S ad R T U ((trT T i (fdT T 32 i z)).getD (0, 0, 0, 0, 0, 0)) c v).1 = 2 then anW ((trT T i (fdT T 32 i z)).getD (0, 0, 0, 0, 0, 0)).2.1 else (mtW D ze S ad R T U ((trT T i (fdT T 32 i z)).getD (0, 0, 0, 0, 0, 0)) c v).1), (mtW D ze S ad R T U ((trT T i (fdT T 32 i z)).getD (0, 0, 0, 0, 0, 0)) c v).2)) (tlw D ze S ad R T z U n (i + 1) c v)
noncomputable def cfW (S : SDR) (R : CKR) (T : Nat → Nat) (z : Nat) (U : List Nat) (rd : Nat) : Option Nat × Nat × Nat → Nat × Nat × Nat
  | (some x, c, v) => (x, c, v)
  | (none, c, v) => if rd = 0 then (1, c, v) else flW S R T U ((trT T rd (fdT T 32 rd z)).getD (0, 0, 0, 0, 0, 0)) c v
noncomputable def ctW (D : Nat → ETY) (ze : Nat) (S : SDR) (ad : Int32) (R : CKR) (T : Nat → Nat) (z : Nat) (U : List Nat) (c v : Nat) : Option Nat → Nat × Nat × Nat
  | none => (6, c, v)
  | some rd => cfW S R T z U rd (tlw D ze S ad R T z U (z - 7) 7 c v)
def SPF : List Nat := [118, 61, 115, 112, 102, 49]
noncomputable def chB (D : Nat → ETY) (ze : Nat) (S : SDR) (ad : Int32) (R : CKR) : CKR := fun U c v => @ite (Nat × Nat × Nat) (HAS D ze 3 (ooU U) (yU U) (faU U)) (Classical.propDecidable _) (5, c, v) (if otw D (ooU U) (yU U) (faU U) 6 SPF ze < 0 then (if otw D (ooU U) (yU U) (faU U) 6 SPF ze = (-1) then 0 else 6, c, v) else ctW D ze S ad R (TC (D (otw D (ooU U) (yU U) (faU U) 6 SPF ze).toNatClampNeg).2.2.2.2.2 (D (otw D (ooU U) (yU U) (faU U) 6 SPF ze).toNatClampNeg).2.2.2.2.1) (D (otw D (ooU U) (yU U) (faU U) 6 SPF ze).toNatClampNeg).2.2.2.2.1 U c v (rtT (TC (D (otw D (ooU U) (yU U) (faU U) 6 SPF ze).toNatClampNeg).2.2.2.2.2 (D (otw D (ooU U) (yU U) (faU U) 6 SPF ze).toNatClampNeg).2.2.2.2.1) (D (otw D (ooU U) (yU U) (faU U) 6 SPF ze).toNatClampNeg).2.2.2.2.1))
noncomputable def CHW (D : Nat → ETY) (ze : Nat) (S : SDR) (ad : Int32) : Nat → CKR
  | 0 => fun _ c v => (6, c, v)
  | n + 1 => chB D ze S ad (CHW D ze S ad n)
/-- what CHECK at a level may change: the Checker, the names behind the level, the TERMS from it on -/
def chS (ρ a b : Nat) : List Nat := ρ :: ((List.range (12 - a)).map (fun j => ρ + 40 + a + j) ++ (List.range (11 - b)).map (fun j => ρ + 60 + b + j))
theorem mem_chS {ρ a b q : Nat} : q ∈ chS ρ a b ↔ q = ρ ∨ (ρ + 40 + a ≤ q ∧ q < ρ + 52) ∧ a ≤ 12 ∨ (ρ + 60 + b ≤ q ∧ q < ρ + 71) ∧ b ≤ 11 := by
  unfold chS
  simp only [List.mem_cons, List.mem_append, List.mem_map, List.mem_range]
  constructor
  · rintro (h | ⟨j, h1, h2⟩ | ⟨j, h1, h2⟩)
    · exact Or.inl h
    · exact Or.inr (Or.inl (by omega))
    · exact Or.inr (Or.inr (by omega))
  · rintro (h | ⟨h, -⟩ | ⟨h, -⟩)
    · exact Or.inl h
    · exact Or.inr (Or.inl ⟨q - (ρ + 40 + a), by omega, by omega⟩)
    · exact Or.inr (Or.inr ⟨q - (ρ + 60 + b), by omega, by omega⟩)
def A8 (U : List Nat) : Prop := ∀ j, U.getD j 0 < 128
theorem gd_out : ∀ (V : List Nat) (j : Nat), V.length ≤ j → V.getD j 0 = 0
  | [], j, _ => by simp
  | x :: V, 0, h => absurd h (by show ¬ V.length + 1 ≤ 0; omega)
  | x :: V, j + 1, h => gd_out V j (by have h9 : V.length + 1 ≤ j + 1 := h; omega)
theorem a8_nil : A8 [] := fun j => by rw [gd_out [] j (Nat.zero_le _)]; omega
theorem a8_one {c : Nat} (h : c < 128) : A8 [c] := by
  intro j
  rcases Nat.lt_or_ge j 1 with q | q
  · obtain rfl : j = 0 := by omega
    exact h
  · rw [gd_out [c] j q]
    omega
theorem a8_app {U V : List Nat} (h1 : A8 U) (h2 : A8 V) : A8 (U ++ V) := by
  intro j
  rcases Nat.lt_or_ge j U.length with q | q
  · rw [apl_l U j q]
    exact h1 j
  · have h9 := apl_r (W := V) U (j - U.length)
    rw [show U.length + (j - U.length) = j by omega] at h9
    rw [h9]
    exact h2 _
theorem a8_rg {V : List Nat} (h : A8 V) (a k : Nat) : A8 (rgL V a k) := by
  intro j
  rcases Nat.lt_or_ge j k with q | q
  · rw [rgL_get k a j q]
    exact h _
  · rw [gd_out (rgL V a k) j (by rw [rgL_len]; exact q)]
    omega
theorem a8_prw {V : List Nat} {x : Int32} {c9 p9 : Nat} (h : A8 V) : ∀ k, A8 (prw V x c9 p9 k) := by
  intro k
  induction k with
  | zero => exact a8_nil
  | succ k ih =>
    show A8 (prw V x c9 p9 k ++ (if 0 < k then [46] else []) ++ ptL V (pix x c9 p9 k))
    refine a8_app (a8_app ih ?_) (a8_rg h _ _)
    by_cases c : 0 < k
    · rw [if_pos c]
      exact a8_one (by omega)
    · rw [if_neg c]
      exact a8_nil
theorem src_a8 {V : List Nat} {z : Nat} {f : Nat → Int32} (h : SRC V z f) : A8 V := by
  intro j
  rcases Nat.lt_or_ge j z with q | q
  · exact h.2.2 j q
  · rw [gd_out V j (by rw [h.1]; exact q)]
    omega
theorem TXE.a8 {cs : Nat → ClassId} {F : Nat → va_E} {w n : Nat} {V : List Nat} (h : TXE cs F w n V) : A8 V := by
  obtain ⟨r, z, f, -, -, h3, -⟩ := h
  exact src_a8 h3
theorem NME.a8 {cs : Nat → ClassId} {F : Nat → va_E} {nm lv : Nat} {V : List Nat} (h : NME cs F nm lv V) : A8 V := by
  obtain ⟨fn, b, -, -, h3⟩ := h
  exact h3.a8
theorem SNP.a8 {cs : Nat → ClassId} {F : Nat → va_E} {w0 w1 w2 w3 : Nat} {V : SDR} (h : SNP cs F w0 w1 w2 w3 V) : A8 V.1 ∧ A8 V.2.1 ∧ A8 V.2.2.1 ∧ A8 V.2.2.2 := ⟨h.1.a8, h.2.1.a8, h.2.2.1.a8, h.2.2.2.a8⟩
theorem a8_pc {S : SDR} {dn : List Nat} (hS : A8 S.1 ∧ A8 S.2.1 ∧ A8 S.2.2.1 ∧ A8 S.2.2.2) (hd : A8 dn) (c : Nat) : A8 (pcW S dn c) := by
  unfold pcW
  by_cases c1 : c = 115
  · rw [if_pos c1]
    exact hS.1
  · rw [if_neg c1]
    by_cases c2 : c = 108
    · rw [if_pos c2]
      exact hS.2.1
    · rw [if_neg c2]
      by_cases c3 : c = 111
      · rw [if_pos c3]
        exact hS.2.2.1
      · rw [if_neg c3]
        by_cases c4 : c = 105
        · rw [if_pos c4]
          exact hS.2.2.2
        · rw [if_neg c4]
          exact hd
theorem a8_mc {T : Nat → Nat} {i n : Nat} {S : SDR} {dn : List Nat} (hS : A8 S.1 ∧ A8 S.2.1 ∧ A8 S.2.2.1 ∧ A8 S.2.2.2) (hd : A8 dn) : A8 (mcV T i n S dn) := by
  unfold mcV
  by_cases c1 : T (i + 1) = 37
  · rw [if_pos c1]
    exact a8_one (by omega)
  · rw [if_neg c1]
    by_cases c2 : T (i + 1) = 95
    · rw [if_pos c2]
      exact a8_one (by omega)
    · rw [if_neg c2]
      by_cases c3 : T (i + 1) = 45
      · rw [if_pos c3]
        exact a8_app (a8_one (c := 37) (by omega)) (a8_app (a8_one (c := 50) (by omega)) (a8_one (c := 48) (by omega)))
      · rw [if_neg c3]
        exact a8_prw (a8_pc hS hd _) _
theorem a8_exw {T : Nat → Nat} {q : Nat} {S : SDR} {dn : List Nat} (hS : A8 S.1 ∧ A8 S.2.1 ∧ A8 S.2.2.1 ∧ A8 S.2.2.2) (hd : A8 dn) : ∀ k i, ishw T q (q - i) i = true → A8 (exw T q S dn k i) := by
  intro k
  induction k with
  | zero => intro i _; exact a8_nil
  | succ k ih =>
    intro i h
    rw [exw_s]
    by_cases c : q ≤ i
    · rw [if_pos c]
      exact a8_nil
    · rw [if_neg c]
      have h9 := ishw_ok h (Nat.not_le.mp c)
      refine a8_app ?_ (ih _ (ishw_y h (Nat.not_le.mp c) h9))
      by_cases d : mcT T i q = 0
      · rw [if_pos d]
        exact a8_one (by omega)
      · rw [if_neg d]
        exact a8_mc hS hd
theorem a8_ex {T : Nat → Nat} {a q : Nat} {S : SDR} {dn : List Nat} (h : a = q ∨ HSW T a q) (hS : A8 S.1 ∧ A8 S.2.1 ∧ A8 S.2.2.1 ∧ A8 S.2.2.2) (hd : A8 dn) : A8 (exT T a q S dn) := by
  unfold exT
  by_cases c : a = q
  · rw [if_pos c]
    exact hd
  · rw [if_neg c]
    exact a8_exw hS hd _ _ (h.resolve_left c).2
theorem tga_len {U : List Nat} {n y : Nat} {f : Nat → Int32} (h : TGA U n y 0 f) : U.length ≤ n := Nat.not_lt.mp (fun c => by
  have h9 := h.2.1
  rw [if_pos c] at h9
  exact absurd h9 (by decide))
theorem NMG.nme {cs : Nat → ClassId} {F : Nat → va_E} {nm lv : Nat} {U : List Nat} (h : NMG cs F nm lv U) (hl : U.length ≤ 60) (hA : A8 U) : NME cs F nm lv U := by
  obtain ⟨fn, b, h1, h2, r, y, oo, f, g1, g2, g3, g4, g5⟩ := h
  rw [if_neg (by omega)] at g4
  subst g4
  exact ⟨fn, b, h1, h2, r, y, f, g1, g2, ⟨by omega, g5, fun j _ => hA j⟩, by omega⟩
theorem has_u {D : Nat → ETY} {ze : Nat} {x oo : Int32} {y : Nat} {fa : Nat → Int32} {U : List Nat} (h : TGA U 60 y oo fa) : HAS D ze x oo y fa ↔ HAS D ze x (ooU U) (yU U) (faU U) := by
  obtain ⟨h1, h2, h3⟩ := h
  have e1 : y = yU U := h1
  have e2 : oo = ooU U := h2
  subst e1
  subst e2
  exact has_cg h3
theorem otw_u {D : Nat → ETY} {ze : Nat} {oo : Int32} {y k : Nat} {fa : Nat → Int32} {l : List Nat} {U : List Nat} (h : TGA U 60 y oo fa) : otw D oo y fa k l ze = otw D (ooU U) (yU U) (faU U) k l ze := by
  obtain ⟨h1, h2, h3⟩ := h
  have e1 : y = yU U := h1
  have e2 : oo = ooU U := h2
  subst e1
  subst e2
  exact otw_cg h3 ze
theorem otw_s {D : Nat → ETY} {oo : Int32} {y k j : Nat} {fa : Nat → Int32} {l : List Nat} : otw D oo y fa k l (j + 1) = @ite Int32 (OTQ (D j) oo y fa k l) (Classical.propDecidable _) (if otw D oo y fa k l j = (-1) then nI j else (-2)) (otw D oo y fa k l j) := rfl
theorem otw_ge {D : Nat → ETY} {oo : Int32} {y k : Nat} {fa : Nat → Int32} {l : List Nat} : ∀ n, ¬ otw D oo y fa k l n < 0 → ∃ j, j < n ∧ otw D oo y fa k l n = nI j ∧ OTQ (D j) oo y fa k l := by
  intro n
  induction n with
  | zero =>
    intro h
    exact absurd (show (-1 : Int32) < 0 by decide) h
  | succ n ih =>
    intro h
    rw [otw_s] at h ⊢
    by_cases c : OTQ (D n) oo y fa k l
    · rw [if_pos c] at h ⊢
      by_cases d : otw D oo y fa k l n = (-1)
      · rw [if_pos d]
        exact ⟨n, by omega, rfl, c⟩
      · rw [if_neg d] at h
        exact absurd (show (-2 : Int32) < 0 by decide) h
    · rw [if_neg c] at h ⊢
      obtain ⟨j, h1, h2, h3⟩ := ih h
      exact ⟨j, by omega, h2, h3⟩
