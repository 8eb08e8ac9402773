theorem lew_le {D : Nat → ETY} {ze : Nat} {oo : Int32} {y : Nat} {fa : Nat → Int32} {ad : Int32} {w : Nat} : ∀ n k, lew D ze oo y fa ad w n k ≤ 6 := by
  intro n
  induction n with
  | zero => intro k; exact Nat.zero_le _
  | succ n ih =>
    intro k
    have h9 := ih (k + 1)
    rw [lew_s]
    by_cases c1 : (D k).1 = 2 ∧ SAMN (D k) oo y fa
    · rw [if_pos c1]
      by_cases c2 : HAS D ze 3 0 (D k).2.2.2.2.1 (D k).2.2.2.2.2
      · rw [if_pos c2]
        omega
      · rw [if_neg c2]
        by_cases c3 : HAD D ze ad w 0 (D k).2.2.2.2.1 (D k).2.2.2.2.2
        · rw [if_pos c3]
          omega
        · rw [if_neg c3]
          exact h9
    · rw [if_neg c1]
      exact h9
theorem lkU_le {D : Nat → ETY} {ze : Nat} {ad : Int32} {U : List Nat} {w k vo : Nat} : (lkU D ze ad U w k vo).1 ≤ 6 ∧ vo ≤ (lkU D ze ad U w k vo).2 ∧ (lkU D ze ad U w k vo).2 ≤ vo + 1 := by
  unfold lkU lkW
  have h9 := lew_le (D := D) (ze := ze) (oo := ooU U) (y := yU U) (fa := faU U) (ad := ad) (w := w) ze 0
  by_cases c1 : HAS D ze 3 (ooU U) (yU U) (faU U)
  · rw [if_pos c1]
    exact ⟨by show 5 ≤ 6; omega, Nat.le_refl _, Nat.le_succ _⟩
  · rw [if_neg c1]
    by_cases c2 : HAS D ze (skW k) (ooU U) (yU U) (faU U)
    · rw [if_pos c2]
      by_cases c3 : k = 4
      · rw [if_pos c3]
        exact ⟨h9, Nat.le_refl _, Nat.le_succ _⟩
      · rw [if_neg c3]
        by_cases c4 : k = 6 ∨ HAD D ze ad w (ooU U) (yU U) (faU U)
        · rw [if_pos c4]
          exact ⟨by show 2 ≤ 6; omega, Nat.le_refl _, Nat.le_succ _⟩
        · rw [if_neg c4]
          exact ⟨Nat.zero_le _, Nat.le_refl _, Nat.le_succ _⟩
    · rw [if_neg c2]
      refine ⟨?_, Nat.le_succ _, Nat.le_refl _⟩
      show (if 2 < vo + 1 then 6 else 0) ≤ 6
      split <;> omega
/-- answers at most 6; the counts grow, the second is never above the first, and the first is above 10 only where the answer is BROKEN -/
def PR3 (c v : Nat) (x : Nat × Nat × Nat) : Prop := x.1 ≤ 6 ∧ (c ≤ 10 → v ≤ c → x.2.2 ≤ x.2.1 ∧ c ≤ x.2.1 ∧ x.2.1 ≤ 11 ∧ (10 < x.2.1 → x.1 = 6))
def PR4 (c v : Nat) (x : Option Nat × Nat × Nat) : Prop := (∀ a, x.1 = some a → a ≤ 6) ∧ (c ≤ 10 → v ≤ c → x.2.2 ≤ x.2.1 ∧ c ≤ x.2.1 ∧ x.2.1 ≤ 11 ∧ (10 < x.2.1 → x.1 = some 6))
def PRR (R : CKR) : Prop := ∀ U c v, PR3 c v (R U c v)
theorem pr3_0 {c v a : Nat} (h : a ≤ 6) : PR3 c v (a, c, v) := ⟨h, fun h1 h2 => ⟨h2, Nat.le_refl _, by show c ≤ 11; omega, fun h3 => absurd h3 (by show ¬ 10 < c; omega)⟩⟩
theorem pr3_6 {c v : Nat} : PR3 c v (6, c + 1, v) := ⟨Nat.le_refl _, fun h1 h2 => ⟨by show v ≤ c + 1; omega, by show c ≤ c + 1; omega, by show c + 1 ≤ 11; omega, fun _ => rfl⟩⟩
theorem anW_le {g : Nat} : anW g ≤ 4 := by
  unfold anW
  split
  · omega
  · split
    · omega
    · split <;> omega
theorem mtW_b {D : Nat → ETY} {ze : Nat} {S : SDR} {ad : Int32} {R : CKR} {T : Nat → Nat} {U : List Nat} {t : TRA} {c v : Nat} (hR : PRR R) : PR3 c v (mtW D ze S ad R T U t c v) := by
  unfold mtW
  by_cases c1 : t.1 = 1
  · rw [if_pos c1]
    exact pr3_0 (by omega)
  · rw [if_neg c1]
    by_cases c5 : t.1 = 5
    · rw [if_pos c5]
      refine pr3_0 ?_
      split <;> omega
    · rw [if_neg c5]
      by_cases c7 : t.1 = 7 ∨ t.1 = 8
      · rw [if_pos c7]
        exact pr3_0 (by omega)
      · rw [if_neg c7]
        by_cases c10 : 10 < c + 1
        · rw [if_pos c10]
          exact pr3_6
        · rw [if_neg c10]
          by_cases c2 : t.1 = 2
          · rw [if_pos c2]
            have h := hR (exT T t.2.2.1 t.2.2.2.1 S U) (c + 1) v
            generalize R (exT T t.2.2.1 t.2.2.2.1 S U) (c + 1) v = X at h ⊢
            obtain ⟨h1, h2⟩ := h
            refine ⟨?_, fun g1 g2 => ?_⟩
            · show (if X.1 = 1 ∨ X.1 = 4 ∨ X.1 = 3 then 0 else if X.1 = 0 then 6 else X.1) ≤ 6
              split
              · omega
              · split <;> omega
            · obtain ⟨k1, k2, k3, k4⟩ := h2 (by omega) (by omega)
              refine ⟨k1, by show c ≤ X.2.1; omega, k3, fun g3 => ?_⟩
              have k5 := k4 g3
              show (if X.1 = 1 ∨ X.1 = 4 ∨ X.1 = 3 then 0 else if X.1 = 0 then 6 else X.1) = 6
              rw [if_neg (by omega), if_neg (by omega)]
              exact k5
          · rw [if_neg c2]
            have h := lkU_le (D := D) (ze := ze) (ad := ad) (U := exT T t.2.2.1 t.2.2.2.1 S U) (w := t.2.2.2.2.1) (k := t.1) (vo := v)
            generalize lkU D ze ad (exT T t.2.2.1 t.2.2.2.1 S U) t.2.2.2.2.1 t.1 v = Y at h ⊢
            exact ⟨h.1, fun g1 g2 => ⟨by show Y.2 ≤ c + 1; omega, by show c ≤ c + 1; omega, by show c + 1 ≤ 11; omega, fun g3 => absurd g3 c10⟩⟩
theorem flW_b {S : SDR} {R : CKR} {T : Nat → Nat} {U : List Nat} {t : TRA} {c v : Nat} (hR : PRR R) : PR3 c v (flW S R T U t c v) := by
  unfold flW
  by_cases c10 : 10 < c + 1
  · rw [if_pos c10]
    exact pr3_6
  · rw [if_neg c10]
    have h := hR (exT T t.2.2.1 t.2.2.2.1 S U) (c + 1) v
    generalize R (exT T t.2.2.1 t.2.2.2.1 S U) (c + 1) v = X at h ⊢
    obtain ⟨h1, h2⟩ := h
    refine ⟨?_, fun g1 g2 => ?_⟩
    · show (if X.1 = 0 then 6 else X.1) ≤ 6
      split <;> omega
    · obtain ⟨k1, k2, k3, k4⟩ := h2 (by omega) (by omega)
      refine ⟨k1, by show c ≤ X.2.1; omega, k3, fun g3 => ?_⟩
      have k5 := k4 g3
      show (if X.1 = 0 then 6 else X.1) = 6
      rw [if_neg (by omega)]
      exact k5
def NOT : TRA := (0, 0, 0, 0, 0, 0)
theorem tlw_s {D : Nat → ETY} {ze : Nat} {S : SDR} {ad : Int32} {R : CKR} {T : Nat → Nat} {z : Nat} {U : List Nat} {n i c v : Nat} : tlw D ze S ad R T z U (n + 1) i c v = @ite (Option Nat × Nat × Nat) (STT T i) (Classical.propDecidable _) (if (mtW D ze S ad R T U ((trT T i (fdT T 32 i z)).getD NOT) c v).1 = 0 then tlw D ze S ad R T z U n (i + 1) (mtW D ze S ad R T U ((trT T i (fdT T 32 i z)).getD NOT) c v).2.1 (mtW D ze S ad R T U ((trT T i (fdT T 32 i z)).getD NOT) c v).2.2 else (some (if (mtW D ze S ad R T U ((trT T i (fdT T 32 i z)).getD NOT) c v).1 = 2 then anW ((trT T i (fdT T 32 i z)).getD NOT).2.1 else (mtW D ze S ad R T U ((trT T i (fdT T 32 i z)).getD NOT) c v).1), (mtW D ze S ad R T U ((trT T i (fdT T 32 i z)).getD NOT) c v).2)) (tlw D ze S ad R T z U n (i + 1) c v) := rfl
theorem tlw_b {D : Nat → ETY} {ze : Nat} {S : SDR} {ad : Int32} {R : CKR} {T : Nat → Nat} {z : Nat} {U : List Nat} (hR : PRR R) : ∀ n i c v, PR4 c v (tlw D ze S ad R T z U n i c v) := by
  intro n
  induction n with
  | zero =>
    intro i c v
    exact ⟨fun a h => (nomatch h), fun h1 h2 => ⟨h2, Nat.le_refl _, by show c ≤ 11; omega, fun h3 => absurd h3 (by show ¬ 10 < c; omega)⟩⟩
  | succ n ih =>
    intro i c v
    rw [tlw_s]
    by_cases c1 : STT T i
    · rw [if_pos c1]
      have hM := mtW_b (D := D) (ze := ze) (S := S) (ad := ad) (T := T) (U := U) (t := (trT T i (fdT T 32 i z)).getD NOT) (c := c) (v := v) hR
      generalize mtW D ze S ad R T U ((trT T i (fdT T 32 i z)).getD NOT) c v = M at hM ⊢
      obtain ⟨m1, m2⟩ := hM
      by_cases c2 : M.1 = 0
      · rw [if_pos c2]
        have h9 := ih (i + 1) M.2.1 M.2.2
        refine ⟨h9.1, fun g1 g2 => ?_⟩
        obtain ⟨k1, k2, k3, k4⟩ := m2 g1 g2
        have k5 : M.2.1 ≤ 10 := Nat.not_lt.mp (fun q => by have k6 := k4 q; omega)
        obtain ⟨j1, j2, j3, j4⟩ := h9.2 k5 k1
        exact ⟨j1, Nat.le_trans k2 j2, j3, j4⟩
      · rw [if_neg c2]
        refine ⟨fun a h => ?_, fun g1 g2 => ?_⟩
        · have h8 : some (if M.1 = 2 then anW ((trT T i (fdT T 32 i z)).getD NOT).2.1 else M.1) = some a := h
          injection h8 with h7
          rw [← h7]
          have h6 := anW_le (g := ((trT T i (fdT T 32 i z)).getD NOT).2.1)
          split <;> omega
        · obtain ⟨k1, k2, k3, k4⟩ := m2 g1 g2
          refine ⟨k1, k2, k3, fun g3 => ?_⟩
          have k5 := k4 g3
          show some (if M.1 = 2 then anW ((trT T i (fdT T 32 i z)).getD NOT).2.1 else M.1) = some 6
          rw [if_neg (by omega), k5]
    · rw [if_neg c1]
      exact ih (i + 1) c v
theorem cfW_b {S : SDR} {R : CKR} {T : Nat → Nat} {z : Nat} {U : List Nat} {rd c v : Nat} (hR : PRR R) : ∀ X : Option Nat × Nat × Nat, PR4 c v X → PR3 c v (cfW S R T z U rd X)
  | (some x, c9, v9), h => ⟨h.1 x rfl, fun g1 g2 => by
      obtain ⟨k1, k2, k3, k4⟩ := h.2 g1 g2
      refine ⟨k1, k2, k3, fun g3 => ?_⟩
      have k5 : some x = some 6 := k4 g3
      exact Option.some.inj k5⟩
  | (none, c9, v9), h => by
    have hn : c ≤ 10 → v ≤ c → v9 ≤ c9 ∧ c ≤ c9 ∧ c9 ≤ 10 := fun g1 g2 => by
      obtain ⟨k1, k2, k3, k4⟩ := h.2 g1 g2
      refine ⟨k1, k2, Nat.not_lt.mp (fun q => ?_)⟩
      have k5 : none = some 6 := k4 q
      exact (nomatch k5)
    show PR3 c v (if rd = 0 then (1, c9, v9) else flW S R T U ((trT T rd (fdT T 32 rd z)).getD NOT) c9 v9)
    by_cases d : rd = 0
    · rw [if_pos d]
      refine ⟨by show 1 ≤ 6; omega, fun g1 g2 => ?_⟩
      have h9 := hn g1 g2
      exact ⟨h9.1, h9.2.1, by show c9 ≤ 11; omega, fun g3 => absurd g3 (by show ¬ 10 < c9; omega)⟩
    · rw [if_neg d]
      have h8 := flW_b (S := S) (T := T) (U := U) (t := (trT T rd (fdT T 32 rd z)).getD NOT) (c := c9) (v := v9) hR
      refine ⟨h8.1, fun g1 g2 => ?_⟩
      have h9 := hn g1 g2
      obtain ⟨k1, k2, k3, k4⟩ := h8.2 h9.2.2 h9.1
      exact ⟨k1, Nat.le_trans h9.2.1 k2, k3, k4⟩
theorem ctW_b {D : Nat → ETY} {ze : Nat} {S : SDR} {ad : Int32} {R : CKR} {T : Nat → Nat} {z : Nat} {U : List Nat} {c v : Nat} (hR : PRR R) : ∀ X : Option Nat, PR3 c v (ctW D ze S ad R T z U c v X)
  | none => pr3_0 (Nat.le_refl _)
  | some rd => cfW_b hR _ (tlw_b hR _ _ _ _)
theorem chB_b {D : Nat → ETY} {ze : Nat} {S : SDR} {ad : Int32} {R : CKR} (hR : PRR R) : PRR (chB D ze S ad R) := by
  intro U c v
  unfold chB
  by_cases c1 : HAS D ze 3 (ooU U) (yU U) (faU U)
  · rw [if_pos c1]
    exact pr3_0 (by omega)
  · rw [if_neg c1]
    by_cases c2 : otw D (ooU U) (yU U) (faU U) 6 SPF ze < 0
    · rw [if_pos c2]
      refine pr3_0 ?_
      split <;> omega
    · rw [if_neg c2]
      exact ctW_b hR _
theorem CHW_b {D : Nat → ETY} {ze : Nat} {S : SDR} {ad : Int32} : ∀ n, PRR (CHW D ze S ad n)
  | 0 => fun _ _ _ => pr3_0 (Nat.le_refl _)
  | n + 1 => chB_b (CHW_b n)
