theorem fdw_ne {T : Nat → Nat} {c : Nat} : ∀ n i j, i ≤ j → j < fdw T c n i → ¬ T j = c := by
  intro n
  induction n with
  | zero =>
    intro i j h1 h2
    have h9 : j < i := h2
    omega
  | succ n ih =>
    intro i j h1 h2
    have h9 : j < (if T i = c then i else fdw T c n (i + 1)) := h2
    by_cases d : T i = c
    · rw [if_pos d] at h9
      omega
    · rw [if_neg d] at h9
      by_cases e : j = i
      · rw [e]
        exact d
      · exact ih (i + 1) j (by omega) h9
theorem fdT_s {T : Nat → Nat} {c a b : Nat} (h : ¬ T a = c) (hab : a < b) : fdT T c a b = fdT T c (a + 1) b := by
  unfold fdT
  rw [show b - a = (b - (a + 1)) + 1 by omega]
  exact if_neg h
theorem fdT_0 {T : Nat → Nat} {c a b : Nat} (h : T a = c ∨ a = b) (hab : a ≤ b) : fdT T c a b = a := by
  unfold fdT
  by_cases e : a = b
  · rw [show b - a = 0 by omega]
    rfl
  · rw [show b - a = (b - (a + 1)) + 1 by omega]
    exact if_pos (h.resolve_right e)
def WDT (T : Nat → Nat) (tt q : Nat) (x : Int32) : Prop := (∃ w, w ≤ 32 ∧ btT T tt q = some w ∧ x = nI w) ∨ (x = (-1) ∧ ∀ w, btT T tt q = some w → 32 < w)
theorem wdt_n {T : Nat → Nat} {tt q : Nat} (h : ¬ q = tt) : WDT T tt q (btv (nbT T (q + 1) tt 2)) := by
  have e : btT T tt q = nbT T (q + 1) tt 2 := if_neg h
  unfold WDT
  rw [e]
  cases nbT T (q + 1) tt 2 with
  | none => exact Or.inr ⟨rfl, fun w q => (nomatch q)⟩
  | some v =>
    by_cases c : 32 < v
    · exact Or.inr ⟨if_pos c, fun w q => by rw [← Option.some.inj q]; exact c⟩
    · exact Or.inl ⟨v, by omega, rfl, if_neg c⟩
theorem wdt_32 {T : Nat → Nat} {tt q : Nat} {x : Int32} (h : q = tt) (hx : x = 32) : WDT T tt q x := Or.inl ⟨32, Nat.le_refl _, if_pos h, hx⟩
theorem wdt_y {T : Nat → Nat} {tt q : Nat} {x : Int32} (h : WDT T tt q x) (c : 0 ≤ x) : ∃ w, w ≤ 32 ∧ btT T tt q = some w ∧ x = nI w := by
  rcases h with h | h
  · exact h
  · rw [h.1] at c
    exact absurd c (by decide)
theorem wdt_m {T : Nat → Nat} {tt q : Nat} {x : Int32} (h : WDT T tt q x) (c : ¬ 0 ≤ x) : ∀ w, btT T tt q = some w → 32 < w := by
  rcases h with ⟨w, h1, h2, h3⟩ | h
  · rw [h3] at c
    exact absurd (Int32.not_lt.mp (nI_pos (by omega))) c
  · exact h.2
def RHO (T : Nat → Nat) (a tt : Nat) : Prop := (∃ w, w ≤ 32 ∧ btT T tt (fdT T 47 a tt) = some w) ∧ (a < fdT T 47 a tt → T a = 58 ∧ HSW T (a + 1) (fdT T 47 a tt))
def RHP (T : Nat → Nat) (a tt : Nat) (x4 u17 u19 u20 u21 : Int32) : Prop := (u17 = 8 ∧ ¬ RHO T a tt) ∨ (u17 = x4 ∧ RHO T a tt ∧ (∃ w, w ≤ 32 ∧ btT T tt (fdT T 47 a tt) = some w ∧ u21 = nI w) ∧ ((fdT T 47 a tt = a ∧ u19 = (-1)) ∨ (a < fdT T 47 a tt ∧ u19 = nI (a + 1) ∧ u20 = nI (fdT T 47 a tt))))
/-- the TERM as the reference reads it, in the words of the class -/
noncomputable def tnH (T : Nat → Nat) (k g h q : Nat) : Option Nat → Option TRA
  | none => none
  | some w => if 32 < w then none else if q = h then some (k, g, h, h, w, 0) else @ite (Option TRA) (T h = 58 ∧ HSW T (h + 1) q) (Classical.propDecidable _) (some (k, g, h + 1, q, w, 0)) none
noncomputable def hoW (T : Nat → Nat) (k g h b : Nat) : Option TRA := tnH T k g h (fdT T 47 h b) (btT T b (fdT T 47 h b))
def AFT (T : Nat → Nat) (h b : Nat) : Prop := b = h ∨ T h = 58 ∨ T h = 47
noncomputable def meW (T : Nat → Nat) (w b g : Nat) : Option TRA := @ite (Option TRA) (ISW T w b 3 [97, 108, 108]) (Classical.propDecidable _) (some (1, g, b, b, 32, 0)) (@ite (Option TRA) (BGW T w b 8 [105, 110, 99, 108, 117, 100, 101, 58]) (Classical.propDecidable _) (@ite (Option TRA) (HSW T (w + 8) b) (Classical.propDecidable _) (some (2, g, w + 8, b, 32, 0)) none) (@ite (Option TRA) (BGW T w b 7 [101, 120, 105, 115, 116, 115, 58]) (Classical.propDecidable _) (@ite (Option TRA) (HSW T (w + 7) b) (Classical.propDecidable _) (some (6, g, w + 7, b, 32, 0)) none) (@ite (Option TRA) (BGW T w b 4 [105, 112, 52, 58]) (Classical.propDecidable _) (tnN T 5 g (w + 4) (fdT T 47 (w + 4) b) (btT T b (fdT T 47 (w + 4) b))) (@ite (Option TRA) (BGW T w b 1 [97] ∧ AFT T (w + 1) b) (Classical.propDecidable _) (hoW T 3 g (w + 1) b) (@ite (Option TRA) (BGW T w b 2 [109, 120] ∧ AFT T (w + 2) b) (Classical.propDecidable _) (hoW T 4 g (w + 2) b) none)))))
noncomputable def tlW (T : Nat → Nat) (a b : Nat) : Option TRA := @ite (Option TRA) (BGW T a b 9 [114, 101, 100, 105, 114, 101, 99, 116, 61]) (Classical.propDecidable _) (@ite (Option TRA) (HSW T (a + 9) b) (Classical.propDecidable _) (some (7, 43, a + 9, b, 32, 0)) none) (@ite (Option TRA) (OTH T a b) (Classical.propDecidable _) (some (8, 43, b, b, 32, 0)) none)
noncomputable def rmX (T : Nat → Nat) (a b : Nat) : Option TRA → Option TRA
  | some t => some t
  | none => @ite (Option TRA) (SGN (T a)) (Classical.propDecidable _) none (tlW T a b)
noncomputable def rmT (T : Nat → Nat) (a b : Nat) : Option TRA := rmX T a b (meW T (wdS T a) b (sgS T a))
theorem lit_at {T : Nat → Nat} {a i : Nat} {l : List Nat} (h : LIT T a l) (hi : i < l.length) : T (a + i) = l.getD i 0 := h i hi
theorem me_no {T : Nat → Nat} {w b g : Nat} (h1 : ¬ ISW T w b 3 [97, 108, 108]) (h2 : ¬ BGW T w b 8 [105, 110, 99, 108, 117, 100, 101, 58]) (h3 : ¬ BGW T w b 7 [101, 120, 105, 115, 116, 115, 58]) (h4 : ¬ BGW T w b 4 [105, 112, 52, 58]) (h5 : ¬ (BGW T w b 1 [97] ∧ AFT T (w + 1) b)) (h6 : ¬ (BGW T w b 2 [109, 120] ∧ AFT T (w + 2) b)) : meW T w b g = none := by
  unfold meW
  rw [if_neg h1, if_neg h2, if_neg h3, if_neg h4, if_neg h5, if_neg h6]
theorem bg_at {T : Nat → Nat} {a b k i : Nat} {l : List Nat} (h : BGW T a b k l) (hi : i < l.length) : T (a + i) = l.getD i 0 := h.2 i hi
theorem is_at {T : Nat → Nat} {a b k i : Nat} {l : List Nat} (h : ISW T a b k l) (hi : i < l.length) : T (a + i) = l.getD i 0 := h.2 i hi
theorem tn_7 {T : Nat → Nat} {b k g st : Nat} (hk : HSTK k) : tnT T b k g st = @ite (Option TRA) (HSW T st b) (Classical.propDecidable _) (some (k, g, st, b, 32, 0)) none := by
  have h0 : ¬ k = 0 := by rcases hk with h | h | h <;> omega
  have h1 : ¬ NETK k := by
    intro q
    rcases hk with h | h | h <;> rcases q with q | q | q <;> omega
  unfold tnT
  rw [if_neg h0, if_neg h1]
  by_cases c : HSW T st b
  · rw [if_pos c, if_pos (fun _ => c)]
  · rw [if_neg c, if_neg (fun q => c (q hk))]
theorem tn_0 {T : Nat → Nat} {b k g st : Nat} (h0 : ¬ k = 0) (h1 : ¬ NETK k) (h2 : ¬ HSTK k) : tnT T b k g st = some (k, g, st, b, 32, 0) := by
  unfold tnT
  rw [if_neg h0, if_neg h1, if_pos (fun q => absurd q h2)]
theorem tn_n {T : Nat → Nat} {b k g st : Nat} (h1 : NETK k) : tnT T b k g st = tnN T k g st (fdT T 47 st b) (btT T b (fdT T 47 st b)) := by
  have h0 : ¬ k = 0 := by rcases h1 with h | h | h <;> omega
  unfold tnT
  rw [if_neg h0, if_pos h1]
/-- behind the word (a, mx) at h: with a colon -/
theorem ho_c {T : Nat → Nat} {b k g h : Nat} (hk : k = 3 ∨ k = 4) (hb : h + 1 ≤ b) (hc : T h = 58) : hoW T k g h b = tnT T b k g (h + 1) := by
  have e1 : fdT T 47 h b = fdT T 47 (h + 1) b := fdT_s (by omega) (by omega)
  have e2 := (fdT_le (T := T) (c := 47) (b - (h + 1)) (h + 1)).1
  have e3 : h + 1 ≤ fdT T 47 (h + 1) b := e2
  rw [tn_n (hk.elim (fun q => Or.inr (Or.inl q)) (fun q => Or.inr (Or.inr q)))]
  unfold hoW
  rw [e1]
  cases btT T b (fdT T 47 (h + 1) b) with
  | none => rfl
  | some w =>
    show (if 32 < w then none else if fdT T 47 (h + 1) b = h then _ else _) = (if 32 < w then none else if k = 5 then _ else _)
    by_cases c1 : 32 < w
    · rw [if_pos c1, if_pos c1]
    · rw [if_neg c1, if_neg c1, if_neg (show ¬ fdT T 47 (h + 1) b = h by omega), if_neg (show ¬ k = 5 by omega)]
      by_cases c2 : HSW T (h + 1) (fdT T 47 (h + 1) b)
      · rw [if_pos ⟨hc, c2⟩, if_pos ⟨fun _ => c2, fun q => absurd hc q⟩]
      · rw [if_neg (fun q => c2 q.2), if_neg (fun q => c2 (q.1 hc))]
/-- without one -/
theorem ho_n {T : Nat → Nat} {b k g h : Nat} (hk : k = 3 ∨ k = 4) (hh : 1 ≤ h) (hb : h ≤ b) (hc : ¬ (h < b ∧ T h = 58)) (hp : ¬ T (h - 1) = 58) : @ite (Option TRA) (AFT T h b) (Classical.propDecidable _) (hoW T k g h b) none = tnT T b k g h := by
  rw [tn_n (hk.elim (fun q => Or.inr (Or.inl q)) (fun q => Or.inr (Or.inr q)))]
  by_cases c0 : AFT T h b
  · rw [if_pos c0]
    have e1 : fdT T 47 h b = h := by
      rcases c0 with q | q | q
      · exact fdT_0 (Or.inr q.symm) hb
      · exact fdT_0 (Or.inr (by have h9 : ¬ h < b := fun q2 => hc ⟨q2, q⟩; omega)) hb
      · exact fdT_0 (Or.inl q) hb
    unfold hoW
    rw [e1]
    cases btT T b h with
    | none => rfl
    | some w =>
      show (if 32 < w then none else if h = h then _ else _) = (if 32 < w then none else if k = 5 then _ else _)
      by_cases c1 : 32 < w
      · rw [if_pos c1, if_pos c1]
      · rw [if_neg c1, if_neg c1, if_pos rfl, if_neg (by omega), if_pos ⟨fun q => absurd q hp, fun _ => rfl⟩]
  · rw [if_neg c0]
    have h1 : h < b := by
      rcases Nat.lt_or_ge h b with q | q
      · exact q
      · exact absurd (Or.inl (by omega)) c0
    have h2 : ¬ T h = 47 := fun q => c0 (Or.inr (Or.inr q))
    have h3 := fdT_gt (T := T) (c := 47) h2 h1
    cases btT T b (fdT T 47 h b) with
    | none => rfl
    | some w =>
      show none = (if 32 < w then none else if k = 5 then _ else _)
      by_cases c1 : 32 < w
      · rw [if_pos c1]
      · rw [if_neg c1, if_neg (by omega), if_neg (fun q => by have h9 := q.2 hp; omega)]
theorem fdw_hit {T : Nat → Nat} {c : Nat} : ∀ n i, fdw T c n i < i + n → T (fdw T c n i) = c := by
  intro n
  induction n with
  | zero =>
    intro i h
    have h9 : i < i + 0 := h
    omega
  | succ n ih =>
    intro i h
    by_cases d : T i = c
    · have e : fdw T c (n + 1) i = i := if_pos d
      rw [e]
      exact d
    · have e : fdw T c (n + 1) i = fdw T c n (i + 1) := if_neg d
      rw [e] at h ⊢
      exact ih (i + 1) (by omega)
theorem oth_e {T : Nat → Nat} {a b : Nat} (h : OTH T a b) : T (fdT T 61 a b) = 61 ∧ a ≤ fdT T 61 a b := by
  have h1 := h.1
  have h2 := (fdT_le (T := T) (c := 61) (b - a) a).1
  have h3 : a ≤ fdT T 61 a b := h2
  refine ⟨fdw_hit (b - a) a ?_, h3⟩
  have h4 : fdw T 61 (b - a) a = fdT T 61 a b := rfl
  omega
theorem oth_y {T : Nat → Nat} {a b k : Nat} (h : OTH T a b) (hb : b ≤ a + k) (hk : ∀ i, i < k → ¬ T (a + i) = 61) : False := by
  obtain ⟨e1, e2⟩ := oth_e h
  have e3 := h.1
  refine hk (fdT T 61 a b - a) (by omega) ?_
  rw [show a + (fdT T 61 a b - a) = fdT T 61 a b by omega]
  exact e1
theorem oth_x {T : Nat → Nat} {a b k p9 : Nat} (h : OTH T a b) (hk : ∀ i, i < k → ¬ T (a + i) = 61) (hp : p9 < k) (hn : ¬ OKO (T (a + p9))) : False := by
  obtain ⟨e1, e2⟩ := oth_e h
  rcases Nat.lt_or_ge (fdT T 61 a b) (a + k) with q | q
  · refine hk (fdT T 61 a b - a) (by omega) ?_
    rw [show a + (fdT T 61 a b - a) = fdT T 61 a b by omega]
    exact e1
  · exact hn (h.2.2 (a + p9) (by omega) (by omega))
theorem no58 {x : Nat} (h : x = 58 ∨ x = 47) : ¬ OKO x := by
  unfold OKO SML
  omega
theorem lit61 {T : Nat → Nat} {a k : Nat} {l : List Nat} (h : LIT T a l) (hl : l.length = k) (hd : ∀ i, i < k → ¬ l.getD i 0 = 61) : ∀ i, i < k → ¬ T (a + i) = 61 := fun i hi q => hd i hi ((h i (by omega)).symm.trans q)
theorem oth_no {T : Nat → Nat} {a b g : Nat} (h : OTH T a b) : meW T a b g = none := by
  refine me_no (fun c => ?_) (fun c => ?_) (fun c => ?_) (fun c => ?_) (fun c => ?_) (fun c => ?_)
  · exact oth_y (k := 3) h (Nat.le_of_eq c.1.symm) (lit61 c.2 rfl (by decide))
  · exact oth_x (k := 8) (p9 := 7) h (lit61 c.2 rfl (by decide)) (by omega) (no58 (Or.inl (c.2 7 (by decide))))
  · exact oth_x (k := 7) (p9 := 6) h (lit61 c.2 rfl (by decide)) (by omega) (no58 (Or.inl (c.2 6 (by decide))))
  · exact oth_x (k := 4) (p9 := 3) h (lit61 c.2 rfl (by decide)) (by omega) (no58 (Or.inl (c.2 3 (by decide))))
  · have h0 : T (a + 0) = 97 := c.1.2 0 (by decide)
    rcases c.2 with q | q
    · exact oth_y (k := 1) h (by omega) (lit61 c.1.2 rfl (by decide))
    · refine oth_x (k := 2) (p9 := 1) h (fun i hi q2 => ?_) (by omega) (no58 q)
      rcases (show i = 0 ∨ i = 1 by omega) with rfl | rfl
      · omega
      · omega
  · have h0 : T (a + 0) = 109 := c.1.2 0 (by decide)
    have h1 : T (a + 1) = 120 := c.1.2 1 (by decide)
    rcases c.2 with q | q
    · exact oth_y (k := 2) h (by omega) (lit61 c.1.2 rfl (by decide))
    · refine oth_x (k := 3) (p9 := 2) h (fun i hi q2 => ?_) (by omega) (no58 q)
      rcases (show i = 0 ∨ i = 1 ∨ i = 2 by omega) with rfl | rfl | rfl
      · omega
      · omega
      · omega
theorem aft_i {T : Nat → Nat} {b k g h : Nat} {Q : Prop} {X : Option TRA} (hq : Q) (hX : @ite (Option TRA) (AFT T h b) (Classical.propDecidable _) (hoW T k g h b) none = X) : @ite (Option TRA) (Q ∧ AFT T h b) (Classical.propDecidable _) (hoW T k g h b) none = X := by
  by_cases c : AFT T h b
  · rw [if_pos ⟨hq, c⟩]
    rw [if_pos c] at hX
    exact hX
  · rw [if_neg (fun q => c q.2)]
    rw [if_neg c] at hX
    exact hX
theorem me_kd {T : Nat → Nat} {w b g : Nat} : meW T w b g = tnT T b (kdW T w b g).1 (kdW T w b g).2.1 (kdW T w b g).2.2 := by
  unfold meW kdW
  by_cases c1 : ISW T w b 3 [97, 108, 108]
  · rw [if_pos c1, if_pos c1]
    exact (tn_0 (k := 1) (by omega) (by unfold NETK; omega) (by unfold HSTK; omega)).symm
  · rw [if_neg c1, if_neg c1]
    by_cases c2 : BGW T w b 8 [105, 110, 99, 108, 117, 100, 101, 58]
    · rw [if_pos c2, if_pos c2]
      exact (tn_7 (k := 2) (Or.inl rfl)).symm
    · rw [if_neg c2, if_neg c2]
      by_cases c3 : BGW T w b 7 [101, 120, 105, 115, 116, 115, 58]
      · rw [if_pos c3, if_pos c3]
        exact (tn_7 (k := 6) (Or.inr (Or.inl rfl))).symm
      · rw [if_neg c3, if_neg c3]
        by_cases c4 : BGW T w b 4 [105, 112, 52, 58]
        · rw [if_pos c4, if_pos c4]
          exact (tn_n (k := 5) (Or.inl rfl)).symm
        · rw [if_neg c4, if_neg c4]
          by_cases c5 : BGW T w b 2 [109, 120]
          · have h0 : T (w + 0) = 109 := c5.2 0 (by decide)
            have h1 : T (w + 1) = 120 := c5.2 1 (by decide)
            have hb := c5.1
            rw [if_pos c5, if_neg (fun q => by have h9 : T (w + 0) = 97 := q.1.2 0 (by decide); omega)]
            by_cases c6 : BGW T w b 3 [109, 120, 58]
            · have h2 : T (w + 2) = 58 := c6.2 2 (by decide)
              have hb3 := c6.1
              rw [if_pos c6]
              exact (if_pos ⟨c5, Or.inr (Or.inl h2)⟩).trans (ho_c (Or.inr rfl) (by omega) h2)
            · rw [if_neg c6]
              refine aft_i c5 (ho_n (Or.inr rfl) (by omega) (by omega) (fun q => c6 ⟨by omega, fun i hi => ?_⟩) ?_)
              · have hi3 : i < 3 := hi
                rcases (show i = 0 ∨ i = 1 ∨ i = 2 by omega) with rfl | rfl | rfl
                · exact h0
                · exact h1
                · exact q.2
              · rw [show w + 2 - 1 = w + 1 by omega]
                omega
          · rw [if_neg c5]
            by_cases c7 : BGW T w b 1 [97]
            · have h0 : T (w + 0) = 97 := c7.2 0 (by decide)
              have hb := c7.1
              rw [if_pos c7]
              by_cases c8 : BGW T w b 2 [97, 58]
              · have h2 : T (w + 1) = 58 := c8.2 1 (by decide)
                have hb3 := c8.1
                rw [if_pos c8]
                exact (if_pos ⟨c7, Or.inr (Or.inl h2)⟩).trans (ho_c (Or.inl rfl) (by omega) h2)
              · rw [if_neg c8, if_neg (fun q : BGW T w b 2 [109, 120] ∧ AFT T (w + 2) b => c5 q.1)]
                refine aft_i c7 (ho_n (Or.inl rfl) (by omega) (by omega) (fun q => c8 ⟨by omega, fun i hi => ?_⟩) ?_)
                · have hi3 : i < 2 := hi
                  rcases (show i = 0 ∨ i = 1 by omega) with rfl | rfl
                  · exact h0
                  · exact q.2
                · rw [show w + 1 - 1 = w + 0 by omega]
                  omega
            · rw [if_neg c7, if_neg (fun q => c7 q.1), if_neg (fun q => c5 q.1)]
              exact (if_pos rfl).symm
theorem rm_tr {T : Nat → Nat} {a b : Nat} : rmT T a b = trT T a b := by
  unfold rmT trT
  by_cases cR : BGW T a b 9 [114, 101, 100, 105, 114, 101, 99, 116, 61]
  · have h0 : T (a + 0) = 114 := cR.2 0 (by decide)
    have h1 : T a = 114 := h0
    have hS : ¬ SGN (T a) := by
      unfold SGN
      omega
    have hw : wdS T a = a := if_neg hS
    have hk : kdT T a b = (7, 43, a + 9) := if_pos cR
    have hm : meW T (wdS T a) b (sgS T a) = none := by
      rw [hw]
      refine me_no (fun c => ?_) (fun c => ?_) (fun c => ?_) (fun c => ?_) (fun c => ?_) (fun c => ?_)
      · have h9 : T (a + 0) = 97 := c.2 0 (by decide)
        omega
      · have h9 : T (a + 0) = 105 := c.2 0 (by decide)
        omega
      · have h9 : T (a + 0) = 101 := c.2 0 (by decide)
        omega
      · have h9 : T (a + 0) = 105 := c.2 0 (by decide)
        omega
      · have h9 : T (a + 0) = 97 := c.1.2 0 (by decide)
        omega
      · have h9 : T (a + 0) = 109 := c.1.2 0 (by decide)
        omega
    rw [hm, hk]
    show @ite (Option TRA) (SGN (T a)) (Classical.propDecidable _) none (tlW T a b) = _
    rw [if_neg hS]
    unfold tlW
    rw [if_pos cR]
    exact (tn_7 (k := 7) (Or.inr (Or.inr rfl))).symm
  · by_cases cO : OTH T a b
    · have h1 := cO.2.1
      have hS : ¬ SGN (T a) := by
        unfold SGN
        unfold SML at h1
        omega
      have hw : wdS T a = a := if_neg hS
      have hk : kdT T a b = (8, 43, b) := (if_neg cR).trans (if_pos cO)
      rw [hw, oth_no cO, hk]
      show @ite (Option TRA) (SGN (T a)) (Classical.propDecidable _) none (tlW T a b) = _
      rw [if_neg hS]
      unfold tlW
      rw [if_neg cR, if_pos cO]
      exact (tn_0 (k := 8) (by omega) (by unfold NETK; omega) (by unfold HSTK; omega)).symm
    · have hk : kdT T a b = kdW T (wdS T a) b (sgS T a) := (if_neg cR).trans (if_neg cO)
      rw [hk, ← me_kd]
      cases meW T (wdS T a) b (sgS T a) with
      | some t => rfl
      | none =>
        show @ite (Option TRA) (SGN (T a)) (Classical.propDecidable _) none (tlW T a b) = none
        by_cases c : SGN (T a)
        · rw [if_pos c]
        · rw [if_neg c]
          unfold tlW
          rw [if_neg cR, if_neg cO]
set_option maxHeartbeats 4000000 in
set_option maxRecDepth 100000 in
theorem s_X15_readHost_x (l : Launch) (dC : Nat → ClassId) (dI : Nat → Nat → Nat) (cs : Nat → ClassId) (ty : TyM) (gm : Nat → Nat → Nat) (L : List Nat) (sz : Nat) (F : Nat → va_E) (h0 : Nat) (ρ : Nat) (ta : Nat) (ou : Nat) (so : Nat) (ad : Nat) (na : Nat) (va : Nat) (lc : Nat) (dm : Nat) (tg : Nat) (pe : Nat) (ml : Nat) (bg : Nat) (co : Nat) (sp : Nat) (nb0 : Nat) (nb1 : Nat) (nb2 : Nat) (pl : Nat) (se : Nat) (ke : Nat) (wi : Nat) (hs : Nat) (mo : Nat) (po : Nat) (nu : Nat) (pr : Nat) (sq : Nat) (xa : Nat) (sa : Nat) (n64 : Nat) (m64 : Nat) (ex : Nat) (wh : Nat) (sd : Nat) (tk : Nat) (hd : Nat) (ak : Nat) (ho : Nat) (ot : Nat) (sx : Nat) (s0 : Nat) (s1 : Nat) (s2 : Nat) (nf : Nat) (bd : Nat) (mm : Nat) (zo : Nat) (fm : Nat) (sn : Nat) (hg : Nat) (gc : Nat) (gv : Nat) (ze : Nat) (zt : Nat) (v14 : Int32) (v15 : Int32) (v17 : Int32) (v18 : Int32) (v19 : Int32) (v20 : Int32) (v21 : Int32) (v22 : Int32) (v33 : Int32) (v52 : Int32) (v53 : Int32) (v54 : Int32) (g1 : Nat) (μ : Nat) (fv : Nat → Int32) (z : Nat) (a : Nat) (tt : Nat) (x4 : Int32) (hW : WTm ty gm L) (hL_h0 : h0 ∈ L) (hT_h0 : ty h0 = (15, ρ, [ta, ou, so, ad, na, va, lc, dm, tg, pe, ml, bg, co, sp, nb0, nb1, nb2, pl, se, ke, wi, hs, mo, po, nu, pr, sq, xa, sa, n64, m64, ex, wh, sd, tk, hd, ak, ho, ot, sx, s0, s1, s2, nf, bd, mm, zo, fm, sn, hg, gc, gv, ze, zt])) (hL_g1 : g1 ∈ L) (hT_g1 : ty g1 = (17, μ, [700])) (hF0 : F h0 = .inr (15, (.ref ta) :: (.int (nI zt)) :: (.int (nI zo)) :: (.int (nI ze)) :: (.ref ou) :: (.ref so) :: (.ref ad) :: (.ref na) :: (.ref va) :: (.ref lc) :: (.ref dm) :: (.int (nI fm)) :: (.int (nI sn)) :: (.ref tg) :: (.int v14) :: (.int v15) :: (.ref pe) :: (.int v17) :: (.int v18) :: (.int v19) :: (.int v20) :: (.int v21) :: (.int v22) :: (.ref ml) :: (.ref bg) :: (.ref co) :: (.ref sp) :: (.ref nb0) :: (.ref nb1) :: (.ref nb2) :: (.int (nI nf)) :: (.int (nI bd)) :: (.int (nI mm)) :: (.int v33) :: (.ref pl) :: (.ref se) :: (.ref ke) :: (.ref wi) :: (.ref hs) :: (.ref mo) :: (.ref po) :: (.ref nu) :: (.ref pr) :: (.ref sq) :: (.ref xa) :: (.ref sa) :: (.ref n64) :: (.ref m64) :: (.ref ex) :: (.ref wh) :: (.ref sd) :: (.ref tk) :: (.int v52) :: (.int v53) :: (.int v54) :: (.ref hd) :: (.ref ak) :: (.ref ho) :: (.ref ot) :: [])) (hzo : zo ≤ 6000) (hze : ze ≤ 40) (h33 : ((v33 = 0 ∧ nf = 0) ∨ (v33 = 1 ∧ 1 ≤ nf))) (h54 : (v54 = 0 ∨ v54 = 1)) (hgf : (hg = 0 ∨ (v14 = nI gc ∧ v15 = nI gv))) (hFg : F g1 = .inl (cs 17, 700, .inl fv)) (hmu : ρ + 100 ≤ μ) (htz : tt ≤ z) (hzn : z ≤ 700) (hat : a ≤ tt) (hm0 : v17 = 8) (hm1 : v19 = (-1)) (hm2 : v21 = 32) : Met l yX15_readHost (.code yX15_readHost cX15_readHost 6 none :: tb) ({ frames := 2, cells := 0, slots := 0, locals := 50 }) (va_Pc [.ref h0, .ref g1, .int (nI a), .int (nI tt), .int x4] (PTm (dC, dI) cs ty gm L F sz)) (va_Qv (fun _ : Unit => True) (fun _ T9 => ∃ F2 : Nat → va_E, ∃ u17 : Int32, ∃ u19 : Int32, ∃ u20 : Int32, ∃ u21 : Int32, QTm (dC, dI) cs ty gm L [ρ] F F2 (va_A (va_pl L F) sz) T9 ∧ F2 h0 = .inr (15, (.ref ta) :: (.int (nI zt)) :: (.int (nI zo)) :: (.int (nI ze)) :: (.ref ou) :: (.ref so) :: (.ref ad) :: (.ref na) :: (.ref va) :: (.ref lc) :: (.ref dm) :: (.int (nI fm)) :: (.int (nI sn)) :: (.ref tg) :: (.int v14) :: (.int v15) :: (.ref pe) :: (.int u17) :: (.int v18) :: (.int u19) :: (.int u20) :: (.int u21) :: (.int v22) :: (.ref ml) :: (.ref bg) :: (.ref co) :: (.ref sp) :: (.ref nb0) :: (.ref nb1) :: (.ref nb2) :: (.int (nI nf)) :: (.int (nI bd)) :: (.int (nI mm)) :: (.int v33) :: (.ref pl) :: (.ref se) :: (.ref ke) :: (.ref wi) :: (.ref hs) :: (.ref mo) :: (.ref po) :: (.ref nu) :: (.ref pr) :: (.ref sq) :: (.ref xa) :: (.ref sa) :: (.ref n64) :: (.ref m64) :: (.ref ex) :: (.ref wh) :: (.ref sd) :: (.ref tk) :: (.int v52) :: (.int v53) :: (.int v54) :: (.ref hd) :: (.ref ak) :: (.ref ho) :: (.ref ot) :: []) ∧ RHP (TC fv z) a tt x4 u17 u19 u20 u21) (va_A (va_pl L F) sz)) 0 0 (va_A (va_pl L F) sz) := by
  refine Met.ofW (cc := cX15_readHost) (maxL := 6) (ret := none) (by decide) rfl ?_
  intro p e s m args below meth c s₁ B hml hv
  obtain ⟨rfl, hsz, hP, hK, hD0, hE, hO⟩ := hv
  have hx := B.exec
  have hb := B.bytes
  have hr := B.returns
  have hts : ∀ w ∈ tb, w.before _ s = true := fun w h => atoms_spec (ws := .code yX15_readHost cX15_readHost 6 none :: tb) B.pre w (List.mem_cons_of_mem _ h)
  have hown : s.vm.findClass RX15 = some m.cls := findClass_of_methodNamed B.named
  have hlocks := B.notSynchronized
  subst hsz
  have hD := hD0.self (sz := s.heap.size)
  generalize hAe : va_A (va_pl L F) s.heap.size = A at hD ⊢
  have hA : ∀ q : Nat, s.heap.size ≤ q → A q := fun q h => by rw [← hAe]; exact Or.inr h
  have hS : va_S A s.heap s.heap [] := va_S.rf
  have hR : FR ty [ρ] F F := FR.refl
  have hl := lv_entry ([.ref h0, .ref g1, .int (nI a), .int (nI tt), .int x4]) (n := 6) (Nat.le_of_ble_eq_true rfl)
  rw [lg_entry_eq]
  generalize (lg_sl ([.ref h0, .ref g1, .int (nI a), .int (nI tt), .int x4]) ++ List.replicate (6 - (lg_sl ([.ref h0, .ref g1, .int (nI a), .int (nI tt), .int x4])).length) Slot.unset).toArray = ls at hl ⊢
  have hl : lv_has ls 6 [(0, .ref h0), (1, .ref g1), (2, .int (nI a)), (3, .int (nI tt)), (4, .int x4)] := hl
  obtain ⟨hq_1, hq_2⟩ := hW.octs hL_g1 hT_g1
  refine lv_aload_n hx hb dX15_readHost_0 rfl (lv_at hl 1 rfl) ?_
  refine lv_iload_n hx hb dX15_readHost_1 rfl (lv_at hl 2 rfl) ?_
  refine lv_iload_n hx hb dX15_readHost_2 rfl (lv_at hl 3 rfl) ?_
  have hFc := pg_free hD hS hA
  refine va_calli (va_runS (As := [.ref g1, .int (nI a), .int (nI tt)]) (rest := []) ⟨hx, hb, hml, hown, hts⟩ (s_X15_slashOf_x l dC dI cs ty gm L s.heap.size F g1 μ 700 z a tt fv hW hL_g1 hT_g1 hFg (by first | omega | assumption | exact Or.inl rfl) (by first | omega | assumption | exact Or.inl rfl) (by first | omega | assumption | exact Or.inl rfl) (by first | omega | assumption | exact Or.inl rfl)) ⟨callB_of 3 hts (gi kt_746) rfl rfl rfl (hts _ kt_669) (hts _ kt_747) (by decide +kernel) ⟨Nat.le_of_ble_eq_true rfl, Nat.le_of_ble_eq_true rfl⟩, (hts _ kt_748)⟩ ⟨fun a U g mk q => ⟨q.1, PTm.calling q.2⟩, fun U hU hWm => ⟨rfl, PTm.mk hU hWm hP hK hD hE hO⟩⟩ rfl rfl hl.1 rfl (lv_room (Nat.le_of_ble_eq_true rfl)) dX15_readHost_3 ⟨by show _ + 0 ≤ 0; omega, by show _ + 0 ≤ 0; omega⟩) hS (fun q _ h => hFc q h) hFc (fun r_3 u t H1 locs ht hvm hw hB hz1 hk1 hS => ?_)
  obtain ⟨F_4, hB1⟩ := hB
  obtain rfl : F = F_4 := (funext (fun a => hB1.2.2.2 a List.not_mem_nil)).symm
  obtain ⟨hP, hD, hO, hR⟩ := QTm.back hB1 ht hFc hR (fun q h => absurd h List.not_mem_nil)
  generalize H1 = H at hP hS ⊢
  have hw : r_3 = nI (fdT (TC fv z) 47 a tt) := hw
  subst hw
  have hfl : a ≤ (fdT (TC fv z) 47 a tt) ∧ (fdT (TC fv z) 47 a tt) ≤ a + (tt - a) := fdT_le (tt - a) a
  refine lv_istore (lv' := [(5, .int (nI (fdT (TC fv z) 47 a tt))), (0, .ref h0), (1, .ref g1), (2, .int (nI a)), (3, .int (nI tt)), (4, .int x4)]) hx hb dX15_readHost_6 hl (by decide) rfl (fun ls hl => ?_)
  have hF_7 : F g1 = .inl (cs 17, 700, .inl fv) := (hR g1 (by rw [hT_g1]; simp only [List.mem_cons, List.not_mem_nil, or_false]; omega)).symm.trans hFg
  refine W.widen (k := 0) (n := 0) (by omega) (by omega) ?_
  refine pl_cutm (σ := Int32) A (dC, dI) cs ty gm L [ρ] F 27 6 (fun q21 => [(5, .int (nI (fdT (TC fv z) 47 a tt))), (0, .ref h0), (1, .ref g1), (2, .int (nI a)), (3, .int (nI tt)), (4, .int x4)]) (fun q21 => []) (fun q21 FF => WDT (TC fv z) tt (fdT (TC fv z) 47 a tt) q21 ∧ FF h0 = .inr (15, (.ref ta) :: (.int (nI zt)) :: (.int (nI zo)) :: (.int (nI ze)) :: (.ref ou) :: (.ref so) :: (.ref ad) :: (.ref na) :: (.ref va) :: (.ref lc) :: (.ref dm) :: (.int (nI fm)) :: (.int (nI sn)) :: (.ref tg) :: (.int v14) :: (.int v15) :: (.ref pe) :: (.int v17) :: (.int v18) :: (.int v19) :: (.int v20) :: (.int q21) :: (.int v22) :: (.ref ml) :: (.ref bg) :: (.ref co) :: (.ref sp) :: (.ref nb0) :: (.ref nb1) :: (.ref nb2) :: (.int (nI nf)) :: (.int (nI bd)) :: (.int (nI mm)) :: (.int v33) :: (.ref pl) :: (.ref se) :: (.ref ke) :: (.ref wi) :: (.ref hs) :: (.ref mo) :: (.ref po) :: (.ref nu) :: (.ref pr) :: (.ref sq) :: (.ref xa) :: (.ref sa) :: (.ref n64) :: (.ref m64) :: (.ref ex) :: (.ref wh) :: (.ref sd) :: (.ref tk) :: (.int v52) :: (.int v53) :: (.int v54) :: (.ref hd) :: (.ref ak) :: (.ref ho) :: (.ref ot) :: [])) ?_ (fun jn_5 => ?_)
  ·
    rintro q21 F_6 hv_8 hO hR H locs hP hD hS ls hl
    have hl : lv_has ls 6 [(5, .int (nI (fdT (TC fv z) 47 a tt))), (0, .ref h0), (1, .ref g1), (2, .int (nI a)), (3, .int (nI tt)), (4, .int x4)] := hl
    have hv_8 : WDT (TC fv z) tt (fdT (TC fv z) 47 a tt) q21 ∧ F_6 h0 = .inr (15, (.ref ta) :: (.int (nI zt)) :: (.int (nI zo)) :: (.int (nI ze)) :: (.ref ou) :: (.ref so) :: (.ref ad) :: (.ref na) :: (.ref va) :: (.ref lc) :: (.ref dm) :: (.int (nI fm)) :: (.int (nI sn)) :: (.ref tg) :: (.int v14) :: (.int v15) :: (.ref pe) :: (.int v17) :: (.int v18) :: (.int v19) :: (.int v20) :: (.int q21) :: (.int v22) :: (.ref ml) :: (.ref bg) :: (.ref co) :: (.ref sp) :: (.ref nb0) :: (.ref nb1) :: (.ref nb2) :: (.int (nI nf)) :: (.int (nI bd)) :: (.int (nI mm)) :: (.int v33) :: (.ref pl) :: (.ref se) :: (.ref ke) :: (.ref wi) :: (.ref hs) :: (.ref mo) :: (.ref po) :: (.ref nu) :: (.ref pr) :: (.ref sq) :: (.ref xa) :: (.ref sa) :: (.ref n64) :: (.ref m64) :: (.ref ex) :: (.ref wh) :: (.ref sd) :: (.ref tk) :: (.int v52) :: (.int v53) :: (.int v54) :: (.ref hd) :: (.ref ak) :: (.ref ho) :: (.ref ot) :: []) := hv_8
    refine W.eq (g2 := F0 m 27 ls []) rfl ?_
    have hF_9 : F_6 g1 = .inl (cs 17, 700, .inl fv) := (hR g1 (by rw [hT_g1]; simp only [List.mem_cons, List.not_mem_nil, or_false]; omega)).trans hF_7
    obtain ⟨hwd, hwh⟩ := hv_8
    refine lv_aload_n hx hb dX15_readHost_27 rfl (lv_at hl 1 rfl) ?_
    obtain ⟨hq_32, hq_33, hq_34, hq_35, hq_36, hgO, hgA, hgB, hq_37⟩ := hW.sc hL_h0 hT_h0
    refine pg_get (ci := 15) (v := .int q21) (C := RX15) (T := TX15) (N := 59) hx hb hts it_15 hown hK hP hL_h0 hwh rfl 21 (by decide) (hts _ kt_749) (fun _ h9 => h9) rfl dX15_readHost_28 ?_
    refine lv_if_ge (tgt := 35) hx hb dX15_readHost_31 (by decide) (fun c_38 => ?_) (fun c_38 => ?_)
    ·
      refine lv_iload hx hb dX15_readHost_35 (lv_at hl 0 rfl) ?_
      refine lv_iload_n hx hb dX15_readHost_37 rfl (lv_at hl 3 rfl) ?_
      refine lv_icmp_le (tgt := 79) hx hb dX15_readHost_38 (by decide) (fun c_39 => ?_) (fun c_39 => ?_)
      ·
        have hi_40 : (fdT (TC fv z) 47 a tt) ≤ a := (nI_leI (a := (fdT (TC fv z) 47 a tt)) (b := a) (by omega) (by omega)).mp c_39
        refine lv_aload_n hx hb dX15_readHost_79 rfl (lv_at hl 1 rfl) ?_
        refine lv_iload hx hb dX15_readHost_80 (lv_at hl 5 rfl) ?_
        refine pg_put (ci := 15) (v := .int x4) (ty := .int) (C := RX15) (T := TX15) (N := 59) hx hb hts it_15 tyX15 tyX15_ok nmX15 hown hK hP hD hS hL_h0 hwh rfl 17 (by decide) (hts _ kt_750) (fun _ h9 => h9) rfl (by decide +kernel) (rfl) (rfl) (Nat.le_of_ble_eq_true rfl) dX15_readHost_82 (fun H locs hP hD hS => ?_)
        obtain ⟨F_41, he_42, hP, hD, hO, hR⟩ : ∃ G, G = va_up F_6 h0 (.inr (15, (.ref ta) :: (.int (nI zt)) :: (.int (nI zo)) :: (.int (nI ze)) :: (.ref ou) :: (.ref so) :: (.ref ad) :: (.ref na) :: (.ref va) :: (.ref lc) :: (.ref dm) :: (.int (nI fm)) :: (.int (nI sn)) :: (.ref tg) :: (.int v14) :: (.int v15) :: (.ref pe) :: (.int x4) :: (.int v18) :: (.int v19) :: (.int v20) :: (.int q21) :: (.int v22) :: (.ref ml) :: (.ref bg) :: (.ref co) :: (.ref sp) :: (.ref nb0) :: (.ref nb1) :: (.ref nb2) :: (.int (nI nf)) :: (.int (nI bd)) :: (.int (nI mm)) :: (.int v33) :: (.ref pl) :: (.ref se) :: (.ref ke) :: (.ref wi) :: (.ref hs) :: (.ref mo) :: (.ref po) :: (.ref nu) :: (.ref pr) :: (.ref sq) :: (.ref xa) :: (.ref sa) :: (.ref n64) :: (.ref m64) :: (.ref ex) :: (.ref wh) :: (.ref sd) :: (.ref tk) :: (.int v52) :: (.int v53) :: (.int v54) :: (.ref hd) :: (.ref ak) :: (.ref ho) :: (.ref ot) :: [])) ∧ va_P (dC, dI) vwCl (va_pl L G) H ∧ va_D A (va_pl L G) ∧ OKm cs ty gm L G ∧ FR ty [ρ] F G := ⟨_, rfl, hP, hD, hO.up (shm.mod hT_h0 ⟨v14, v15, x4, v18, v19, v20, q21, v22, v33, v52, v53, v54, rfl, (by first | omega | assumption | exact Or.inl rfl | exact Or.inr rfl), (by first | omega | assumption | exact Or.inl rfl | exact Or.inr rfl), (by first | omega | assumption | exact Or.inl rfl | exact Or.inr rfl), (by first | omega | assumption | exact Or.inl rfl | exact Or.inr rfl), (by first | omega | assumption | exact Or.inl rfl | exact Or.inr rfl)⟩), hR.up hT_h0 (by simp)⟩
        have hF_43 : F_41 h0 = .inr (15, (.ref ta) :: (.int (nI zt)) :: (.int (nI zo)) :: (.int (nI ze)) :: (.ref ou) :: (.ref so) :: (.ref ad) :: (.ref na) :: (.ref va) :: (.ref lc) :: (.ref dm) :: (.int (nI fm)) :: (.int (nI sn)) :: (.ref tg) :: (.int v14) :: (.int v15) :: (.ref pe) :: (.int x4) :: (.int v18) :: (.int v19) :: (.int v20) :: (.int q21) :: (.int v22) :: (.ref ml) :: (.ref bg) :: (.ref co) :: (.ref sp) :: (.ref nb0) :: (.ref nb1) :: (.ref nb2) :: (.int (nI nf)) :: (.int (nI bd)) :: (.int (nI mm)) :: (.int v33) :: (.ref pl) :: (.ref se) :: (.ref ke) :: (.ref wi) :: (.ref hs) :: (.ref mo) :: (.ref po) :: (.ref nu) :: (.ref pr) :: (.ref sq) :: (.ref xa) :: (.ref sa) :: (.ref n64) :: (.ref m64) :: (.ref ex) :: (.ref wh) :: (.ref sd) :: (.ref tk) :: (.int v52) :: (.int v53) :: (.int v54) :: (.ref hd) :: (.ref ak) :: (.ref ho) :: (.ref ot) :: []) := by rw [he_42]; exact up_self
        have hF_44 : F_41 g1 = .inl (cs 17, 700, .inl fv) := by rw [he_42, up_ne (ne_ty hT_g1 hT_h0 (by simp))]; exact hF_9
        refine W.widen (k := 0) (n := 0) (by omega) (by omega) ?_
        exact W.vret hx hb hr (fun t ht hWm => ⟨⟨(), rfl, trivial, ⟨F_41, x4, v19, v20, q21, QTm.mk ht hP hD hO hR, hF_43, (Or.inr ⟨rfl, ⟨(by obtain ⟨w, h1, h2, -⟩ := (wdt_y hwd c_38); exact ⟨w, h1, h2⟩), fun q => by omega⟩, (wdt_y hwd c_38), Or.inl ⟨by omega, hm1⟩⟩)⟩⟩, hS.F ht⟩) hS.2.2 dX15_readHost_85
      ·
        have hi_45 : a < (fdT (TC fv z) 47 a tt) := Nat.not_le.mp (fun q => c_39 ((nI_leI (a := (fdT (TC fv z) 47 a tt)) (b := a) (by omega) (by omega)).mpr q))
        refine lv_aload_n hx hb dX15_readHost_41 rfl (lv_at hl 1 rfl) ?_
        refine lv_iload_n hx hb dX15_readHost_42 rfl (lv_at hl 3 rfl) ?_
        refine lv_iconst (v := 1) hx hb dX15_readHost_43 (by decide) ?_
        refine lv_iadd hx hb dX15_readHost_44 ?_
        refine lv_topi (fun x_46 ex_46 => ?_)
        obtain rfl : x_46 = (nI (a + 1)) := ex_46.trans (nI_add a 1)
        refine pg_put (ci := 15) (v := .int (nI (a + 1))) (ty := .int) (C := RX15) (T := TX15) (N := 59) hx hb hts it_15 tyX15 tyX15_ok nmX15 hown hK hP hD hS hL_h0 hwh rfl 19 (by decide) (hts _ kt_751) (fun _ h9 => h9) rfl (by decide +kernel) (rfl) (rfl) (Nat.le_of_ble_eq_true rfl) dX15_readHost_45 (fun H locs hP hD hS => ?_)
        obtain ⟨F_47, he_48, hP, hD, hO, hR⟩ : ∃ G, G = va_up F_6 h0 (.inr (15, (.ref ta) :: (.int (nI zt)) :: (.int (nI zo)) :: (.int (nI ze)) :: (.ref ou) :: (.ref so) :: (.ref ad) :: (.ref na) :: (.ref va) :: (.ref lc) :: (.ref dm) :: (.int (nI fm)) :: (.int (nI sn)) :: (.ref tg) :: (.int v14) :: (.int v15) :: (.ref pe) :: (.int v17) :: (.int v18) :: (.int (nI (a + 1))) :: (.int v20) :: (.int q21) :: (.int v22) :: (.ref ml) :: (.ref bg) :: (.ref co) :: (.ref sp) :: (.ref nb0) :: (.ref nb1) :: (.ref nb2) :: (.int (nI nf)) :: (.int (nI bd)) :: (.int (nI mm)) :: (.int v33) :: (.ref pl) :: (.ref se) :: (.ref ke) :: (.ref wi) :: (.ref hs) :: (.ref mo) :: (.ref po) :: (.ref nu) :: (.ref pr) :: (.ref sq) :: (.ref xa) :: (.ref sa) :: (.ref n64) :: (.ref m64) :: (.ref ex) :: (.ref wh) :: (.ref sd) :: (.ref tk) :: (.int v52) :: (.int v53) :: (.int v54) :: (.ref hd) :: (.ref ak) :: (.ref ho) :: (.ref ot) :: [])) ∧ va_P (dC, dI) vwCl (va_pl L G) H ∧ va_D A (va_pl L G) ∧ OKm cs ty gm L G ∧ FR ty [ρ] F G := ⟨_, rfl, hP, hD, hO.up (shm.mod hT_h0 ⟨v14, v15, v17, v18, (nI (a + 1)), v20, q21, v22, v33, v52, v53, v54, rfl, (by first | omega | assumption | exact Or.inl rfl | exact Or.inr rfl), (by first | omega | assumption | exact Or.inl rfl | exact Or.inr rfl), (by first | omega | assumption | exact Or.inl rfl | exact Or.inr rfl), (by first | omega | assumption | exact Or.inl rfl | exact Or.inr rfl), (by first | omega | assumption | exact Or.inl rfl | exact Or.inr rfl)⟩), hR.up hT_h0 (by simp)⟩
        have hF_49 : F_47 h0 = .inr (15, (.ref ta) :: (.int (nI zt)) :: (.int (nI zo)) :: (.int (nI ze)) :: (.ref ou) :: (.ref so) :: (.ref ad) :: (.ref na) :: (.ref va) :: (.ref lc) :: (.ref dm) :: (.int (nI fm)) :: (.int (nI sn)) :: (.ref tg) :: (.int v14) :: (.int v15) :: (.ref pe) :: (.int v17) :: (.int v18) :: (.int (nI (a + 1))) :: (.int v20) :: (.int q21) :: (.int v22) :: (.ref ml) :: (.ref bg) :: (.ref co) :: (.ref sp) :: (.ref nb0) :: (.ref nb1) :: (.ref nb2) :: (.int (nI nf)) :: (.int (nI bd)) :: (.int (nI mm)) :: (.int v33) :: (.ref pl) :: (.ref se) :: (.ref ke) :: (.ref wi) :: (.ref hs) :: (.ref mo) :: (.ref po) :: (.ref nu) :: (.ref pr) :: (.ref sq) :: (.ref xa) :: (.ref sa) :: (.ref n64) :: (.ref m64) :: (.ref ex) :: (.ref wh) :: (.ref sd) :: (.ref tk) :: (.int v52) :: (.int v53) :: (.int v54) :: (.ref hd) :: (.ref ak) :: (.ref ho) :: (.ref ot) :: []) := by rw [he_48]; exact up_self
        have hF_50 : F_47 g1 = .inl (cs 17, 700, .inl fv) := by rw [he_48, up_ne (ne_ty hT_g1 hT_h0 (by simp))]; exact hF_9
        refine lv_aload_n hx hb dX15_readHost_48 rfl (lv_at hl 1 rfl) ?_
        refine lv_iload hx hb dX15_readHost_49 (lv_at hl 0 rfl) ?_
        refine pg_put (ci := 15) (v := .int (nI (fdT (TC fv z) 47 a tt))) (ty := .int) (C := RX15) (T := TX15) (N := 59) hx hb hts it_15 tyX15 tyX15_ok nmX15 hown hK hP hD hS hL_h0 hF_49 rfl 20 (by decide) (hts _ kt_752) (fun _ h9 => h9) rfl (by decide +kernel) (rfl) (rfl) (Nat.le_of_ble_eq_true rfl) dX15_readHost_51 (fun H locs hP hD hS => ?_)
        obtain ⟨F_51, he_52, hP, hD, hO, hR⟩ : ∃ G, G = va_up F_47 h0 (.inr (15, (.ref ta) :: (.int (nI zt)) :: (.int (nI zo)) :: (.int (nI ze)) :: (.ref ou) :: (.ref so) :: (.ref ad) :: (.ref na) :: (.ref va) :: (.ref lc) :: (.ref dm) :: (.int (nI fm)) :: (.int (nI sn)) :: (.ref tg) :: (.int v14) :: (.int v15) :: (.ref pe) :: (.int v17) :: (.int v18) :: (.int (nI (a + 1))) :: (.int (nI (fdT (TC fv z) 47 a tt))) :: (.int q21) :: (.int v22) :: (.ref ml) :: (.ref bg) :: (.ref co) :: (.ref sp) :: (.ref nb0) :: (.ref nb1) :: (.ref nb2) :: (.int (nI nf)) :: (.int (nI bd)) :: (.int (nI mm)) :: (.int v33) :: (.ref pl) :: (.ref se) :: (.ref ke) :: (.ref wi) :: (.ref hs) :: (.ref mo) :: (.ref po) :: (.ref nu) :: (.ref pr) :: (.ref sq) :: (.ref xa) :: (.ref sa) :: (.ref n64) :: (.ref m64) :: (.ref ex) :: (.ref wh) :: (.ref sd) :: (.ref tk) :: (.int v52) :: (.int v53) :: (.int v54) :: (.ref hd) :: (.ref ak) :: (.ref ho) :: (.ref ot) :: [])) ∧ va_P (dC, dI) vwCl (va_pl L G) H ∧ va_D A (va_pl L G) ∧ OKm cs ty gm L G ∧ FR ty [ρ] F G := ⟨_, rfl, hP, hD, hO.up (shm.mod hT_h0 ⟨v14, v15, v17, v18, (nI (a + 1)), (nI (fdT (TC fv z) 47 a tt)), q21, v22, v33, v52, v53, v54, rfl, (by first | omega | assumption | exact Or.inl rfl | exact Or.inr rfl), (by first | omega | assumption | exact Or.inl rfl | exact Or.inr rfl), (by first | omega | assumption | exact Or.inl rfl | exact Or.inr rfl), (by first | omega | assumption | exact Or.inl rfl | exact Or.inr rfl), (by first | omega | assumption | exact Or.inl rfl | exact Or.inr rfl)⟩), hR.up hT_h0 (by simp)⟩
        have hF_53 : F_51 h0 = .inr (15, (.ref ta) :: (.int (nI zt)) :: (.int (nI zo)) :: (.int (nI ze)) :: (.ref ou) :: (.ref so) :: (.ref ad) :: (.ref na) :: (.ref va) :: (.ref lc) :: (.ref dm) :: (.int (nI fm)) :: (.int (nI sn)) :: (.ref tg) :: (.int v14) :: (.int v15) :: (.ref pe) :: (.int v17) :: (.int v18) :: (.int (nI (a + 1))) :: (.int (nI (fdT (TC fv z) 47 a tt))) :: (.int q21) :: (.int v22) :: (.ref ml) :: (.ref bg) :: (.ref co) :: (.ref sp) :: (.ref nb0) :: (.ref nb1) :: (.ref nb2) :: (.int (nI nf)) :: (.int (nI bd)) :: (.int (nI mm)) :: (.int v33) :: (.ref pl) :: (.ref se) :: (.ref ke) :: (.ref wi) :: (.ref hs) :: (.ref mo) :: (.ref po) :: (.ref nu) :: (.ref pr) :: (.ref sq) :: (.ref xa) :: (.ref sa) :: (.ref n64) :: (.ref m64) :: (.ref ex) :: (.ref wh) :: (.ref sd) :: (.ref tk) :: (.int v52) :: (.int v53) :: (.int v54) :: (.ref hd) :: (.ref ak) :: (.ref ho) :: (.ref ot) :: []) := by rw [he_52]; exact up_self
        have hF_54 : F_51 g1 = .inl (cs 17, 700, .inl fv) := by rw [he_52, up_ne (ne_ty hT_g1 hT_h0 (by simp))]; exact hF_50
        refine lv_aload_n hx hb dX15_readHost_54 rfl (lv_at hl 2 rfl) ?_
        refine lv_iload_n hx hb dX15_readHost_55 rfl (lv_at hl 3 rfl) ?_
        refine pg_bald hx hb hK hP hL_g1 1 hF_54 rfl (vp_in_nI (by omega) (by omega)) dX15_readHost_56 ?_
        refine lv_topi (fun x_55 ex_55 => ?_)
        obtain rfl : x_55 = fv a := ex_55.trans (congrArg fv (show ((nI a) : Int32).toNatClampNeg = a from nI_clamp (by omega)))
        refine lv_bipush (v := 58) hx hb dX15_readHost_57 (by decide) ?_
        refine lv_icmp_ne (tgt := 78) hx hb dX15_readHost_59 (by decide) (fun c_56 => ?_) (fun c_56 => ?_)
        ·
          refine W.widen (k := 0) (n := 0) (by omega) (by omega) ?_
          exact W.vret hx hb hr (fun t ht hWm => ⟨⟨(), rfl, trivial, ⟨F_51, v17, (nI (a + 1)), (nI (fdT (TC fv z) 47 a tt)), q21, QTm.mk ht hP hD hO hR, hF_53, (Or.inl ⟨hm0, fun q => c_56 ((tc_eq (by omega) (by first | decide | omega)).mp (q.2 (by omega)).1)⟩)⟩⟩, hS.F ht⟩) hS.2.2 dX15_readHost_78
        ·
          refine lv_aload_n hx hb dX15_readHost_62 rfl (lv_at hl 2 rfl) ?_
          refine lv_aload_n hx hb dX15_readHost_63 rfl (lv_at hl 1 rfl) ?_
          refine pg_get (ci := 15) (v := .int (nI (a + 1))) (C := RX15) (T := TX15) (N := 59) hx hb hts it_15 hown hK hP hL_h0 hF_53 rfl 19 (by decide) (hts _ kt_751) (fun _ h9 => h9) rfl dX15_readHost_64 ?_
          refine lv_aload_n hx hb dX15_readHost_67 rfl (lv_at hl 1 rfl) ?_
          refine pg_get (ci := 15) (v := .int (nI (fdT (TC fv z) 47 a tt))) (C := RX15) (T := TX15) (N := 59) hx hb hts it_15 hown hK hP hL_h0 hF_53 rfl 20 (by decide) (hts _ kt_752) (fun _ h9 => h9) rfl dX15_readHost_68 ?_
          refine lv_iconst (v := 0) hx hb dX15_readHost_71 (by decide) ?_
          have hFc := pg_free hD hS hA
          refine va_calli (va_runS (As := [.ref g1, .int (nI (a + 1)), .int (nI (fdT (TC fv z) 47 a tt)), .int 0]) (rest := []) ⟨hx, hb, hml, hown, hts⟩ (s_X15_isD_x l dC dI cs ty gm L H.size F_51 g1 μ 700 z (a + 1) (fdT (TC fv z) 47 a tt) fv 0 hW hL_g1 hT_g1 hF_54 (by omega) (by first | omega | assumption | exact Or.inl rfl) (by first | omega | assumption | exact Or.inl rfl) (by omega) (Or.inr (fun i h1 h2 => fdw_ne (tt - a) a i (by omega) h2))) ⟨callB_of 4 hts (gi kt_753) rfl rfl rfl (hts _ kt_669) (hts _ kt_754) (by decide +kernel) ⟨Nat.le_of_ble_eq_true rfl, Nat.le_of_ble_eq_true rfl⟩, (hts _ kt_755)⟩ ⟨fun a U g mk q => ⟨q.1, PTm.calling q.2⟩, fun U hU hWm => ⟨rfl, PTm.mk hU hWm hP hK hD hE hO⟩⟩ rfl rfl hl.1 rfl (lv_room (Nat.le_of_ble_eq_true rfl)) dX15_readHost_72 ⟨by show _ + 0 ≤ 0; omega, by show _ + 0 ≤ 0; omega⟩) hS (fun q _ h => hFc q h) hFc (fun r_57 u t H1 locs ht hvm hw hB hz1 hk1 hS => ?_)
          obtain ⟨F_58, hB1⟩ := hB
          obtain rfl : F_51 = F_58 := (funext (fun a => hB1.2.2.2 a List.not_mem_nil)).symm
          obtain ⟨hP, hD, hO, hR⟩ := QTm.back hB1 ht hFc hR (fun q h => absurd h List.not_mem_nil)
          generalize H1 = H at hP hS ⊢
          have hw : ((r_57 = 1 ∧ HSW (TC fv z) (a + 1) (fdT (TC fv z) 47 a tt)) ∨ (r_57 = 0 ∧ ¬ HSW (TC fv z) (a + 1) (fdT (TC fv z) 47 a tt))) := hw
          have hw_59 := hw
          refine lv_if_ne (tgt := 79) hx hb dX15_readHost_75 (by decide) (fun c_60 => ?_) (fun c_60 => ?_)
          ·
            refine lv_aload_n hx hb dX15_readHost_79 rfl (lv_at hl 1 rfl) ?_
            refine lv_iload hx hb dX15_readHost_80 (lv_at hl 5 rfl) ?_
            refine pg_put (ci := 15) (v := .int x4) (ty := .int) (C := RX15) (T := TX15) (N := 59) hx hb hts it_15 tyX15 tyX15_ok nmX15 hown hK hP hD hS hL_h0 hF_53 rfl 17 (by decide) (hts _ kt_750) (fun _ h9 => h9) rfl (by decide +kernel) (rfl) (rfl) (Nat.le_of_ble_eq_true rfl) dX15_readHost_82 (fun H locs hP hD hS => ?_)
            obtain ⟨F_61, he_62, hP, hD, hO, hR⟩ : ∃ G, G = va_up F_51 h0 (.inr (15, (.ref ta) :: (.int (nI zt)) :: (.int (nI zo)) :: (.int (nI ze)) :: (.ref ou) :: (.ref so) :: (.ref ad) :: (.ref na) :: (.ref va) :: (.ref lc) :: (.ref dm) :: (.int (nI fm)) :: (.int (nI sn)) :: (.ref tg) :: (.int v14) :: (.int v15) :: (.ref pe) :: (.int x4) :: (.int v18) :: (.int (nI (a + 1))) :: (.int (nI (fdT (TC fv z) 47 a tt))) :: (.int q21) :: (.int v22) :: (.ref ml) :: (.ref bg) :: (.ref co) :: (.ref sp) :: (.ref nb0) :: (.ref nb1) :: (.ref nb2) :: (.int (nI nf)) :: (.int (nI bd)) :: (.int (nI mm)) :: (.int v33) :: (.ref pl) :: (.ref se) :: (.ref ke) :: (.ref wi) :: (.ref hs) :: (.ref mo) :: (.ref po) :: (.ref nu) :: (.ref pr) :: (.ref sq) :: (.ref xa) :: (.ref sa) :: (.ref n64) :: (.ref m64) :: (.ref ex) :: (.ref wh) :: (.ref sd) :: (.ref tk) :: (.int v52) :: (.int v53) :: (.int v54) :: (.ref hd) :: (.ref ak) :: (.ref ho) :: (.ref ot) :: [])) ∧ va_P (dC, dI) vwCl (va_pl L G) H ∧ va_D A (va_pl L G) ∧ OKm cs ty gm L G ∧ FR ty [ρ] F G := ⟨_, rfl, hP, hD, hO.up (shm.mod hT_h0 ⟨v14, v15, x4, v18, (nI (a + 1)), (nI (fdT (TC fv z) 47 a tt)), q21, v22, v33, v52, v53, v54, rfl, (by first | omega | assumption | exact Or.inl rfl | exact Or.inr rfl), (by first | omega | assumption | exact Or.inl rfl | exact Or.inr rfl), (by first | omega | assumption | exact Or.inl rfl | exact Or.inr rfl), (by first | omega | assumption | exact Or.inl rfl | exact Or.inr rfl), (by first | omega | assumption | exact Or.inl rfl | exact Or.inr rfl)⟩), hR.up hT_h0 (by simp)⟩
            have hF_63 : F_61 h0 = .inr (15, (.ref ta) :: (.int (nI zt)) :: (.int (nI zo)) :: (.int (nI ze)) :: (.ref ou) :: (.ref so) :: (.ref ad) :: (.ref na) :: (.ref va) :: (.ref lc) :: (.ref dm) :: (.int (nI fm)) :: (.int (nI sn)) :: (.ref tg) :: (.int v14) :: (.int v15) :: (.ref pe) :: (.int x4) :: (.int v18) :: (.int (nI (a + 1))) :: (.int (nI (fdT (TC fv z) 47 a tt))) :: (.int q21) :: (.int v22) :: (.ref ml) :: (.ref bg) :: (.ref co) :: (.ref sp) :: (.ref nb0) :: (.ref nb1) :: (.ref nb2) :: (.int (nI nf)) :: (.int (nI bd)) :: (.int (nI mm)) :: (.int v33) :: (.ref pl) :: (.ref se) :: (.ref ke) :: (.ref wi) :: (.ref hs) :: (.ref mo) :: (.ref po) :: (.ref nu) :: (.ref pr) :: (.ref sq) :: (.ref xa) :: (.ref sa) :: (.ref n64) :: (.ref m64) :: (.ref ex) :: (.ref wh) :: (.ref sd) :: (.ref tk) :: (.int v52) :: (.int v53) :: (.int v54) :: (.ref hd) :: (.ref ak) :: (.ref ho) :: (.ref ot) :: []) := by rw [he_62]; exact up_self
            have hF_64 : F_61 g1 = .inl (cs 17, 700, .inl fv) := by rw [he_62, up_ne (ne_ty hT_g1 hT_h0 (by simp))]; exact hF_54
            refine W.widen (k := 0) (n := 0) (by omega) (by omega) ?_
            exact W.vret hx hb hr (fun t ht hWm => ⟨⟨(), rfl, trivial, ⟨F_61, x4, (nI (a + 1)), (nI (fdT (TC fv z) 47 a tt)), q21, QTm.mk ht hP hD hO hR, hF_63, (Or.inr ⟨rfl, ⟨(by obtain ⟨w, h1, h2, -⟩ := (wdt_y hwd c_38); exact ⟨w, h1, h2⟩), fun _ => ⟨(tc_eq (by omega) (by first | decide | omega)).mpr c_56, orp1 hw_59 c_60⟩⟩, (wdt_y hwd c_38), Or.inr ⟨by omega, rfl, rfl⟩⟩)⟩⟩, hS.F ht⟩) hS.2.2 dX15_readHost_85
          ·
            refine W.widen (k := 0) (n := 0) (by omega) (by omega) ?_
            exact W.vret hx hb hr (fun t ht hWm => ⟨⟨(), rfl, trivial, ⟨F_51, v17, (nI (a + 1)), (nI (fdT (TC fv z) 47 a tt)), q21, QTm.mk ht hP hD hO hR, hF_53, (Or.inl ⟨hm0, fun q => orp0 hw_59 c_60 (q.2 (by omega)).2⟩)⟩⟩, hS.F ht⟩) hS.2.2 dX15_readHost_78
    ·
      refine W.widen (k := 0) (n := 0) (by omega) (by omega) ?_
      exact W.vret hx hb hr (fun t ht hWm => ⟨⟨(), rfl, trivial, ⟨F_6, v17, v19, v20, q21, QTm.mk ht hP hD hO hR, hwh, (Or.inl ⟨hm0, fun q => by obtain ⟨⟨w, h1, h2⟩, -⟩ := q; have h9 := wdt_m hwd c_38 w h2; omega⟩)⟩⟩, hS.F ht⟩) hS.2.2 dX15_readHost_34
  ·
    refine lv_iload hx hb dX15_readHost_8 (lv_at hl 0 rfl) ?_
    refine lv_iload_n hx hb dX15_readHost_10 rfl (lv_at hl 4 rfl) ?_
    refine lv_icmp_ge (tgt := 27) hx hb dX15_readHost_11 (by decide) (fun c_65 => ?_) (fun c_65 => ?_)
    ·
      have hi_66 : tt ≤ (fdT (TC fv z) 47 a tt) := leN (N := tt) c_65
      obtain ⟨hq_89, hq_90, hq_91, hq_92, hq_93, hgO, hgA, hgB, hq_94⟩ := hW.sc hL_h0 hT_h0
      refine W.widen (k := 0) (n := 0) (by omega) (by omega) ?_
      exact jn_5 v21 F (⟨wdt_32 (by omega) hm2, hF0⟩) hO hR _ _ hP hD hS ls (lv_sub hl [0, 1, 2, 3, 4, 5] rfl)
    ·
      have hi_95 : (fdT (TC fv z) 47 a tt) < tt := ltN (N := tt) c_65
      refine lv_aload_n hx hb dX15_readHost_14 rfl (lv_at hl 1 rfl) ?_
      refine lv_aload_n hx hb dX15_readHost_15 rfl (lv_at hl 2 rfl) ?_
      refine lv_iload hx hb dX15_readHost_16 (lv_at hl 0 rfl) ?_
      refine lv_iconst (v := 1) hx hb dX15_readHost_18 (by decide) ?_
      refine lv_iadd hx hb dX15_readHost_19 ?_
      refine lv_topi (fun x_96 ex_96 => ?_)
      obtain rfl : x_96 = (nI ((fdT (TC fv z) 47 a tt) + 1)) := ex_96.trans (nI_add (fdT (TC fv z) 47 a tt) 1)
      refine lv_iload_n hx hb dX15_readHost_20 rfl (lv_at hl 4 rfl) ?_
      have hFc := pg_free hD hS hA
      refine va_calli (va_runS (As := [.ref g1, .int (nI ((fdT (TC fv z) 47 a tt) + 1)), .int (nI tt)]) (rest := [.ref h0]) ⟨hx, hb, hml, hown, hts⟩ (s_X15_bits_x l dC dI cs ty gm L H.size F g1 μ 700 z ((fdT (TC fv z) 47 a tt) + 1) tt fv hW hL_g1 hT_g1 hFg (by first | omega | assumption | exact Or.inl rfl) (by first | omega | assumption | exact Or.inl rfl) (by first | omega | assumption | exact Or.inl rfl) (by omega)) ⟨callB_of 3 hts (gi kt_756) rfl rfl rfl (hts _ kt_669) (hts _ kt_757) (by decide +kernel) ⟨Nat.le_of_ble_eq_true rfl, Nat.le_of_ble_eq_true rfl⟩, (hts _ kt_758)⟩ ⟨fun a U g mk q => ⟨q.1, PTm.calling q.2⟩, fun U hU hWm => ⟨rfl, PTm.mk hU hWm hP hK hD hE hO⟩⟩ rfl rfl hl.1 rfl (lv_room (Nat.le_of_ble_eq_true rfl)) dX15_readHost_21 ⟨by show _ + 0 ≤ 0; omega, by show _ + 0 ≤ 0; omega⟩) hS (fun q _ h => hFc q h) hFc (fun r_97 u t H1 locs ht hvm hw hB hz1 hk1 hS => ?_)
      obtain ⟨F_98, hB1⟩ := hB
      obtain rfl : F = F_98 := (funext (fun a => hB1.2.2.2 a List.not_mem_nil)).symm
      obtain ⟨hP, hD, hO, hR⟩ := QTm.back hB1 ht hFc hR (fun q h => absurd h List.not_mem_nil)
      generalize H1 = H at hP hS ⊢
      have hw : r_97 = btv (nbT (TC fv z) ((fdT (TC fv z) 47 a tt) + 1) tt 2) := hw
      subst hw
      obtain ⟨hq_121, hq_122, hq_123, hq_124, hq_125, hgO, hgA, hgB, hq_126⟩ := hW.sc hL_h0 hT_h0
      refine pg_put (ci := 15) (v := .int (btv (nbT (TC fv z) ((fdT (TC fv z) 47 a tt) + 1) tt 2))) (ty := .int) (C := RX15) (T := TX15) (N := 59) hx hb hts it_15 tyX15 tyX15_ok nmX15 hown hK hP hD hS hL_h0 hF0 rfl 21 (by decide) (hts _ kt_749) (fun _ h9 => h9) rfl (by decide +kernel) (rfl) (rfl) (Nat.le_of_ble_eq_true rfl) dX15_readHost_24 (fun H locs hP hD hS => ?_)
      obtain ⟨F_127, he_128, hP, hD, hO, hR⟩ : ∃ G, G = va_up F h0 (.inr (15, (.ref ta) :: (.int (nI zt)) :: (.int (nI zo)) :: (.int (nI ze)) :: (.ref ou) :: (.ref so) :: (.ref ad) :: (.ref na) :: (.ref va) :: (.ref lc) :: (.ref dm) :: (.int (nI fm)) :: (.int (nI sn)) :: (.ref tg) :: (.int v14) :: (.int v15) :: (.ref pe) :: (.int v17) :: (.int v18) :: (.int v19) :: (.int v20) :: (.int (btv (nbT (TC fv z) ((fdT (TC fv z) 47 a tt) + 1) tt 2))) :: (.int v22) :: (.ref ml) :: (.ref bg) :: (.ref co) :: (.ref sp) :: (.ref nb0) :: (.ref nb1) :: (.ref nb2) :: (.int (nI nf)) :: (.int (nI bd)) :: (.int (nI mm)) :: (.int v33) :: (.ref pl) :: (.ref se) :: (.ref ke) :: (.ref wi) :: (.ref hs) :: (.ref mo) :: (.ref po) :: (.ref nu) :: (.ref pr) :: (.ref sq) :: (.ref xa) :: (.ref sa) :: (.ref n64) :: (.ref m64) :: (.ref ex) :: (.ref wh) :: (.ref sd) :: (.ref tk) :: (.int v52) :: (.int v53) :: (.int v54) :: (.ref hd) :: (.ref ak) :: (.ref ho) :: (.ref ot) :: [])) ∧ va_P (dC, dI) vwCl (va_pl L G) H ∧ va_D A (va_pl L G) ∧ OKm cs ty gm L G ∧ FR ty [ρ] F G := ⟨_, rfl, hP, hD, hO.up (shm.mod hT_h0 ⟨v14, v15, v17, v18, v19, v20, (btv (nbT (TC fv z) ((fdT (TC fv z) 47 a tt) + 1) tt 2)), v22, v33, v52, v53, v54, rfl, (by first | omega | assumption | exact Or.inl rfl | exact Or.inr rfl), (by first | omega | assumption | exact Or.inl rfl | exact Or.inr rfl), (by first | omega | assumption | exact Or.inl rfl | exact Or.inr rfl), (by first | omega | assumption | exact Or.inl rfl | exact Or.inr rfl), (by first | omega | assumption | exact Or.inl rfl | exact Or.inr rfl)⟩), hR.up hT_h0 (by simp)⟩
      have hF_129 : F_127 h0 = .inr (15, (.ref ta) :: (.int (nI zt)) :: (.int (nI zo)) :: (.int (nI ze)) :: (.ref ou) :: (.ref so) :: (.ref ad) :: (.ref na) :: (.ref va) :: (.ref lc) :: (.ref dm) :: (.int (nI fm)) :: (.int (nI sn)) :: (.ref tg) :: (.int v14) :: (.int v15) :: (.ref pe) :: (.int v17) :: (.int v18) :: (.int v19) :: (.int v20) :: (.int (btv (nbT (TC fv z) ((fdT (TC fv z) 47 a tt) + 1) tt 2))) :: (.int v22) :: (.ref ml) :: (.ref bg) :: (.ref co) :: (.ref sp) :: (.ref nb0) :: (.ref nb1) :: (.ref nb2) :: (.int (nI nf)) :: (.int (nI bd)) :: (.int (nI mm)) :: (.int v33) :: (.ref pl) :: (.ref se) :: (.ref ke) :: (.ref wi) :: (.ref hs) :: (.ref mo) :: (.ref po) :: (.ref nu) :: (.ref pr) :: (.ref sq) :: (.ref xa) :: (.ref sa) :: (.ref n64) :: (.ref m64) :: (.ref ex) :: (.ref wh) :: (.ref sd) :: (.ref tk) :: (.int v52) :: (.int v53) :: (.int v54) :: (.ref hd) :: (.ref ak) :: (.ref ho) :: (.ref ot) :: []) := by rw [he_128]; exact up_self
      have hF_130 : F_127 g1 = .inl (cs 17, 700, .inl fv) := by rw [he_128, up_ne (ne_ty hT_g1 hT_h0 (by simp))]; exact hFg
      refine W.widen (k := 0) (n := 0) (by omega) (by omega) ?_
      exact jn_5 (btv (nbT (TC fv z) ((fdT (TC fv z) 47 a tt) + 1) tt 2)) F_127 (⟨wdt_n (by omega), hF_129⟩) hO hR _ _ hP hD hS ls (lv_sub hl [0, 1, 2, 3, 4, 5] rfl)
