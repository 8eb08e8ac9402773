def clg (S : Int32 → Bool) (c : Int32) : Nat := if c = 10 then 0 else if c = 32 ∨ c = 9 then 1 else if c = 58 then 2 else if S c = true then 3 else 4
theorem clg0 {S : Int32 → Bool} {c : Int32} (h : c = 10) : clg S c = 0 := if_pos h
theorem clg0n {S : Int32 → Bool} {c : Int32} (h : ¬ c = 10) : ¬ clg S c = 0 := by
  unfold clg
  rw [if_neg h]
  split
  · decide
  · split
    · decide
    · split <;> decide
theorem clg1 {S : Int32 → Bool} {c : Int32} (h : c = 32 ∨ c = 9) : clg S c = 1 := by
  unfold clg
  rw [if_neg (fun q => by rw [q] at h; exact absurd h (by decide)), if_pos h]
theorem clg1n {S : Int32 → Bool} {c : Int32} (h : ¬ (c = 32 ∨ c = 9)) : ¬ clg S c = 1 := by
  unfold clg
  by_cases c0 : c = 10
  · rw [if_pos c0]
    decide
  rw [if_neg c0, if_neg h]
  by_cases c2 : c = 58
  · rw [if_pos c2]
    decide
  rw [if_neg c2]
  by_cases c3 : S c = true
  · rw [if_pos c3]
    decide
  · rw [if_neg c3]
    decide
theorem clg2 {S : Int32 → Bool} {c : Int32} (h : c = 58) : clg S c = 2 := by
  unfold clg
  rw [if_neg (fun q => by rw [q] at h; exact absurd h (by decide)), if_neg (fun q => by rw [h] at q; exact absurd q (by decide)), if_pos h]
theorem clg2n {S : Int32 → Bool} {c : Int32} (h : ¬ c = 58) : ¬ clg S c = 2 := by
  unfold clg
  by_cases c0 : c = 10
  · rw [if_pos c0]
    decide
  rw [if_neg c0]
  by_cases c1 : c = 32 ∨ c = 9
  · rw [if_pos c1]
    decide
  rw [if_neg c1, if_neg h]
  by_cases c3 : S c = true
  · rw [if_pos c3]
    decide
  · rw [if_neg c3]
    decide
theorem clg3 {S : Int32 → Bool} {c : Int32} (hS : S 10 = false ∧ S 32 = false ∧ S 9 = false ∧ S 58 = false) (h : S c = true) : clg S c = 3 := by
  unfold clg
  rw [if_neg (fun q => by rw [q, hS.1] at h; exact absurd h (by decide)), if_neg (fun q => q.elim (fun q => by rw [q, hS.2.1] at h; exact absurd h (by decide)) (fun q => by rw [q, hS.2.2.1] at h; exact absurd h (by decide))), if_neg (fun q => by rw [q, hS.2.2.2] at h; exact absurd h (by decide)), if_pos h]
theorem clg3n {S : Int32 → Bool} {c : Int32} (h : ¬ S c = true) : ¬ clg S c = 3 := by
  unfold clg
  by_cases c0 : c = 10
  · rw [if_pos c0]
    decide
  rw [if_neg c0]
  by_cases c1 : c = 32 ∨ c = 9
  · rw [if_pos c1]
    decide
  rw [if_neg c1]
  by_cases c2 : c = 58
  · rw [if_pos c2]
    decide
  rw [if_neg c2, if_neg h]
  decide
def FSG (c : Int32) : Bool := decide ((97 ≤ smv c ∧ smv c ≤ 122) ∨ (48 ≤ c ∧ c ≤ 57) ∨ c = 45)
theorem fsg_a {c : Int32} (h : 97 ≤ smv c ∧ smv c ≤ 122) : FSG c = true := decide_eq_true (Or.inl h)
theorem fsg_b {c : Int32} (h : 48 ≤ c ∧ c ≤ 57) : FSG c = true := decide_eq_true (Or.inr (Or.inl h))
theorem fsg_c {c : Int32} (h : c = 45) : FSG c = true := decide_eq_true (Or.inr (Or.inr h))
theorem fsg_n {c : Int32} (h1 : ¬ (97 ≤ smv c ∧ smv c ≤ 122)) (h2 : ¬ (48 ≤ c ∧ c ≤ 57)) (h3 : ¬ c = 45) : ¬ FSG c = true := fun q => (of_decide_eq_true q).elim h1 (fun q => q.elim h2 h3)
theorem fsgN : FSG 10 = false ∧ FSG 32 = false ∧ FSG 9 = false ∧ FSG 58 = false := by decide +kernel
def clf (f : Nat → Int32) : Nat → Nat := fun j => clg FSG (f j)
def gpt (g : Nat → Nat → Nat) (n a b c : Nat) : Nat → Nat → Nat := fun q j => if j = n then (if q = 0 then a else if q = 1 then b else c) else g q j
def fdt (T : Nat → Nat) (t : Nat) : Nat → Nat → Nat
  | 0, i => i
  | k + 1, i => if T i = t then i else fdt T t k (i + 1)
theorem fdt_s (T : Nat → Nat) (t k i : Nat) : fdt T t (k + 1) i = if T i = t then i else fdt T t k (i + 1) := rfl
def FSF (T : Nat → Nat) (t a b k : Nat) : Prop := a ≤ k ∧ k ≤ b ∧ (∀ j, a ≤ j → j < k → ¬ T j = t) ∧ (k = b ∨ T k = t)
theorem fdt_eq (T : Nat → Nat) (t : Nat) : ∀ d a k : Nat, FSF T t a (a + d) k → fdt T t d a = k := by
  intro d
  induction d with
  | zero =>
    intro a k h
    have h1 := h.1
    have h2 := h.2.1
    show a = k
    omega
  | succ d ih =>
    intro a k h
    obtain ⟨h1, h2, h3, h4⟩ := h
    rw [fdt_s]
    by_cases q : T a = t
    · rw [if_pos q]
      rcases Nat.lt_or_ge a k with w | w
      · exact absurd q (h3 a (Nat.le_refl _) w)
      · omega
    · rw [if_neg q]
      have w : a + 1 ≤ k := by
        rcases Nat.lt_or_ge a k with w | w
        · exact w
        · have e : k = a := by omega
          rw [e] at h4
          rcases h4 with h4 | h4
          · omega
          · exact absurd h4 q
      refine ih (a + 1) k ⟨w, by omega, fun j hj => h3 j (by omega), ?_⟩
      rcases h4 with h4 | h4
      · exact Or.inl (by omega)
      · exact Or.inr h4
theorem fsf_fdt {T : Nat → Nat} {t a b k : Nat} (h : FSF T t a b k) : fdt T t (b - a) a = k := by
  have h1 := h.1
  have h2 := h.2.1
  refine fdt_eq T t (b - a) a k ?_
  rw [show a + (b - a) = b by omega]
  exact h
theorem fdt_le (T : Nat → Nat) (t : Nat) : ∀ d i : Nat, fdt T t d i ≤ i + d := by
  intro d
  induction d with
  | zero => intro i; exact Nat.le_refl _
  | succ d ih =>
    intro i
    rw [fdt_s]
    split
    · omega
    · have h := ih (i + 1)
      omega
theorem fdt_ge (T : Nat → Nat) (t : Nat) : ∀ d i : Nat, i ≤ fdt T t d i := by
  intro d
  induction d with
  | zero => intro i; exact Nat.le_refl _
  | succ d ih =>
    intro i
    rw [fdt_s]
    split
    · omega
    · have h := ih (i + 1)
      omega
theorem fdt_cg {T U : Nat → Nat} {z : Nat} (h : ∀ j, j < z → T j = U j) (t : Nat) : ∀ d i : Nat, i + d ≤ z → fdt T t d i = fdt U t d i := by
  intro d
  induction d with
  | zero => intro i _; rfl
  | succ d ih =>
    intro i hi
    rw [fdt_s, fdt_s, h i (by omega), ih (i + 1) (by omega)]
def fsw (T : Nat → Nat) : Nat → Nat → Bool
  | 0, _ => true
  | k + 1, i => if T i = 3 then fsw T k (i + 1) else false
theorem fsw_s (T : Nat → Nat) (k i : Nat) : fsw T (k + 1) i = if T i = 3 then fsw T k (i + 1) else false := rfl
theorem fsw_y (T : Nat → Nat) : ∀ d i : Nat, (∀ j, i ≤ j → j < i + d → T j = 3) → fsw T d i = true := by
  intro d
  induction d with
  | zero => intro i _; rfl
  | succ d ih =>
    intro i h
    rw [fsw_s, if_pos (h i (Nat.le_refl _) (by omega))]
    exact ih (i + 1) (fun j h1 h2 => h j (by omega) (by omega))
theorem fsw_n (T : Nat → Nat) : ∀ d i : Nat, fsw T d i = true → ∀ j, i ≤ j → j < i + d → T j = 3 := by
  intro d
  induction d with
  | zero => intro i _ j h1 h2; omega
  | succ d ih =>
    intro i h j h1 h2
    rw [fsw_s] at h
    by_cases q : T i = 3
    · rw [if_pos q] at h
      rcases Nat.lt_or_ge i j with w | w
      · exact ih (i + 1) h j (by omega) (by omega)
      · rw [show j = i by omega]
        exact q
    · rw [if_neg q] at h
      exact absurd h (by decide)
theorem fsw_cg {T U : Nat → Nat} {z : Nat} (h : ∀ j, j < z → T j = U j) : ∀ d i : Nat, i + d ≤ z → fsw T d i = fsw U d i := by
  intro d
  induction d with
  | zero => intro i _; rfl
  | succ d ih =>
    intro i hi
    rw [fsw_s, fsw_s, h i (by omega), ih (i + 1) (by omega)]
def FNM (T : Nat → Nat) (a k : Nat) : Prop := a + 1 ≤ k ∧ k ≤ a + 20 ∧ ∀ j, a ≤ j → j < k → T j = 3
def FLN (T : Nat → Nat) (a e : Nat) : Bool := decide (a + 1 ≤ fdt T 2 (e - a) a ∧ fdt T 2 (e - a) a ≤ a + 20 ∧ fdt T 2 (e - a) a < e) && fsw T (fdt T 2 (e - a) a - a) a
theorem fln_y {T : Nat → Nat} {a e k : Nat} (hk : FSF T 2 a e k) (hke : k ≠ e) (hF : FNM T a k) : FLN T a e = true := by
  obtain ⟨h1, h2, h3⟩ := hF
  have h4 := hk.2.1
  unfold FLN
  rw [fsf_fdt hk, decide_eq_true (⟨h1, h2, by omega⟩ : a + 1 ≤ k ∧ k ≤ a + 20 ∧ k < e), Bool.true_and]
  exact fsw_y T (k - a) a (fun j q1 q2 => h3 j q1 (by omega))
theorem fln_n {T : Nat → Nat} {a e k : Nat} (hk : FSF T 2 a e k) (hb : k = e ∨ ¬ FNM T a k) : ¬ FLN T a e = true := fun q => by
  unfold FLN at q
  rw [fsf_fdt hk, Bool.and_eq_true] at q
  obtain ⟨h1, h2, h3⟩ := of_decide_eq_true q.1
  rcases hb with hb | hb
  · omega
  · exact hb ⟨h1, h2, fun j q1 q2 => fsw_n T (k - a) a q.2 j q1 (by omega)⟩
theorem FLN_cg {T U : Nat → Nat} {z a e : Nat} (h : ∀ j, j < z → T j = U j) (ha : a ≤ e) (he : e ≤ z) : FLN T a e = FLN U a e := by
  unfold FLN
  have h1 := fdt_le U 2 (e - a) a
  have h2 := fdt_ge U 2 (e - a) a
  rw [fdt_cg h 2 (e - a) a (by omega), fsw_cg h _ a (by omega)]
abbrev MRA : Type := Option (Nat × (Nat → Nat → Nat) × Nat)
def finm (n : Nat) (g : Nat → Nat → Nat) (b : Nat) : MRA := if n = 0 then none else some (n, g, b)
theorem finm_0 {n b : Nat} {g : Nat → Nat → Nat} (h : n = 0) : finm n g b = none := if_pos h
theorem finm_p {n b : Nat} {g : Nat → Nat → Nat} (h : ¬ n = 0) : finm n g b = some (n, g, b) := if_neg h
def mrw (T : Nat → Nat) (z : Nat) : Nat → Nat → (Nat → Nat → Nat) → Nat → Option MRA
  | 0, _, _, _ => none
  | k + 1, n, g, a => if z ≤ a then some (finm n g z) else if T a = 0 then some (finm n g (a + 1)) else if T a = 1 then (if n = 0 then some none else mrw T z k n (gpt g (n - 1) (g 0 (n - 1)) (g 1 (n - 1)) (fdt T 0 (z - a) a)) (fdt T 0 (z - a) a + 1)) else if n < 20 ∧ FLN T a (fdt T 0 (z - a) a) = true then mrw T z k (n + 1) (gpt g n a (fdt T 2 (fdt T 0 (z - a) a - a) a) (fdt T 0 (z - a) a)) (fdt T 0 (z - a) a + 1) else some none
theorem mrw_s (T : Nat → Nat) (z k n : Nat) (g : Nat → Nat → Nat) (a : Nat) : mrw T z (k + 1) n g a = if z ≤ a then some (finm n g z) else if T a = 0 then some (finm n g (a + 1)) else if T a = 1 then (if n = 0 then some none else mrw T z k n (gpt g (n - 1) (g 0 (n - 1)) (g 1 (n - 1)) (fdt T 0 (z - a) a)) (fdt T 0 (z - a) a + 1)) else if n < 20 ∧ FLN T a (fdt T 0 (z - a) a) = true then mrw T z k (n + 1) (gpt g n a (fdt T 2 (fdt T 0 (z - a) a - a) a) (fdt T 0 (z - a) a)) (fdt T 0 (z - a) a + 1) else some none := rfl
theorem mrw_up (T : Nat → Nat) (z : Nat) : ∀ (k n : Nat) (g : Nat → Nat → Nat) (a : Nat) (X : MRA), mrw T z k n g a = some X → mrw T z (k + 1) n g a = some X := by
  intro k
  induction k with
  | zero =>
    intro n g a X h
    have h9 : (none : Option MRA) = some X := h
    cases h9
  | succ k ih =>
    intro n g a X h
    rw [mrw_s T z k] at h
    rw [mrw_s T z (k + 1)]
    by_cases c1 : z ≤ a
    · rw [if_pos c1] at h ⊢
      exact h
    rw [if_neg c1] at h ⊢
    by_cases c2 : T a = 0
    · rw [if_pos c2] at h ⊢
      exact h
    rw [if_neg c2] at h ⊢
    by_cases c3 : T a = 1
    · rw [if_pos c3] at h ⊢
      by_cases c4 : n = 0
      · rw [if_pos c4] at h ⊢
        exact h
      · rw [if_neg c4] at h ⊢
        exact ih _ _ _ _ h
    rw [if_neg c3] at h ⊢
    by_cases c5 : n < 20 ∧ FLN T a (fdt T 0 (z - a) a) = true
    · rw [if_pos c5] at h ⊢
      exact ih _ _ _ _ h
    · rw [if_neg c5] at h ⊢
      exact h
theorem mrw_le {T : Nat → Nat} {z k n a : Nat} {g : Nat → Nat → Nat} {X : MRA} (h : mrw T z k n g a = some X) : ∀ d : Nat, mrw T z (k + d) n g a = some X := by
  intro d
  induction d with
  | zero => exact h
  | succ d ih => exact mrw_up T z (k + d) n g a X ih
def MR (T : Nat → Nat) (z n : Nat) (g : Nat → Nat → Nat) (a : Nat) (X : MRA) : Prop := ∃ k, mrw T z k n g a = some X
theorem MR.uniq {T : Nat → Nat} {z n a : Nat} {g : Nat → Nat → Nat} {X Y : MRA} (h : MR T z n g a X) (h9 : MR T z n g a Y) : X = Y := by
  obtain ⟨k, hk⟩ := h
  obtain ⟨m9, hm⟩ := h9
  have a1 := mrw_le hk m9
  have a2 := mrw_le hm k
  rw [Nat.add_comm m9 k] at a2
  rw [a1] at a2
  exact Option.some.inj a2
theorem mr_fin {T : Nat → Nat} {z n a : Nat} {g : Nat → Nat → Nat} (h : z ≤ a) : MR T z n g a (finm n g z) := ⟨0 + 1, by rw [mrw_s, if_pos h]⟩
theorem mr_bod {T : Nat → Nat} {z n a : Nat} {g : Nat → Nat → Nat} (h : ¬ z ≤ a) (h0 : T a = 0) : MR T z n g a (finm n g (a + 1)) := ⟨0 + 1, by rw [mrw_s, if_neg h, if_pos h0]⟩
theorem mr_con0 {T : Nat → Nat} {z n a : Nat} {g : Nat → Nat → Nat} (h : ¬ z ≤ a) (h1 : T a = 1) (hn : n = 0) : MR T z n g a none := ⟨0 + 1, by rw [mrw_s, if_neg h, if_neg (by rw [h1]; decide), if_pos h1, if_pos hn]⟩
theorem mr_con {T : Nat → Nat} {z n a e : Nat} {g : Nat → Nat → Nat} {X : MRA} (h : ¬ z ≤ a) (h1 : T a = 1) (he : FSF T 0 a z e) (hn : ¬ n = 0) (hX : MR T z n (gpt g (n - 1) (g 0 (n - 1)) (g 1 (n - 1)) e) (e + 1) X) : MR T z n g a X := by
  obtain ⟨k, hk⟩ := hX
  refine ⟨k + 1, ?_⟩
  rw [mrw_s, if_neg h, if_neg (by rw [h1]; decide), if_pos h1, if_neg hn, fsf_fdt he]
  exact hk
theorem mr_fld {T : Nat → Nat} {z n a e k : Nat} {g : Nat → Nat → Nat} {X : MRA} (h : ¬ z ≤ a) (h0 : ¬ T a = 0) (h1 : ¬ T a = 1) (he : FSF T 0 a z e) (hc : FSF T 2 a e k) (hke : k ≠ e) (hF : FNM T a k) (hn : n < 20) (hX : MR T z (n + 1) (gpt g n a k e) (e + 1) X) : MR T z n g a X := by
  obtain ⟨q, hq⟩ := hX
  refine ⟨q + 1, ?_⟩
  rw [mrw_s, if_neg h, if_neg h0, if_neg h1, fsf_fdt he, if_pos ⟨hn, fln_y hc hke hF⟩, fsf_fdt hc]
  exact hq
theorem mr_bad {T : Nat → Nat} {z n a e : Nat} {g : Nat → Nat → Nat} (h : ¬ z ≤ a) (h0 : ¬ T a = 0) (h1 : ¬ T a = 1) (he : FSF T 0 a z e) (hb : ¬ (n < 20 ∧ FLN T a e = true)) : MR T z n g a none := ⟨0 + 1, by rw [mrw_s, if_neg h, if_neg h0, if_neg h1, fsf_fdt he, if_neg hb]⟩
theorem mrw_cg {T U : Nat → Nat} {z : Nat} (h : ∀ j, j < z → T j = U j) : ∀ (k n : Nat) (g : Nat → Nat → Nat) (a : Nat), mrw T z k n g a = mrw U z k n g a := by
  intro k
  induction k with
  | zero => intro n g a; rfl
  | succ k ih =>
    intro n g a
    rw [mrw_s, mrw_s]
    by_cases c1 : z ≤ a
    · rw [if_pos c1, if_pos c1]
    · have h1 := fdt_le U 0 (z - a) a
      have h2 := fdt_ge U 0 (z - a) a
      rw [if_neg c1, if_neg c1, h a (by omega), fdt_cg h 0 (z - a) a (by omega), FLN_cg h h2 (by omega), fdt_cg h 2 (fdt U 0 (z - a) a - a) a (by omega), ih, ih]
theorem MR.cg {T U : Nat → Nat} {z n a : Nat} {g : Nat → Nat → Nat} {X : MRA} (h : ∀ j, j < z → T j = U j) (q : MR T z n g a X) : MR U z n g a X := by
  obtain ⟨k, hk⟩ := q
  exact ⟨k, by rw [← mrw_cg h]; exact hk⟩
def gz : Nat → Nat → Nat := fun _ _ => 0
def MSG (T : Nat → Nat) (z : Nat) (r : Int32) : Prop := (∃ (n : Nat) (g : Nat → Nat → Nat) (b : Nat), r = nI n ∧ MR T z 0 gz 0 (some (n, g, b))) ∨ (r = (-1) ∧ MR T z 0 gz 0 none)
theorem MSG.uniq {T : Nat → Nat} {z : Nat} {r q : Int32} (h : MSG T z r) (h9 : MSG T z q) : r = q := by
  rcases h with ⟨n, g, b, h1, h2⟩ | ⟨h1, h2⟩ <;> rcases h9 with ⟨n9, g9, b9, k1, k2⟩ | ⟨k1, k2⟩
  · have e := MR.uniq h2 k2
    have e2 : (n, g, b) = (n9, g9, b9) := Option.some.inj e
    have e3 : n = n9 := congrArg Prod.fst e2
    rw [h1, k1, e3]
  · exact absurd (MR.uniq h2 k2) (fun q => by cases q)
  · exact absurd (MR.uniq h2 k2) (fun q => by cases q)
  · rw [h1, k1]
theorem MSG.cg {T U : Nat → Nat} {z : Nat} {r : Int32} (h : ∀ j, j < z → T j = U j) (q : MSG T z r) : MSG U z r := by
  rcases q with ⟨n, g, b, h1, h2⟩ | ⟨h1, h2⟩
  · exact Or.inl ⟨n, g, b, h1, h2.cg h⟩
  · exact Or.inr ⟨h1, h2.cg h⟩
def TLR (T : Nat → Nat) (z n : Nat) (g : Nat → Nat → Nat) (a e n2 : Nat) (g2 : Nat → Nat → Nat) (r : Int32) : Prop := n2 ≤ 20 ∧ ((r = 1 ∧ ∀ X, MR T z n2 g2 (e + 1) X → MR T z n g a X) ∨ (r = 0 ∧ MR T z n g a none))
theorem tlr_con {T : Nat → Nat} {z n a e : Nat} {g : Nat → Nat → Nat} (hae : a < e) (he : FSF T 0 a z e) (h1 : T a = 1) (hn : 0 < n) (h20 : n ≤ 20) : TLR T z n g a e n (gpt g (n - 1) (g 0 (n - 1)) (g 1 (n - 1)) e) 1 := by
  have h9 := he.2.1
  exact ⟨h20, Or.inl ⟨rfl, fun X hX => mr_con (by omega) h1 he (by omega) hX⟩⟩
theorem tlr_con0 {T : Nat → Nat} {z n a e : Nat} {g : Nat → Nat → Nat} (hae : a < e) (he : FSF T 0 a z e) (h1 : T a = 1) (hn : n = 0) : TLR T z n g a e n g 0 := by
  have h9 := he.2.1
  exact ⟨by omega, Or.inr ⟨rfl, mr_con0 (by omega) h1 hn⟩⟩
theorem tlr_fld {T : Nat → Nat} {z n a e k : Nat} {g : Nat → Nat → Nat} (hae : a < e) (he : FSF T 0 a z e) (h1 : ¬ T a = 1) (hc : FSF T 2 a e k) (hke : k ≠ e) (hF : FNM T a k) (hn : n < 20) : TLR T z n g a e (n + 1) (gpt g n a k e) 1 := by
  have h9 := he.2.1
  exact ⟨by omega, Or.inl ⟨rfl, fun X hX => mr_fld (by omega) (he.2.2.1 a (Nat.le_refl _) hae) h1 he hc hke hF hn hX⟩⟩
theorem tlr_bad {T : Nat → Nat} {z n a e : Nat} {g : Nat → Nat → Nat} (hae : a < e) (he : FSF T 0 a z e) (h1 : ¬ T a = 1) (h20 : n ≤ 20) (hb : ¬ (n < 20 ∧ FLN T a e = true)) : TLR T z n g a e n g 0 := by
  have h9 := he.2.1
  exact ⟨h20, Or.inr ⟨rfl, mr_bad (by omega) (he.2.2.1 a (Nat.le_refl _) hae) h1 he hb⟩⟩
theorem tlr1 {T : Nat → Nat} {z n a e n2 : Nat} {g g2 : Nat → Nat → Nat} {r : Int32} (h : TLR T z n g a e n2 g2 r) (c : ¬ r = 0) : ∀ X, MR T z n2 g2 (e + 1) X → MR T z n g a X := h.2.elim And.right (fun q => absurd q.1 c)
theorem tlr0 {T : Nat → Nat} {z n a e n2 : Nat} {g g2 : Nat → Nat → Nat} {r : Int32} (h : TLR T z n g a e n2 g2 r) (c : r = 0) : MR T z n g a none := h.2.elim (fun q => absurd (q.1.symm.trans c) (by decide)) And.right
def RDR (T : Nat → Nat) (z n2 : Nat) (r : Int32) : Prop := (r = 1 ∧ ∃ (g : Nat → Nat → Nat) (b : Nat), MR T z 0 gz 0 (some (n2, g, b))) ∨ (r = 0 ∧ MR T z 0 gz 0 none)
theorem rdr_1 {T U : Nat → Nat} {z n b : Nat} {g : Nat → Nat → Nat} (h : ∀ j, j < z → T j = U j) (hn : 0 < n) (q : MR T z 0 gz 0 (finm n g b)) : RDR U z n 1 := by
  rw [finm_p (by omega)] at q
  exact Or.inl ⟨rfl, g, b, q.cg h⟩
theorem rdr_0 {T U : Nat → Nat} {z n b : Nat} {g : Nat → Nat → Nat} (h : ∀ j, j < z → T j = U j) (hn : n = 0) (q : MR T z 0 gz 0 (finm n g b)) : RDR U z n 0 := by
  rw [finm_0 hn] at q
  exact Or.inr ⟨rfl, q.cg h⟩
theorem rdr_n {T U : Nat → Nat} {z n : Nat} (h : ∀ j, j < z → T j = U j) (q : MR T z 0 gz 0 none) : RDR U z n 0 := Or.inr ⟨rfl, q.cg h⟩
theorem msg_1 {T : Nat → Nat} {z n : Nat} {r : Int32} (h : RDR T z n r) (c : ¬ r = 0) : MSG T z (nI n) := by
  rcases h with ⟨h1, g, b, h2⟩ | ⟨h1, h2⟩
  · exact Or.inl ⟨n, g, b, rfl, h2⟩
  · exact absurd h1 c
theorem msg_0 {T : Nat → Nat} {z n : Nat} {r : Int32} (h : RDR T z n r) (c : r = 0) : MSG T z (-1) := by
  rcases h with ⟨h1, -⟩ | ⟨h1, h2⟩
  · exact absurd (h1.symm.trans c) (by decide)
  · exact Or.inr ⟨rfl, h2⟩
theorem max0n {a : Nat} (ha : a ≤ 20000) : (if 0 < nI a then nI a else 0) = nI a := by
  by_cases q : 0 < nI a
  · exact if_pos q
  · rw [if_neg q]
    rcases Nat.eq_zero_or_pos a with h | h
    · rw [h]
      exact nI_0.symm
    · have w : nI 0 < nI a := (nI_ltI (by omega) (by omega)).mpr h
      rw [nI_0] at w
      exact absurd w q
def FSX (f : Nat → Int32) (c : Int32) (a b k : Nat) : Prop := a ≤ k ∧ k ≤ b ∧ (∀ j, a ≤ j → j < k → ¬ f j = c) ∧ (k = b ∨ f k = c)
theorem fsx_2 {f : Nat → Int32} {a b k : Nat} (h : FSX f 58 a b k) : FSF (clf f) 2 a b k := ⟨h.1, h.2.1, fun j h1 h2 => clg2n (h.2.2.1 j h1 h2), h.2.2.2.elim Or.inl (fun q => Or.inr (clg2 q))⟩
set_option maxHeartbeats 4000000 in
set_option maxRecDepth 100000 in
theorem s_X0_isWhite_e (l : Launch) (dC : Nat → ClassId) (dI : Nat → Nat → Nat) (cs : Nat → ClassId) (ty : TyM) (L : List Nat) (sz : Nat) (F : Nat → va_E) (x1 : Int32) (hW : WT ty L) : Met l yX0_isWhite (.code yX0_isWhite cX0_isWhite 1 (some .boolean) :: tb) ({ frames := 0, cells := 0, slots := 0, locals := 0 }) (va_Pc [.int x1] (PT (dC, dI) cs ty L F sz)) (va_Qi (fun (r : Int32) (_ : Unit) => r = (if x1 = 32 ∨ x1 = 9 then 1 else 0)) (fun _ T9 => ∃ F2 : Nat → va_E, QT (dC, dI) cs ty L [] F F2 (va_A (va_pl L F) sz) T9) (va_A (va_pl L F) sz)) 0 0 (va_A (va_pl L F) sz) := by
  refine Met.ofW (cc := cX0_isWhite) (maxL := 1) (ret := (some .boolean)) (by decide) rfl ?_
  intro p e s m args below meth c s₁ B hml hv
  obtain ⟨rfl, hsz, hP, hK, hD0, hE, hO⟩ := hv
  have hx := B.exec
  have hb := B.bytes
  have hr := B.returns
  have hts : ∀ w ∈ tb, w.before _ s = true := fun w h => atoms_spec (ws := .code yX0_isWhite cX0_isWhite 1 (some .boolean) :: tb) B.pre w (List.mem_cons_of_mem _ h)
  have hown : s.vm.findClass RX0 = some m.cls := findClass_of_methodNamed B.named
  have hlocks := B.notSynchronized
  subst hsz
  have hD := hD0.self (sz := s.heap.size)
  generalize hAe : va_A (va_pl L F) s.heap.size = A at hD ⊢
  have hA : ∀ q : Nat, s.heap.size ≤ q → A q := fun q h => by rw [← hAe]; exact Or.inr h
  have hS : va_S A s.heap s.heap [] := va_S.rf
  have hR : FR ty [] F F := FR.refl
  have hl := lv_entry ([.int x1]) (n := 1) (Nat.le_of_ble_eq_true rfl)
  rw [lg_entry_eq]
  generalize (lg_sl ([.int x1]) ++ List.replicate (1 - (lg_sl ([.int x1])).length) Slot.unset).toArray = ls at hl ⊢
  have hl : lv_has ls 1 [(0, .int x1)] := hl
  refine lv_iload_n hx hb dX0_isWhite_0 rfl (lv_at hl 0 rfl) ?_
  refine lv_bipush (v := 32) hx hb dX0_isWhite_1 (by decide) ?_
  refine lv_icmp_eq (tgt := 12) hx hb dX0_isWhite_3 (by decide) (fun c_1 => ?_) (fun c_1 => ?_)
  ·
    refine lv_iconst (v := 1) hx hb dX0_isWhite_12 (by decide) ?_
    refine lv_goto (tgt := 17) hx hb dX0_isWhite_13 (by decide) ?_
    refine W.widen (k := 0) (n := 0) (by omega) (by omega) ?_
    exact W.zret (v := 1) (ty := .boolean) hx hb hr (by decide) (fun t ht hWm => ⟨⟨1, (), rfl, ((if_pos (Or.inl c_1)).symm), ⟨F, QT.mk ht hP hD hO hR⟩⟩, hS.F ht⟩) hS.2.2 dX0_isWhite_17
  ·
    refine lv_iload_n hx hb dX0_isWhite_6 rfl (lv_at hl 0 rfl) ?_
    refine lv_bipush (v := 9) hx hb dX0_isWhite_7 (by decide) ?_
    refine lv_icmp_ne (tgt := 16) hx hb dX0_isWhite_9 (by decide) (fun c_2 => ?_) (fun c_2 => ?_)
    ·
      refine lv_iconst (v := 0) hx hb dX0_isWhite_16 (by decide) ?_
      refine W.widen (k := 0) (n := 0) (by omega) (by omega) ?_
      exact W.zret (v := 0) (ty := .boolean) hx hb hr (by decide) (fun t ht hWm => ⟨⟨0, (), rfl, ((if_neg (fun q => q.elim c_1 c_2)).symm), ⟨F, QT.mk ht hP hD hO hR⟩⟩, hS.F ht⟩) hS.2.2 dX0_isWhite_17
    ·
      refine lv_iconst (v := 1) hx hb dX0_isWhite_12 (by decide) ?_
      refine lv_goto (tgt := 17) hx hb dX0_isWhite_13 (by decide) ?_
      refine W.widen (k := 0) (n := 0) (by omega) (by omega) ?_
      exact W.zret (v := 1) (ty := .boolean) hx hb hr (by decide) (fun t ht hWm => ⟨⟨1, (), rfl, ((if_pos (Or.inr c_2)).symm), ⟨F, QT.mk ht hP hD hO hR⟩⟩, hS.F ht⟩) hS.2.2 dX0_isWhite_17
set_option maxHeartbeats 4000000 in
set_option maxRecDepth 100000 in
theorem s_X0_isFieldSign_e (l : Launch) (dC : Nat → ClassId) (dI : Nat → Nat → Nat) (cs : Nat → ClassId) (ty : TyM) (L : List Nat) (sz : Nat) (F : Nat → va_E) (x1 : Int32) (hW : WT ty L) : Met l yX0_isFieldSign (.code yX0_isFieldSign cX0_isFieldSign 1 (some .boolean) :: tb) ({ frames := 1, cells := 0, slots := 0, locals := 20 }) (va_Pc [.int x1] (PT (dC, dI) cs ty L F sz)) (va_Qi (fun (r : Int32) (_ : Unit) => r = (if FSG x1 = true then 1 else 0)) (fun _ T9 => ∃ F2 : Nat → va_E, QT (dC, dI) cs ty L [] F F2 (va_A (va_pl L F) sz) T9) (va_A (va_pl L F) sz)) 0 0 (va_A (va_pl L F) sz) := by
  refine Met.ofW (cc := cX0_isFieldSign) (maxL := 1) (ret := (some .boolean)) (by decide) rfl ?_
  intro p e s m args below meth c s₁ B hml hv
  obtain ⟨rfl, hsz, hP, hK, hD0, hE, hO⟩ := hv
  have hx := B.exec
  have hb := B.bytes
  have hr := B.returns
  have hts : ∀ w ∈ tb, w.before _ s = true := fun w h => atoms_spec (ws := .code yX0_isFieldSign cX0_isFieldSign 1 (some .boolean) :: tb) B.pre w (List.mem_cons_of_mem _ h)
  have hown : s.vm.findClass RX0 = some m.cls := findClass_of_methodNamed B.named
  have hlocks := B.notSynchronized
  subst hsz
  have hD := hD0.self (sz := s.heap.size)
  generalize hAe : va_A (va_pl L F) s.heap.size = A at hD ⊢
  have hA : ∀ q : Nat, s.heap.size ≤ q → A q := fun q h => by rw [← hAe]; exact Or.inr h
  have hS : va_S A s.heap s.heap [] := va_S.rf
  have hR : FR ty [] F F := FR.refl
  have hl := lv_entry ([.int x1]) (n := 1) (Nat.le_of_ble_eq_true rfl)
  rw [lg_entry_eq]
  generalize (lg_sl ([.int x1]) ++ List.replicate (1 - (lg_sl ([.int x1])).length) Slot.unset).toArray = ls at hl ⊢
  have hl : lv_has ls 1 [(0, .int x1)] := hl
  refine lv_iload_n hx hb dX0_isFieldSign_0 rfl (lv_at hl 0 rfl) ?_
  have hFc := pg_free hD hS hA
  refine va_calli (va_runS (As := [.int x1]) (rest := []) ⟨hx, hb, hml, hown, hts⟩ (s_X0_smallOf_x l dC dI cs ty L s.heap.size F x1 hW ) ⟨callB_of 1 hts (gi kt_0) rfl rfl rfl (hts _ kt_1) (hts _ kt_2) (by decide +kernel) ⟨Nat.le_of_ble_eq_true rfl, Nat.le_of_ble_eq_true rfl⟩, (hts _ kt_3)⟩ ⟨fun a U g mk q => ⟨q.1, PT.calling q.2⟩, fun U hU hWm => ⟨rfl, PT.mk hU hWm hP hK hD hE hO⟩⟩ rfl rfl hl.1 rfl (lv_room (Nat.le_of_ble_eq_true rfl)) dX0_isFieldSign_1 ⟨by show _ + 0 ≤ 0; omega, by show _ + 0 ≤ 0; omega⟩) hS (fun q _ h => hFc q h) hFc (fun r_1 u t H1 locs ht hvm hw hB hz1 hk1 hS => ?_)
  obtain ⟨F_2, hB1⟩ := hB
  obtain rfl : F = F_2 := (funext (fun a => hB1.2.2.2 a List.not_mem_nil)).symm
  obtain ⟨hP, hD, hO, hR⟩ := QT.back hB1 ht hFc hR (fun q h => absurd h List.not_mem_nil)
  generalize H1 = H at hP hS ⊢
  have hw : r_1 = smv x1 := hw
  have hw_3 := hw
  subst hw_3
  have hFc := pg_free hD hS hA
  refine va_calli (va_runS (As := [.int (smv x1)]) (rest := []) ⟨hx, hb, hml, hown, hts⟩ (s_X0_isSmall_e l dC dI cs ty L H.size F (smv x1) hW ) ⟨callB_of 1 hts (gi kt_4) rfl rfl rfl (hts _ kt_1) (hts _ kt_5) (by decide +kernel) ⟨Nat.le_of_ble_eq_true rfl, Nat.le_of_ble_eq_true rfl⟩, (hts _ kt_6)⟩ ⟨fun a U g mk q => ⟨q.1, PT.calling q.2⟩, fun U hU hWm => ⟨rfl, PT.mk hU hWm hP hK hD hE hO⟩⟩ rfl rfl hl.1 rfl (lv_room (Nat.le_of_ble_eq_true rfl)) dX0_isFieldSign_4 ⟨by show _ + 0 ≤ 0; omega, by show _ + 0 ≤ 0; omega⟩) hS (fun q _ h => hFc q h) hFc (fun r_4 u t H1 locs ht hvm hw hB hz1 hk1 hS => ?_)
  obtain ⟨F_5, hB1⟩ := hB
  obtain rfl : F = F_5 := (funext (fun a => hB1.2.2.2 a List.not_mem_nil)).symm
  obtain ⟨hP, hD, hO, hR⟩ := QT.back hB1 ht hFc hR (fun q h => absurd h List.not_mem_nil)
  generalize H1 = H at hP hS ⊢
  have hw : r_4 = (if 97 ≤ (smv x1) ∧ (smv x1) ≤ 122 then 1 else 0) := hw
  have hw_6 := hw
  refine lv_if_ne (tgt := 23) hx hb dX0_isFieldSign_7 (by decide) (fun c_7 => ?_) (fun c_7 => ?_)
  ·
    refine lv_iconst (v := 1) hx hb dX0_isFieldSign_23 (by decide) ?_
    refine lv_goto (tgt := 28) hx hb dX0_isFieldSign_24 (by decide) ?_
    refine W.widen (k := 0) (n := 0) (by omega) (by omega) ?_
    exact W.zret (v := 1) (ty := .boolean) hx hb hr (by decide) (fun t ht hWm => ⟨⟨1, (), rfl, ((if_pos (fsg_a (ifb1 hw_6 c_7))).symm), ⟨F, QT.mk ht hP hD hO hR⟩⟩, hS.F ht⟩) hS.2.2 dX0_isFieldSign_28
  ·
    refine lv_iload_n hx hb dX0_isFieldSign_10 rfl (lv_at hl 0 rfl) ?_
    have hFc := pg_free hD hS hA
    refine va_calli (va_runS (As := [.int x1]) (rest := []) ⟨hx, hb, hml, hown, hts⟩ (s_X0_isDigit_e l dC dI cs ty L H.size F x1 hW ) ⟨callB_of 1 hts (gi kt_7) rfl rfl rfl (hts _ kt_1) (hts _ kt_8) (by decide +kernel) ⟨Nat.le_of_ble_eq_true rfl, Nat.le_of_ble_eq_true rfl⟩, (hts _ kt_9)⟩ ⟨fun a U g mk q => ⟨q.1, PT.calling q.2⟩, fun U hU hWm => ⟨rfl, PT.mk hU hWm hP hK hD hE hO⟩⟩ rfl rfl hl.1 rfl (lv_room (Nat.le_of_ble_eq_true rfl)) dX0_isFieldSign_11 ⟨by show _ + 0 ≤ 0; omega, by show _ + 0 ≤ 0; omega⟩) hS (fun q _ h => hFc q h) hFc (fun r_8 u t H1 locs ht hvm hw hB hz1 hk1 hS => ?_)
    obtain ⟨F_9, hB1⟩ := hB
    obtain rfl : F = F_9 := (funext (fun a => hB1.2.2.2 a List.not_mem_nil)).symm
    obtain ⟨hP, hD, hO, hR⟩ := QT.back hB1 ht hFc hR (fun q h => absurd h List.not_mem_nil)
    generalize H1 = H at hP hS ⊢
    have hw : r_8 = (if 48 ≤ x1 ∧ x1 ≤ 57 then 1 else 0) := hw
    have hw_10 := hw
    refine lv_if_ne (tgt := 23) hx hb dX0_isFieldSign_14 (by decide) (fun c_11 => ?_) (fun c_11 => ?_)
    ·
      refine lv_iconst (v := 1) hx hb dX0_isFieldSign_23 (by decide) ?_
      refine lv_goto (tgt := 28) hx hb dX0_isFieldSign_24 (by decide) ?_
      refine W.widen (k := 0) (n := 0) (by omega) (by omega) ?_
      exact W.zret (v := 1) (ty := .boolean) hx hb hr (by decide) (fun t ht hWm => ⟨⟨1, (), rfl, ((if_pos (fsg_b (ifb1 hw_10 c_11))).symm), ⟨F, QT.mk ht hP hD hO hR⟩⟩, hS.F ht⟩) hS.2.2 dX0_isFieldSign_28
    ·
      refine lv_iload_n hx hb dX0_isFieldSign_17 rfl (lv_at hl 0 rfl) ?_
      refine lv_bipush (v := 45) hx hb dX0_isFieldSign_18 (by decide) ?_
      refine lv_icmp_ne (tgt := 27) hx hb dX0_isFieldSign_20 (by decide) (fun c_12 => ?_) (fun c_12 => ?_)
      ·
        refine lv_iconst (v := 0) hx hb dX0_isFieldSign_27 (by decide) ?_
        refine W.widen (k := 0) (n := 0) (by omega) (by omega) ?_
        exact W.zret (v := 0) (ty := .boolean) hx hb hr (by decide) (fun t ht hWm => ⟨⟨0, (), rfl, ((if_neg (fsg_n (ifb0 hw_6 c_7) (ifb0 hw_10 c_11) c_12)).symm), ⟨F, QT.mk ht hP hD hO hR⟩⟩, hS.F ht⟩) hS.2.2 dX0_isFieldSign_28
      ·
        refine lv_iconst (v := 1) hx hb dX0_isFieldSign_23 (by decide) ?_
        refine lv_goto (tgt := 28) hx hb dX0_isFieldSign_24 (by decide) ?_
        refine W.widen (k := 0) (n := 0) (by omega) (by omega) ?_
        exact W.zret (v := 1) (ty := .boolean) hx hb hr (by decide) (fun t ht hWm => ⟨⟨1, (), rfl, ((if_pos (fsg_c c_12)).symm), ⟨F, QT.mk ht hP hD hO hR⟩⟩, hS.F ht⟩) hS.2.2 dX0_isFieldSign_28
set_option maxHeartbeats 4000000 in
set_option maxRecDepth 100000 in
theorem s_X0_find_g (l : Launch) (dC : Nat → ClassId) (dI : Nat → Nat → Nat) (cs : Nat → ClassId) (ty : TyM) (L : List Nat) (sz : Nat) (F : Nat → va_E) (h0 : Nat) (ρ : Nat) (r0 : Nat) (n : Nat) (z : Nat) (a : Nat) (b : Nat) (f : Nat → Int32) (x1 : Int32) (hW : WT ty L) (hL_h0 : h0 ∈ L) (hT_h0 : ty h0 = (0, ρ, [r0, n])) (hF0 : F h0 = .inr (0, [.ref r0, .int (nI z), .int 0])) (hFr : F r0 = .inl (cs 16, n, .inl f)) (hzn : z ≤ n) (hn9 : n ≤ 10000) (hab : a ≤ b) (hbz : b ≤ z) : Met l yX0_find (.code yX0_find cX0_find 5 (some .int) :: tb) ({ frames := 1, cells := 0, slots := 0, locals := 21 }) (va_Pc [.ref h0, .int x1, .int (nI a), .int (nI b)] (PT (dC, dI) cs ty L F sz)) (va_Qi (fun (r : Int32) (_ : Unit) => (∃ k : Nat, r = nI k ∧ FSX f x1 a b k)) (fun _ T9 => ∃ F2 : Nat → va_E, QT (dC, dI) cs ty L [] F F2 (va_A (va_pl L F) sz) T9) (va_A (va_pl L F) sz)) 0 0 (va_A (va_pl L F) sz) := by
  refine Met.ofW (cc := cX0_find) (maxL := 5) (ret := (some .int)) (by decide) rfl ?_
  intro p e s m args below meth c s₁ B hml hv
  obtain ⟨rfl, hsz, hP, hK, hD0, hE, hO⟩ := hv
  have hx := B.exec
  have hb := B.bytes
  have hr := B.returns
  have hts : ∀ w ∈ tb, w.before _ s = true := fun w h => atoms_spec (ws := .code yX0_find cX0_find 5 (some .int) :: tb) B.pre w (List.mem_cons_of_mem _ h)
  have hown : s.vm.findClass RX0 = some m.cls := findClass_of_methodNamed B.named
  have hlocks := B.notSynchronized
  subst hsz
  have hD := hD0.self (sz := s.heap.size)
  generalize hAe : va_A (va_pl L F) s.heap.size = A at hD ⊢
  have hA : ∀ q : Nat, s.heap.size ≤ q → A q := fun q h => by rw [← hAe]; exact Or.inr h
  have hS : va_S A s.heap s.heap [] := va_S.rf
  have hR : FR ty [] F F := FR.refl
  have hl := lv_entry ([.ref h0, .int x1, .int (nI a), .int (nI b)]) (n := 5) (Nat.le_of_ble_eq_true rfl)
  rw [lg_entry_eq]
  generalize (lg_sl ([.ref h0, .int x1, .int (nI a), .int (nI b)]) ++ List.replicate (5 - (lg_sl ([.ref h0, .int x1, .int (nI a), .int (nI b)])).length) Slot.unset).toArray = ls at hl ⊢
  have hl : lv_has ls 5 [(0, .ref h0), (1, .int x1), (2, .int (nI a)), (3, .int (nI b))] := hl
  refine lv_iconst (v := 0) hx hb dX0_find_0 (by decide) ?_
  refine lv_iload_n hx hb dX0_find_1 rfl (lv_at hl 2 rfl) ?_
  refine va_mmax hx hb (by rw [hml]; exact hl.1.symm) hown (hts _ kt_17) (hts _ kt_18) (hts _ kt_19) (hts _ kt_20) (Nat.le_of_ble_eq_true rfl) (Nat.le_of_ble_eq_true rfl) (by show _ ≤ 0; omega) (by show _ ≤ 0; omega) dX0_find_2 ?_
  refine lv_topi (fun x_1 ex_1 => ?_)
  obtain rfl : x_1 = (nI a) := ex_1.trans (max0n (by omega))
  refine lv_istore (lv' := [(4, .int (nI a)), (0, .ref h0), (1, .int x1), (2, .int (nI a)), (3, .int (nI b))]) hx hb dX0_find_5 hl (by decide) rfl (fun ls hl => ?_)
  refine W.widen (k := 0) (n := 0) (by omega) (by omega) ?_
  refine pl_loop (σ := Nat) A (dC, dI) cs ty L [] F 7 5 (fun k1 => [(4, .int (nI k1)), (0, .ref h0), (1, .int x1), (2, .int (nI a)), (3, .int (nI b))]) (fun k1 => []) (fun k1 _ => a ≤ k1 ∧ k1 ≤ b ∧ ∀ j, a ≤ j → j < k1 → ¬ f j = x1) (fun k1 => b - k1) ?_ a F (⟨by omega, by omega, fun j h1 h2 => absurd h2 (by omega)⟩) hO hR _ _ hP hD hS ls (lv_sub hl [0, 1, 2, 3, 4] rfl)
  rintro k1 F_2 hv_3 hO hR ih_4 H locs hP hD hS ls hl
  have hl : lv_has ls 5 [(4, .int (nI k1)), (0, .ref h0), (1, .int x1), (2, .int (nI a)), (3, .int (nI b))] := hl
  have hv_3 : a ≤ k1 ∧ k1 ≤ b ∧ ∀ j, a ≤ j → j < k1 → ¬ f j = x1 := hv_3
  refine W.eq (g2 := F0 m 7 ls []) rfl ?_
  obtain rfl : F = F_2 := (funext (fun a => hR a List.not_mem_nil)).symm
  obtain ⟨hv0, hv1, hv2⟩ := id hv_3
  refine lv_iload hx hb dX0_find_7 (lv_at hl 0 rfl) ?_
  refine lv_iload_n hx hb dX0_find_9 rfl (lv_at hl 4 rfl) ?_
  refine lv_icmp_ge (tgt := 42) hx hb dX0_find_10 (by decide) (fun c_5 => ?_) (fun c_5 => ?_)
  ·
    have hi_6 : b ≤ k1 := leN (N := b) c_5
    have hkb : b ≤ k1 := (nI_leI (by omega) (by omega)).mp c_5
    refine lv_iload_n hx hb dX0_find_42 rfl (lv_at hl 4 rfl) ?_
    refine W.widen (k := 0) (n := 0) (by omega) (by omega) ?_
    exact W.iret (v := (nI b)) hx hb hr (fun t ht hWm => ⟨⟨(nI b), (), rfl, ⟨b, rfl, hab, Nat.le_refl _, fun j h1 h2 => hv2 j h1 (by omega), Or.inl rfl⟩, ⟨F, QT.mk ht hP hD hO hR⟩⟩, hS.F ht⟩) hS.2.2 dX0_find_43
  ·
    have hi_7 : k1 < b := ltN (N := b) c_5
    have hkb : k1 < b := Nat.not_le.mp (fun q => c_5 ((nI_leI (by omega) (by omega)).mpr q))
    refine lv_iload hx hb dX0_find_13 (lv_at hl 0 rfl) ?_
    refine lv_aload_n hx hb dX0_find_15 rfl (lv_at hl 1 rfl) ?_
    obtain ⟨hi_8, ht_9, hq_10⟩ := hW.bytes hL_h0 hT_h0
    refine pg_get (ci := 0) (v := .int (nI z)) (C := RX0) (T := TX0) (N := 3) hx hb hts it_0 hown hK hP hL_h0 hF0 rfl 1 (by decide) (hts _ kt_10) (fun _ h9 => h9) rfl dX0_find_16 ?_
    refine lv_icmp_ge (tgt := 42) hx hb dX0_find_19 (by decide) (fun c_11 => absurd c_11 (fun q => absurd ((nI_leI (by omega) (by omega)).mp q) (by omega))) (fun c_11 => ?_)
    refine lv_aload_n hx hb dX0_find_22 rfl (lv_at hl 1 rfl) ?_
    refine pg_get (ci := 0) (v := .ref r0) (C := RX0) (T := TX0) (N := 3) hx hb hts it_0 hown hK hP hL_h0 hF0 rfl 0 (by decide) (hts _ kt_12) (fun _ h9 => h9) rfl dX0_find_23 ?_
    refine lv_iload hx hb dX0_find_26 (lv_at hl 0 rfl) ?_
    refine pg_iald hx hb hK hP hi_8 0 hFr rfl (vp_in_nI (by omega) (by omega)) dX0_find_28 ?_
    refine lv_topi (fun x_12 ex_12 => ?_)
    obtain rfl : x_12 = (f k1) := ex_12.trans (congrArg f (nI_clamp (by omega)))
    refine lv_iload_n hx hb dX0_find_29 rfl (lv_at hl 2 rfl) ?_
    refine lv_icmp_ne (tgt := 36) hx hb dX0_find_30 (by decide) (fun c_13 => ?_) (fun c_13 => ?_)
    ·
      refine lv_iinc (v := (nI (k1 + 1))) (lv' := [(4, .int (nI (k1 + 1))), (0, .ref h0), (1, .int x1), (2, .int (nI a)), (3, .int (nI b))]) hx hb dX0_find_36 hl (k := 0) rfl (nI_1 _) (by decide) rfl (fun ls hl => ?_)
      refine lv_goto (tgt := 7) hx hb dX0_find_39 (by decide) ?_
      refine W.widen (k := 0) (n := 0) (by omega) (by omega) ?_
      exact ih_4 (k1 + 1) F (⟨by omega, by omega, fun j h1 h2 => by rcases Nat.lt_or_ge j k1 with q | q; exact hv2 j h1 q; rw [show j = k1 by omega]; exact c_13⟩) (by show b - (k1 + 1) < b - k1; omega) hO hR _ _ hP hD hS ls (lv_sub hl [0, 1, 2, 3, 4] rfl)
    ·
      refine lv_iload hx hb dX0_find_33 (lv_at hl 0 rfl) ?_
      refine W.widen (k := 0) (n := 0) (by omega) (by omega) ?_
      exact W.iret (v := (nI k1)) hx hb hr (fun t ht hWm => ⟨⟨(nI k1), (), rfl, ⟨k1, rfl, hv0, by omega, hv2, Or.inr c_13⟩, ⟨F, QT.mk ht hP hD hO hR⟩⟩, hS.F ht⟩) hS.2.2 dX0_find_35
set_option maxHeartbeats 4000000 in
set_option maxRecDepth 100000 in
theorem s_X4_isFieldName_e (l : Launch) (dC : Nat → ClassId) (dI : Nat → Nat → Nat) (cs : Nat → ClassId) (ty : TyM) (L : List Nat) (sz : Nat) (F : Nat → va_E) (g1 : Nat) (σ : Nat) (r1 : Nat) (n1 : Nat) (z : Nat) (a : Nat) (b : Nat) (f : Nat → Int32) (hW : WT ty L) (hL_g1 : g1 ∈ L) (hT_g1 : ty g1 = (0, σ, [r1, n1])) (hFg : F g1 = .inr (0, [.ref r1, .int (nI z), .int 0])) (hFr : F r1 = .inl (cs 16, n1, .inl f)) (hzn : z ≤ n1) (hn9 : n1 ≤ 10000) (hab : a ≤ b) (hbz : b ≤ z) : Met l yX4_isFieldName (.code yX4_isFieldName cX4_isFieldName 4 (some .boolean) :: tb) ({ frames := 2, cells := 0, slots := 0, locals := 40 }) (va_Pc [.ref g1, .int (nI a), .int (nI b)] (PT (dC, dI) cs ty L F sz)) (va_Qi (fun (r : Int32) (_ : Unit) => (r = 1 ∧ FNM (clf f) a b) ∨ (r = 0 ∧ ¬ FNM (clf f) a b)) (fun _ T9 => ∃ F2 : Nat → va_E, QT (dC, dI) cs ty L [] F F2 (va_A (va_pl L F) sz) T9) (va_A (va_pl L F) sz)) 0 0 (va_A (va_pl L F) sz) := by
  refine Met.ofW (cc := cX4_isFieldName) (maxL := 4) (ret := (some .boolean)) (by decide) rfl ?_
  intro p e s m args below meth c s₁ B hml hv
  obtain ⟨rfl, hsz, hP, hK, hD0, hE, hO⟩ := hv
  have hx := B.exec
  have hb := B.bytes
  have hr := B.returns
  have hts : ∀ w ∈ tb, w.before _ s = true := fun w h => atoms_spec (ws := .code yX4_isFieldName cX4_isFieldName 4 (some .boolean) :: tb) B.pre w (List.mem_cons_of_mem _ h)
  have hown : s.vm.findClass RX4 = some m.cls := findClass_of_methodNamed B.named
  have hlocks := B.notSynchronized
  subst hsz
  have hD := hD0.self (sz := s.heap.size)
  generalize hAe : va_A (va_pl L F) s.heap.size = A at hD ⊢
  have hA : ∀ q : Nat, s.heap.size ≤ q → A q := fun q h => by rw [← hAe]; exact Or.inr h
  have hS : va_S A s.heap s.heap [] := va_S.rf
  have hR : FR ty [] F F := FR.refl
  have hl := lv_entry ([.ref g1, .int (nI a), .int (nI b)]) (n := 4) (Nat.le_of_ble_eq_true rfl)
  rw [lg_entry_eq]
  generalize (lg_sl ([.ref g1, .int (nI a), .int (nI b)]) ++ List.replicate (4 - (lg_sl ([.ref g1, .int (nI a), .int (nI b)])).length) Slot.unset).toArray = ls at hl ⊢
  have hl : lv_has ls 4 [(0, .ref g1), (1, .int (nI a)), (2, .int (nI b))] := hl
  refine lv_iload_n hx hb dX4_isFieldName_0 rfl (lv_at hl 1 rfl) ?_
  refine lv_istore_n (lv' := [(3, .int (nI a)), (0, .ref g1), (1, .int (nI a)), (2, .int (nI b))]) hx hb dX4_isFieldName_1 rfl hl (by decide) rfl (fun ls hl => ?_)
  refine W.widen (k := 0) (n := 0) (by omega) (by omega) ?_
  refine pl_loop (σ := Nat) A (dC, dI) cs ty L [] F 2 4 (fun i1 => [(3, .int (nI i1)), (0, .ref g1), (1, .int (nI a)), (2, .int (nI b))]) (fun i1 => []) (fun i1 _ => a ≤ i1 ∧ i1 ≤ b ∧ ∀ j, a ≤ j → j < i1 → clf f j = 3) (fun i1 => b - i1) ?_ a F (⟨by omega, by omega, fun j h1 h2 => absurd h2 (by omega)⟩) hO hR _ _ hP hD hS ls (lv_sub hl [0, 1, 2, 3] rfl)
  rintro i1 F_1 hv_2 hO hR ih_3 H locs hP hD hS ls hl
  have hl : lv_has ls 4 [(3, .int (nI i1)), (0, .ref g1), (1, .int (nI a)), (2, .int (nI b))] := hl
  have hv_2 : a ≤ i1 ∧ i1 ≤ b ∧ ∀ j, a ≤ j → j < i1 → clf f j = 3 := hv_2
  refine W.eq (g2 := F0 m 2 ls []) rfl ?_
  obtain rfl : F = F_1 := (funext (fun a => hR a List.not_mem_nil)).symm
  obtain ⟨hv0, hv1, hv2⟩ := id hv_2
  refine lv_iload_n hx hb dX4_isFieldName_2 rfl (lv_at hl 0 rfl) ?_
  refine lv_iload_n hx hb dX4_isFieldName_3 rfl (lv_at hl 3 rfl) ?_
  refine lv_icmp_ge (tgt := 26) hx hb dX4_isFieldName_4 (by decide) (fun c_4 => ?_) (fun c_4 => ?_)
  ·
    have hi_5 : b ≤ i1 := leN (N := b) c_4
    have hib : b ≤ i1 := (nI_leI (by omega) (by omega)).mp c_4
    refine lv_iload_n hx hb dX4_isFieldName_26 rfl (lv_at hl 3 rfl) ?_
    refine lv_iload_n hx hb dX4_isFieldName_27 rfl (lv_at hl 2 rfl) ?_
    refine lv_isub hx hb dX4_isFieldName_28 ?_
    refine lv_topi (fun x_6 ex_6 => ?_)
    obtain rfl : x_6 = (nI (b - a)) := ex_6.trans (pk_sub (by omega))
    refine lv_iconst (v := 1) hx hb dX4_isFieldName_29 (by decide) ?_
    refine lv_icmp_lt (tgt := 45) hx hb dX4_isFieldName_30 (by decide) (fun c_7 => ?_) (fun c_7 => ?_)
    ·
      have hi_8 : (b - a) < 1 := ltN (N := 1) (Int32.not_le.mpr c_7)
      have hl1 : b - a < 1 := (nI_ltI (b := 1) (by omega) (by omega)).mp c_7
      refine lv_iconst (v := 0) hx hb dX4_isFieldName_45 (by decide) ?_
      refine W.widen (k := 0) (n := 0) (by omega) (by omega) ?_
      exact W.zret (v := 0) (ty := .boolean) hx hb hr (by decide) (fun t ht hWm => ⟨⟨0, (), rfl, (Or.inr ⟨rfl, fun q => by have q1 := q.1; have q2 := q.2.1; omega⟩), ⟨F, QT.mk ht hP hD hO hR⟩⟩, hS.F ht⟩) hS.2.2 dX4_isFieldName_46
    ·
      have hi_9 : 1 ≤ (b - a) := leN (N := 1) (Int32.not_lt.mp c_7)
      have hl1 : ¬ b - a < 1 := fun q => c_7 ((nI_ltI (b := 1) (by omega) (by omega)).mpr q)
      refine lv_iload_n hx hb dX4_isFieldName_33 rfl (lv_at hl 3 rfl) ?_
      refine lv_iload_n hx hb dX4_isFieldName_34 rfl (lv_at hl 2 rfl) ?_
      refine lv_isub hx hb dX4_isFieldName_35 ?_
      refine lv_topi (fun x_10 ex_10 => ?_)
      obtain rfl : x_10 = (nI (b - a)) := ex_10.trans (pk_sub (by omega))
      refine lv_bipush (v := 20) hx hb dX4_isFieldName_36 (by decide) ?_
      refine lv_icmp_gt (tgt := 45) hx hb dX4_isFieldName_38 (by decide) (fun c_11 => ?_) (fun c_11 => ?_)
      ·
        have hi_12 : 20 < (b - a) := (nI_ltI (a := 20) (b := (b - a)) (by omega) (by omega)).mp c_11
        have hl2 : 20 < b - a := (nI_ltI (a := 20) (by omega) (by omega)).mp c_11
        refine lv_iconst (v := 0) hx hb dX4_isFieldName_45 (by decide) ?_
        refine W.widen (k := 0) (n := 0) (by omega) (by omega) ?_
        exact W.zret (v := 0) (ty := .boolean) hx hb hr (by decide) (fun t ht hWm => ⟨⟨0, (), rfl, (Or.inr ⟨rfl, fun q => by have q1 := q.1; have q2 := q.2.1; omega⟩), ⟨F, QT.mk ht hP hD hO hR⟩⟩, hS.F ht⟩) hS.2.2 dX4_isFieldName_46
      ·
        have hi_13 : (b - a) ≤ 20 := Nat.not_lt.mp (fun q => c_11 ((nI_ltI (a := 20) (b := (b - a)) (by omega) (by omega)).mpr q))
        have hl2 : ¬ 20 < b - a := fun q => c_11 ((nI_ltI (a := 20) (by omega) (by omega)).mpr q)
        refine lv_iconst (v := 1) hx hb dX4_isFieldName_41 (by decide) ?_
        refine lv_goto (tgt := 46) hx hb dX4_isFieldName_42 (by decide) ?_
        refine W.widen (k := 0) (n := 0) (by omega) (by omega) ?_
        exact W.zret (v := 1) (ty := .boolean) hx hb hr (by decide) (fun t ht hWm => ⟨⟨1, (), rfl, (Or.inl ⟨rfl, by omega, by omega, fun j h1 h2 => hv2 j h1 (by omega)⟩), ⟨F, QT.mk ht hP hD hO hR⟩⟩, hS.F ht⟩) hS.2.2 dX4_isFieldName_46
  ·
    have hi_14 : i1 < b := ltN (N := b) c_4
    have hib : i1 < b := Nat.not_le.mp (fun q => c_4 ((nI_leI (by omega) (by omega)).mpr q))
    refine lv_aload_n hx hb dX4_isFieldName_7 rfl (lv_at hl 1 rfl) ?_
    refine lv_iload_n hx hb dX4_isFieldName_8 rfl (lv_at hl 0 rfl) ?_
    obtain ⟨hi_15, ht_16, hq_17⟩ := hW.bytes hL_g1 hT_g1
    have hFc := pg_free hD hS hA
    refine va_calli (va_runV (As := [.int (nI i1)]) (rest := []) ⟨hx, hb, hml, hown, hts⟩ (s_X0_at_e l dC dI cs ty L H.size F g1 σ r1 n1 z i1 f hW hL_g1 hT_g1 hFg hFr (by omega) (by omega) (by omega)) ⟨callB_of 1 hts (gi kt_21) rfl rfl rfl (hts _ kt_1) (hts _ kt_199) (by decide +kernel) ⟨Nat.le_of_ble_eq_true rfl, Nat.le_of_ble_eq_true rfl⟩, (hts _ kt_23), (hts _ kt_24)⟩ ⟨fun a U g mk q => ⟨q.1, PT.calling q.2⟩, pg_recv hK hP hL_g1 hFg (q := (RX0, TX0, 3)) rfl, fun U hU hWm => ⟨rfl, PT.mk hU hWm hP hK hD hE hO⟩⟩ rfl rfl hl.1 rfl (lv_room (Nat.le_of_ble_eq_true rfl)) dX4_isFieldName_9 ⟨by show _ + 0 ≤ 0; omega, by show _ + 0 ≤ 0; omega⟩) hS (fun q _ h => hFc q h) hFc (fun r_18 u t H1 locs ht hvm hw hB hz1 hk1 hS => ?_)
    obtain ⟨F_19, hB1⟩ := hB
    obtain rfl : F = F_19 := (funext (fun a => hB1.2.2.2 a List.not_mem_nil)).symm
    obtain ⟨hP, hD, hO, hR⟩ := QT.back hB1 ht hFc hR (fun q h => absurd h List.not_mem_nil)
    generalize H1 = H at hP hS ⊢
    have hw : r_18 = f i1 := hw
    have hw_20 := hw
    subst hw_20
    have hFc := pg_free hD hS hA
    refine va_calli (va_runS (As := [.int (f i1)]) (rest := []) ⟨hx, hb, hml, hown, hts⟩ (s_X0_isFieldSign_e l dC dI cs ty L H.size F (f i1) hW ) ⟨callB_of 1 hts (gi kt_200) rfl rfl rfl (hts _ kt_1) (hts _ kt_201) (by decide +kernel) ⟨Nat.le_of_ble_eq_true rfl, Nat.le_of_ble_eq_true rfl⟩, (hts _ kt_202)⟩ ⟨fun a U g mk q => ⟨q.1, PT.calling q.2⟩, fun U hU hWm => ⟨rfl, PT.mk hU hWm hP hK hD hE hO⟩⟩ rfl rfl hl.1 rfl (lv_room (Nat.le_of_ble_eq_true rfl)) dX4_isFieldName_12 ⟨by show _ + 0 ≤ 0; omega, by show _ + 0 ≤ 0; omega⟩) hS (fun q _ h => hFc q h) hFc (fun r_21 u t H1 locs ht hvm hw hB hz1 hk1 hS => ?_)
    obtain ⟨F_22, hB1⟩ := hB
    obtain rfl : F = F_22 := (funext (fun a => hB1.2.2.2 a List.not_mem_nil)).symm
    obtain ⟨hP, hD, hO, hR⟩ := QT.back hB1 ht hFc hR (fun q h => absurd h List.not_mem_nil)
    generalize H1 = H at hP hS ⊢
    have hw : r_21 = (if FSG (f i1) = true then 1 else 0) := hw
    have hw_23 := hw
    refine lv_if_ne (tgt := 20) hx hb dX4_isFieldName_15 (by decide) (fun c_24 => ?_) (fun c_24 => ?_)
    ·
      refine lv_iinc (v := (nI (i1 + 1))) (lv' := [(3, .int (nI (i1 + 1))), (0, .ref g1), (1, .int (nI a)), (2, .int (nI b))]) hx hb dX4_isFieldName_20 hl (k := 0) rfl (nI_1 _) (by decide) rfl (fun ls hl => ?_)
      refine lv_goto (tgt := 2) hx hb dX4_isFieldName_23 (by decide) ?_
      refine W.widen (k := 0) (n := 0) (by omega) (by omega) ?_
      exact ih_3 (i1 + 1) F (⟨by omega, by omega, fun j h1 h2 => by rcases Nat.lt_or_ge j i1 with q | q; exact hv2 j h1 q; rw [show j = i1 by omega]; exact clg3 fsgN (ifb1 hw_23 c_24)⟩) (by show b - (i1 + 1) < b - i1; omega) hO hR _ _ hP hD hS ls (lv_sub hl [0, 1, 2, 3] rfl)
    ·
      refine lv_iconst (v := 0) hx hb dX4_isFieldName_18 (by decide) ?_
      refine W.widen (k := 0) (n := 0) (by omega) (by omega) ?_
      exact W.zret (v := 0) (ty := .boolean) hx hb hr (by decide) (fun t ht hWm => ⟨⟨0, (), rfl, (Or.inr ⟨rfl, fun q => clg3n (ifb0 hw_23 c_24) (q.2.2 i1 hv0 hib)⟩), ⟨F, QT.mk ht hP hD hO hR⟩⟩, hS.F ht⟩) hS.2.2 dX4_isFieldName_19
theorem mnI_le {a b : Nat} (h : a ≤ b) (hb : b ≤ 20000) : (if nI b < nI a then nI b else nI a) = nI a := by
  rw [if_neg (fun q => absurd ((nI_ltI (by omega) (by omega)).mp q) (by omega))]
theorem cpy_at {f fr : Nat → Int32} {a k : Nat} (ha : a ≤ 20000) (hk : k ≤ 20000) : ∀ j, j < k → va_cpy f fr (nI a).toNatClampNeg (nI 0).toNatClampNeg (nI k).toNatClampNeg j = f (a + j) := by
  intro j hj
  rw [nI_clamp (by omega), nI_clamp (by omega), nI_clamp (by omega)]
  show (if 0 ≤ j ∧ j < 0 + k then f (a + (j - 0)) else fr j) = _
  rw [if_pos ⟨Nat.zero_le _, by omega⟩, Nat.sub_zero]
set_option maxHeartbeats 4000000 in
set_option maxRecDepth 100000 in
theorem s_X0_addRange_e (l : Launch) (dC : Nat → ClassId) (dI : Nat → Nat → Nat) (cs : Nat → ClassId) (ty : TyM) (L : List Nat) (sz : Nat) (F : Nat → va_E) (h0 : Nat) (ρ : Nat) (r0 : Nat) (n : Nat) (g1 : Nat) (σ : Nat) (r1 : Nat) (n1 : Nat) (z : Nat) (a : Nat) (b : Nat) (f : Nat → Int32) (hW : WT ty L) (hL_h0 : h0 ∈ L) (hT_h0 : ty h0 = (0, ρ, [r0, n])) (hL_g1 : g1 ∈ L) (hT_g1 : ty g1 = (0, σ, [r1, n1])) (hF0 : F h0 = .inr (0, [.ref r0, .int (nI 0), .int 0])) (hFg : F g1 = .inr (0, [.ref r1, .int (nI z), .int 0])) (hFr : F r1 = .inl (cs 16, n1, .inl f)) (hzn : z ≤ n1) (hn9 : n1 ≤ 10000) (hm9 : n ≤ 10000) (hab : a ≤ b) (hbz : b ≤ z) (hfit : b - a ≤ n) : Met l yX0_addRange (.code yX0_addRange cX0_addRange 7 none :: tb) ({ frames := 1, cells := 0, slots := 0, locals := 48 }) (va_Pc [.ref h0, .ref g1, .int (nI a), .int (nI b)] (PT (dC, dI) cs ty L F sz)) (va_Qv (fun _ : Unit => True) (fun _ T9 => ∃ F2 : Nat → va_E, ∃ fc : Nat → Int32, QT (dC, dI) cs ty L [ρ] F F2 (va_A (va_pl L F) sz) T9 ∧ F2 h0 = .inr (0, [.ref r0, .int (nI (b - a)), .int 0]) ∧ F2 r0 = .inl (cs 16, n, .inl fc) ∧ (∀ j, j < b - a → fc j = f (a + j))) (va_A (va_pl L F) sz)) 0 0 (va_A (va_pl L F) sz) := by
  refine Met.ofW (cc := cX0_addRange) (maxL := 7) (ret := none) (by decide) rfl ?_
  intro p e s m args below meth c s₁ B hml hv
  obtain ⟨rfl, hsz, hP, hK, hD0, hE, hO⟩ := hv
  have hx := B.exec
  have hb := B.bytes
  have hr := B.returns
  have hts : ∀ w ∈ tb, w.before _ s = true := fun w h => atoms_spec (ws := .code yX0_addRange cX0_addRange 7 none :: tb) B.pre w (List.mem_cons_of_mem _ h)
  have hown : s.vm.findClass RX0 = some m.cls := findClass_of_methodNamed B.named
  have hlocks := B.notSynchronized
  subst hsz
  have hD := hD0.self (sz := s.heap.size)
  generalize hAe : va_A (va_pl L F) s.heap.size = A at hD ⊢
  have hA : ∀ q : Nat, s.heap.size ≤ q → A q := fun q h => by rw [← hAe]; exact Or.inr h
  have hS : va_S A s.heap s.heap [] := va_S.rf
  have hR : FR ty [ρ] F F := FR.refl
  have hl := lv_entry ([.ref h0, .ref g1, .int (nI a), .int (nI b)]) (n := 7) (Nat.le_of_ble_eq_true rfl)
  rw [lg_entry_eq]
  generalize (lg_sl ([.ref h0, .ref g1, .int (nI a), .int (nI b)]) ++ List.replicate (7 - (lg_sl ([.ref h0, .ref g1, .int (nI a), .int (nI b)])).length) Slot.unset).toArray = ls at hl ⊢
  have hl : lv_has ls 7 [(0, .ref h0), (1, .ref g1), (2, .int (nI a)), (3, .int (nI b))] := hl
  refine lv_iconst (v := 0) hx hb dX0_addRange_0 (by decide) ?_
  refine lv_iload_n hx hb dX0_addRange_1 rfl (lv_at hl 2 rfl) ?_
  refine va_mmax hx hb (by rw [hml]; exact hl.1.symm) hown (hts _ kt_17) (hts _ kt_18) (hts _ kt_19) (hts _ kt_20) (Nat.le_of_ble_eq_true rfl) (Nat.le_of_ble_eq_true rfl) (by show _ ≤ 0; omega) (by show _ ≤ 0; omega) dX0_addRange_2 ?_
  refine lv_topi (fun x_1 ex_1 => ?_)
  obtain rfl : x_1 = (nI a) := ex_1.trans (max0n (by omega))
  refine lv_istore (lv' := [(4, .int (nI a)), (0, .ref h0), (1, .ref g1), (2, .int (nI a)), (3, .int (nI b))]) hx hb dX0_addRange_5 hl (by decide) rfl (fun ls hl => ?_)
  refine lv_iload_n hx hb dX0_addRange_7 rfl (lv_at hl 4 rfl) ?_
  refine lv_aload_n hx hb dX0_addRange_8 rfl (lv_at hl 2 rfl) ?_
  obtain ⟨hi_2, ht_3, hq_4⟩ := hW.bytes hL_g1 hT_g1
  refine pg_get (ci := 0) (v := .int (nI z)) (C := RX0) (T := TX0) (N := 3) hx hb hts it_0 hown hK hP hL_g1 hFg rfl 1 (by decide) (hts _ kt_10) (fun _ h9 => h9) rfl dX0_addRange_9 ?_
  refine va_mmin hx hb (by rw [hml]; exact hl.1.symm) hown (hts _ kt_25) (hts _ kt_26) (hts _ kt_19) (hts _ kt_27) (Nat.le_of_ble_eq_true rfl) (Nat.le_of_ble_eq_true rfl) (by show _ ≤ 0; omega) (by show _ ≤ 0; omega) dX0_addRange_12 ?_
  refine lv_topi (fun x_5 ex_5 => ?_)
  obtain rfl : x_5 = (nI b) := ex_5.trans (mnI_le (by omega) (by omega))
  refine lv_iload hx hb dX0_addRange_15 (lv_at hl 0 rfl) ?_
  refine lv_isub hx hb dX0_addRange_17 ?_
  refine lv_topi (fun x_6 ex_6 => ?_)
  obtain rfl : x_6 = (nI (b - a)) := ex_6.trans (pk_sub hab)
  refine lv_istore (lv' := [(5, .int (nI (b - a))), (4, .int (nI a)), (0, .ref h0), (1, .ref g1), (2, .int (nI a)), (3, .int (nI b))]) hx hb dX0_addRange_18 hl (by decide) rfl (fun ls hl => ?_)
  refine lv_iload hx hb dX0_addRange_20 (lv_at hl 0 rfl) ?_
  refine lv_aload_n hx hb dX0_addRange_22 rfl (lv_at hl 2 rfl) ?_
  obtain ⟨hi_7, ht_8, hq_9⟩ := hW.bytes hL_h0 hT_h0
  refine pg_get (ci := 0) (v := .ref r0) (C := RX0) (T := TX0) (N := 3) hx hb hts it_0 hown hK hP hL_h0 hF0 rfl 0 (by decide) (hts _ kt_12) (fun _ h9 => h9) rfl dX0_addRange_23 ?_
  obtain ⟨f_10, hF_11⟩ := hO.ints hi_7 ht_8
  refine pg_alen (v := (nI n)) hx hb hK hP hi_7 0 hF_11 rfl rfl dX0_addRange_26 ?_
  refine lv_aload_n hx hb dX0_addRange_27 rfl (lv_at hl 2 rfl) ?_
  refine pg_get (ci := 0) (v := .int (nI 0)) (C := RX0) (T := TX0) (N := 3) hx hb hts it_0 hown hK hP hL_h0 hF0 rfl 1 (by decide) (hts _ kt_10) (fun _ h9 => h9) rfl dX0_addRange_28 ?_
  refine lv_isub hx hb dX0_addRange_31 ?_
  refine lv_topi (fun x_12 ex_12 => ?_)
  obtain rfl : x_12 = (nI (n - 0)) := ex_12.trans (pk_sub (by omega))
  refine va_mmin hx hb (by rw [hml]; exact hl.1.symm) hown (hts _ kt_25) (hts _ kt_26) (hts _ kt_19) (hts _ kt_27) (Nat.le_of_ble_eq_true rfl) (Nat.le_of_ble_eq_true rfl) (by show _ ≤ 0; omega) (by show _ ≤ 0; omega) dX0_addRange_32 ?_
  refine lv_topi (fun x_13 ex_13 => ?_)
  obtain rfl : x_13 = (nI (b - a)) := ex_13.trans (mnI_le (by omega) (by omega))
  refine lv_istore (lv' := [(6, .int (nI (b - a))), (5, .int (nI (b - a))), (4, .int (nI a)), (0, .ref h0), (1, .ref g1), (2, .int (nI a)), (3, .int (nI b))]) hx hb dX0_addRange_35 hl (by decide) rfl (fun ls hl => ?_)
  refine lv_iload hx hb dX0_addRange_37 (lv_at hl 0 rfl) ?_
  refine lv_if_le (tgt := 72) hx hb dX0_addRange_39 (by decide) (fun c_14 => ?_) (fun c_14 => ?_)
  ·
    have hz0 : b - a = 0 := by have h9 : b - a ≤ 0 := (nI_leI (b := 0) (by omega) (by omega)).mp c_14; omega
    refine lv_aload_n hx hb dX0_addRange_72 rfl (lv_at hl 3 rfl) ?_
    refine lv_aload_n hx hb dX0_addRange_73 rfl (lv_at hl 3 rfl) ?_
    refine pg_get (ci := 0) (v := .int 0) (C := RX0) (T := TX0) (N := 3) hx hb hts it_0 hown hK hP hL_h0 hF0 rfl 2 (by decide) (hts _ kt_11) (fun _ h9 => h9) rfl dX0_addRange_74 ?_
    refine lv_if_ne (tgt := 87) hx hb dX0_addRange_77 (by decide) (fun c_16 => absurd (by decide) c_16) (fun c_16 => ?_)
    refine lv_iload hx hb dX0_addRange_80 (lv_at hl 0 rfl) ?_
    refine lv_iload hx hb dX0_addRange_82 (lv_at hl 1 rfl) ?_
    refine lv_icmp_ge (tgt := 91) hx hb dX0_addRange_84 (by decide) (fun c_17 => ?_) (fun c_17 => absurd (Int32.le_refl _) c_17)
    refine lv_iconst (v := 0) hx hb dX0_addRange_91 (by decide) ?_
    refine pg_put (ci := 0) (v := .int 0) (ty := .boolean) (C := RX0) (T := TX0) (N := 3) hx hb hts it_0 tyX0 tyX0_ok nmX0 hown hK hP hD hS hL_h0 hF0 rfl 2 (by decide) (hts _ kt_11) (fun _ h9 => h9) rfl (by decide +kernel) (rfl) (rfl) (Nat.le_of_ble_eq_true rfl) dX0_addRange_92 (fun H locs hP hD hS => ?_)
    obtain ⟨F_18, he_19, hP, hD, hO, hR⟩ : ∃ G, G = va_up F h0 (.inr (0, [.ref r0, .int (nI 0), .int 0])) ∧ va_P (dC, dI) vwCl (va_pl L G) H ∧ va_D A (va_pl L G) ∧ OK cs ty L G ∧ FR ty [ρ] F G := ⟨_, rfl, hP, hD, hO.up (sh.bytes hT_h0 ⟨0, 0, rfl, (by first | omega | assumption | exact Or.inl rfl | exact Or.inr rfl), (by first | omega | assumption | exact Or.inl rfl | exact Or.inr rfl)⟩), hR.up hT_h0 (by simp)⟩
    have hF_20 : F_18 h0 = .inr (0, [.ref r0, .int (nI 0), .int 0]) := by rw [he_19]; exact up_self
    have hF_21 : F_18 r1 = .inl (cs 16, n1, .inl f) := by rw [he_19, up_ne (ne_ty ht_3 hT_h0 (by simp))]; exact hFr
    have hF_22 : F_18 r0 = .inl (cs 16, n, .inl f_10) := by rw [he_19, up_ne (ne_ty ht_8 hT_h0 (by simp))]; exact hF_11
    refine W.widen (k := 0) (n := 0) (by omega) (by omega) ?_
    exact W.vret hx hb hr (fun t ht hWm => ⟨⟨(), rfl, trivial, ⟨F_18, f_10, QT.mk ht hP hD hO hR, (by rw [hz0]; exact hF_20), hF_22, (fun j hj => absurd hj (by omega))⟩⟩, hS.F ht⟩) hS.2.2 dX0_addRange_95
  ·
    have hp0 : 0 < b - a := posN c_14
    refine lv_aload_n hx hb dX0_addRange_42 rfl (lv_at hl 4 rfl) ?_
    refine pg_get (ci := 0) (v := .ref r1) (C := RX0) (T := TX0) (N := 3) hx hb hts it_0 hown hK hP hL_g1 hFg rfl 0 (by decide) (hts _ kt_12) (fun _ h9 => h9) rfl dX0_addRange_43 ?_
    refine lv_iload hx hb dX0_addRange_46 (lv_at hl 2 rfl) ?_
    refine lv_aload_n hx hb dX0_addRange_48 rfl (lv_at hl 3 rfl) ?_
    refine pg_get (ci := 0) (v := .ref r0) (C := RX0) (T := TX0) (N := 3) hx hb hts it_0 hown hK hP hL_h0 hF0 rfl 0 (by decide) (hts _ kt_12) (fun _ h9 => h9) rfl dX0_addRange_49 ?_
    refine lv_aload_n hx hb dX0_addRange_52 rfl (lv_at hl 3 rfl) ?_
    refine pg_get (ci := 0) (v := .int (nI 0)) (C := RX0) (T := TX0) (N := 3) hx hb hts it_0 hown hK hP hL_h0 hF0 rfl 1 (by decide) (hts _ kt_10) (fun _ h9 => h9) rfl dX0_addRange_53 ?_
    refine lv_iload hx hb dX0_addRange_56 (lv_at hl 0 rfl) ?_
    refine pg_copyi hx hb (by rw [hml]; exact hl.1.symm) hown (hts _ kt_28) (hts _ kt_29) (hts _ kt_30) (hts _ kt_31) hK hP hD hS hi_2 hi_7 0 0 hFr hF_11 rfl rfl rfl (nI_pos (by omega)) (nI_pos (by omega)) (nI_pos (by omega)) (by rw [nI_clamp (by omega), nI_clamp (by omega)]; omega) (by rw [nI_clamp (by omega), nI_clamp (by omega)]; omega) (fun _ _ => rfl) (Nat.le_of_ble_eq_true rfl) (by decide) dX0_addRange_58 (fun H locs hP hD hS => ?_)
    obtain ⟨F_24, he_25, hP, hD, hO, hR⟩ : ∃ G, G = va_up F r0 (.inl (cs 16, n, .inl (va_cpy f f_10 ((nI a)).toNatClampNeg ((nI 0)).toNatClampNeg ((nI (b - a))).toNatClampNeg))) ∧ va_P (dC, dI) vwCl (va_pl L G) H ∧ va_D A (va_pl L G) ∧ OK cs ty L G ∧ FR ty [ρ] F G := ⟨_, rfl, hP, hD, hO.up (sh.ints ht_8 ⟨_, rfl⟩), hR.up ht_8 (by simp)⟩
    have hF_26 : F_24 r0 = .inl (cs 16, n, .inl (va_cpy f f_10 ((nI a)).toNatClampNeg ((nI 0)).toNatClampNeg ((nI (b - a))).toNatClampNeg)) := by rw [he_25]; exact up_self
    have hF_27 : F_24 h0 = .inr (0, [.ref r0, .int (nI 0), .int 0]) := by rw [he_25, up_ne (ne_ty hT_h0 ht_8 (by simp))]; exact hF0
    have hF_28 : F_24 g1 = .inr (0, [.ref r1, .int (nI z), .int 0]) := by rw [he_25, up_ne (ne_ty hT_g1 ht_8 (by simp))]; exact hFg
    refine lv_aload_n hx hb dX0_addRange_61 rfl (lv_at hl 3 rfl) ?_
    refine lv_dup hx hb dX0_addRange_62 rfl ?_
    refine pg_get (ci := 0) (v := .int (nI 0)) (C := RX0) (T := TX0) (N := 3) hx hb hts it_0 hown hK hP hL_h0 hF_27 rfl 1 (by decide) (hts _ kt_10) (fun _ h9 => h9) rfl dX0_addRange_63 ?_
    refine lv_iload hx hb dX0_addRange_66 (lv_at hl 0 rfl) ?_
    refine lv_iadd hx hb dX0_addRange_68 ?_
    refine lv_topi (fun x_29 ex_29 => ?_)
    obtain rfl : x_29 = (nI (0 + (b - a))) := ex_29.trans (nI_add _ _)
    refine pg_put (ci := 0) (v := .int (nI (0 + (b - a)))) (ty := .int) (C := RX0) (T := TX0) (N := 3) hx hb hts it_0 tyX0 tyX0_ok nmX0 hown hK hP hD hS hL_h0 hF_27 rfl 1 (by decide) (hts _ kt_10) (fun _ h9 => h9) rfl (by decide +kernel) (rfl) (rfl) (Nat.le_of_ble_eq_true rfl) dX0_addRange_69 (fun H locs hP hD hS => ?_)
    obtain ⟨F_30, he_31, hP, hD, hO, hR⟩ : ∃ G, G = va_up F_24 h0 (.inr (0, [.ref r0, .int (nI (0 + (b - a))), .int 0])) ∧ va_P (dC, dI) vwCl (va_pl L G) H ∧ va_D A (va_pl L G) ∧ OK cs ty L G ∧ FR ty [ρ] F G := ⟨_, rfl, hP, hD, hO.up (sh.bytes hT_h0 ⟨(0 + (b - a)), 0, rfl, (by first | omega | assumption | exact Or.inl rfl | exact Or.inr rfl), (by first | omega | assumption | exact Or.inl rfl | exact Or.inr rfl)⟩), hR.up hT_h0 (by simp)⟩
    have hF_32 : F_30 h0 = .inr (0, [.ref r0, .int (nI (0 + (b - a))), .int 0]) := by rw [he_31]; exact up_self
    have hF_33 : F_30 r0 = .inl (cs 16, n, .inl (va_cpy f f_10 ((nI a)).toNatClampNeg ((nI 0)).toNatClampNeg ((nI (b - a))).toNatClampNeg)) := by rw [he_31, up_ne (ne_ty ht_8 hT_h0 (by simp))]; exact hF_26
    refine lv_aload_n hx hb dX0_addRange_72 rfl (lv_at hl 3 rfl) ?_
    refine lv_aload_n hx hb dX0_addRange_73 rfl (lv_at hl 3 rfl) ?_
    refine pg_get (ci := 0) (v := .int 0) (C := RX0) (T := TX0) (N := 3) hx hb hts it_0 hown hK hP hL_h0 hF_32 rfl 2 (by decide) (hts _ kt_11) (fun _ h9 => h9) rfl dX0_addRange_74 ?_
    refine lv_if_ne (tgt := 87) hx hb dX0_addRange_77 (by decide) (fun c_34 => absurd (by decide) c_34) (fun c_34 => ?_)
    refine lv_iload hx hb dX0_addRange_80 (lv_at hl 0 rfl) ?_
    refine lv_iload hx hb dX0_addRange_82 (lv_at hl 1 rfl) ?_
    refine lv_icmp_ge (tgt := 91) hx hb dX0_addRange_84 (by decide) (fun c_35 => ?_) (fun c_35 => absurd (Int32.le_refl _) c_35)
    refine lv_iconst (v := 0) hx hb dX0_addRange_91 (by decide) ?_
    refine pg_put (ci := 0) (v := .int 0) (ty := .boolean) (C := RX0) (T := TX0) (N := 3) hx hb hts it_0 tyX0 tyX0_ok nmX0 hown hK hP hD hS hL_h0 hF_32 rfl 2 (by decide) (hts _ kt_11) (fun _ h9 => h9) rfl (by decide +kernel) (rfl) (rfl) (Nat.le_of_ble_eq_true rfl) dX0_addRange_92 (fun H locs hP hD hS => ?_)
    obtain ⟨F_36, he_37, hP, hD, hO, hR⟩ : ∃ G, G = va_up F_30 h0 (.inr (0, [.ref r0, .int (nI (0 + (b - a))), .int 0])) ∧ va_P (dC, dI) vwCl (va_pl L G) H ∧ va_D A (va_pl L G) ∧ OK cs ty L G ∧ FR ty [ρ] F G := ⟨_, rfl, hP, hD, hO.up (sh.bytes hT_h0 ⟨(0 + (b - a)), 0, rfl, (by first | omega | assumption | exact Or.inl rfl | exact Or.inr rfl), (by first | omega | assumption | exact Or.inl rfl | exact Or.inr rfl)⟩), hR.up hT_h0 (by simp)⟩
    have hF_38 : F_36 h0 = .inr (0, [.ref r0, .int (nI (0 + (b - a))), .int 0]) := by rw [he_37]; exact up_self
    have hF_39 : F_36 r0 = .inl (cs 16, n, .inl (va_cpy f f_10 ((nI a)).toNatClampNeg ((nI 0)).toNatClampNeg ((nI (b - a))).toNatClampNeg)) := by rw [he_37, up_ne (ne_ty ht_8 hT_h0 (by simp))]; exact hF_33
    refine W.widen (k := 0) (n := 0) (by omega) (by omega) ?_
    exact W.vret hx hb hr (fun t ht hWm => ⟨⟨(), rfl, trivial, ⟨F_36, (va_cpy f f_10 ((nI a)).toNatClampNeg ((nI 0)).toNatClampNeg ((nI (b - a))).toNatClampNeg), QT.mk ht hP hD hO hR, (by have h9 := hF_38; rwa [Nat.zero_add] at h9), hF_39, cpy_at (by omega) (by omega)⟩⟩, hS.F ht⟩) hS.2.2 dX0_addRange_95
set_option maxHeartbeats 4000000 in
set_option maxRecDepth 100000 in
theorem s_X0_copy_e (l : Launch) (dC : Nat → ClassId) (dI : Nat → Nat → Nat) (cs : Nat → ClassId) (ty : TyM) (L : List Nat) (sz : Nat) (F : Nat → va_E) (h0 : Nat) (ρ : Nat) (r0 : Nat) (n : Nat) (g1 : Nat) (σ : Nat) (r1 : Nat) (n1 : Nat) (z : Nat) (f : Nat → Int32) (hW : WT ty L) (hL_h0 : h0 ∈ L) (hT_h0 : ty h0 = (0, ρ, [r0, n])) (hL_g1 : g1 ∈ L) (hT_g1 : ty g1 = (0, σ, [r1, n1])) (hFg : F g1 = .inr (0, [.ref r1, .int (nI z), .int 0])) (hFr : F r1 = .inl (cs 16, n1, .inl f)) (hzn : z ≤ n1) (hn9 : n1 ≤ 10000) (hm9 : n ≤ 10000) (hfit : z ≤ n) (hne : σ ≠ ρ) : Met l yX0_copy (.code yX0_copy cX0_copy 2 none :: tb) ({ frames := 2, cells := 0, slots := 0, locals := 74 }) (va_Pc [.ref h0, .ref g1] (PT (dC, dI) cs ty L F sz)) (va_Qv (fun _ : Unit => True) (fun _ T9 => ∃ F2 : Nat → va_E, ∃ fc : Nat → Int32, QT (dC, dI) cs ty L [ρ] F F2 (va_A (va_pl L F) sz) T9 ∧ F2 h0 = .inr (0, [.ref r0, .int (nI z), .int 0]) ∧ F2 r0 = .inl (cs 16, n, .inl fc) ∧ (∀ j, j < z → fc j = f j)) (va_A (va_pl L F) sz)) 0 0 (va_A (va_pl L F) sz) := by
  refine Met.ofW (cc := cX0_copy) (maxL := 2) (ret := none) (by decide) rfl ?_
  intro p e s m args below meth c s₁ B hml hv
  obtain ⟨rfl, hsz, hP, hK, hD0, hE, hO⟩ := hv
  have hx := B.exec
  have hb := B.bytes
  have hr := B.returns
  have hts : ∀ w ∈ tb, w.before _ s = true := fun w h => atoms_spec (ws := .code yX0_copy cX0_copy 2 none :: tb) B.pre w (List.mem_cons_of_mem _ h)
  have hown : s.vm.findClass RX0 = some m.cls := findClass_of_methodNamed B.named
  have hlocks := B.notSynchronized
  subst hsz
  have hD := hD0.self (sz := s.heap.size)
  generalize hAe : va_A (va_pl L F) s.heap.size = A at hD ⊢
  have hA : ∀ q : Nat, s.heap.size ≤ q → A q := fun q h => by rw [← hAe]; exact Or.inr h
  have hS : va_S A s.heap s.heap [] := va_S.rf
  have hR : FR ty [ρ] F F := FR.refl
  have hl := lv_entry ([.ref h0, .ref g1]) (n := 2) (Nat.le_of_ble_eq_true rfl)
  rw [lg_entry_eq]
  generalize (lg_sl ([.ref h0, .ref g1]) ++ List.replicate (2 - (lg_sl ([.ref h0, .ref g1])).length) Slot.unset).toArray = ls at hl ⊢
  have hl : lv_has ls 2 [(0, .ref h0), (1, .ref g1)] := hl
  obtain ⟨hi_1, ht_2, hq_3⟩ := hW.bytes hL_h0 hT_h0
  obtain ⟨hi_4, ht_5, hq_6⟩ := hW.bytes hL_g1 hT_g1
  refine lv_aload_n hx hb dX0_copy_0 rfl (lv_at hl 0 rfl) ?_
  have hFc := pg_free hD hS hA
  obtain ⟨z_7, o_8, hF_9, hq_10, hq_11⟩ := hO.bytes hL_h0 hT_h0
  refine va_callv (va_runV (As := []) (rest := []) ⟨hx, hb, hml, hown, hts⟩ (s_X0_clear l dC dI cs ty L s.heap.size F h0 ρ r0 n hW hL_h0 hT_h0) ⟨callB_of 0 hts (gi kt_32) rfl rfl rfl (hts _ kt_1) (hts _ kt_33) (by decide +kernel) ⟨Nat.le_of_ble_eq_true rfl, Nat.le_of_ble_eq_true rfl⟩, (hts _ kt_34), (hts _ kt_35)⟩ ⟨fun a U g mk q => ⟨q.1, PT.calling q.2⟩, pg_recv hK hP hL_h0 hF_9 (q := (RX0, TX0, 3)) rfl, fun U hU hWm => ⟨rfl, PT.mk hU hWm hP hK hD hE hO⟩⟩ rfl rfl hl.1 rfl (lv_room (Nat.le_of_ble_eq_true rfl)) dX0_copy_1 ⟨by show _ + 0 ≤ 0; omega, by show _ + 0 ≤ 0; omega⟩) hS (fun q _ h => hFc q h) hFc (fun u t H1 locs ht hvm hw hB hz1 hk1 hS => ?_)
  obtain ⟨F_13, hB1, hq_14⟩ := hB
  obtain ⟨hP, hD, hO, hR⟩ := QT.back hB1 ht hFc hR (fun q h => by simp only [List.mem_cons, List.not_mem_nil, or_false] at h ⊢; omega)
  generalize H1 = H at hP hS ⊢
  have hF_15 : F_13 g1 = .inr (0, [.ref r1, .int (nI z), .int 0]) := (hB1.2.2.2 g1 (by rw [hT_g1]; simp only [List.mem_singleton]; exact hne)).trans hFg
  have hF_16 : F_13 r1 = .inl (cs 16, n1, .inl f) := (hB1.2.2.2 r1 (by rw [ht_5]; simp only [List.mem_singleton]; exact hne)).trans hFr
  refine lv_aload_n hx hb dX0_copy_4 rfl (lv_at hl 0 rfl) ?_
  refine lv_aload_n hx hb dX0_copy_5 rfl (lv_at hl 1 rfl) ?_
  refine lv_iconst (v := 0) hx hb dX0_copy_6 (by decide) ?_
  refine lv_aload_n hx hb dX0_copy_7 rfl (lv_at hl 1 rfl) ?_
  refine pg_get (ci := 0) (v := .int (nI z)) (C := RX0) (T := TX0) (N := 3) hx hb hts it_0 hown hK hP hL_g1 hF_15 rfl 1 (by decide) (hts _ kt_10) (fun _ h9 => h9) rfl dX0_copy_8 ?_
  refine W.eq (g2 := F0 m 11 ls [.int (nI z), .int (nI 0), .ref g1, .ref h0]) rfl ?_
  have hFc := pg_free hD hS hA
  refine va_callv (va_runV (As := [.ref g1, .int (nI 0), .int (nI z)]) (rest := []) ⟨hx, hb, hml, hown, hts⟩ (s_X0_addRange_e l dC dI cs ty L H.size F_13 h0 ρ r0 n g1 σ r1 n1 z 0 z f hW hL_h0 hT_h0 hL_g1 hT_g1 hq_14 hF_15 hF_16 (by omega) (by omega) (by omega) (Nat.zero_le _) (by omega) (by omega)) ⟨callB_of 3 hts (gi kt_36) rfl rfl rfl (hts _ kt_1) (hts _ kt_37) (by decide +kernel) ⟨Nat.le_of_ble_eq_true rfl, Nat.le_of_ble_eq_true rfl⟩, (hts _ kt_38), (hts _ kt_39)⟩ ⟨fun a U g mk q => ⟨q.1, PT.calling q.2⟩, pg_recv hK hP hL_h0 hq_14 (q := (RX0, TX0, 3)) rfl, fun U hU hWm => ⟨rfl, PT.mk hU hWm hP hK hD hE hO⟩⟩ rfl rfl hl.1 rfl (lv_room (Nat.le_of_ble_eq_true rfl)) dX0_copy_11 ⟨by show _ + 0 ≤ 0; omega, by show _ + 0 ≤ 0; omega⟩) hS (fun q _ h => hFc q h) hFc (fun u t H1 locs ht hvm hw hB hz1 hk1 hS => ?_)
  obtain ⟨F_18, fc_19, hB1, hq_20, hq_21, hq_22⟩ := hB
  obtain ⟨hP, hD, hO, hR⟩ := QT.back hB1 ht hFc hR (fun q h => by simp only [List.mem_cons, List.not_mem_nil, or_false] at h ⊢; omega)
  generalize H1 = H at hP hS ⊢
  refine W.widen (k := 0) (n := 0) (by omega) (by omega) ?_
  exact W.vret hx hb hr (fun t ht hWm => ⟨⟨(), rfl, trivial, ⟨F_18, fc_19, QT.mk ht hP hD hO hR, hq_20, hq_21, (fun j hj => (hq_22 j (by omega)).trans (congrArg f (Nat.zero_add j)))⟩⟩, hS.F ht⟩) hS.2.2 dX0_copy_14
