def FSR (c : Int32) : Bool := decide (((97 ≤ c ∧ c ≤ 122) ∨ (65 ≤ c ∧ c ≤ 90)) ∨ (48 ≤ c ∧ c ≤ 57) ∨ c = 45)
theorem fsr_a {c : Int32} (h : (97 ≤ c ∧ c ≤ 122) ∨ (65 ≤ c ∧ c ≤ 90)) : FSR c = true := decide_eq_true (Or.inl h)
theorem fsr_b {c : Int32} (h : 48 ≤ c ∧ c ≤ 57) : FSR c = true := decide_eq_true (Or.inr (Or.inl h))
theorem fsr_c {c : Int32} (h : c = 45) : FSR c = true := decide_eq_true (Or.inr (Or.inr h))
theorem fsr_n {c : Int32} (h1 : ¬ ((97 ≤ c ∧ c ≤ 122) ∨ (65 ≤ c ∧ c ≤ 90))) (h2 : ¬ (48 ≤ c ∧ c ≤ 57)) (h3 : ¬ c = 45) : ¬ FSR c = true := fun q => (of_decide_eq_true q).elim h1 (fun q => q.elim h2 h3)
theorem fsrN : FSR 10 = false ∧ FSR 32 = false ∧ FSR 9 = false ∧ FSR 58 = false := by decide +kernel
def clr (g : Nat → Int32) : Nat → Nat := fun j => clg FSR (g j)
theorem mr_end {T : Nat → Nat} {z n a b : Nat} {g : Nat → Nat → Nat} {X : MRA} (h : z ≤ a) (h9 : z ≤ b) (q : MR T z n g a X) : MR T z n g b X := by
  obtain ⟨k, hk⟩ := q
  cases k with
  | zero =>
    have h9 : (none : Option MRA) = some X := hk
    cases h9
  | succ k =>
    rw [mrw_s, if_pos h] at hk
    exact ⟨0 + 1, by rw [mrw_s, if_pos h9]; exact hk⟩
theorem mr_min {T : Nat → Nat} {z n e k : Nat} {g : Nat → Nat → Nat} {X : MRA} (he : e ≤ z) (hk : k = min z (e + 1)) (q : MR T z n g k X) : MR T z n g (e + 1) X := by
  rcases Nat.lt_or_ge e z with w | w
  · rw [show e + 1 = k by omega]
    exact q
  · exact mr_end (by omega) (by omega) q
theorem fdt_hit (T : Nat → Nat) (t : Nat) : ∀ d i : Nat, fdt T t d i < i + d → T (fdt T t d i) = t := by
  intro d
  induction d with
  | zero => intro i h; exact absurd h (Nat.lt_irrefl _)
  | succ d ih =>
    intro i h
    rw [fdt_s] at h ⊢
    by_cases q : T i = t
    · rw [if_pos q]
      exact q
    · rw [if_neg q] at h ⊢
      exact ih (i + 1) (by omega)
theorem mr_badr {T : Nat → Nat} {z n a e k w : Nat} {g : Nat → Nat → Nat} (h : ¬ z ≤ a) (h0 : ¬ T a = 0) (h1 : ¬ T a = 1) (he : FSF T 0 a z e) (hw : w = min z (e + 1)) (hs : ∀ i, a ≤ i → i < k → T i = 3) (hns : k = w ∨ ¬ T k = 3) (hak : a ≤ k) (hb : ¬ (1 ≤ k - a ∧ k - a ≤ 20) ∨ k = w ∨ ¬ T k = 2 ∨ ¬ n < 20) : MR T z n g a none := by
  refine mr_bad h h0 h1 he (fun q => ?_)
  obtain ⟨q1, q2⟩ := q
  unfold FLN at q2
  rw [Bool.and_eq_true] at q2
  obtain ⟨a1, a2, a3⟩ := of_decide_eq_true q2.1
  have hf := fsw_n T _ a q2.2
  have ht2 := fdt_hit T 2 (e - a) a (by omega)
  have hez := he.2.1
  generalize fdt T 2 (e - a) a = K at a1 a2 a3 hf ht2
  have hkK : k = K := by
    rcases Nat.lt_trichotomy k K with c | c | c
    · rcases hns with d | d
      · omega
      · exact absurd (hf k hak (by omega)) d
    · exact c
    · have d := hs K (by omega) c
      omega
  rcases hb with c | c | c | c
  · omega
  · omega
  · exact c (by rw [hkK]; exact ht2)
  · exact c q1
theorem mr_fldr {T : Nat → Nat} {z n a e k w : Nat} {g : Nat → Nat → Nat} {X : MRA} (h : ¬ z ≤ a) (h0 : ¬ T a = 0) (h1 : ¬ T a = 1) (he : FSF T 0 a z e) (hw : w = min z (e + 1)) (hs : ∀ i, a ≤ i → i < k → T i = 3) (ha1 : a + 1 ≤ k) (ha2 : k ≤ a + 20) (hkw : k < w) (h2 : T k = 2) (hn : n < 20) (hX : MR T z (n + 1) (gpt g n a k e) w X) : MR T z n g a X := by
  have hez := he.2.1
  have hke : k ≠ e := fun q => by
    rcases he.2.2.2 with d | d
    · omega
    · rw [← q, h2] at d
      exact absurd d (by decide)
  exact mr_fld h h0 h1 he ⟨by omega, by omega, fun j q1 q2 => by rw [hs j q1 q2]; decide, Or.inr h2⟩ hke ⟨ha1, ha2, hs⟩ hn (mr_min hez hw hX)
theorem msg_f0 {T : Nat → Nat} {z n b : Nat} {g : Nat → Nat → Nat} (hn : n = 0) (q : MR T z 0 gz 0 (finm n g b)) : MSG T z (-1) := by
  rw [finm_0 hn] at q
  exact Or.inr ⟨rfl, q⟩
theorem msg_f1 {T : Nat → Nat} {z n b : Nat} {g : Nat → Nat → Nat} (hn : ¬ n = 0) (q : MR T z 0 gz 0 (finm n g b)) : MSG T z (nI n) := by
  rw [finm_p hn] at q
  exact Or.inl ⟨n, g, b, rfl, q⟩
theorem msg_no {T : Nat → Nat} {z : Nat} (q : MR T z 0 gz 0 none) : MSG T z (-1) := Or.inr ⟨rfl, q⟩
def FLG (f0 f1 f2 : Nat → Int32) (n w z : Nat) (g : Nat → Nat → Nat) : Prop := (∀ j, j < n → f0 j = nI (g 0 j) ∧ f1 j = nI (g 1 j) ∧ f2 j = nI (min z (g 2 j + 1))) ∧ (∀ j, j < n → g 0 j < g 1 j ∧ g 1 j < min z (g 2 j + 1) ∧ min z (g 2 j + 1) ≤ w) ∧ (∀ j, j + 1 < n → min z (g 2 j + 1) ≤ g 0 (j + 1))
theorem FLG.nil {f0 f1 f2 : Nat → Int32} {w z : Nat} {g : Nat → Nat → Nat} : FLG f0 f1 f2 0 w z g := ⟨fun _ h => absurd h (Nat.not_lt_zero _), fun _ h => absurd h (Nat.not_lt_zero _), fun _ h => absurd h (Nat.not_lt_zero _)⟩
theorem FLG.mono {f0 f1 f2 : Nat → Int32} {n w v z : Nat} {g : Nat → Nat → Nat} (h : FLG f0 f1 f2 n w z g) (hw : w ≤ v) : FLG f0 f1 f2 n v z g := by
  obtain ⟨h1, h2, h3⟩ := h
  exact ⟨h1, fun j hj => ⟨(h2 j hj).1, (h2 j hj).2.1, Nat.le_trans (h2 j hj).2.2 hw⟩, h3⟩
theorem FLG.add {f0 f1 f2 : Nat → Int32} {n w k v e z : Nat} {g : Nat → Nat → Nat} (h : FLG f0 f1 f2 n w z g) (h1 : w < k) (h2 : k < v) (hv : v = min z (e + 1)) : FLG (upd f0 n (nI w)) (upd f1 n (nI k)) (upd f2 n (nI v)) (n + 1) v z (gpt g n w k e) := by
  obtain ⟨a1, a2, a3⟩ := h
  refine ⟨?_, ?_, ?_⟩
  · intro j hj
    by_cases c : j = n
    · subst c
      rw [gpt_0, gpt_1, gpt_2, updc_at, updc_at, updc_at, ← hv]
      exact ⟨rfl, rfl, rfl⟩
    · rw [gpt_ne c, gpt_ne c, gpt_ne c, updc_ne c, updc_ne c, updc_ne c]
      exact a1 j (by omega)
  · intro j hj
    by_cases c : j = n
    · subst c
      rw [gpt_0, gpt_1, gpt_2, ← hv]
      exact ⟨h1, h2, Nat.le_refl _⟩
    · rw [gpt_ne c, gpt_ne c, gpt_ne c]
      have b := a2 j (by omega)
      exact ⟨b.1, b.2.1, by omega⟩
  · intro j hj
    have c : j ≠ n := by omega
    rw [gpt_ne c]
    by_cases d : j + 1 = n
    · have b := a2 j (by omega)
      rw [d, gpt_0]
      exact b.2.2
    · rw [gpt_ne d]
      exact a3 j (by omega)
theorem FLG.con {f0 f1 f2 : Nat → Int32} {n w v e z : Nat} {g : Nat → Nat → Nat} (h : FLG f0 f1 f2 n w z g) (hn : 0 < n) (hw : w ≤ v) (hv : v = min z (e + 1)) : FLG f0 f1 (upd f2 (n - 1) (nI v)) n v z (gpt g (n - 1) (g 0 (n - 1)) (g 1 (n - 1)) e) := by
  obtain ⟨a1, a2, a3⟩ := h
  refine ⟨?_, ?_, ?_⟩
  · intro j hj
    have b := a1 j hj
    by_cases c : j = n - 1
    · rw [c] at b ⊢
      rw [gpt_0, gpt_1, gpt_2, updc_at, ← hv]
      exact ⟨b.1, b.2.1, rfl⟩
    · rw [gpt_ne c, gpt_ne c, gpt_ne c, updc_ne c]
      exact b
  · intro j hj
    have b := a2 j hj
    by_cases c : j = n - 1
    · rw [c] at b ⊢
      rw [gpt_0, gpt_1, gpt_2, ← hv]
      exact ⟨b.1, by omega, Nat.le_refl _⟩
    · rw [gpt_ne c, gpt_ne c, gpt_ne c]
      exact ⟨b.1, b.2.1, Nat.le_trans b.2.2 hw⟩
  · intro j hj
    have b := a3 j hj
    have c : j ≠ n - 1 := by omega
    rw [gpt_ne c]
    by_cases d : j + 1 = n - 1
    · rw [d] at b ⊢
      rw [gpt_0]
      exact b
    · rw [gpt_ne d]
      exact b
def grz (z : Nat) (g : Nat → Nat → Nat) : Nat → Nat → Nat := fun k j => if k = 2 then min z (g 2 j + 1) else g k j
theorem FLG.out {f0 f1 f2 : Nat → Int32} {n w z : Nat} {g : Nat → Nat → Nat} (h : FLG f0 f1 f2 n w z g) : (∀ j, j < n → f0 j = nI (grz z g 0 j) ∧ f1 j = nI (grz z g 1 j) ∧ f2 j = nI (grz z g 2 j)) ∧ (∀ j, j < n → grz z g 0 j < grz z g 1 j ∧ grz z g 1 j < grz z g 2 j ∧ grz z g 2 j ≤ w) ∧ (∀ j, j + 1 < n → grz z g 2 j ≤ grz z g 0 (j + 1)) := by
  obtain ⟨h1, h2, h3⟩ := h
  have e0 : ∀ j, grz z g 0 j = g 0 j := fun _ => if_neg (by decide)
  have e1 : ∀ j, grz z g 1 j = g 1 j := fun _ => if_neg (by decide)
  have e2 : ∀ j, grz z g 2 j = min z (g 2 j + 1) := fun _ => if_pos rfl
  refine ⟨fun j hj => ?_, fun j hj => ?_, fun j hj => ?_⟩
  · rw [e0, e1, e2]
    exact h1 j hj
  · rw [e0, e1, e2]
    exact h2 j hj
  · rw [e0, e2]
    exact h3 j hj
theorem cpy_ml {f fr : Nat → Int32} {k : Nat} (hk : k ≤ 20000) : ∀ j, j < k → va_cpy f fr (0 : Int32).toNatClampNeg (0 : Int32).toNatClampNeg (nI k).toNatClampNeg j = f j := by
  intro j hj
  rw [nI_clamp (by omega), show (0 : Int32).toNatClampNeg = 0 from by decide]
  show (if 0 ≤ j ∧ j < 0 + k then f (0 + (j - 0)) else fr j) = _
  rw [if_pos ⟨Nat.zero_le _, by omega⟩, Nat.sub_zero, Nat.zero_add]
theorem msx_f0 {T : Nat → Nat} {z n b : Nat} {g : Nat → Nat → Nat} (hn : n = 0) (q : MR T z 0 gz 0 (finm n g b)) : MSX T z (-1) none := by
  rw [finm_0 hn] at q
  exact ⟨q, Or.inl ⟨rfl, rfl⟩⟩
theorem msx_f1 {T : Nat → Nat} {z n b : Nat} {g : Nat → Nat → Nat} (hn : ¬ n = 0) (h20 : n ≤ 20) (q : MR T z 0 gz 0 (finm n g b)) : MSX T z (nI n) (some (n, g, b)) := by
  rw [finm_p hn] at q
  exact ⟨q, Or.inr ⟨(n, g, b), rfl, rfl, Nat.pos_of_ne_zero hn, h20⟩⟩
theorem msx_no {T : Nat → Nat} {z : Nat} (q : MR T z 0 gz 0 none) : MSX T z (-1) none := ⟨q, Or.inl ⟨rfl, rfl⟩⟩
def alP (f : Nat → Int32) (a b : Nat) (C : Nat → Int32) (k : Nat) : Prop := b = a + k ∧ ∀ i, i < k → smv (f (a + i)) = chv (C i)
def REL (f g : Nat → Int32) (z : Nat) : Prop := ∀ j, j < z → ∃ n : Nat, n < 256 ∧ f j = nI n ∧ g j = vp_nar .byte (nI n)
theorem oct_all : ∀ n, n < 256 → OKC (nI n) = OKC (vp_nar .byte (nI n)) ∧ (nI n = 46 ↔ vp_nar .byte (nI n) = 46) ∧ (nI n = 32 ↔ vp_nar .byte (nI n) = 32) ∧ (nI n = 64 ↔ vp_nar .byte (nI n) = 64) ∧ LOC (nI n) = LOC (vp_nar .byte (nI n)) := by decide +kernel
theorem REL.ok {f g : Nat → Int32} {z j : Nat} (h : REL f g z) (hj : j < z) : OKC (f j) = OKC (g j) ∧ (f j = 46 ↔ g j = 46) ∧ (f j = 32 ↔ g j = 32) ∧ (f j = 64 ↔ g j = 64) ∧ LOC (f j) = LOC (g j) := by
  obtain ⟨n, h1, h2, h3⟩ := h j hj
  rw [h2, h3]
  exact oct_all n h1
theorem REL.zero {f g : Nat → Int32} : REL f g 0 := fun j h => absurd h (Nat.not_lt_zero _)
theorem REL.le {f g : Nat → Int32} {z y : Nat} (h : REL f g z) (hy : y ≤ z) : REL f g y := fun j hj => h j (Nat.lt_of_lt_of_le hj hy)
theorem nmw_rel {f g : Nat → Int32} {z : Nat} (h : REL f g z) : ∀ k i p : Nat, i + k ≤ z → nmw f k i p = nmw g k i p := by
  intro k
  induction k with
  | zero => intro i p _; rfl
  | succ k ih =>
    intro i p hi
    obtain ⟨h1, h2, -⟩ := h.ok (j := i) (by omega)
    unfold nmw
    rw [h1, ih (i + 1) 0 (by omega), ih (i + 1) (p + 1) (by omega)]
    by_cases q : f i = 46
    · rw [if_pos q, if_pos (h2.mp q)]
    · rw [if_neg q, if_neg (fun w => q (h2.mpr w))]
theorem NM_rel {f g : Nat → Int32} {z a b : Nat} (h : REL f g z) (hb : b ≤ z) : NM f a b = NM g a b := by
  unfold NM
  by_cases q : a ≤ b
  · rw [nmw_rel h (b - a) a 0 (by omega)]
  · rw [decide_eq_false (show ¬ (a + 1 ≤ b ∧ b ≤ a + 60) by omega), Bool.false_and, Bool.false_and]
theorem FST_rel {f g : Nat → Int32} {z k : Nat} (h : REL f g z) : FST f 32 z k ↔ FST g 32 z k := by
  constructor
  · rintro ⟨h1, h2, h3⟩
    refine ⟨h1, fun j hj => fun w => h2 j hj ((h.ok (by omega)).2.2.1.mpr w), ?_⟩
    rcases h3 with h3 | h3
    · exact Or.inl h3
    · rcases Nat.lt_or_ge k z with q | q
      · exact Or.inr ((h.ok q).2.2.1.mp h3)
      · exact Or.inl (by omega)
  · rintro ⟨h1, h2, h3⟩
    refine ⟨h1, fun j hj => fun w => h2 j hj ((h.ok (by omega)).2.2.1.mp w), ?_⟩
    rcases h3 with h3 | h3
    · exact Or.inl h3
    · rcases Nat.lt_or_ge k z with q | q
      · exact Or.inr ((h.ok q).2.2.1.mpr h3)
      · exact Or.inl (by omega)
theorem ISV_rel {x : Int32} {f g : Nat → Int32} {z k : Nat} (h : REL f g z) : ISV x f z k ↔ ISV x g z k := by
  unfold ISV
  rw [NM_rel h (Nat.le_refl z)]
theorem VAL_rel {x : Int32} {f g : Nat → Int32} {z : Nat} (h : REL f g z) : VAL x f z ↔ VAL x g z := by
  unfold VAL
  constructor
  · rintro ⟨h1, h2, k, hk, h3, h4⟩
    refine ⟨h1, h2, k, (FST_rel h).mp hk, fun q => ?_, fun q => ?_⟩
    · rw [← NM_rel h hk.1]
      exact ⟨(h3 q).1, (ISV_rel h).mp (h3 q).2⟩
    · rw [← NM_rel h (Nat.le_refl z)]
      exact h4 q
  · rintro ⟨h1, h2, k, hk, h3, h4⟩
    refine ⟨h1, h2, k, (FST_rel h).mpr hk, fun q => ?_, fun q => ?_⟩
    · rw [NM_rel h hk.1]
      exact ⟨(h3 q).1, (ISV_rel h).mpr (h3 q).2⟩
    · rw [NM_rel h (Nat.le_refl z)]
      exact h4 q
theorem FST64_rel {f g : Nat → Int32} {z k : Nat} (h : REL f g z) : FST f 64 z k ↔ FST g 64 z k := by
  constructor
  · rintro ⟨h1, h2, h3⟩
    refine ⟨h1, fun j hj => fun w => h2 j hj ((h.ok (by omega)).2.2.2.1.mpr w), ?_⟩
    rcases h3 with h3 | h3
    · exact Or.inl h3
    · rcases Nat.lt_or_ge k z with q | q
      · exact Or.inr ((h.ok q).2.2.2.1.mp h3)
      · exact Or.inl (by omega)
  · rintro ⟨h1, h2, h3⟩
    refine ⟨h1, fun j hj => fun w => h2 j hj ((h.ok (by omega)).2.2.2.1.mp w), ?_⟩
    rcases h3 with h3 | h3
    · exact Or.inl h3
    · rcases Nat.lt_or_ge k z with q | q
      · exact Or.inr ((h.ok q).2.2.2.1.mpr h3)
      · exact Or.inl (by omega)
theorem SND_rel {f g : Nat → Int32} {z : Nat} (h : REL f g z) : SND f z ↔ SND g z := by
  constructor
  · rintro ⟨k, hk, ⟨a1, a2, a3⟩, hN⟩
    refine ⟨k, (FST64_rel h).mp hk, ⟨a1, a2, fun j hj => ?_⟩, ?_⟩
    · rw [← (h.ok (Nat.lt_of_lt_of_le hj hk.1)).2.2.2.2]
      exact a3 j hj
    · rw [← NM_rel h (Nat.le_refl z)]
      exact hN
  · rintro ⟨k, hk, ⟨a1, a2, a3⟩, hN⟩
    refine ⟨k, (FST64_rel h).mpr hk, ⟨a1, a2, fun j hj => ?_⟩, ?_⟩
    · rw [(h.ok (Nat.lt_of_lt_of_le hj hk.1)).2.2.2.2]
      exact a3 j hj
    · rw [NM_rel h (Nat.le_refl z)]
      exact hN
theorem snd_same {f g : Nat → Int32} {z : Nat} {r q : Int32} (h : REL f g z) (h1 : (r = 0 ∧ SND f z) ∨ (r = (-1) ∧ ¬ SND f z)) (h2 : (q = 0 ∧ SND g z) ∨ (q = (-1) ∧ ¬ SND g z)) : r = q := by
  rcases h1 with ⟨a, b⟩ | ⟨a, b⟩ <;> rcases h2 with ⟨c, d⟩ | ⟨c, d⟩
  · rw [a, c]
  · exact absurd ((SND_rel h).mp b) d
  · exact absurd ((SND_rel h).mpr d) b
  · rw [a, c]
theorem oc_eq (x s : Int32) (k D : Nat) (hD : 2 ^ k = D) (hs : ((s.toUInt32 &&& Int32.toUInt32 31).toBitVec % 32).toNat = k) : ocT x s = nI (x.toBitVec.toNat / D % 256) := by
  have a1 := pk_ushr x s k hs
  rw [hD] at a1
  have a2 := pk_and (x.toUInt32 >>> (s.toUInt32 &&& Int32.toUInt32 31)).toInt32 (m := 255) 8 (by decide)
  rw [a1] at a2
  exact a2
theorem bm_eq {a b : Int} (h : a % 256 = b % 256) : a.bmod 256 = b.bmod 256 := by
  unfold Int.bmod
  rw [show a % ((256 : Nat) : Int) = b % ((256 : Nat) : Int) from h]
theorem x_int (x : Int32) : x.toInt = if 2 * x.toBitVec.toNat < 4294967296 then (x.toBitVec.toNat : Int) else (x.toBitVec.toNat : Int) - 4294967296 := BitVec.toInt_eq_toNat_cond x.toBitVec
theorem nar_i (y : Int32) : (vp_nar .byte y).toInt = y.toInt.bmod 256 := (Int8.toInt_toInt32 y.toInt8).trans (Int32.toInt_toInt8 y)
theorem by_eq (x t : Int32) (k n : Nat) (d : Int) (hd : ((2 ^ k : Nat) : Int) = d) (hk : (t.toBitVec.smod 32).toNat = k) (hn : (x.toInt / d) % 256 = ((n : Nat) : Int) % 256) (hn2 : n < 256) : vp_nar .byte ((x >>> t).toInt8.toInt32) = vp_nar .byte (nI n) := by
  have h1 : ((x >>> t).toInt8.toInt32).toInt = (x.toInt / d).bmod 256 := by
    have a := (Int8.toInt_toInt32 (x >>> t).toInt8).trans (Int32.toInt_toInt8 (x >>> t))
    rw [pk_shr x t k hk, Int.shiftRight_eq_div_pow, hd] at a
    exact a
  apply Int32.toInt_inj.mp
  rw [nar_i, nar_i, h1, nI_toInt (by omega), Int.bmod_bmod]
  exact bm_eq hn
theorem sh_24 (x : Int32) : (x.toInt / (16777216 : Int)) % 256 = ((x.toBitVec.toNat / 16777216 % 256 : Nat) : Int) % 256 := by
  have h := x_int x
  have hb := x.toBitVec.isLt
  generalize x.toBitVec.toNat = a at h hb ⊢
  split at h <;> omega
theorem ob_24 (x : Int32) : ∃ n : Nat, n < 256 ∧ ocT x 24 = nI n ∧ vp_nar .byte ((x >>> (nI 24 &&& 31)).toInt8.toInt32) = vp_nar .byte (nI n) :=
  ⟨x.toBitVec.toNat / 16777216 % 256, Nat.mod_lt _ (by decide), oc_eq x 24 24 16777216 (by decide) (by decide), by_eq x (nI 24 &&& 31) 24 _ (16777216 : Int) (by decide) (by decide) (sh_24 x) (Nat.mod_lt _ (by decide))⟩
theorem sh_16 (x : Int32) : (x.toInt / (65536 : Int)) % 256 = ((x.toBitVec.toNat / 65536 % 256 : Nat) : Int) % 256 := by
  have h := x_int x
  have hb := x.toBitVec.isLt
  generalize x.toBitVec.toNat = a at h hb ⊢
  split at h <;> omega
theorem ob_16 (x : Int32) : ∃ n : Nat, n < 256 ∧ ocT x 16 = nI n ∧ vp_nar .byte ((x >>> (nI 16 &&& 31)).toInt8.toInt32) = vp_nar .byte (nI n) :=
  ⟨x.toBitVec.toNat / 65536 % 256, Nat.mod_lt _ (by decide), oc_eq x 16 16 65536 (by decide) (by decide), by_eq x (nI 16 &&& 31) 16 _ (65536 : Int) (by decide) (by decide) (sh_16 x) (Nat.mod_lt _ (by decide))⟩
theorem sh_8 (x : Int32) : (x.toInt / (256 : Int)) % 256 = ((x.toBitVec.toNat / 256 % 256 : Nat) : Int) % 256 := by
  have h := x_int x
  have hb := x.toBitVec.isLt
  generalize x.toBitVec.toNat = a at h hb ⊢
  split at h <;> omega
theorem ob_8 (x : Int32) : ∃ n : Nat, n < 256 ∧ ocT x 8 = nI n ∧ vp_nar .byte ((x >>> (nI 8 &&& 31)).toInt8.toInt32) = vp_nar .byte (nI n) :=
  ⟨x.toBitVec.toNat / 256 % 256, Nat.mod_lt _ (by decide), oc_eq x 8 8 256 (by decide) (by decide), by_eq x (nI 8 &&& 31) 8 _ (256 : Int) (by decide) (by decide) (sh_8 x) (Nat.mod_lt _ (by decide))⟩
theorem sh_0 (x : Int32) : (x.toInt / (1 : Int)) % 256 = ((x.toBitVec.toNat / 1 % 256 : Nat) : Int) % 256 := by
  have h := x_int x
  have hb := x.toBitVec.isLt
  generalize x.toBitVec.toNat = a at h hb ⊢
  split at h <;> omega
theorem ob_0 (x : Int32) : ∃ n : Nat, n < 256 ∧ ocT x 0 = nI n ∧ vp_nar .byte ((x >>> (nI 0 &&& 31)).toInt8.toInt32) = vp_nar .byte (nI n) :=
  ⟨x.toBitVec.toNat / 1 % 256, Nat.mod_lt _ (by decide), oc_eq x 0 0 1 (by decide) (by decide), by_eq x (nI 0 &&& 31) 0 _ (1 : Int) (by decide) (by decide) (sh_0 x) (Nat.mod_lt _ (by decide))⟩
theorem up4_lo {f : Nat → Int32} {z j : Nat} {a b c d : Int32} (h : j < z) : up4 f z a b c d j = f j := by
  unfold up4 upd
  rw [if_neg (by omega), if_neg (by omega), if_neg (by omega), if_neg (by omega)]
theorem up4_0 {f : Nat → Int32} {z : Nat} {a b c d : Int32} : up4 f z a b c d z = a := by
  unfold up4 upd
  rw [if_neg (by omega), if_neg (by omega), if_neg (by omega), if_pos rfl]
theorem up4_1 {f : Nat → Int32} {z : Nat} {a b c d : Int32} : up4 f z a b c d (z + 1) = b := by
  unfold up4 upd
  rw [if_neg (by omega), if_neg (by omega), if_pos rfl]
theorem up4_2 {f : Nat → Int32} {z : Nat} {a b c d : Int32} : up4 f z a b c d (z + 2) = c := by
  unfold up4 upd
  rw [if_neg (by omega), if_pos rfl]
theorem up4_3 {f : Nat → Int32} {z : Nat} {a b c d : Int32} : up4 f z a b c d (z + 3) = d := by
  unfold up4 upd
  rw [if_pos rfl]
theorem cl_all : ∀ n, n < 256 → clg FSG (nI n) = clg FSR (vp_nar .byte (nI n)) := by decide +kernel
theorem REL.cl {f g : Nat → Int32} {z : Nat} (h : REL f g z) : ∀ j, j < z → clf f j = clr g j := fun j hj => by
  obtain ⟨n, h1, h2, h3⟩ := h j hj
  show clg FSG (f j) = clg FSR (g j)
  rw [h2, h3]
  exact cl_all n h1
