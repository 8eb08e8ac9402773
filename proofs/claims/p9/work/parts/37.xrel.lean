def FSR (c : Int32) : Bool := decide (((97 ≤ c ∧ c ≤ 122) ∨ (65 ≤ c ∧ c ≤ 90)) ∨ (48 ≤ c ∧ c ≤ 57) ∨ c = 45)
theorem fsr_a {c : Int32} (h : (97 ≤ c ∧ c ≤ 122) ∨ (65 ≤ c ∧ c ≤ 90)) : FSR c = true := decide_eq_true (Or.inl h)
theorem fsr_b {c : Int32} (h : 48 ≤ c ∧ c ≤ 57) : FSR c = true := decide_eq_true (Or.inr (Or.inl h))
theorem fsr_c {c : Int32} (h : c = 45) : FSR c = true := decide_eq_true (Or.inr (Or.inr h))
theorem fsr_n {c : Int32} (h1 : ¬ ((97 ≤ c ∧ c ≤ 122) ∨ (65 ≤ c ∧ c ≤ 90))) (h2 : ¬ (48 ≤ c ∧ c ≤ 57)) (h3 : ¬ c = 45) : ¬ FSR c = true := fun q => (of_decide_eq_true q).elim h1 (fun q => q.elim h2 h3)
theorem fsrN : FSR 10 = false ∧ FSR 32 = false ∧ FSR 9 = false ∧ FSR 58 = false := by decide +kernel
def clr (g : Nat → Int32) : Nat → Nat := fun j => clg FSR (g j)
theorem mr_end {T : Nat → Nat} {z n a b : Nat} {g : Nat → Nat → Nat} {X : MRA} (h : z ≤ a) (h9 : z ≤ b) (q : MR T z n g a X) : MR T z n g b X := by
  obtain ⟨k, hk⟩ := q
  cases k with
  | zero =>
    have h9 : (none : Option MRA) = some X := hk
    cases h9
  | succ k =>
    rw [mrw_s, if_pos h] at hk
    exact ⟨0 + 1, by rw [mrw_s, if_pos h9]; exact hk⟩
theorem mr_min {T : Nat → Nat} {z n e k : Nat} {g : Nat → Nat → Nat} {X : MRA} (he : e ≤ z) (hk : k = min z (e + 1)) (q : MR T z n g k X) : MR T z n g (e + 1) X := by
  rcases Nat.lt_or_ge e z with w | w
  · rw [show e + 1 = k by omega]
    exact q
  · exact mr_end (by omega) (by omega) q
theorem fdt_hit (T : Nat → Nat) (t : Nat) : ∀ d i : Nat, fdt T t d i < i + d → T (fdt T t d i) = t := by
  intro d
  induction d with
  | zero => intro i h; exact absurd h (Nat.lt_irrefl _)
  | succ d ih =>
    intro i h
    rw [fdt_s] at h ⊢
    by_cases q : T i = t
    · rw [if_pos q]
      exact q
    · rw [if_neg q] at h ⊢
      exact ih (i + 1) (by omega)
theorem mr_badr {T : Nat → Nat} {z n a e k w : Nat} {g : Nat → Nat → Nat} (h : ¬ z ≤ a) (h0 : ¬ T a = 0) (h1 : ¬ T a = 1) (he : FSF T 0 a z e) (hw : w = min z (e + 1)) (hs : ∀ i, a ≤ i → i < k → T i = 3) (hns : k = w ∨ ¬ T k = 3) (hak : a ≤ k) (hb : ¬ (1 ≤ k - a ∧ k - a ≤ 20) ∨ k = w ∨ ¬ T k = 2 ∨ ¬ n < 20) : MR T z n g a none := by
  refine mr_bad h h0 h1 he (fun q => ?_)
  obtain ⟨q1, q2⟩ := q
  unfold FLN at q2
  rw [Bool.and_eq_true] at q2
  obtain ⟨a1, a2, a3⟩ := of_decide_eq_true q2.1
  have hf := fsw_n T _ a q2.2
  have ht2 := fdt_hit T 2 (e - a) a (by omega)
  have hez := he.2.1
  generalize fdt T 2 (e - a) a = K at a1 a2 a3 hf ht2
  have hkK : k = K := by
    rcases Nat.lt_trichotomy k K with c | c | c
    · rcases hns with d | d
      · omega
      · exact absurd (hf k hak (by omega)) d
    · exact c
    · have d := hs K (by omega) c
      omega
  rcases hb with c | c | c | c
  · omega
  · omega
  · exact c (by rw [hkK]; exact ht2)
  · exact c q1
theorem mr_fldr {T : Nat → Nat} {z n a e k w : Nat} {g : Nat → Nat → Nat} {X : MRA} (h : ¬ z ≤ a) (h0 : ¬ T a = 0) (h1 : ¬ T a = 1) (he : FSF T 0 a z e) (hw : w = min z (e + 1)) (hs : ∀ i, a ≤ i → i < k → T i = 3) (ha1 : a + 1 ≤ k) (ha2 : k ≤ a + 20) (hkw : k < w) (h2 : T k = 2) (hn : n < 20) (hX : MR T z (n + 1) (gpt g n a k e) w X) : MR T z n g a X := by
  have hez := he.2.1
  have hke : k ≠ e := fun q => by
    rcases he.2.2.2 with d | d
    · omega
    · rw [← q, h2] at d
      exact absurd d (by decide)
  exact mr_fld h h0 h1 he ⟨by omega, by omega, fun j q1 q2 => by rw [hs j q1 q2]; decide, Or.inr h2⟩ hke ⟨ha1, ha2, hs⟩ hn (mr_min hez hw hX)
theorem msg_f0 {T : Nat → Nat} {z n b : Nat} {g : Nat → Nat → Nat} (hn : n = 0) (q : MR T z 0 gz 0 (finm n g b)) : MSG T z (-1) := by
  rw [finm_0 hn] at q
  exact Or.inr ⟨rfl, q⟩
theorem msg_f1 {T : Nat → Nat} {z n b : Nat} {g : Nat → Nat → Nat} (hn : ¬ n = 0) (q : MR T z 0 gz 0 (finm n g b)) : MSG T z (nI n) := by
  rw [finm_p hn] at q
  exact Or.inl ⟨n, g, b, rfl, q⟩
theorem msg_no {T : Nat → Nat} {z : Nat} (q : MR T z 0 gz 0 none) : MSG T z (-1) := Or.inr ⟨rfl, q⟩
def FLG (f0 f1 f2 : Nat → Int32) (n w z : Nat) (g : Nat → Nat → Nat) : Prop := (∀ j, j < n → f0 j = nI (g 0 j) ∧ f1 j = nI (g 1 j) ∧ f2 j = nI (min z (g 2 j + 1))) ∧ (∀ j, j < n → g 0 j < g 1 j ∧ g 1 j < min z (g 2 j + 1) ∧ min z (g 2 j + 1) ≤ w) ∧ (∀ j, j + 1 < n → min z (g 2 j + 1) ≤ g 0 (j + 1))
theorem FLG.nil {f0 f1 f2 : Nat → Int32} {w z : Nat} {g : Nat → Nat → Nat} : FLG f0 f1 f2 0 w z g := ⟨fun _ h => absurd h (Nat.not_lt_zero _), fun _ h => absurd h (Nat.not_lt_zero _), fun _ h => absurd h (Nat.not_lt_zero _)⟩
theorem FLG.mono {f0 f1 f2 : Nat → Int32} {n w v z : Nat} {g : Nat → Nat → Nat} (h : FLG f0 f1 f2 n w z g) (hw : w ≤ v) : FLG f0 f1 f2 n v z g := by
  obtain ⟨h1, h2, h3⟩ := h
  exact ⟨h1, fun j hj => ⟨(h2 j hj).1, (h2 j hj).2.1, Nat.le_trans (h2 j hj).2.2 hw⟩, h3⟩
theorem FLG.add {f0 f1 f2 : Nat → Int32} {n w k v e z : Nat} {g : Nat → Nat → Nat} (h : FLG f0 f1 f2 n w z g) (h1 : w < k) (h2 : k < v) (hv : v = min z (e + 1)) : FLG (upd f0 n (nI w)) (upd f1 n (nI k)) (upd f2 n (nI v)) (n + 1) v z (gpt g n w k e) := by
  obtain ⟨a1, a2, a3⟩ := h
  refine ⟨?_, ?_, ?_⟩
  · intro j hj
    by_cases c : j = n
    · subst c
      rw [gpt_0, gpt_1, gpt_2, updc_at, updc_at, updc_at, ← hv]
      exact ⟨rfl, rfl, rfl⟩
    · rw [gpt_ne c, gpt_ne c, gpt_ne c, updc_ne c, updc_ne c, updc_ne c]
      exact a1 j (by omega)
  · intro j hj
    by_cases c : j = n
    · subst c
      rw [gpt_0, gpt_1, gpt_2, ← hv]
      exact ⟨h1, h2, Nat.le_refl _⟩
    · rw [gpt_ne c, gpt_ne c, gpt_ne c]
      have b := a2 j (by omega)
      exact ⟨b.1, b.2.1, by omega⟩
  · intro j hj
    have c : j ≠ n := by omega
    rw [gpt_ne c]
    by_cases d : j + 1 = n
    · have b := a2 j (by omega)
      rw [d, gpt_0]
      exact b.2.2
    · rw [gpt_ne d]
      exact a3 j (by omega)
theorem FLG.con {f0 f1 f2 : Nat → Int32} {n w v e z : Nat} {g : Nat → Nat → Nat} (h : FLG f0 f1 f2 n w z g) (hn : 0 < n) (hw : w ≤ v) (hv : v = min z (e + 1)) : FLG f0 f1 (upd f2 (n - 1) (nI v)) n v z (gpt g (n - 1) (g 0 (n - 1)) (g 1 (n - 1)) e) := by
  obtain ⟨a1, a2, a3⟩ := h
  refine ⟨?_, ?_, ?_⟩
  · intro j hj
    have b := a1 j hj
    by_cases c : j = n - 1
    · rw [c] at b ⊢
      rw [gpt_0, gpt_1, gpt_2, updc_at, ← hv]
      exact ⟨b.1, b.2.1, rfl⟩
    · rw [gpt_ne c, gpt_ne c, gpt_ne c, updc_ne c]
      exact b
  · intro j hj
    have b := a2 j hj
    by_cases c : j = n - 1
    · rw [c] at b ⊢
      rw [gpt_0, gpt_1, gpt_2, ← hv]
      exact ⟨b.1, by omega, Nat.le_refl _⟩
    · rw [gpt_ne c, gpt_ne c, gpt_ne c]
      exact ⟨b.1, b.2.1, Nat.le_trans b.2.2 hw⟩
  · intro j hj
    have b := a3 j hj
    have c : j ≠ n - 1 := by omega
    rw [gpt_ne c]
    by_cases d : j + 1 = n - 1
    · rw [d] at b ⊢
      rw [gpt_0]
      exact b
    · rw [gpt_ne d]
      exact b
def grz (z : Nat) (g : Nat → Nat → Nat) : Nat → Nat → Nat := fun k j => if k = 2 then min z (g 2 j + 1) else g k j
theorem FLG.out {f0 f1 f2 : Nat → Int32} {n w z : Nat} {g : Nat → Nat → Nat} (h : FLG f0 f1 f2 n w z g) : (∀ j, j < n → f0 j = nI (grz z g 0 j) ∧ f1 j = nI (grz z g 1 j) ∧ f2 j = nI (grz z g 2 j)) ∧ (∀ j, j < n → grz z g 0 j < grz z g 1 j ∧ grz z g 1 j < grz z g 2 j ∧ grz z g 2 j ≤ w) ∧ (∀ j, j + 1 < n → grz z g 2 j ≤ grz z g 0 (j + 1)) := by
  obtain ⟨h1, h2, h3⟩ := h
  have e0 : ∀ j, grz z g 0 j = g 0 j := fun _ => if_neg (by decide)
  have e1 : ∀ j, grz z g 1 j = g 1 j := fun _ => if_neg (by decide)
  have e2 : ∀ j, grz z g 2 j = min z (g 2 j + 1) := fun _ => if_pos rfl
  refine ⟨fun j hj => ?_, fun j hj => ?_, fun j hj => ?_⟩
  · rw [e0, e1, e2]
    exact h1 j hj
  · rw [e0, e1, e2]
    exact h2 j hj
  · rw [e0, e2]
    exact h3 j hj
theorem cpy_ml {f fr : Nat → Int32} {k : Nat} (hk : k ≤ 20000) : ∀ j, j < k → va_cpy f fr (0 : Int32).toNatClampNeg (0 : Int32).toNatClampNeg (nI k).toNatClampNeg j = f j := by
  intro j hj
  rw [nI_clamp (by omega), show (0 : Int32).toNatClampNeg = 0 from by decide]
  show (if 0 ≤ j ∧ j < 0 + k then f (0 + (j - 0)) else fr j) = _
  rw [if_pos ⟨Nat.zero_le _, by omega⟩, Nat.sub_zero, Nat.zero_add]
theorem msx_f0 {T : Nat → Nat} {z n b : Nat} {g : Nat → Nat → Nat} (hn : n = 0) (q : MR T z 0 gz 0 (finm n g b)) : MSX T z (-1) none := by
  rw [finm_0 hn] at q
  exact ⟨q, Or.inl ⟨rfl, rfl⟩⟩
theorem msx_f1 {T : Nat → Nat} {z n b : Nat} {g : Nat → Nat → Nat} (hn : ¬ n = 0) (h20 : n ≤ 20) (q : MR T z 0 gz 0 (finm n g b)) : MSX T z (nI n) (some (n, g, b)) := by
  rw [finm_p hn] at q
  exact ⟨q, Or.inr ⟨(n, g, b), rfl, rfl, Nat.pos_of_ne_zero hn, h20⟩⟩
theorem msx_no {T : Nat → Nat} {z : Nat} (q : MR T z 0 gz 0 none) : MSX T z (-1) none := ⟨q, Or.inl ⟨rfl, rfl⟩⟩
def alP (f : Nat → Int32) (a b : Nat) (C : Nat → Int32) (k : Nat) : Prop := b = a + k ∧ ∀ i, i < k → smv (f (a + i)) = chv (C i)
def REL (f g : Nat → Int32) (z : Nat) : Prop := ∀ j, j < z → ∃ n : Nat, n < 256 ∧ f j = nI n ∧ g j = vp_nar .byte (nI n)
theorem oct_all : ∀ n, n < 256 → OKC (nI n) = OKC (vp_nar .byte (nI n)) ∧ (nI n = 46 ↔ vp_nar .byte (nI n) = 46) ∧ (nI n = 32 ↔ vp_nar .byte (nI n) = 32) ∧ (nI n = 64 ↔ vp_nar .byte (nI n) = 64) ∧ LOC (nI n) = LOC (vp_nar .byte (nI n)) := by decide +kernel
theorem REL.ok {f g : Nat → Int32} {z j : Nat} (h : REL f g z) (hj : j < z) : OKC (f j) = OKC (g j) ∧ (f j = 46 ↔ g j = 46) ∧ (f j = 32 ↔ g j = 32) ∧ (f j = 64 ↔ g j = 64) ∧ LOC (f j) = LOC (g j) := by
  obtain ⟨n, h1, h2, h3⟩ := h j hj
  rw [h2, h3]
  exact oct_all n h1
theorem REL.zero {f g : Nat → Int32} : REL f g 0 := fun j h => absurd h (Nat.not_lt_zero _)
theorem REL.le {f g : Nat → Int32} {z y : Nat} (h : REL f g z) (hy : y ≤ z) : REL f g y := fun j hj => h j (Nat.lt_of_lt_of_le hj hy)
theorem nmw_rel {f g : Nat → Int32} {z : Nat} (h : REL f g z) : ∀ k i p : Nat, i + k ≤ z → nmw f k i p = nmw g k i p := by
  intro k
  induction k with
  | zero => intro i p _; rfl
  | succ k ih =>
    intro i p hi
    obtain ⟨h1, h2, -⟩ := h.ok (j := i) (by omega)
    unfold nmw
    rw [h1, ih (i + 1) 0 (by omega), ih (i + 1) (p + 1) (by omega)]
    by_cases q : f i = 46
    · rw [if_pos q, if_pos (h2.mp q)]
    · rw [if_neg q, if_neg (fun w => q (h2.mpr w))]
theorem NM_rel {f g : Nat → Int32} {z a b : Nat} (h : REL f g z) (hb : b ≤ z) : NM f a b = NM g a b := by
  unfold NM
  by_cases q : a ≤ b
  · rw [nmw_rel h (b - a) a 0 (by omega)]
  · rw [decide_eq_false (show ¬ (a + 1 ≤ b ∧ b ≤ a + 60) by omega), Bool.false_and, Bool.false_and]
theorem FST_rel {f g : Nat → Int32} {z k : Nat} (h : REL f g z) : FST f 32 z k ↔ FST g 32 z k := by
  constructor
  · rintro ⟨h1, h2, h3⟩
    refine ⟨h1, fun j hj => fun w => h2 j hj ((h.ok (by omega)).2.2.1.mpr w), ?_⟩
    rcases h3 with h3 | h3
    · exact Or.inl h3
    · rcases Nat.lt_or_ge k z with q | q
      · exact Or.inr ((h.ok q).2.2.1.mp h3)
      · exact Or.inl (by omega)
  · rintro ⟨h1, h2, h3⟩
    refine ⟨h1, fun j hj => fun w => h2 j hj ((h.ok (by omega)).2.2.1.mp w), ?_⟩
    rcases h3 with h3 | h3
    · exact Or.inl h3
    · rcases Nat.lt_or_ge k z with q | q
      · exact Or.inr ((h.ok q).2.2.1.mpr h3)
      · exact Or.inl (by omega)
theorem ISV_rel {x : Int32} {f g : Nat → Int32} {z k : Nat} (h : REL f g z) : ISV x f z k ↔ ISV x g z k := by
  unfold ISV
  rw [NM_rel h (Nat.le_refl z)]
theorem VAL_rel {x : Int32} {f g : Nat → Int32} {z : Nat} (h : REL f g z) : VAL x f z ↔ VAL x g z := by
  unfold VAL
  constructor
  · rintro ⟨h1, h2, k, hk, h3, h4⟩
    refine ⟨h1, h2, k, (FST_rel h).mp hk, fun q => ?_, fun q => ?_⟩
    · rw [← NM_rel h hk.1]
      exact ⟨(h3 q).1, (ISV_rel h).mp (h3 q).2⟩
    · rw [← NM_rel h (Nat.le_refl z)]
      exact h4 q
  · rintro ⟨h1, h2, k, hk, h3, h4⟩
    refine ⟨h1, h2, k, (FST_rel h).mpr hk, fun q => ?_, fun q => ?_⟩
    · rw [NM_rel h hk.1]
      exact ⟨(h3 q).1, (ISV_rel h).mpr (h3 q).2⟩
    · rw [NM_rel h (Nat.le_refl z)]
      exact h4 q
theorem FST64_rel {f g : Nat → Int32} {z k : Nat} (h : REL f g z) : FST f 64 z k ↔ FST g 64 z k := by
  constructor
  · rintro ⟨h1, h2, h3⟩
    refine ⟨h1, fun j hj => fun w => h2 j hj ((h.ok (by omega)).2.2.2.1.mpr w), ?_⟩
    rcases h3 with h3 | h3
    · exact Or.inl h3
    · rcases Nat.lt_or_ge k z with q | q
      · exact Or.inr ((h.ok q).2.2.2.1.mp h3)
      · exact Or.inl (by omega)
  · rintro ⟨h1, h2, h3⟩
    refine ⟨h1, fun j hj => fun w => h2 j hj ((h.ok (by omega)).2.2.2.1.mp w), ?_⟩
    rcases h3 with h3 | h3
    · exact Or.inl h3
    · rcases Nat.lt_or_ge k z with q | q
      · exact Or.inr ((h.ok q).2.2.2.1.mpr h3)
      · exact Or.inl (by omega)
theorem SND_rel {f g : Nat → Int32} {z : Nat} (h : REL f g z) : SND f z ↔ SND g z := by
  constructor
  · rintro ⟨k, hk, ⟨a1, a2, a3⟩, hN⟩
    refine ⟨k, (FST64_rel h).mp hk, ⟨a1, a2, fun j hj => ?_⟩, ?_⟩
    · rw [← (h.ok (Nat.lt_of_lt_of_le hj hk.1)).2.2.2.2]
      exact a3 j hj
    · rw [← NM_rel h (Nat.le_refl z)]
      exact hN
  · rintro ⟨k, hk, ⟨a1, a2, a3⟩, hN⟩
    refine ⟨k, (FST64_rel h).mpr hk, ⟨a1, a2, fun j hj => ?_⟩, ?_⟩
    · rw [(h.ok (Nat.lt_of_lt_of_le hj hk.1)).2.2.2.2]
      exact a3 j hj
    · rw [NM_rel h (Nat.le_refl z)]
      exact hN
theorem snd_same {f g : Nat → Int32} {z : Nat} {r q : Int32} (h : REL f g z) (h1 : (r = 0 ∧ SND f z) ∨ (r = (-1) ∧ ¬ SND f z)) (h2 : (q = 0 ∧ SND g z) ∨ (q = (-1) ∧ ¬ SND g z)) : r = q := by
  rcases h1 with ⟨a, b⟩ | ⟨a, b⟩ <;> rcases h2 with ⟨c, d⟩ | ⟨c, d⟩
  · rw [a, c]
  · exact absurd ((SND_rel h).mp b) d
  · exact absurd ((SND_rel h).mpr d) b
  · rw [a, c]
theorem oc_eq (x s : Int32) (k D : Nat) (hD : 2 ^ k = D) (hs : ((s.toUInt32 &&& Int32.toUInt32 31).toBitVec % 32).toNat = k) : ocT x s = nI (x.toBitVec.toNat / D % 256) := by
  have a1 := pk_ushr x s k hs
  rw [hD] at a1
  have a2 := pk_and (x.toUInt32 >>> (s.toUInt32 &&& Int32.toUInt32 31)).toInt32 (m := 255) 8 (by decide)
  rw [a1] at a2
  exact a2
theorem bm_eq {a b : Int} (h : a % 256 = b % 256) : a.bmod 256 = b.bmod 256 := by
  unfold Int.bmod
  rw [show a % ((256 : Nat) : Int) = b % ((256 : Nat) : Int) from h]
theorem x_int (x : Int32) : x.toInt = if 2 * x.toBitVec.toNat < 4294967296 then (x.toBitVec.toNat : Int) else (x.toBitVec.toNat : Int) - 4294967296 := BitVec.toInt_eq_toNat_cond x.toBitVec
theorem nar_i (y : Int32) : (vp_nar .byte y).toInt = y.toInt.bmod 256 := (Int8.toInt_toInt32 y.toInt8).trans (Int32.toInt_toInt8 y)
theorem by_eq (x t : Int32) (k n : Nat) (d : Int) (hd : ((2 ^ k : Nat) : Int) = d) (hk : (t.toBitVec.smod 32).toNat = k) (hn : (x.toInt / d) % 256 = ((n : Nat) : Int) % 256) (hn2 : n < 256) : vp_nar .byte ((x >>> t).toInt8.toInt32) = vp_nar .byte (nI n) := by
  have h1 : ((x >>> t).toInt8.toInt32).toInt = (x.toInt / d).bmod 256 := by
    have a := (Int8.toInt_toInt32 (x >>> t).toInt8).trans (Int32.toInt_toInt8 (x >>> t))
    rw [pk_shr x t k hk, Int.shiftRight_eq_div_pow, hd] at a
    exact a
  apply Int32.toInt_inj.mp
  rw [nar_i, nar_i, h1, nI_toInt (by omega), Int.bmod_bmod]
  exact bm_eq hn
theorem sh_24 (x : Int32) : (x.toInt / (16777216 : Int)) % 256 = ((x.toBitVec.toNat / 16777216 % 256 : Nat) : Int) % 256 := by
  have h := x_int x
  have hb := x.toBitVec.isLt
  generalize x.toBitVec.toNat = a at h hb ⊢
  split at h <;> omega
theorem ob_24 (x : Int32) : ∃ n : Nat, n < 256 ∧ ocT x 24 = nI n ∧ vp_nar .byte ((x >>> (nI 24 &&& 31)).toInt8.toInt32) = vp_nar .byte (nI n) :=
  ⟨x.toBitVec.toNat / 16777216 % 256, Nat.mod_lt _ (by decide), oc_eq x 24 24 16777216 (by decide) (by decide), by_eq x (nI 24 &&& 31) 24 _ (16777216 : Int) (by decide) (by decide) (sh_24 x) (Nat.mod_lt _ (by decide))⟩
theorem sh_16 (x : Int32) : (x.toInt / (65536 : Int)) % 256 = ((x.toBitVec.toNat / 65536 % 256 : Nat) : Int) % 256 := by
  have h := x_int x
  have hb := x.toBitVec.isLt
  generalize x.toBitVec.toNat = a at h hb ⊢
  split at h <;> omega
theorem ob_16 (x : Int32) : ∃ n : Nat, n < 256 ∧ ocT x 16 = nI n ∧ vp_nar .byte ((x >>> (nI 16 &&& 31)).toInt8.toInt32) = vp_nar .byte (nI n) :=
  ⟨x.toBitVec.toNat / 65536 % 256, Nat.mod_lt _ (by decide), oc_eq x 16 16 65536 (by decide) (by decide), by_eq x (nI 16 &&& 31) 16 _ (65536 : Int) (by decide) (by decide) (sh_16 x) (Nat.mod_lt _ (by decide))⟩
theorem sh_8 (x : Int32) : (x.toInt / (256 : Int)) % 256 = ((x.toBitVec.toNat / 256 % 256 : Nat) : Int) % 256 := by
  have h := x_int x
  have hb := x.toBitVec.isLt
  generalize x.toBitVec.toNat = a at h hb ⊢
  split at h <;> omega
theorem ob_8 (x : Int32) : ∃ n : Nat, n < 256 ∧ ocT x 8 = nI n ∧ vp_nar .byte ((x >>> (nI 8 &&& 31)).toInt8.toInt32) = vp_nar .byte (nI n) :=
  ⟨x.toBitVec.toNat / 256 % 256, Nat.mod_lt _ (by decide), oc_eq x 8 8 256 (by decide) (by decide), by_eq x (nI 8 &&& 31) 8 _ (256 : Int) (by decide) (by decide) (sh_8 x) (Nat.mod_lt _ (by decide))⟩
theorem sh_0 (x : Int32) : (x.toInt / (1 : Int)) % 256 = ((x.toBitVec.toNat / 1 % 256 : Nat) : Int) % 256 := by
  have h := x_int x
  have hb := x.toBitVec.isLt
  generalize x.toBitVec.toNat = a at h hb ⊢
  split at h <;> omega
theorem ob_0 (x : Int32) : ∃ n : Nat, n < 256 ∧ ocT x 0 = nI n ∧ vp_nar .byte ((x >>> (nI 0 &&& 31)).toInt8.toInt32) = vp_nar .byte (nI n) :=
  ⟨x.toBitVec.toNat / 1 % 256, Nat.mod_lt _ (by decide), oc_eq x 0 0 1 (by decide) (by decide), by_eq x (nI 0 &&& 31) 0 _ (1 : Int) (by decide) (by decide) (sh_0 x) (Nat.mod_lt _ (by decide))⟩
theorem up4_lo {f : Nat → Int32} {z j : Nat} {a b c d : Int32} (h : j < z) : up4 f z a b c d j = f j := by
  unfold up4 upd
  rw [if_neg (by omega), if_neg (by omega), if_neg (by omega), if_neg (by omega)]
theorem up4_0 {f : Nat → Int32} {z : Nat} {a b c d : Int32} : up4 f z a b c d z = a := by
  unfold up4 upd
  rw [if_neg (by omega), if_neg (by omega), if_neg (by omega), if_pos rfl]
theorem up4_1 {f : Nat → Int32} {z : Nat} {a b c d : Int32} : up4 f z a b c d (z + 1) = b := by
  unfold up4 upd
  rw [if_neg (by omega), if_neg (by omega), if_pos rfl]
theorem up4_2 {f : Nat → Int32} {z : Nat} {a b c d : Int32} : up4 f z a b c d (z + 2) = c := by
  unfold up4 upd
  rw [if_neg (by omega), if_pos rfl]
theorem up4_3 {f : Nat → Int32} {z : Nat} {a b c d : Int32} : up4 f z a b c d (z + 3) = d := by
  unfold up4 upd
  rw [if_pos rfl]
theorem cl_all : ∀ n, n < 256 → clg FSG (nI n) = clg FSR (vp_nar .byte (nI n)) := by decide +kernel
theorem REL.cl {f g : Nat → Int32} {z : Nat} (h : REL f g z) : ∀ j, j < z → clf f j = clr g j := fun j hj => by
  obtain ⟨n, h1, h2, h3⟩ := h j hj
  show clg FSG (f j) = clg FSR (g j)
  rw [h2, h3]
  exact cl_all n h1
def LTC (cs : Nat → ClassId) (ty : TyM) (L : List Nat) (F : Nat → va_E) (xq ρ ta ou di ck sl po hs : Nat) (n : Nat) (bb : Int32) (zm : Nat) (fL sA sB sC : Nat → Int32) : Prop := ∃ (le sp μ ν x y0 y1 y2 rx x9 w0 w1 w2 rx9 : Nat) (o : Int32), ((μ = ρ + 20 ∧ ν = ρ + 30) ∨ (μ = ρ + 30 ∧ ν = ρ + 20)) ∧ F xq = .inr (11, [.ref ta, .ref ou, .ref di, .ref ck, .ref sl, .ref po, .ref hs, .ref le, .ref sp]) ∧ le ∈ L ∧ ty le = (4, μ, [x, y0, y1, y2]) ∧ sp ∈ L ∧ ty sp = (4, ν, [x9, w0, w1, w2]) ∧ ty x = (0, μ + 1, [rx, 3000]) ∧ ty x9 = (0, ν + 1, [rx9, 3000]) ∧ n ≤ 20 ∧ F le = .inr (4, [.ref x, .ref y0, .ref y1, .ref y2, .int (nI n), .int bb]) ∧ F x = .inr (0, [.ref rx, .int (nI zm), .int o]) ∧ F rx = .inl (cs 16, 3000, .inl fL) ∧ F y0 = .inl (cs 16, 20, .inl sA) ∧ F y1 = .inl (cs 16, 20, .inl sB) ∧ F y2 = .inl (cs 16, 20, .inl sC)
theorem fr_k {ty : TyM} {S : List Nat} {F G : Nat → va_E} {a k q : Nat} {im : List Nat} (hR : FR ty S F G) (e : ty a = (k, q, im)) (h : q ∉ S) : G a = F a := hR a (by rw [e]; exact h)
theorem LTC.fr {cs : Nat → ClassId} {ty : TyM} {L S im : List Nat} {F G : Nat → va_E} {xq ρ ta ou di ck sl po hs : Nat} {n : Nat} {bb : Int32} {zm : Nat} {fL sA sB sC : Nat → Int32} (h : LTC cs ty L F xq ρ ta ou di ck sl po hs n bb zm fL sA sB sC) (hW : WT ty L) (hT : ty xq = (11, ρ, im)) (hR : FR ty S F G) (hS : ∀ q ∈ S, ρ < q ∧ q < ρ + 20) : LTC cs ty L G xq ρ ta ou di ck sl po hs n bb zm fL sA sB sC := by
  obtain ⟨le, sp, μ, ν, x, y0, y1, y2, rx, x9, w0, w1, w2, rx9, o, hm, l1, l2, l3, l4, l5, l6, l7, l8, l9, l10, l11, l12, l13, l14⟩ := h
  obtain ⟨m1, m2, m3, m4, -, t1, t2, t3⟩ := hW.msg l2 l3
  obtain ⟨m5, t4, -⟩ := hW.bytes m1 l6
  have k0 : ρ ∉ S := fun w => by
    have h9 := hS _ w
    omega
  have k1 : ∀ q : Nat, ρ + 20 ≤ q → q ∉ S := fun q hq w => by
    have h9 := hS _ w
    omega
  exact ⟨le, sp, μ, ν, x, y0, y1, y2, rx, x9, w0, w1, w2, rx9, o, hm, (fr_k hR hT k0).trans l1, l2, l3, l4, l5, l6, l7, l8, (fr_k hR l3 (k1 _ (by omega))).trans l9, (fr_k hR l6 (k1 _ (by omega))).trans l10, (fr_k hR t4 (k1 _ (by omega))).trans l11, (fr_k hR t1 (k1 _ (by omega))).trans l12, (fr_k hR t2 (k1 _ (by omega))).trans l13, (fr_k hR t3 (k1 _ (by omega))).trans l14⟩
def MLC (f : Nat → Int32) (zt : Nat) (gh : MRA) (n : Nat) (bb : Int32) (zm : Nat) (fL sA sB sC : Nat → Int32) (n2 : Nat) (bb2 : Int32) (zm2 : Nat) (fL2 p0 p1 p2 : Nat → Int32) : Prop := (gh = none ∧ n2 = n ∧ bb2 = bb ∧ zm2 = zm ∧ fL2 = fL ∧ p0 = sA ∧ p1 = sB ∧ p2 = sC) ∨ ∃ q : Nat × (Nat → Nat → Nat) × Nat, gh = some q ∧ n2 = q.1 ∧ bb2 = nI q.2.2 ∧ zm2 = zt ∧ (∀ j, j < zt → fL2 j = f j) ∧ HLD p0 p1 p2 q.1 q.2.1
theorem LTC.msg {cs : Nat → ClassId} {ty : TyM} {L im : List Nat} {F F2 : Nat → va_E} {xq ρ ta ou di ck sl po hs zt : Nat} {f : Nat → Int32} {gh : MRA} {r : Int32} {n : Nat} {bb : Int32} {zm : Nat} {fL sA sB sC : Nat → Int32} {le sp μ ν x y0 y1 y2 rx x9 w0 w1 w2 rx9 : Nat} {o : Int32} (hX : MSX (clf f) zt r gh) (hW : WT ty L) (hT : ty xq = (11, ρ, im)) (hm : (μ = ρ + 20 ∧ ν = ρ + 30) ∨ (μ = ρ + 30 ∧ ν = ρ + 20)) (l2 : le ∈ L) (l3 : ty le = (4, μ, [x, y0, y1, y2])) (l4 : sp ∈ L) (l5 : ty sp = (4, ν, [x9, w0, w1, w2])) (l6 : ty x = (0, μ + 1, [rx, 3000])) (l7 : ty x9 = (0, ν + 1, [rx9, 3000])) (l8 : n ≤ 20) (l9 : F le = .inr (4, [.ref x, .ref y0, .ref y1, .ref y2, .int (nI n), .int bb])) (l10 : F x = .inr (0, [.ref rx, .int (nI zm), .int o])) (l11 : F rx = .inl (cs 16, 3000, .inl fL)) (l12 : F y0 = .inl (cs 16, 20, .inl sA)) (l13 : F y1 = .inl (cs 16, 20, .inl sB)) (l14 : F y2 = .inl (cs 16, 20, .inl sC)) (hR : FR ty [ρ, ρ + 1, ν, ν + 1, ν + 2, ν + 3] F F2) (hO : ((gh = none ∧ F2 xq = .inr (11, [.ref ta, .ref ou, .ref di, .ref ck, .ref sl, .ref po, .ref hs, .ref le, .ref sp])) ∨ ∃ (q : Nat × (Nat → Nat → Nat) × Nat) (p0 p1 p2 fc : Nat → Int32), gh = some q ∧ F2 xq = .inr (11, [.ref ta, .ref ou, .ref di, .ref ck, .ref sl, .ref po, .ref hs, .ref sp, .ref le]) ∧ F2 sp = .inr (4, [.ref x9, .ref w0, .ref w1, .ref w2, .int (nI q.1), .int (nI q.2.2)]) ∧ F2 x9 = .inr (0, [.ref rx9, .int (nI zt), .int 0]) ∧ F2 rx9 = .inl (cs 16, 3000, .inl fc) ∧ F2 w0 = .inl (cs 16, 20, .inl p0) ∧ F2 w1 = .inl (cs 16, 20, .inl p1) ∧ F2 w2 = .inl (cs 16, 20, .inl p2) ∧ (∀ j, j < zt → fc j = f j) ∧ HLD p0 p1 p2 q.1 q.2.1)) : ∃ (n2 : Nat) (bb2 : Int32) (zm2 : Nat) (fL2 p0 p1 p2 : Nat → Int32), LTC cs ty L F2 xq ρ ta ou di ck sl po hs n2 bb2 zm2 fL2 p0 p1 p2 ∧ MLC f zt gh n bb zm fL sA sB sC n2 bb2 zm2 fL2 p0 p1 p2 := by
  rcases hO with ⟨hg, h1⟩ | ⟨q, p0, p1, p2, fc, hg, h1, h2, h3, h4, h5, h6, h7, h8, h9⟩
  · obtain ⟨m1, m2, m3, m4, -, t1, t2, t3⟩ := hW.msg l2 l3
    obtain ⟨m5, t4, -⟩ := hW.bytes m1 l6
    have k1 : ∀ q : Nat, μ ≤ q → q < μ + 10 → q ∉ [ρ, ρ + 1, ν, ν + 1, ν + 2, ν + 3] := fun q q1 q2 w => by
      simp only [List.mem_cons, List.not_mem_nil, or_false] at w
      omega
    exact ⟨n, bb, zm, fL, sA, sB, sC, ⟨le, sp, μ, ν, x, y0, y1, y2, rx, x9, w0, w1, w2, rx9, o, hm, h1, l2, l3, l4, l5, l6, l7, l8, (fr_k hR l3 (k1 _ (by omega) (by omega))).trans l9, (fr_k hR l6 (k1 _ (by omega) (by omega))).trans l10, (fr_k hR t4 (k1 _ (by omega) (by omega))).trans l11, (fr_k hR t1 (k1 _ (by omega) (by omega))).trans l12, (fr_k hR t2 (k1 _ (by omega) (by omega))).trans l13, (fr_k hR t3 (k1 _ (by omega) (by omega))).trans l14⟩, Or.inl ⟨hg, rfl, rfl, rfl, rfl, rfl, rfl, rfl⟩⟩
  · have hn : q.1 ≤ 20 := by
      rcases hX.2 with ⟨e1, -⟩ | ⟨q9, e1, -, -, e2⟩
      · rw [hg] at e1
        cases e1
      · rw [hg] at e1
        have e3 := Option.some.inj e1
        rw [e3]
        exact e2
    exact ⟨q.1, nI q.2.2, zt, fc, p0, p1, p2, ⟨sp, le, ν, μ, x9, w0, w1, w2, rx9, x, y0, y1, y2, rx, 0, (by omega), h1, l4, l5, l2, l3, l7, l6, hn, h2, h3, h4, h5, h6, h7⟩, Or.inr ⟨q, hg, rfl, rfl, rfl, h8, h9⟩⟩
def LRL (n : Nat) (bb : Int32) (zm : Nat) (fL sA sB sC : Nat → Int32) (nf bd mm : Nat) (gm : Nat → Nat → Nat) (gl : Nat → Int32) : Prop := n = nf ∧ (n = 0 ∨ (zm = mm ∧ mm ≤ 1280 ∧ REL fL gl mm ∧ bb = nI bd ∧ ∀ j, j < n → sA j = nI (gm 0 j) ∧ sB j = nI (gm 1 j) ∧ gm 0 j < gm 1 j ∧ gm 1 j < gm 2 j ∧ gm 2 j ≤ mm ∧ ∃ e, sC j = nI e ∧ gm 2 j = min mm (e + 1)))
theorem LRL.start {bb : Int32} {zm bd mm : Nat} {fL sA sB sC gl : Nat → Int32} {gm : Nat → Nat → Nat} : LRL 0 bb zm fL sA sB sC 0 bd mm gm gl := ⟨rfl, Or.inl rfl⟩
theorem LRL.msg {n : Nat} {bb : Int32} {zm : Nat} {fL sA sB sC : Nat → Int32} {nf bd mm : Nat} {gm : Nat → Nat → Nat} {gl : Nat → Int32} {f gt : Nat → Int32} {zt n2 zm2 nf2 bd2 mm2 : Nat} {bb2 : Int32} {fL2 p0 p1 p2 : Nat → Int32} {gm2 : Nat → Nat → Nat} {gh : MRA} {gl2 : Nat → Int32} (h : LRL n bb zm fL sA sB sC nf bd mm gm gl) (hrel : REL f gt zt) (hC : MLC f zt gh n bb zm fL sA sB sC n2 bb2 zm2 fL2 p0 p1 p2) (hM : (gh = none ∧ gm2 = gm ∧ nf2 = nf ∧ bd2 = bd ∧ mm2 = mm ∧ gl2 = gl) ∨ ∃ q : Nat × (Nat → Nat → Nat) × Nat, gh = some q ∧ nf2 = q.1 ∧ bd2 = q.2.2 ∧ mm2 = zt ∧ (∀ j, j < zt → gl2 j = gt j) ∧ ∀ j, j < q.1 → gm2 0 j = q.2.1 0 j ∧ gm2 1 j = q.2.1 1 j ∧ gm2 2 j = min zt (q.2.1 2 j + 1)) (h80 : mm2 ≤ 1280) (hO : ∀ j, j < nf2 → gm2 0 j < gm2 1 j ∧ gm2 1 j < gm2 2 j ∧ gm2 2 j ≤ mm2) : LRL n2 bb2 zm2 fL2 p0 p1 p2 nf2 bd2 mm2 gm2 gl2 := by
  rcases hC with ⟨c0, c1, c2, c3, c4, c5, c6, c7⟩ | ⟨q, c0, c1, c2, c3, c4, c5⟩ <;> rcases hM with ⟨d0, d1, d2, d3, d4, d5⟩ | ⟨q9, d0, d1, d2, d3, d4, d5⟩
  · rw [c1, c2, c3, c4, c5, c6, c7, d1, d2, d3, d4, d5]
    exact h
  · rw [c0] at d0
    cases d0
  · rw [c0] at d0
    cases d0
  · rw [c0] at d0
    have e := Option.some.inj d0
    rw [← e] at d1 d2 d5
    refine ⟨c1.trans d1.symm, Or.inr ⟨c3.trans d3.symm, h80, fun j hj => ?_, by rw [c2, d2], fun j hj => ?_⟩⟩
    · rw [d3] at hj
      obtain ⟨k, k1, k2, k3⟩ := hrel j hj
      exact ⟨k, k1, (c4 j hj).trans k2, (d4 j hj).trans k3⟩
    · rw [c1] at hj
      obtain ⟨a1, a2, a3⟩ := c5 j hj
      obtain ⟨b1, b2, b3⟩ := d5 j hj
      obtain ⟨o1, o2, o3⟩ := hO j (by rw [d1]; exact hj)
      exact ⟨by rw [a1, b1], by rw [a2, b2], o1, o2, o3, q.2.1 2 j, a3, by rw [b3, d3]⟩
theorem sm_all : ∀ k, k < 256 → (vp_nar .byte (nI k) = nI k) ∨ (¬ smv (nI k) < 128 ∧ smv (vp_nar .byte (nI k)) < 0) := by decide +kernel
theorem sm_iff {fL gl : Nat → Int32} {z j : Nat} {c : Int32} (h : REL fL gl z) (hj : j < z) (h0 : ¬ c < 0) (h1 : c < 128) : smv (fL j) = c ↔ smv (gl j) = c := by
  obtain ⟨k, k1, k2, k3⟩ := h j hj
  rw [k2, k3]
  rcases sm_all k k1 with e | ⟨e1, e2⟩
  · rw [e]
  · constructor
    · intro w
      rw [w] at e1
      exact absurd h1 e1
    · intro w
      rw [w] at e2
      exact absurd e2 h0
theorem nmd_al {F : Nat → va_E} {x y0 y1 rx zm a b i k : Nat} {o : Int32} {c0 c1 c2 : ClassId} {m0 m1 m2 : Nat} {fL sA sB gl C : Nat → Int32} (hx : F x = .inr (0, [.ref rx, .int (nI zm), .int o])) (hr : F rx = .inl (c0, m0, .inl fL)) (h0 : F y0 = .inl (c1, m1, .inl sA)) (h1 : F y1 = .inl (c2, m2, .inl sB)) (e0 : sA i = nI a) (e1 : sB i = nI b) (hab : a < b) (hbz : b ≤ zm) (hz : zm ≤ 3000) (hR : REL fL gl zm) (hk : k ≤ 100) (hC : ∀ j, j < k → ¬ chv (C j) < 0 ∧ chv (C j) < 128) : nmd F x y0 y1 C k i ↔ alP gl a b C k := by
  have g1 : gA (F y1) i = nI b := by
    rw [h1]
    exact e1
  have g0 : gA (F y0) i = nI a := by
    rw [h0]
    exact e0
  have hat : ∀ j, a + j < b → atv F x (nI a + nI j) = fL (a + j) := fun j hj => by
    rw [nI_add, at_in (x := nI (a + j)) hx hr (nI_pos (by omega)) ((nI_ltI (by omega) (by omega)).mpr (by omega)), nI_clamp (by omega)]
  unfold nmd alP
  rw [g1, g0, pk_sub (by omega)]
  constructor
  · rintro ⟨q1, q2⟩
    have q3 : b - a = k := (nI_eq (by omega) (by omega)).mp q1
    refine ⟨by omega, fun j hj => ?_⟩
    have q4 := q2 j hj
    rw [hat j (by omega)] at q4
    exact (sm_iff hR (by omega) (hC j hj).1 (hC j hj).2).mp q4
  · rintro ⟨q1, q2⟩
    refine ⟨by rw [show b - a = k by omega], fun j hj => ?_⟩
    rw [hat j (by omega)]
    exact (sm_iff hR (by omega) (hC j hj).1 (hC j hj).2).mpr (q2 j hj)
theorem dk_c : ∀ j, j < 14 → ¬ chv ((cct [100, 107, 105, 109, 45, 115, 105, 103, 110, 97, 116, 117, 114, 101]) j) < 0 ∧ chv ((cct [100, 107, 105, 109, 45, 115, 105, 103, 110, 97, 116, 117, 114, 101]) j) < 128 := by decide +kernel
theorem sl_iff {F : Nat → va_E} {cs : Nat → ClassId} {x y0 y1 rx : Nat} {o : Int32} {n : Nat} {bb : Int32} {zm : Nat} {fL sA sB sC : Nat → Int32} {nf bd mm : Nat} {gm : Nat → Nat → Nat} {gl : Nat → Int32} (h : LRL n bb zm fL sA sB sC nf bd mm gm gl) (hx : F x = .inr (0, [.ref rx, .int (nI zm), .int o])) (hr : F rx = .inl (cs 16, 3000, .inl fL)) (h0 : F y0 = .inl (cs 16, 20, .inl sA)) (h1 : F y1 = .inl (cs 16, 20, .inl sB)) : ∀ j, j < n → (nmd F x y0 y1 (cct [100, 107, 105, 109, 45, 115, 105, 103, 110, 97, 116, 117, 114, 101]) 14 j ↔ alP gl (gm 0 j) (gm 1 j) (cct [100, 107, 105, 109, 45, 115, 105, 103, 110, 97, 116, 117, 114, 101]) 14) := by
  intro j hj
  rcases h.2 with q | ⟨q1, q2, q3, -, q4⟩
  · omega
  · obtain ⟨a1, a2, a3, a4, a5, -⟩ := q4 j hj
    exact nmd_al hx hr h0 h1 a1 a2 a3 (by omega) (by omega) (by rw [q1]; exact q3) (by decide) dk_c
theorem seal_same {n nf : Nat} {P Q : Nat → Prop} {r q : Int32} (hn : n = nf) (hi : ∀ j, j < n → (P j ↔ Q j)) (h1 : ∃ w : Nat, r = nI w ∧ CNT P n w) (h2 : ∃ w : Nat, q = nI w ∧ CNT Q nf w) : r = q := by
  obtain ⟨w1, e1, c1⟩ := h1
  obtain ⟨w2, e2, c2⟩ := h2
  subst hn
  rw [e1, e2, CNT.uniq n w1 w2 hi c1 c2]
theorem mom_gl {F2 : Nat → va_E} {ml zt : Nat} {gm gm2 : Nat → Nat → Nat} {nf bd mm n2 b2 m2 : Nat} {gl gt : Nat → Int32} {cs : Nat → ClassId} {gh : MRA} (h : ((gh = none ∧ gm2 = gm ∧ n2 = nf ∧ b2 = bd ∧ m2 = mm ∧ F2 ml = .inl (cs 17, 3000, .inl gl)) ∨ ∃ (q : Nat × (Nat → Nat → Nat) × Nat) (gl2 : Nat → Int32), gh = some q ∧ n2 = q.1 ∧ b2 = q.2.2 ∧ m2 = zt ∧ F2 ml = .inl (cs 17, 3000, .inl gl2) ∧ (∀ j, j < zt → gl2 j = gt j) ∧ ∀ j, j < q.1 → gm2 0 j = q.2.1 0 j ∧ gm2 1 j = q.2.1 1 j ∧ gm2 2 j = min zt (q.2.1 2 j + 1))) : ∃ gl2 : Nat → Int32, F2 ml = .inl (cs 17, 3000, .inl gl2) ∧ ((gh = none ∧ gm2 = gm ∧ n2 = nf ∧ b2 = bd ∧ m2 = mm ∧ gl2 = gl) ∨ ∃ q : Nat × (Nat → Nat → Nat) × Nat, gh = some q ∧ n2 = q.1 ∧ b2 = q.2.2 ∧ m2 = zt ∧ (∀ j, j < zt → gl2 j = gt j) ∧ ∀ j, j < q.1 → gm2 0 j = q.2.1 0 j ∧ gm2 1 j = q.2.1 1 j ∧ gm2 2 j = min zt (q.2.1 2 j + 1)) := by
  rcases h with ⟨a0, a1, a2, a3, a4, a5⟩ | ⟨q, g9, a0, a1, a2, a3, a4, a5, a6⟩
  · exact ⟨gl, a5, Or.inl ⟨a0, a1, a2, a3, a4, rfl⟩⟩
  · exact ⟨g9, a4, Or.inr ⟨q, a0, a1, a2, a3, a5, a6⟩⟩
theorem msx_same {T U : Nat → Nat} {z y : Nat} {r q : Int32} {X : MRA} (h1 : MSX T z r X) (h2 : MSX U y q X) : r = q := by
  rcases h1.2 with ⟨a1, a2⟩ | ⟨p, a1, a2, -⟩ <;> rcases h2.2 with ⟨b1, b2⟩ | ⟨p9, b1, b2, -⟩
  · rw [a2, b2]
  · rw [a1] at b1
    cases b1
  · rw [a1] at b1
    cases b1
  · rw [a1] at b1
    rw [a2, b2, Option.some.inj b1]
